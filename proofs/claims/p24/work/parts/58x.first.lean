section
/-! the first of two for whom something holds, by 100 times the one and the other one -/
def qFst (C : Int → Int → Prop) (n v : Int) : Prop := (v = -1 ∧ ∀ p q : Int, 0 ≤ p → p < n → 0 ≤ q → q < n → ¬ C p q) ∨ ((0 ≤ v ∧ v / 100 < n ∧ v % 100 < n) ∧ C (v / 100) (v % 100) ∧ ∀ p q : Int, 0 ≤ p → p < n → 0 ≤ q → q < n → 100 * p + q < v → ¬ C p q)
theorem qFst_un {C : Int → Int → Prop} {n v w : Int} (hn : n ≤ 32) (h : qFst C n v) (g : qFst C n w) : v = w := by
  rcases h with ⟨h1, h2⟩ | ⟨h1, h2, h3⟩
  · rcases g with ⟨g1, _⟩ | ⟨g1, g2, _⟩
    · rw [h1, g1]
    · exact absurd g2 (h2 _ _ (by omega) (by omega) (by omega) (by omega))
  · rcases g with ⟨g1, g2⟩ | ⟨g1, g2, g3⟩
    · exact absurd h2 (g2 _ _ (by omega) (by omega) (by omega) (by omega))
    · by_cases a : v < w
      · exact absurd h2 (g3 _ _ (by omega) (by omega) (by omega) (by omega) (by omega))
      · by_cases b : w < v
        · exact absurd g2 (h3 _ _ (by omega) (by omega) (by omega) (by omega) (by omega))
        · omega
theorem qFst_eq {C D : Int → Int → Prop} {n v : Int} (e : ∀ p q : Int, 0 ≤ p → p < n → 0 ≤ q → q < n → (C p q ↔ D p q)) (h : qFst C n v) : qFst D n v := by
  rcases h with ⟨h1, h2⟩ | ⟨h1, h2, h3⟩
  · exact Or.inl ⟨h1, fun p q a b c d z => h2 p q a b c d ((e p q a b c d).2 z)⟩
  · exact Or.inr ⟨h1, (e _ _ (by omega) (by omega) (by omega) (by omega)).1 h2, fun p q a b c d f z => h3 p q a b c d f ((e p q a b c d).2 z)⟩
theorem qFst_hit {C : Int → Int → Prop} {n v p q : Int} (hv : v = 100 * p + q) (hp : 0 ≤ p ∧ p < n) (hq : 0 ≤ q ∧ q < n) (hn : n ≤ 32) (c : C p q) (hA : ∀ a b : Int, 0 ≤ a → a < p → 0 ≤ b → b < n → ¬ C a b) (hB : ∀ b : Int, 0 ≤ b → b < q → ¬ C p b) : qFst C n v := by
  have e1 : v / 100 = p := by omega
  have e2 : v % 100 = q := by omega
  refine Or.inr ⟨by omega, by rw [e1, e2]; exact c, fun a b h1 h2 h3 h4 h5 => ?_⟩
  by_cases d : a < p
  · exact hA a b h1 d h3 h4
  · have e : a = p := by omega
    rw [e]
    exact hB b h3 (by omega)
theorem qFst_no {C : Int → Int → Prop} {n v i : Int} (hv : v = -1) (hi : n ≤ i) (hA : ∀ a b : Int, 0 ≤ a → a < i → 0 ≤ b → b < n → ¬ C a b) : qFst C n v :=
  Or.inl ⟨hv, fun p q h1 h2 h3 h4 => hA p q h1 (by omega) h3 h4⟩
theorem qfs_o {C : Int → Int → Prop} {n i : Int} (h : ∀ a b : Int, 0 ≤ a → a < i → 0 ≤ b → b < n → ¬ C a b) (g : ∀ b : Int, 0 ≤ b → b < n → ¬ C i b) : ∀ a b : Int, 0 ≤ a → a < i + 1 → 0 ≤ b → b < n → ¬ C a b := fun a b h1 h2 h3 h4 => by
  by_cases d : a < i
  · exact h a b h1 d h3 h4
  · have e : a = i := by omega
    rw [e]
    exact g b h3 h4
theorem qfs_i {B : Int → Prop} {j : Int} (h : ∀ b : Int, 0 ≤ b → b < j → ¬ B b) (g : ¬ B j) : ∀ b : Int, 0 ≤ b → b < j + 1 → ¬ B b := fun b h1 h2 => by
  by_cases d : b < j
  · exact h b h1 d
  · have e : b = j := by omega
    rw [e]
    exact g
theorem qfs_n {B : Nat → Prop} {j : Int} (h0 : 0 ≤ j) (h : ∀ i : Nat, (i : Int) < j → ¬ B i) (g : ¬ B j.toNat) : ∀ i : Nat, (i : Int) < j + 1 → ¬ B i := fun i h1 => by
  by_cases d : (i : Int) < j
  · exact h i d
  · have e : i = j.toNat := by omega
    rw [e]
    exact g
theorem qfs_k {B : Nat → Prop} : ∀ i : Nat, (i : Int) < 0 → ¬ B i := fun _ h1 => False.elim (by omega)
theorem qfs_0 {C : Int → Int → Prop} {n : Int} : ∀ a b : Int, 0 ≤ a → a < 0 → 0 ≤ b → b < n → ¬ C a b := fun _ _ h1 h2 => False.elim (by omega)
theorem qfs_j {B : Int → Prop} : ∀ b : Int, 0 ≤ b → b < 0 → ¬ B b := fun _ h1 h2 => False.elim (by omega)

set_option maxHeartbeats 4000000 in
set_option maxRecDepth 20000 in
/-- OneRoof$Moment.firstStrike -/
theorem sf_104_58x {L : Nat} {xs : Nat → Int} {vb : Bool} {d : Nat} {σ α : Nat → Nat → Int} {κ : Nat → Option Nat} {ρ : Nat} {x1 : Int} {f : (Nat → Int) → Int} (hI : qI σ α κ ρ) (r1 : (-9223372036854775808) ≤ x1 ∧ x1 ≤ 9223372036854775807) (p0 : qPW σ α κ (0 : Int).toNat f) (p1 : qCaN (α 60) (α 61) (σ 58 12) (fun p q => qnF (qTb (α 24)) (α 28) (α 29) (α 31) (α 30) (α 33) (σ 27 6) (σ 27 7) p q (σ 58 11))) (p2 : qCaN (α 62) (α 63) (σ 58 12) (fun p q => qbs (qhF (α 35) (α 36) (α 37) (α 40) (qcv (α 41)) (qlw (α 22)) p q (σ 58 11)) (σ 34 7 : Int).toNat)) (p3 : qZp σ α) : qm_T (qe L xs vb) (d + 5) 104 [.ref 58, .long (ql x1)] (qw σ α κ ρ) (fun r w' => ∃ α', w' = qw σ α' κ ρ ∧ qI σ α' κ ρ ∧ qFr [] [53, 57, 59, 60, 61, 62, 63, 85] σ α σ α' ∧ ∃ v : Int, r = some (.int (qz v)) ∧ ((-1) ≤ v ∧ v ≤ 3131) ∧ (v = -1 ∨ (0 ≤ v ∧ v / 100 ≤ 31 ∧ v % 100 ≤ 31 ∧ ¬ v / 100 = v % 100)) ∧ qFst (fun p q : Int => ¬ p = q ∧ qbit x1 p = 1 ∧ qbit x1 q = 1 ∧ ¬ f (qNVc σ α (σ 58 10) p q (-1) x1) = 0) (σ 17 6) v ∧ qCaN (α' 60) (α' 61) (σ 58 12) (fun p q => qnF (qTb (α 24)) (α 28) (α 29) (α 31) (α 30) (α 33) (σ 27 6) (σ 27 7) p q (σ 58 11)) ∧ qCaN (α' 62) (α' 63) (σ 58 12) (fun p q => qbs (qhF (α 35) (α 36) (α 37) (α 40) (qcv (α 41)) (qlw (α 22)) p q (σ 58 11)) (σ 34 7 : Int).toNat)) := by
  refine qr_start (d := d + 4) qv_e104 (Nat.le_of_ble_eq_true rfl) ?_
  show qr_W (qe L xs vb) (d + 4) qx_e104 _ (0, [(0, .ref 58), (1, .long (ql x1))], [], _, 0, 0)
  have hF0 := qFr_rf [] [53, 57, 59, 60, 61, 62, 63, 85] σ α
  have hz58_12 : (-2147483648) ≤ σ 58 12 ∧ σ 58 12 ≤ 2147483647 := hI.1 58 12
  have hz27_6 : (-9223372036854775808) ≤ σ 27 6 ∧ σ 27 6 ≤ 9223372036854775807 := hI.1 27 6
  have hz27_7 : 0 ≤ σ 27 7 ∧ σ 27 7 ≤ 40 := hI.1 27 7
  have hz58_11 : (-2147483648) ≤ σ 58 11 ∧ σ 58 11 ≤ 2147483647 := hI.1 58 11
  have hz34_7 : 0 ≤ σ 34 7 ∧ σ 34 7 ≤ 60 := hI.1 34 7
  have hz58_10 : (-9223372036854775808) ≤ σ 58 10 ∧ σ 58 10 ≤ 9223372036854775807 := hI.1 58 10
  have hz17_6 : 0 ≤ σ 17 6 ∧ σ 17 6 ≤ 32 := hI.1 17 6
  refine qr_iconst 1 rfl rfl ?_
  refine qr_istore_n _ 2 rfl (by decide) rfl rfl ?_
  have hL4648 : ∀ (n : Nat) (ls : qm_L) (u4639 : Int) (α4641 : Nat → Nat → Int), 32 - u4639 < (n : Int) → qm_get ls 0 = some (.ref 58) → qm_get ls 1 = some (.long (ql x1)) → qm_get ls 3 = some (.int (qz u4639)) → (0 ≤ u4639 ∧ u4639 ≤ 32) → qI σ α4641 κ ρ → qFr [] [53, 57, 59, 60, 61, 62, 63, 85] σ α σ α4641 → (∀ a b : Int, 0 ≤ a → a < u4639 → 0 ≤ b → b < (σ 17 6) → ¬ (fun p q : Int => ¬ p = q ∧ qbit x1 p = 1 ∧ qbit x1 q = 1 ∧ ¬ f (qNVc σ α (σ 58 10) p q (-1) x1) = 0) a b) → qCaN (α4641 60) (α4641 61) (σ 58 12) (fun p q => qnF (qTb (α 24)) (α 28) (α 29) (α 31) (α 30) (α 33) (σ 27 6) (σ 27 7) p q (σ 58 11)) → qCaN (α4641 62) (α4641 63) (σ 58 12) (fun p q => qbs (qhF (α 35) (α 36) (α 37) (α 40) (qcv (α 41)) (qlw (α 22)) p q (σ 58 11)) (σ 34 7 : Int).toNat) → qr_W (qe L xs vb) (d + 4) qx_e104 (fun r w' => ∃ α', w' = qw σ α' κ ρ ∧ qI σ α' κ ρ ∧ qFr [] [53, 57, 59, 60, 61, 62, 63, 85] σ α σ α' ∧ ∃ v : Int, r = some (.int (qz v)) ∧ ((-1) ≤ v ∧ v ≤ 3131) ∧ (v = -1 ∨ (0 ≤ v ∧ v / 100 ≤ 31 ∧ v % 100 ≤ 31 ∧ ¬ v / 100 = v % 100)) ∧ qFst (fun p q : Int => ¬ p = q ∧ qbit x1 p = 1 ∧ qbit x1 q = 1 ∧ ¬ f (qNVc σ α (σ 58 10) p q (-1) x1) = 0) (σ 17 6) v ∧ qCaN (α' 60) (α' 61) (σ 58 12) (fun p q => qnF (qTb (α 24)) (α 28) (α 29) (α 31) (α 30) (α 33) (σ 27 6) (σ 27 7) p q (σ 58 11)) ∧ qCaN (α' 62) (α' 63) (σ 58 12) (fun p q => qbs (qhF (α 35) (α 36) (α 37) (α 40) (qcv (α 41)) (qlw (α 22)) p q (σ 58 11)) (σ 34 7 : Int).toNat)) (2, ls, [], qw σ α4641 κ ρ, 0, 0) := by
    intro n
    induction n with
    | zero => intro ls u4639 α4641 hm g4636 g4637 g4638 hf4644 hI4642 hF4643 hx4645 hx4646 hx4647; exact False.elim (by omega)
    | succ n ih4649 =>
      intro ls u4639 α4641 hm g4636 g4637 g4638 hf4644 hI4642 hF4643 hx4645 hx4646 hx4647
      refine qr_iload_n 3 rfl g4638 rfl ?_
      refine qr_aload_n 4 rfl g4636 rfl ?_
      refine qr_get 7 rfl rfl rfl (by decide) rfl ?_
      refine qr_get 10 rfl rfl rfl (by decide) rfl ?_
      refine qr_icmp_ge 87 13 rfl rfl rfl (qrg hf4644 (by decide) (by decide)) (qrg hz17_6 (by decide) (by decide)) (fun h4650 => ?_) (fun h4650 => ?_)
      · skip
        refine qr_iconst 88 rfl rfl ?_
        refine qr_retI rfl rfl (by decide) (by decide) ?_
        exact ⟨_, rfl, hI4642, hF4643, (-1), rfl, (by decide), by omega, (qFst_no rfl (by omega) hx4645), hx4646, hx4647⟩
      · skip
        refine qr_lload_n 14 rfl g4637 rfl ?_
        refine qr_iload_n 15 rfl g4638 rfl ?_
        refine qr_callN 18 rfl rfl rfl (sf_50b (d := d + 3) hI4642 r1 (qrg hf4644 (by decide) (by decide))) ?_
        rintro _ _ ⟨rfl, v4651, rfl, hv4651, hp4652⟩
        show qr_W (qe L xs vb) (d + 4) qx_e104 _ (18, _, [.int (qz v4651)], qw σ α4641 κ ρ, 0, 0)
        refine qr_if_ne 24 21 rfl rfl rfl (qrg hv4651 (by decide) (by decide)) (fun h4653 => ?_) (fun h4653 => ?_)
        · skip
          refine qr_iconst 25 rfl rfl ?_
          refine qr_istore _ 27 rfl (by decide) rfl rfl ?_
          have hL4953 : ∀ (n : Nat) (ls : qm_L) (u4943 : Int) (α4945 : Nat → Nat → Int), 32 - u4943 < (n : Int) → qm_get ls 0 = some (.ref 58) → qm_get ls 1 = some (.long (ql x1)) → qm_get ls 3 = some (.int (qz u4639)) → qm_get ls 4 = some (.int (qz u4943)) → (0 ≤ u4943 ∧ u4943 ≤ 32) → qI σ α4945 κ ρ → qFr [] [53, 57, 59, 60, 61, 62, 63, 85] σ α σ α4945 → (∀ a b : Int, 0 ≤ a → a < u4639 → 0 ≤ b → b < (σ 17 6) → ¬ (fun p q : Int => ¬ p = q ∧ qbit x1 p = 1 ∧ qbit x1 q = 1 ∧ ¬ f (qNVc σ α (σ 58 10) p q (-1) x1) = 0) a b) → (∀ b : Int, 0 ≤ b → b < u4943 → ¬ (fun p q : Int => ¬ p = q ∧ qbit x1 p = 1 ∧ qbit x1 q = 1 ∧ ¬ f (qNVc σ α (σ 58 10) p q (-1) x1) = 0) u4639 b) → qCaN (α4945 60) (α4945 61) (σ 58 12) (fun p q => qnF (qTb (α 24)) (α 28) (α 29) (α 31) (α 30) (α 33) (σ 27 6) (σ 27 7) p q (σ 58 11)) → qCaN (α4945 62) (α4945 63) (σ 58 12) (fun p q => qbs (qhF (α 35) (α 36) (α 37) (α 40) (qcv (α 41)) (qlw (α 22)) p q (σ 58 11)) (σ 34 7 : Int).toNat) → qr_W (qe L xs vb) (d + 4) qx_e104 (fun r w' => ∃ α', w' = qw σ α' κ ρ ∧ qI σ α' κ ρ ∧ qFr [] [53, 57, 59, 60, 61, 62, 63, 85] σ α σ α' ∧ ∃ v : Int, r = some (.int (qz v)) ∧ ((-1) ≤ v ∧ v ≤ 3131) ∧ (v = -1 ∨ (0 ≤ v ∧ v / 100 ≤ 31 ∧ v % 100 ≤ 31 ∧ ¬ v / 100 = v % 100)) ∧ qFst (fun p q : Int => ¬ p = q ∧ qbit x1 p = 1 ∧ qbit x1 q = 1 ∧ ¬ f (qNVc σ α (σ 58 10) p q (-1) x1) = 0) (σ 17 6) v ∧ qCaN (α' 60) (α' 61) (σ 58 12) (fun p q => qnF (qTb (α 24)) (α 28) (α 29) (α 31) (α 30) (α 33) (σ 27 6) (σ 27 7) p q (σ 58 11)) ∧ qCaN (α' 62) (α' 63) (σ 58 12) (fun p q => qbs (qhF (α 35) (α 36) (α 37) (α 40) (qcv (α 41)) (qlw (α 22)) p q (σ 58 11)) (σ 34 7 : Int).toNat)) (27, ls, [], qw σ α4945 κ ρ, 0, 0) := by
            intro n
            induction n with
            | zero => intro ls u4943 α4945 hm g4939 g4940 g4941 g4942 hf4948 hI4946 hF4947 hx4949 hx4950 hx4951 hx4952; exact False.elim (by omega)
            | succ n ih4954 =>
              intro ls u4943 α4945 hm g4939 g4940 g4941 g4942 hf4948 hI4946 hF4947 hx4949 hx4950 hx4951 hx4952
              refine qr_iload 29 rfl g4942 rfl ?_
              refine qr_aload_n 30 rfl g4939 rfl ?_
              refine qr_get 33 rfl rfl rfl (by decide) rfl ?_
              refine qr_get 36 rfl rfl rfl (by decide) rfl ?_
              refine qr_icmp_ge 81 39 rfl rfl rfl (qrg hf4948 (by decide) (by decide)) (qrg hz17_6 (by decide) (by decide)) (fun h4955 => ?_) (fun h4955 => ?_)
              · skip
                refine qr_iinc _ 84 rfl g4941 (by decide) rfl rfl ?_
                refine qr_goto 2 rfl rfl ?_
                exact ih4649 _ (u4639 + 1) α4945 (by omega) (qm_gk g4939 (by decide) (Or.inl (by decide))) (qm_gk g4940 (by decide) (Or.inl (by decide))) (qm_ge _ _ _) (by omega) hI4946 hF4947 (qfs_o hx4645 (fun b h1 h2 => hx4950 b h1 (by omega))) hx4951 hx4952
              · skip
                refine qr_iload_n 40 rfl g4941 rfl ?_
                refine qr_iload 42 rfl g4942 rfl ?_
                refine qr_icmp_eq 75 45 rfl rfl rfl (qrg hf4644 (by decide) (by decide)) (qrg hf4948 (by decide) (by decide)) (fun h4956 => ?_) (fun h4956 => ?_)
                · skip
                  refine qr_iinc _ 78 rfl g4942 (by decide) rfl rfl ?_
                  refine qr_goto 27 rfl rfl ?_
                  exact ih4954 _ (u4943 + 1) α4945 (by omega) (qm_gk g4939 (by decide) (Or.inl (by decide))) (qm_gk g4940 (by decide) (Or.inl (by decide))) (qm_gk g4941 (by decide) (Or.inr rfl)) (qm_ge _ _ _) (by omega) hI4946 hF4947 hx4645 (qfs_i hx4950 (fun hc => hc.1 (by omega))) hx4951 hx4952
                · skip
                  refine qr_lload_n 46 rfl g4940 rfl ?_
                  refine qr_iload 48 rfl g4942 rfl ?_
                  refine qr_callN 51 rfl rfl rfl (sf_50b (d := d + 3) hI4946 r1 (qrg hf4948 (by decide) (by decide))) ?_
                  rintro _ _ ⟨rfl, v4957, rfl, hv4957, hp4958⟩
                  show qr_W (qe L xs vb) (d + 4) qx_e104 _ (51, _, [.int (qz v4957)], qw σ α4945 κ ρ, 0, 0)
                  refine qr_if_eq 75 54 rfl rfl rfl (qrg hv4957 (by decide) (by decide)) (fun h4959 => ?_) (fun h4959 => ?_)
                  · skip
                    refine qr_iinc _ 78 rfl g4942 (by decide) rfl rfl ?_
                    refine qr_goto 27 rfl rfl ?_
                    exact ih4954 _ (u4943 + 1) α4945 (by omega) (qm_gk g4939 (by decide) (Or.inl (by decide))) (qm_gk g4940 (by decide) (Or.inl (by decide))) (qm_gk g4941 (by decide) (Or.inr rfl)) (qm_ge _ _ _) (by omega) hI4946 hF4947 hx4645 (qfs_i hx4950 (fun hc => absurd hc.2.2.1 (by omega))) hx4951 hx4952
                  · skip
                    refine qr_aload_n 55 rfl g4939 rfl ?_
                    refine qr_iconst 56 rfl rfl ?_
                    refine qr_iload_n 57 rfl g4941 rfl ?_
                    refine qr_iload 59 rfl g4942 rfl ?_
                    refine qr_iconst 60 rfl rfl ?_
                    refine qr_lload_n 61 rfl g4940 rfl ?_
                    have hs4960 : (-9223372036854775808) ≤ σ 27 6 ∧ σ 27 6 ≤ 9223372036854775807 := hI4946.1 27 6
                    have hs4961 : 0 ≤ σ 27 7 ∧ σ 27 7 ≤ 40 := hI4946.1 27 7
                    have hs4962 : 0 ≤ σ 34 7 ∧ σ 34 7 ≤ 60 := hI4946.1 34 7
                    have hs4963 : (-2147483648) ≤ σ 58 11 ∧ σ 58 11 ≤ 2147483647 := hI4946.1 58 11
                    have hs4964 : (-2147483648) ≤ σ 58 12 ∧ σ 58 12 ≤ 2147483647 := hI4946.1 58 12
                    refine qr_callN 64 rfl rfl rfl (sf_90_58x (d := d + 0) hI4946 (by decide) (by omega) (by omega) (by decide) r1 (by omega) (qPW_fr hF4947 (by decide) (by decide) p0) (by rw [hF4947.2 24 (by decide), hF4947.2 28 (by decide), hF4947.2 29 (by decide), hF4947.2 30 (by decide), hF4947.2 31 (by decide), hF4947.2 33 (by decide)]; exact hx4951) (by rw [hF4947.2 22 (by decide), hF4947.2 35 (by decide), hF4947.2 36 (by decide), hF4947.2 37 (by decide), hF4947.2 40 (by decide), hF4947.2 41 (by decide)]; exact hx4952) (qZp_fr hF4947 (by decide) (by decide) p3)) ?_
                    rintro _ _ ⟨α4969, rfl, hI4970, hG4971, v4965, rfl, hv4965, hx4966, hx4967, hx4968⟩
                    have hF4972 : qFr [] [53, 57, 59, 60, 61, 62, 63, 85] σ α σ α4969 := qFr_t hF4947 hG4971 (by decide) (by decide)
                    rw [hF4947.2 24 (by decide), hF4947.2 28 (by decide), hF4947.2 29 (by decide), hF4947.2 30 (by decide), hF4947.2 31 (by decide), hF4947.2 33 (by decide)] at hx4967
                    rw [hF4947.2 22 (by decide), hF4947.2 35 (by decide), hF4947.2 36 (by decide), hF4947.2 37 (by decide), hF4947.2 40 (by decide), hF4947.2 41 (by decide)] at hx4968
                    show qr_W (qe L xs vb) (d + 4) qx_e104 _ (64, _, [.int (qz v4965)], qw σ α4969 κ ρ, 0, 0)
                    rw [qNVc_fr hF4947 (by decide) (by decide)] at hx4966
                    refine qr_if_eq 75 67 rfl rfl rfl hv4965 (fun h4973 => ?_) (fun h4973 => ?_)
                    · skip
                      refine qr_iinc _ 78 rfl g4942 (by decide) rfl rfl ?_
                      refine qr_goto 27 rfl rfl ?_
                      exact ih4954 _ (u4943 + 1) α4969 (by omega) (qm_gk g4939 (by decide) (Or.inl (by decide))) (qm_gk g4940 (by decide) (Or.inl (by decide))) (qm_gk g4941 (by decide) (Or.inr rfl)) (qm_ge _ _ _) (by omega) hI4970 hF4972 hx4645 (qfs_i hx4950 (fun hc => hc.2.2.2 (by rw [← hx4966]; omega))) hx4967 hx4968
                    · skip
                      refine qr_bipush 69 rfl (by decide) rfl ?_
                      refine qr_iload_n 70 rfl g4941 rfl ?_
                      refine qr_imul 71 rfl rfl ?_
                      refine qr_iload 73 rfl g4942 rfl ?_
                      refine qr_iadd 74 rfl rfl ?_
                      refine qr_retI rfl rfl (by decide) (by decide) ?_
                      exact ⟨_, rfl, hI4970, hF4972, ((100 * u4639) + u4943), rfl, (by omega), by omega, (qFst_hit (p := u4639) (q := u4943) (by omega) (by omega) (by omega) (by omega) ⟨by omega, by omega, by omega, by rw [← hx4966]; omega⟩ hx4949 hx4950), hx4967, hx4968⟩
          exact hL4953 ((32 - 0 + 1 : Int)).toNat _ 0 α4641 (by omega) (qm_gk g4636 (by decide) (Or.inl (by decide))) (qm_gk g4637 (by decide) (Or.inl (by decide))) (qm_gk g4638 (by decide) (Or.inr rfl)) (qm_ge _ _ _) (by decide) hI4642 hF4643 hx4645 qfs_j hx4646 hx4647
        · skip
          refine qr_goto 81 rfl rfl ?_
          refine qr_iinc _ 84 rfl g4638 (by decide) rfl rfl ?_
          refine qr_goto 2 rfl rfl ?_
          exact ih4649 _ (u4639 + 1) α4641 (by omega) (qm_gk g4636 (by decide) (Or.inl (by decide))) (qm_gk g4637 (by decide) (Or.inl (by decide))) (qm_ge _ _ _) (by omega) hI4642 hF4643 (qfs_o hx4645 (fun b h1 h2 hc => absurd hc.2.1 (by omega))) hx4646 hx4647
  exact hL4648 ((32 - 0 + 1 : Int)).toNat _ 0 α (by omega) rfl rfl rfl (by decide) hI hF0 qfs_0 p1 p2

set_option maxHeartbeats 4000000 in
set_option maxRecDepth 20000 in
/-- OneRoof$Telling.firstHelp -/
theorem sf_137_70x {L : Nat} {xs : Nat → Int} {vb : Bool} {d : Nat} {σ α : Nat → Nat → Int} {κ : Nat → Option Nat} {ρ : Nat} {f : (Nat → Int) → Int} (hI : qI σ α κ ρ) (p0 : qPW σ α κ (1 : Int).toNat f) (p1 : qCaN (α 60) (α 61) (σ 58 12) (fun p q => qnF (qTb (α 24)) (α 28) (α 29) (α 31) (α 30) (α 33) (σ 27 6) (σ 27 7) p q (σ 58 11))) (p2 : qCaN (α 62) (α 63) (σ 58 12) (fun p q => qbs (qhF (α 35) (α 36) (α 37) (α 40) (qcv (α 41)) (qlw (α 22)) p q (σ 58 11)) (σ 34 7 : Int).toNat)) (p3 : qZp σ α) : qm_T (qe L xs vb) (d + 5) 137 [.ref 70] (qw σ α κ ρ) (fun r w' => ∃ α', w' = qw σ α' κ ρ ∧ qI σ α' κ ρ ∧ qFr [] [53, 57, 59, 60, 61, 62, 63, 85] σ α σ α' ∧ ∃ v : Int, r = some (.int (qz v)) ∧ ((-1) ≤ v ∧ v ≤ 3131) ∧ (v = -1 ∨ (0 ≤ v ∧ v / 100 ≤ 31 ∧ v % 100 ≤ 31 ∧ ¬ v / 100 = v % 100)) ∧ qFst (fun p s : Int => ¬ p = s ∧ qbit (σ 70 3) p = 1 ∧ qbit (ql_and (σ 70 3) (σ 70 6)) s = 1 ∧ ∃ i : Nat, (i : Int) < (σ 70 2) ∧ (fun i : Nat => (α 71) i / 100 = s ∧ ¬ f (qNVc σ α (σ 58 10) p s ((α 71) i % 100) (σ 70 3)) = 0) i) (σ 17 6) v ∧ qCaN (α' 60) (α' 61) (σ 58 12) (fun p q => qnF (qTb (α 24)) (α 28) (α 29) (α 31) (α 30) (α 33) (σ 27 6) (σ 27 7) p q (σ 58 11)) ∧ qCaN (α' 62) (α' 63) (σ 58 12) (fun p q => qbs (qhF (α 35) (α 36) (α 37) (α 40) (qcv (α 41)) (qlw (α 22)) p q (σ 58 11)) (σ 34 7 : Int).toNat)) := by
  refine qr_start (d := d + 4) qv_e137 (Nat.le_of_ble_eq_true rfl) ?_
  show qr_W (qe L xs vb) (d + 4) qx_e137 _ (0, [(0, .ref 70)], [], _, 0, 0)
  have hF0 := qFr_rf [] [53, 57, 59, 60, 61, 62, 63, 85] σ α
  have hz58_12 : (-2147483648) ≤ σ 58 12 ∧ σ 58 12 ≤ 2147483647 := hI.1 58 12
  have hz27_6 : (-9223372036854775808) ≤ σ 27 6 ∧ σ 27 6 ≤ 9223372036854775807 := hI.1 27 6
  have hz27_7 : 0 ≤ σ 27 7 ∧ σ 27 7 ≤ 40 := hI.1 27 7
  have hz58_11 : (-2147483648) ≤ σ 58 11 ∧ σ 58 11 ≤ 2147483647 := hI.1 58 11
  have hz34_7 : 0 ≤ σ 34 7 ∧ σ 34 7 ≤ 60 := hI.1 34 7
  have hz58_10 : (-9223372036854775808) ≤ σ 58 10 ∧ σ 58 10 ≤ 9223372036854775807 := hI.1 58 10
  have hz17_6 : 0 ≤ σ 17 6 ∧ σ 17 6 ≤ 32 := hI.1 17 6
  have hz70_2 : 0 ≤ σ 70 2 ∧ σ 70 2 ≤ 31 := hI.1 70 2
  have hz70_3 : (-9223372036854775808) ≤ σ 70 3 ∧ σ 70 3 ≤ 9223372036854775807 := hI.1 70 3
  have hz70_6 : (-9223372036854775808) ≤ σ 70 6 ∧ σ 70 6 ≤ 9223372036854775807 := hI.1 70 6
  refine qr_iconst 1 rfl rfl ?_
  refine qr_istore_n _ 2 rfl (by decide) rfl rfl ?_
  have hL88523 : ∀ (n : Nat) (ls : qm_L) (u88513 : Int) (α88515 : Nat → Nat → Int), 32 - u88513 < (n : Int) → qm_get ls 0 = some (.ref 70) → qm_get ls 1 = some (.int (qz u88513)) → (0 ≤ u88513 ∧ u88513 ≤ 32) → qI σ α88515 κ ρ → qFr [] [53, 57, 59, 60, 61, 62, 63, 85] σ α σ α88515 → α88515 71 = (α 71) → (∀ a b : Int, 0 ≤ a → a < u88513 → 0 ≤ b → b < (σ 17 6) → ¬ (fun p s : Int => ¬ p = s ∧ qbit (σ 70 3) p = 1 ∧ qbit (ql_and (σ 70 3) (σ 70 6)) s = 1 ∧ ∃ i : Nat, (i : Int) < (σ 70 2) ∧ (fun i : Nat => (α 71) i / 100 = s ∧ ¬ f (qNVc σ α (σ 58 10) p s ((α 71) i % 100) (σ 70 3)) = 0) i) a b) → qCaN (α88515 60) (α88515 61) (σ 58 12) (fun p q => qnF (qTb (α 24)) (α 28) (α 29) (α 31) (α 30) (α 33) (σ 27 6) (σ 27 7) p q (σ 58 11)) → qCaN (α88515 62) (α88515 63) (σ 58 12) (fun p q => qbs (qhF (α 35) (α 36) (α 37) (α 40) (qcv (α 41)) (qlw (α 22)) p q (σ 58 11)) (σ 34 7 : Int).toNat) → qr_W (qe L xs vb) (d + 4) qx_e137 (fun r w' => ∃ α', w' = qw σ α' κ ρ ∧ qI σ α' κ ρ ∧ qFr [] [53, 57, 59, 60, 61, 62, 63, 85] σ α σ α' ∧ ∃ v : Int, r = some (.int (qz v)) ∧ ((-1) ≤ v ∧ v ≤ 3131) ∧ (v = -1 ∨ (0 ≤ v ∧ v / 100 ≤ 31 ∧ v % 100 ≤ 31 ∧ ¬ v / 100 = v % 100)) ∧ qFst (fun p s : Int => ¬ p = s ∧ qbit (σ 70 3) p = 1 ∧ qbit (ql_and (σ 70 3) (σ 70 6)) s = 1 ∧ ∃ i : Nat, (i : Int) < (σ 70 2) ∧ (fun i : Nat => (α 71) i / 100 = s ∧ ¬ f (qNVc σ α (σ 58 10) p s ((α 71) i % 100) (σ 70 3)) = 0) i) (σ 17 6) v ∧ qCaN (α' 60) (α' 61) (σ 58 12) (fun p q => qnF (qTb (α 24)) (α 28) (α 29) (α 31) (α 30) (α 33) (σ 27 6) (σ 27 7) p q (σ 58 11)) ∧ qCaN (α' 62) (α' 63) (σ 58 12) (fun p q => qbs (qhF (α 35) (α 36) (α 37) (α 40) (qcv (α 41)) (qlw (α 22)) p q (σ 58 11)) (σ 34 7 : Int).toNat)) (2, ls, [], qw σ α88515 κ ρ, 0, 0) := by
    intro n
    induction n with
    | zero => intro ls u88513 α88515 hm g88511 g88512 hf88519 hI88516 hF88517 hk88518 hx88520 hx88521 hx88522; exact False.elim (by omega)
    | succ n ih88524 =>
      intro ls u88513 α88515 hm g88511 g88512 hf88519 hI88516 hF88517 hk88518 hx88520 hx88521 hx88522
      refine qr_iload_n 3 rfl g88512 rfl ?_
      refine qr_aload_n 4 rfl g88511 rfl ?_
      refine qr_get 7 rfl rfl rfl (by decide) rfl ?_
      refine qr_get 10 rfl rfl rfl (by decide) rfl ?_
      refine qr_get 13 rfl rfl rfl (by decide) rfl ?_
      refine qr_icmp_ge 144 16 rfl rfl rfl (qrg hf88519 (by decide) (by decide)) (qrg hz17_6 (by decide) (by decide)) (fun h88525 => ?_) (fun h88525 => ?_)
      · skip
        refine qr_iconst 145 rfl rfl ?_
        refine qr_retI rfl rfl (by decide) (by decide) ?_
        exact ⟨_, rfl, hI88516, hF88517, (-1), rfl, (by decide), by omega, (qFst_no rfl (by omega) hx88520), hx88521, hx88522⟩
      · skip
        refine qr_iconst 17 rfl rfl ?_
        refine qr_istore_n _ 18 rfl (by decide) rfl rfl ?_
        have hL94090 : ∀ (n : Nat) (ls : qm_L) (u94079 : Int) (α94081 : Nat → Nat → Int), 32 - u94079 < (n : Int) → qm_get ls 0 = some (.ref 70) → qm_get ls 1 = some (.int (qz u88513)) → qm_get ls 2 = some (.int (qz u94079)) → (0 ≤ u94079 ∧ u94079 ≤ 32) → qI σ α94081 κ ρ → qFr [] [53, 57, 59, 60, 61, 62, 63, 85] σ α σ α94081 → α94081 71 = (α 71) → (∀ a b : Int, 0 ≤ a → a < u88513 → 0 ≤ b → b < (σ 17 6) → ¬ (fun p s : Int => ¬ p = s ∧ qbit (σ 70 3) p = 1 ∧ qbit (ql_and (σ 70 3) (σ 70 6)) s = 1 ∧ ∃ i : Nat, (i : Int) < (σ 70 2) ∧ (fun i : Nat => (α 71) i / 100 = s ∧ ¬ f (qNVc σ α (σ 58 10) p s ((α 71) i % 100) (σ 70 3)) = 0) i) a b) → (∀ b : Int, 0 ≤ b → b < u94079 → ¬ (fun p s : Int => ¬ p = s ∧ qbit (σ 70 3) p = 1 ∧ qbit (ql_and (σ 70 3) (σ 70 6)) s = 1 ∧ ∃ i : Nat, (i : Int) < (σ 70 2) ∧ (fun i : Nat => (α 71) i / 100 = s ∧ ¬ f (qNVc σ α (σ 58 10) p s ((α 71) i % 100) (σ 70 3)) = 0) i) u88513 b) → qCaN (α94081 60) (α94081 61) (σ 58 12) (fun p q => qnF (qTb (α 24)) (α 28) (α 29) (α 31) (α 30) (α 33) (σ 27 6) (σ 27 7) p q (σ 58 11)) → qCaN (α94081 62) (α94081 63) (σ 58 12) (fun p q => qbs (qhF (α 35) (α 36) (α 37) (α 40) (qcv (α 41)) (qlw (α 22)) p q (σ 58 11)) (σ 34 7 : Int).toNat) → qr_W (qe L xs vb) (d + 4) qx_e137 (fun r w' => ∃ α', w' = qw σ α' κ ρ ∧ qI σ α' κ ρ ∧ qFr [] [53, 57, 59, 60, 61, 62, 63, 85] σ α σ α' ∧ ∃ v : Int, r = some (.int (qz v)) ∧ ((-1) ≤ v ∧ v ≤ 3131) ∧ (v = -1 ∨ (0 ≤ v ∧ v / 100 ≤ 31 ∧ v % 100 ≤ 31 ∧ ¬ v / 100 = v % 100)) ∧ qFst (fun p s : Int => ¬ p = s ∧ qbit (σ 70 3) p = 1 ∧ qbit (ql_and (σ 70 3) (σ 70 6)) s = 1 ∧ ∃ i : Nat, (i : Int) < (σ 70 2) ∧ (fun i : Nat => (α 71) i / 100 = s ∧ ¬ f (qNVc σ α (σ 58 10) p s ((α 71) i % 100) (σ 70 3)) = 0) i) (σ 17 6) v ∧ qCaN (α' 60) (α' 61) (σ 58 12) (fun p q => qnF (qTb (α 24)) (α 28) (α 29) (α 31) (α 30) (α 33) (σ 27 6) (σ 27 7) p q (σ 58 11)) ∧ qCaN (α' 62) (α' 63) (σ 58 12) (fun p q => qbs (qhF (α 35) (α 36) (α 37) (α 40) (qcv (α 41)) (qlw (α 22)) p q (σ 58 11)) (σ 34 7 : Int).toNat)) (18, ls, [], qw σ α94081 κ ρ, 0, 0) := by
          intro n
          induction n with
          | zero => intro ls u94079 α94081 hm g94076 g94077 g94078 hf94085 hI94082 hF94083 hk94084 hx94086 hx94087 hx94088 hx94089; exact False.elim (by omega)
          | succ n ih94091 =>
            intro ls u94079 α94081 hm g94076 g94077 g94078 hf94085 hI94082 hF94083 hk94084 hx94086 hx94087 hx94088 hx94089
            refine qr_iload_n 19 rfl g94078 rfl ?_
            refine qr_aload_n 20 rfl g94076 rfl ?_
            refine qr_get 23 rfl rfl rfl (by decide) rfl ?_
            refine qr_get 26 rfl rfl rfl (by decide) rfl ?_
            refine qr_get 29 rfl rfl rfl (by decide) rfl ?_
            refine qr_icmp_ge 138 32 rfl rfl rfl (qrg hf94085 (by decide) (by decide)) (qrg hz17_6 (by decide) (by decide)) (fun h94092 => ?_) (fun h94092 => ?_)
            · skip
              refine qr_iinc _ 141 rfl g94077 (by decide) rfl rfl ?_
              refine qr_goto 2 rfl rfl ?_
              exact ih88524 _ (u88513 + 1) α94081 (by omega) (qm_gk g94076 (by decide) (Or.inr rfl)) (qm_ge _ _ _) (by omega) hI94082 hF94083 hk94084 (qfs_o hx88520 (fun b h1 h2 => hx94087 b h1 (by omega))) hx94088 hx94089
            · skip
              refine qr_iload_n 33 rfl g94077 rfl ?_
              refine qr_iload_n 34 rfl g94078 rfl ?_
              refine qr_icmp_eq 132 37 rfl rfl rfl (qrg hf88519 (by decide) (by decide)) (qrg hf94085 (by decide) (by decide)) (fun h94093 => ?_) (fun h94093 => ?_)
              · skip
                refine qr_iinc _ 135 rfl g94078 (by decide) rfl rfl ?_
                refine qr_goto 18 rfl rfl ?_
                exact ih94091 _ (u94079 + 1) α94081 (by omega) (qm_gk g94076 (by decide) (Or.inl (by decide))) (qm_gk g94077 (by decide) (Or.inr rfl)) (qm_ge _ _ _) (by omega) hI94082 hF94083 hk94084 hx88520 (qfs_i hx94087 (fun hc => hc.1 (by omega))) hx94088 hx94089
              · skip
                refine qr_aload_n 38 rfl g94076 rfl ?_
                refine qr_get 41 rfl rfl rfl (by decide) rfl ?_
                refine qr_iload_n 42 rfl g94077 rfl ?_
                refine qr_callN 45 rfl rfl rfl (sf_50b (d := d + 3) hI94082 hz70_3 (qrg hf88519 (by decide) (by decide))) ?_
                rintro _ _ ⟨rfl, v94094, rfl, hv94094, hp94095⟩
                show qr_W (qe L xs vb) (d + 4) qx_e137 _ (45, _, [.int (qz v94094)], qw σ α94081 κ ρ, 0, 0)
                refine qr_if_eq 132 48 rfl rfl rfl (qrg hv94094 (by decide) (by decide)) (fun h94096 => ?_) (fun h94096 => ?_)
                · skip
                  refine qr_iinc _ 135 rfl g94078 (by decide) rfl rfl ?_
                  refine qr_goto 18 rfl rfl ?_
                  exact ih94091 _ (u94079 + 1) α94081 (by omega) (qm_gk g94076 (by decide) (Or.inl (by decide))) (qm_gk g94077 (by decide) (Or.inr rfl)) (qm_ge _ _ _) (by omega) hI94082 hF94083 hk94084 hx88520 (qfs_i hx94087 (fun hc => absurd hc.2.1 (by omega))) hx94088 hx94089
                · skip
                  refine qr_aload_n 49 rfl g94076 rfl ?_
                  refine qr_get 52 rfl rfl rfl (by decide) rfl ?_
                  refine qr_aload_n 53 rfl g94076 rfl ?_
                  refine qr_get 56 rfl rfl rfl (by decide) rfl ?_
                  refine qr_land 57 rfl rfl ?_
                  refine qy_canlE (fun v94097 hv94097 hev94097 => ?_)
                  refine qr_iload_n 58 rfl g94078 rfl ?_
                  refine qr_callN 61 rfl rfl rfl (sf_50b (d := d + 3) hI94082 hv94097 (qrg hf94085 (by decide) (by decide))) ?_
                  rintro _ _ ⟨rfl, v94098, rfl, hv94098, hp94099⟩
                  show qr_W (qe L xs vb) (d + 4) qx_e137 _ (61, _, [.int (qz v94098)], qw σ α94081 κ ρ, 0, 0)
                  rw [ql_val hev94097 (by omega) (ql_and_r _ _)] at hp94099
                  refine qr_if_ne 67 64 rfl rfl rfl (qrg hv94098 (by decide) (by decide)) (fun h94100 => ?_) (fun h94100 => ?_)
                  · skip
                    refine qr_iconst 68 rfl rfl ?_
                    refine qr_istore_n _ 69 rfl (by decide) rfl rfl ?_
                    have hL94453 : ∀ (n : Nat) (ls : qm_L) (u94441 : Int) (α94443 : Nat → Nat → Int), 31 - u94441 < (n : Int) → qm_get ls 0 = some (.ref 70) → qm_get ls 1 = some (.int (qz u88513)) → qm_get ls 2 = some (.int (qz u94079)) → qm_get ls 3 = some (.int (qz u94441)) → (0 ≤ u94441 ∧ u94441 ≤ 31) → qI σ α94443 κ ρ → qFr [] [53, 57, 59, 60, 61, 62, 63, 85] σ α σ α94443 → α94443 71 = (α 71) → (∀ a b : Int, 0 ≤ a → a < u88513 → 0 ≤ b → b < (σ 17 6) → ¬ (fun p s : Int => ¬ p = s ∧ qbit (σ 70 3) p = 1 ∧ qbit (ql_and (σ 70 3) (σ 70 6)) s = 1 ∧ ∃ i : Nat, (i : Int) < (σ 70 2) ∧ (fun i : Nat => (α 71) i / 100 = s ∧ ¬ f (qNVc σ α (σ 58 10) p s ((α 71) i % 100) (σ 70 3)) = 0) i) a b) → (∀ b : Int, 0 ≤ b → b < u94079 → ¬ (fun p s : Int => ¬ p = s ∧ qbit (σ 70 3) p = 1 ∧ qbit (ql_and (σ 70 3) (σ 70 6)) s = 1 ∧ ∃ i : Nat, (i : Int) < (σ 70 2) ∧ (fun i : Nat => (α 71) i / 100 = s ∧ ¬ f (qNVc σ α (σ 58 10) p s ((α 71) i % 100) (σ 70 3)) = 0) i) u88513 b) → (∀ i : Nat, (i : Int) < u94441 → ¬ (fun i : Nat => (α 71) i / 100 = u94079 ∧ ¬ f (qNVc σ α (σ 58 10) u88513 u94079 ((α 71) i % 100) (σ 70 3)) = 0) i) → qCaN (α94443 60) (α94443 61) (σ 58 12) (fun p q => qnF (qTb (α 24)) (α 28) (α 29) (α 31) (α 30) (α 33) (σ 27 6) (σ 27 7) p q (σ 58 11)) → qCaN (α94443 62) (α94443 63) (σ 58 12) (fun p q => qbs (qhF (α 35) (α 36) (α 37) (α 40) (qcv (α 41)) (qlw (α 22)) p q (σ 58 11)) (σ 34 7 : Int).toNat) → qr_W (qe L xs vb) (d + 4) qx_e137 (fun r w' => ∃ α', w' = qw σ α' κ ρ ∧ qI σ α' κ ρ ∧ qFr [] [53, 57, 59, 60, 61, 62, 63, 85] σ α σ α' ∧ ∃ v : Int, r = some (.int (qz v)) ∧ ((-1) ≤ v ∧ v ≤ 3131) ∧ (v = -1 ∨ (0 ≤ v ∧ v / 100 ≤ 31 ∧ v % 100 ≤ 31 ∧ ¬ v / 100 = v % 100)) ∧ qFst (fun p s : Int => ¬ p = s ∧ qbit (σ 70 3) p = 1 ∧ qbit (ql_and (σ 70 3) (σ 70 6)) s = 1 ∧ ∃ i : Nat, (i : Int) < (σ 70 2) ∧ (fun i : Nat => (α 71) i / 100 = s ∧ ¬ f (qNVc σ α (σ 58 10) p s ((α 71) i % 100) (σ 70 3)) = 0) i) (σ 17 6) v ∧ qCaN (α' 60) (α' 61) (σ 58 12) (fun p q => qnF (qTb (α 24)) (α 28) (α 29) (α 31) (α 30) (α 33) (σ 27 6) (σ 27 7) p q (σ 58 11)) ∧ qCaN (α' 62) (α' 63) (σ 58 12) (fun p q => qbs (qhF (α 35) (α 36) (α 37) (α 40) (qcv (α 41)) (qlw (α 22)) p q (σ 58 11)) (σ 34 7 : Int).toNat)) (69, ls, [], qw σ α94443 κ ρ, 0, 0) := by
                      intro n
                      induction n with
                      | zero => intro ls u94441 α94443 hm g94437 g94438 g94439 g94440 hf94447 hI94444 hF94445 hk94446 hx94448 hx94449 hx94450 hx94451 hx94452; exact False.elim (by omega)
                      | succ n ih94454 =>
                        intro ls u94441 α94443 hm g94437 g94438 g94439 g94440 hf94447 hI94444 hF94445 hk94446 hx94448 hx94449 hx94450 hx94451 hx94452
                        refine qr_iload_n 70 rfl g94440 rfl ?_
                        refine qr_aload_n 71 rfl g94437 rfl ?_
                        refine qr_get 74 rfl rfl rfl (by decide) rfl ?_
                        refine qr_icmp_ge 132 77 rfl rfl rfl (qrg hf94447 (by decide) (by decide)) (qrg hz70_2 (by decide) (by decide)) (fun h94455 => ?_) (fun h94455 => ?_)
                        · skip
                          refine qr_iinc _ 135 rfl g94439 (by decide) rfl rfl ?_
                          refine qr_goto 18 rfl rfl ?_
                          exact ih94091 _ (u94079 + 1) α94443 (by omega) (qm_gk g94437 (by decide) (Or.inl (by decide))) (qm_gk g94438 (by decide) (Or.inr rfl)) (qm_ge _ _ _) (by omega) hI94444 hF94445 hk94446 hx88520 (qfs_i hx94087 (fun hc => by obtain ⟨_, _, _, i, hi, h1⟩ := hc; exact hx94450 i (by omega) h1)) hx94451 hx94452
                        · skip
                          refine qr_aload_n 78 rfl g94437 rfl ?_
                          refine qr_get 81 rfl rfl rfl (by decide) rfl ?_
                          refine qr_iload_n 82 rfl g94440 rfl ?_
                          refine qr_iaload 83 rfl rfl (by omega) (by decide) rfl ?_
                          refine qr_topI (fun v94456 hv94456 => ?_)
                          have hs94457 : 0 ≤ v94456 ∧ v94456 ≤ 3131 := by rw [hv94456]; exact hI94444.2.1 71 _ (show _ < 31 by omega)
                          have hrv94456 : v94456 = (α 71) (u94441 : Int).toNat := hv94456.trans (congrFun hk94446 _)
                          have hs94458 : v94456 % 100 ≤ 31 := by rw [hv94456]; exact hI94444.2.2.2.2.1 71 (Or.inl rfl) _ (by omega)
                          refine qr_bipush 85 rfl (by decide) rfl ?_
                          refine qr_idiv 86 rfl (qrg hs94457 (by decide) (by decide)) (by decide) rfl ?_
                          refine qr_iload_n 87 rfl g94439 rfl ?_
                          refine qr_icmp_eq 93 90 rfl rfl rfl (by omega) (qrg hf94085 (by decide) (by decide)) (fun h94459 => ?_) (fun h94459 => ?_)
                          · skip
                            refine qr_aload_n 94 rfl g94437 rfl ?_
                            refine qr_get 97 rfl rfl rfl (by decide) rfl ?_
                            refine qr_iconst 98 rfl rfl ?_
                            refine qr_iload_n 99 rfl g94438 rfl ?_
                            refine qr_iload_n 100 rfl g94439 rfl ?_
                            refine qr_aload_n 101 rfl g94437 rfl ?_
                            refine qr_get 104 rfl rfl rfl (by decide) rfl ?_
                            refine qr_iload_n 105 rfl g94440 rfl ?_
                            refine qr_iaload 106 rfl rfl (by omega) (by decide) rfl ?_
                            refine qr_topI (fun v94460 hv94460 => ?_)
                            have hs94461 : 0 ≤ v94460 ∧ v94460 ≤ 3131 := by rw [hv94460]; exact hI94444.2.1 71 _ (show _ < 31 by omega)
                            have hrv94460 : v94460 = (α 71) (u94441 : Int).toNat := hv94460.trans (congrFun hk94446 _)
                            have hs94462 : v94460 % 100 ≤ 31 := by rw [hv94460]; exact hI94444.2.2.2.2.1 71 (Or.inl rfl) _ (by omega)
                            refine qr_bipush 108 rfl (by decide) rfl ?_
                            refine qr_irem 109 rfl (qrg hs94461 (by decide) (by decide)) (by decide) rfl ?_
                            refine qr_aload_n 110 rfl g94437 rfl ?_
                            refine qr_get 113 rfl rfl rfl (by decide) rfl ?_
                            have hs94463 : (-9223372036854775808) ≤ σ 27 6 ∧ σ 27 6 ≤ 9223372036854775807 := hI94444.1 27 6
                            have hs94464 : 0 ≤ σ 27 7 ∧ σ 27 7 ≤ 40 := hI94444.1 27 7
                            have hs94465 : 0 ≤ σ 34 7 ∧ σ 34 7 ≤ 60 := hI94444.1 34 7
                            have hs94466 : (-2147483648) ≤ σ 58 11 ∧ σ 58 11 ≤ 2147483647 := hI94444.1 58 11
                            have hs94467 : (-2147483648) ≤ σ 58 12 ∧ σ 58 12 ≤ 2147483647 := hI94444.1 58 12
                            refine qr_callN 116 rfl rfl rfl (sf_90_58x (d := d + 0) hI94444 (by decide) (by omega) (by omega) (by omega) hz70_3 (by omega) (qPW_fr hF94445 (by decide) (by decide) p0) (by rw [hF94445.2 24 (by decide), hF94445.2 28 (by decide), hF94445.2 29 (by decide), hF94445.2 30 (by decide), hF94445.2 31 (by decide), hF94445.2 33 (by decide)]; exact hx94451) (by rw [hF94445.2 22 (by decide), hF94445.2 35 (by decide), hF94445.2 36 (by decide), hF94445.2 37 (by decide), hF94445.2 40 (by decide), hF94445.2 41 (by decide)]; exact hx94452) (qZp_fr hF94445 (by decide) (by decide) p3)) ?_
                            rintro _ _ ⟨α94472, rfl, hI94473, hG94474, v94468, rfl, hv94468, hx94469, hx94470, hx94471⟩
                            have hF94475 : qFr [] [53, 57, 59, 60, 61, 62, 63, 85] σ α σ α94472 := qFr_t hF94445 hG94474 (by decide) (by decide)
                            rw [hF94445.2 24 (by decide), hF94445.2 28 (by decide), hF94445.2 29 (by decide), hF94445.2 30 (by decide), hF94445.2 31 (by decide), hF94445.2 33 (by decide)] at hx94470
                            rw [hF94445.2 22 (by decide), hF94445.2 35 (by decide), hF94445.2 36 (by decide), hF94445.2 37 (by decide), hF94445.2 40 (by decide), hF94445.2 41 (by decide)] at hx94471
                            show qr_W (qe L xs vb) (d + 4) qx_e137 _ (116, _, [.int (qz v94468)], qw σ α94472 κ ρ, 0, 0)
                            rw [qNVc_fr hF94445 (by decide) (by decide)] at hx94469
                            refine qr_if_eq 126 119 rfl rfl rfl hv94468 (fun h94476 => ?_) (fun h94476 => ?_)
                            · skip
                              refine qr_iinc _ 129 rfl g94440 (by decide) rfl rfl ?_
                              refine qr_goto 69 rfl rfl ?_
                              exact ih94454 _ (u94441 + 1) α94472 (by omega) (qm_gk g94437 (by decide) (Or.inl (by decide))) (qm_gk g94438 (by decide) (Or.inl (by decide))) (qm_gk g94439 (by decide) (Or.inr rfl)) (qm_ge _ _ _) (by omega) hI94473 hF94475 ((hG94474.2 71 (by decide)).trans hk94446) hx88520 hx94087 (qfs_n (by omega) hx94450 (fun hc => hc.2 (by rw [show (α 71) (u94441 : Int).toNat = v94460 from hrv94460.symm, ← hx94469]; omega))) hx94470 hx94471
                            · skip
                              refine qr_bipush 121 rfl (by decide) rfl ?_
                              refine qr_iload_n 122 rfl g94438 rfl ?_
                              refine qr_imul 123 rfl rfl ?_
                              refine qr_iload_n 124 rfl g94439 rfl ?_
                              refine qr_iadd 125 rfl rfl ?_
                              refine qr_retI rfl rfl (by decide) (by decide) ?_
                              exact ⟨_, rfl, hI94473, hF94475, ((100 * u88513) + u94079), rfl, (by omega), by omega, (qFst_hit (p := u88513) (q := u94079) (by omega) (by omega) (by omega) (by omega) ⟨by omega, by omega, by omega, (u94441 : Int).toNat, by omega, by omega, by rw [show (α 71) (u94441 : Int).toNat = v94460 from hrv94460.symm, ← hx94469]; omega⟩ hx94086 hx94087), hx94470, hx94471⟩
                          · skip
                            refine qr_goto 126 rfl rfl ?_
                            refine qr_iinc _ 129 rfl g94440 (by decide) rfl rfl ?_
                            refine qr_goto 69 rfl rfl ?_
                            exact ih94454 _ (u94441 + 1) α94443 (by omega) (qm_gk g94437 (by decide) (Or.inl (by decide))) (qm_gk g94438 (by decide) (Or.inl (by decide))) (qm_gk g94439 (by decide) (Or.inr rfl)) (qm_ge _ _ _) (by omega) hI94444 hF94445 hk94446 hx88520 hx94087 (qfs_n (by omega) hx94450 (fun hc => absurd hc.1 (by omega))) hx94451 hx94452
                    exact hL94453 ((31 - 0 + 1 : Int)).toNat _ 0 α94081 (by omega) (qm_gk g94076 (by decide) (Or.inl (by decide))) (qm_gk g94077 (by decide) (Or.inl (by decide))) (qm_gk g94078 (by decide) (Or.inr rfl)) (qm_ge _ _ _) (by decide) hI94082 hF94083 hk94084 hx88520 hx94087 qfs_k hx94088 hx94089
                  · skip
                    refine qr_goto 132 rfl rfl ?_
                    refine qr_iinc _ 135 rfl g94078 (by decide) rfl rfl ?_
                    refine qr_goto 18 rfl rfl ?_
                    exact ih94091 _ (u94079 + 1) α94081 (by omega) (qm_gk g94076 (by decide) (Or.inl (by decide))) (qm_gk g94077 (by decide) (Or.inr rfl)) (qm_ge _ _ _) (by omega) hI94082 hF94083 hk94084 hx88520 (qfs_i hx94087 (fun hc => absurd hc.2.2.1 (by omega))) hx94088 hx94089
        exact hL94090 ((32 - 0 + 1 : Int)).toNat _ 0 α88515 (by omega) (qm_gk g88511 (by decide) (Or.inl (by decide))) (qm_gk g88512 (by decide) (Or.inr rfl)) (qm_ge _ _ _) (by decide) hI88516 hF88517 hk88518 hx88520 qfs_j hx88521 hx88522
  exact hL88523 ((32 - 0 + 1 : Int)).toNat _ 0 α (by omega) rfl rfl (by decide) hI hF0 rfl qfs_0 p1 p2

set_option maxHeartbeats 4000000 in
set_option maxRecDepth 20000 in
/-- OneRoof$Telling.firstHelp -/
theorem sf_137_73x {L : Nat} {xs : Nat → Int} {vb : Bool} {d : Nat} {σ α : Nat → Nat → Int} {κ : Nat → Option Nat} {ρ : Nat} {f : (Nat → Int) → Int} (hI : qI σ α κ ρ) (p0 : qPW σ α κ (1 : Int).toNat f) (p1 : qCaN (α 60) (α 61) (σ 58 12) (fun p q => qnF (qTb (α 24)) (α 28) (α 29) (α 31) (α 30) (α 33) (σ 27 6) (σ 27 7) p q (σ 58 11))) (p2 : qCaN (α 62) (α 63) (σ 58 12) (fun p q => qbs (qhF (α 35) (α 36) (α 37) (α 40) (qcv (α 41)) (qlw (α 22)) p q (σ 58 11)) (σ 34 7 : Int).toNat)) (p3 : qZp σ α) : qm_T (qe L xs vb) (d + 5) 137 [.ref 73] (qw σ α κ ρ) (fun r w' => ∃ α', w' = qw σ α' κ ρ ∧ qI σ α' κ ρ ∧ qFr [] [53, 57, 59, 60, 61, 62, 63, 85] σ α σ α' ∧ ∃ v : Int, r = some (.int (qz v)) ∧ ((-1) ≤ v ∧ v ≤ 3131) ∧ (v = -1 ∨ (0 ≤ v ∧ v / 100 ≤ 31 ∧ v % 100 ≤ 31 ∧ ¬ v / 100 = v % 100)) ∧ qFst (fun p s : Int => ¬ p = s ∧ qbit (σ 73 3) p = 1 ∧ qbit (ql_and (σ 73 3) (σ 73 6)) s = 1 ∧ ∃ i : Nat, (i : Int) < (σ 73 2) ∧ (fun i : Nat => (α 74) i / 100 = s ∧ ¬ f (qNVc σ α (σ 58 10) p s ((α 74) i % 100) (σ 73 3)) = 0) i) (σ 17 6) v ∧ qCaN (α' 60) (α' 61) (σ 58 12) (fun p q => qnF (qTb (α 24)) (α 28) (α 29) (α 31) (α 30) (α 33) (σ 27 6) (σ 27 7) p q (σ 58 11)) ∧ qCaN (α' 62) (α' 63) (σ 58 12) (fun p q => qbs (qhF (α 35) (α 36) (α 37) (α 40) (qcv (α 41)) (qlw (α 22)) p q (σ 58 11)) (σ 34 7 : Int).toNat)) := by
  refine qr_start (d := d + 4) qv_e137 (Nat.le_of_ble_eq_true rfl) ?_
  show qr_W (qe L xs vb) (d + 4) qx_e137 _ (0, [(0, .ref 73)], [], _, 0, 0)
  have hF0 := qFr_rf [] [53, 57, 59, 60, 61, 62, 63, 85] σ α
  have hz58_12 : (-2147483648) ≤ σ 58 12 ∧ σ 58 12 ≤ 2147483647 := hI.1 58 12
  have hz27_6 : (-9223372036854775808) ≤ σ 27 6 ∧ σ 27 6 ≤ 9223372036854775807 := hI.1 27 6
  have hz27_7 : 0 ≤ σ 27 7 ∧ σ 27 7 ≤ 40 := hI.1 27 7
  have hz58_11 : (-2147483648) ≤ σ 58 11 ∧ σ 58 11 ≤ 2147483647 := hI.1 58 11
  have hz34_7 : 0 ≤ σ 34 7 ∧ σ 34 7 ≤ 60 := hI.1 34 7
  have hz58_10 : (-9223372036854775808) ≤ σ 58 10 ∧ σ 58 10 ≤ 9223372036854775807 := hI.1 58 10
  have hz17_6 : 0 ≤ σ 17 6 ∧ σ 17 6 ≤ 32 := hI.1 17 6
  have hz73_2 : 0 ≤ σ 73 2 ∧ σ 73 2 ≤ 31 := hI.1 73 2
  have hz73_3 : (-9223372036854775808) ≤ σ 73 3 ∧ σ 73 3 ≤ 9223372036854775807 := hI.1 73 3
  have hz73_6 : (-9223372036854775808) ≤ σ 73 6 ∧ σ 73 6 ≤ 9223372036854775807 := hI.1 73 6
  refine qr_iconst 1 rfl rfl ?_
  refine qr_istore_n _ 2 rfl (by decide) rfl rfl ?_
  have hL88523 : ∀ (n : Nat) (ls : qm_L) (u88513 : Int) (α88515 : Nat → Nat → Int), 32 - u88513 < (n : Int) → qm_get ls 0 = some (.ref 73) → qm_get ls 1 = some (.int (qz u88513)) → (0 ≤ u88513 ∧ u88513 ≤ 32) → qI σ α88515 κ ρ → qFr [] [53, 57, 59, 60, 61, 62, 63, 85] σ α σ α88515 → α88515 74 = (α 74) → (∀ a b : Int, 0 ≤ a → a < u88513 → 0 ≤ b → b < (σ 17 6) → ¬ (fun p s : Int => ¬ p = s ∧ qbit (σ 73 3) p = 1 ∧ qbit (ql_and (σ 73 3) (σ 73 6)) s = 1 ∧ ∃ i : Nat, (i : Int) < (σ 73 2) ∧ (fun i : Nat => (α 74) i / 100 = s ∧ ¬ f (qNVc σ α (σ 58 10) p s ((α 74) i % 100) (σ 73 3)) = 0) i) a b) → qCaN (α88515 60) (α88515 61) (σ 58 12) (fun p q => qnF (qTb (α 24)) (α 28) (α 29) (α 31) (α 30) (α 33) (σ 27 6) (σ 27 7) p q (σ 58 11)) → qCaN (α88515 62) (α88515 63) (σ 58 12) (fun p q => qbs (qhF (α 35) (α 36) (α 37) (α 40) (qcv (α 41)) (qlw (α 22)) p q (σ 58 11)) (σ 34 7 : Int).toNat) → qr_W (qe L xs vb) (d + 4) qx_e137 (fun r w' => ∃ α', w' = qw σ α' κ ρ ∧ qI σ α' κ ρ ∧ qFr [] [53, 57, 59, 60, 61, 62, 63, 85] σ α σ α' ∧ ∃ v : Int, r = some (.int (qz v)) ∧ ((-1) ≤ v ∧ v ≤ 3131) ∧ (v = -1 ∨ (0 ≤ v ∧ v / 100 ≤ 31 ∧ v % 100 ≤ 31 ∧ ¬ v / 100 = v % 100)) ∧ qFst (fun p s : Int => ¬ p = s ∧ qbit (σ 73 3) p = 1 ∧ qbit (ql_and (σ 73 3) (σ 73 6)) s = 1 ∧ ∃ i : Nat, (i : Int) < (σ 73 2) ∧ (fun i : Nat => (α 74) i / 100 = s ∧ ¬ f (qNVc σ α (σ 58 10) p s ((α 74) i % 100) (σ 73 3)) = 0) i) (σ 17 6) v ∧ qCaN (α' 60) (α' 61) (σ 58 12) (fun p q => qnF (qTb (α 24)) (α 28) (α 29) (α 31) (α 30) (α 33) (σ 27 6) (σ 27 7) p q (σ 58 11)) ∧ qCaN (α' 62) (α' 63) (σ 58 12) (fun p q => qbs (qhF (α 35) (α 36) (α 37) (α 40) (qcv (α 41)) (qlw (α 22)) p q (σ 58 11)) (σ 34 7 : Int).toNat)) (2, ls, [], qw σ α88515 κ ρ, 0, 0) := by
    intro n
    induction n with
    | zero => intro ls u88513 α88515 hm g88511 g88512 hf88519 hI88516 hF88517 hk88518 hx88520 hx88521 hx88522; exact False.elim (by omega)
    | succ n ih88524 =>
      intro ls u88513 α88515 hm g88511 g88512 hf88519 hI88516 hF88517 hk88518 hx88520 hx88521 hx88522
      refine qr_iload_n 3 rfl g88512 rfl ?_
      refine qr_aload_n 4 rfl g88511 rfl ?_
      refine qr_get 7 rfl rfl rfl (by decide) rfl ?_
      refine qr_get 10 rfl rfl rfl (by decide) rfl ?_
      refine qr_get 13 rfl rfl rfl (by decide) rfl ?_
      refine qr_icmp_ge 144 16 rfl rfl rfl (qrg hf88519 (by decide) (by decide)) (qrg hz17_6 (by decide) (by decide)) (fun h88525 => ?_) (fun h88525 => ?_)
      · skip
        refine qr_iconst 145 rfl rfl ?_
        refine qr_retI rfl rfl (by decide) (by decide) ?_
        exact ⟨_, rfl, hI88516, hF88517, (-1), rfl, (by decide), by omega, (qFst_no rfl (by omega) hx88520), hx88521, hx88522⟩
      · skip
        refine qr_iconst 17 rfl rfl ?_
        refine qr_istore_n _ 18 rfl (by decide) rfl rfl ?_
        have hL94090 : ∀ (n : Nat) (ls : qm_L) (u94079 : Int) (α94081 : Nat → Nat → Int), 32 - u94079 < (n : Int) → qm_get ls 0 = some (.ref 73) → qm_get ls 1 = some (.int (qz u88513)) → qm_get ls 2 = some (.int (qz u94079)) → (0 ≤ u94079 ∧ u94079 ≤ 32) → qI σ α94081 κ ρ → qFr [] [53, 57, 59, 60, 61, 62, 63, 85] σ α σ α94081 → α94081 74 = (α 74) → (∀ a b : Int, 0 ≤ a → a < u88513 → 0 ≤ b → b < (σ 17 6) → ¬ (fun p s : Int => ¬ p = s ∧ qbit (σ 73 3) p = 1 ∧ qbit (ql_and (σ 73 3) (σ 73 6)) s = 1 ∧ ∃ i : Nat, (i : Int) < (σ 73 2) ∧ (fun i : Nat => (α 74) i / 100 = s ∧ ¬ f (qNVc σ α (σ 58 10) p s ((α 74) i % 100) (σ 73 3)) = 0) i) a b) → (∀ b : Int, 0 ≤ b → b < u94079 → ¬ (fun p s : Int => ¬ p = s ∧ qbit (σ 73 3) p = 1 ∧ qbit (ql_and (σ 73 3) (σ 73 6)) s = 1 ∧ ∃ i : Nat, (i : Int) < (σ 73 2) ∧ (fun i : Nat => (α 74) i / 100 = s ∧ ¬ f (qNVc σ α (σ 58 10) p s ((α 74) i % 100) (σ 73 3)) = 0) i) u88513 b) → qCaN (α94081 60) (α94081 61) (σ 58 12) (fun p q => qnF (qTb (α 24)) (α 28) (α 29) (α 31) (α 30) (α 33) (σ 27 6) (σ 27 7) p q (σ 58 11)) → qCaN (α94081 62) (α94081 63) (σ 58 12) (fun p q => qbs (qhF (α 35) (α 36) (α 37) (α 40) (qcv (α 41)) (qlw (α 22)) p q (σ 58 11)) (σ 34 7 : Int).toNat) → qr_W (qe L xs vb) (d + 4) qx_e137 (fun r w' => ∃ α', w' = qw σ α' κ ρ ∧ qI σ α' κ ρ ∧ qFr [] [53, 57, 59, 60, 61, 62, 63, 85] σ α σ α' ∧ ∃ v : Int, r = some (.int (qz v)) ∧ ((-1) ≤ v ∧ v ≤ 3131) ∧ (v = -1 ∨ (0 ≤ v ∧ v / 100 ≤ 31 ∧ v % 100 ≤ 31 ∧ ¬ v / 100 = v % 100)) ∧ qFst (fun p s : Int => ¬ p = s ∧ qbit (σ 73 3) p = 1 ∧ qbit (ql_and (σ 73 3) (σ 73 6)) s = 1 ∧ ∃ i : Nat, (i : Int) < (σ 73 2) ∧ (fun i : Nat => (α 74) i / 100 = s ∧ ¬ f (qNVc σ α (σ 58 10) p s ((α 74) i % 100) (σ 73 3)) = 0) i) (σ 17 6) v ∧ qCaN (α' 60) (α' 61) (σ 58 12) (fun p q => qnF (qTb (α 24)) (α 28) (α 29) (α 31) (α 30) (α 33) (σ 27 6) (σ 27 7) p q (σ 58 11)) ∧ qCaN (α' 62) (α' 63) (σ 58 12) (fun p q => qbs (qhF (α 35) (α 36) (α 37) (α 40) (qcv (α 41)) (qlw (α 22)) p q (σ 58 11)) (σ 34 7 : Int).toNat)) (18, ls, [], qw σ α94081 κ ρ, 0, 0) := by
          intro n
          induction n with
          | zero => intro ls u94079 α94081 hm g94076 g94077 g94078 hf94085 hI94082 hF94083 hk94084 hx94086 hx94087 hx94088 hx94089; exact False.elim (by omega)
          | succ n ih94091 =>
            intro ls u94079 α94081 hm g94076 g94077 g94078 hf94085 hI94082 hF94083 hk94084 hx94086 hx94087 hx94088 hx94089
            refine qr_iload_n 19 rfl g94078 rfl ?_
            refine qr_aload_n 20 rfl g94076 rfl ?_
            refine qr_get 23 rfl rfl rfl (by decide) rfl ?_
            refine qr_get 26 rfl rfl rfl (by decide) rfl ?_
            refine qr_get 29 rfl rfl rfl (by decide) rfl ?_
            refine qr_icmp_ge 138 32 rfl rfl rfl (qrg hf94085 (by decide) (by decide)) (qrg hz17_6 (by decide) (by decide)) (fun h94092 => ?_) (fun h94092 => ?_)
            · skip
              refine qr_iinc _ 141 rfl g94077 (by decide) rfl rfl ?_
              refine qr_goto 2 rfl rfl ?_
              exact ih88524 _ (u88513 + 1) α94081 (by omega) (qm_gk g94076 (by decide) (Or.inr rfl)) (qm_ge _ _ _) (by omega) hI94082 hF94083 hk94084 (qfs_o hx88520 (fun b h1 h2 => hx94087 b h1 (by omega))) hx94088 hx94089
            · skip
              refine qr_iload_n 33 rfl g94077 rfl ?_
              refine qr_iload_n 34 rfl g94078 rfl ?_
              refine qr_icmp_eq 132 37 rfl rfl rfl (qrg hf88519 (by decide) (by decide)) (qrg hf94085 (by decide) (by decide)) (fun h94093 => ?_) (fun h94093 => ?_)
              · skip
                refine qr_iinc _ 135 rfl g94078 (by decide) rfl rfl ?_
                refine qr_goto 18 rfl rfl ?_
                exact ih94091 _ (u94079 + 1) α94081 (by omega) (qm_gk g94076 (by decide) (Or.inl (by decide))) (qm_gk g94077 (by decide) (Or.inr rfl)) (qm_ge _ _ _) (by omega) hI94082 hF94083 hk94084 hx88520 (qfs_i hx94087 (fun hc => hc.1 (by omega))) hx94088 hx94089
              · skip
                refine qr_aload_n 38 rfl g94076 rfl ?_
                refine qr_get 41 rfl rfl rfl (by decide) rfl ?_
                refine qr_iload_n 42 rfl g94077 rfl ?_
                refine qr_callN 45 rfl rfl rfl (sf_50b (d := d + 3) hI94082 hz73_3 (qrg hf88519 (by decide) (by decide))) ?_
                rintro _ _ ⟨rfl, v94094, rfl, hv94094, hp94095⟩
                show qr_W (qe L xs vb) (d + 4) qx_e137 _ (45, _, [.int (qz v94094)], qw σ α94081 κ ρ, 0, 0)
                refine qr_if_eq 132 48 rfl rfl rfl (qrg hv94094 (by decide) (by decide)) (fun h94096 => ?_) (fun h94096 => ?_)
                · skip
                  refine qr_iinc _ 135 rfl g94078 (by decide) rfl rfl ?_
                  refine qr_goto 18 rfl rfl ?_
                  exact ih94091 _ (u94079 + 1) α94081 (by omega) (qm_gk g94076 (by decide) (Or.inl (by decide))) (qm_gk g94077 (by decide) (Or.inr rfl)) (qm_ge _ _ _) (by omega) hI94082 hF94083 hk94084 hx88520 (qfs_i hx94087 (fun hc => absurd hc.2.1 (by omega))) hx94088 hx94089
                · skip
                  refine qr_aload_n 49 rfl g94076 rfl ?_
                  refine qr_get 52 rfl rfl rfl (by decide) rfl ?_
                  refine qr_aload_n 53 rfl g94076 rfl ?_
                  refine qr_get 56 rfl rfl rfl (by decide) rfl ?_
                  refine qr_land 57 rfl rfl ?_
                  refine qy_canlE (fun v94097 hv94097 hev94097 => ?_)
                  refine qr_iload_n 58 rfl g94078 rfl ?_
                  refine qr_callN 61 rfl rfl rfl (sf_50b (d := d + 3) hI94082 hv94097 (qrg hf94085 (by decide) (by decide))) ?_
                  rintro _ _ ⟨rfl, v94098, rfl, hv94098, hp94099⟩
                  show qr_W (qe L xs vb) (d + 4) qx_e137 _ (61, _, [.int (qz v94098)], qw σ α94081 κ ρ, 0, 0)
                  rw [ql_val hev94097 (by omega) (ql_and_r _ _)] at hp94099
                  refine qr_if_ne 67 64 rfl rfl rfl (qrg hv94098 (by decide) (by decide)) (fun h94100 => ?_) (fun h94100 => ?_)
                  · skip
                    refine qr_iconst 68 rfl rfl ?_
                    refine qr_istore_n _ 69 rfl (by decide) rfl rfl ?_
                    have hL94453 : ∀ (n : Nat) (ls : qm_L) (u94441 : Int) (α94443 : Nat → Nat → Int), 31 - u94441 < (n : Int) → qm_get ls 0 = some (.ref 73) → qm_get ls 1 = some (.int (qz u88513)) → qm_get ls 2 = some (.int (qz u94079)) → qm_get ls 3 = some (.int (qz u94441)) → (0 ≤ u94441 ∧ u94441 ≤ 31) → qI σ α94443 κ ρ → qFr [] [53, 57, 59, 60, 61, 62, 63, 85] σ α σ α94443 → α94443 74 = (α 74) → (∀ a b : Int, 0 ≤ a → a < u88513 → 0 ≤ b → b < (σ 17 6) → ¬ (fun p s : Int => ¬ p = s ∧ qbit (σ 73 3) p = 1 ∧ qbit (ql_and (σ 73 3) (σ 73 6)) s = 1 ∧ ∃ i : Nat, (i : Int) < (σ 73 2) ∧ (fun i : Nat => (α 74) i / 100 = s ∧ ¬ f (qNVc σ α (σ 58 10) p s ((α 74) i % 100) (σ 73 3)) = 0) i) a b) → (∀ b : Int, 0 ≤ b → b < u94079 → ¬ (fun p s : Int => ¬ p = s ∧ qbit (σ 73 3) p = 1 ∧ qbit (ql_and (σ 73 3) (σ 73 6)) s = 1 ∧ ∃ i : Nat, (i : Int) < (σ 73 2) ∧ (fun i : Nat => (α 74) i / 100 = s ∧ ¬ f (qNVc σ α (σ 58 10) p s ((α 74) i % 100) (σ 73 3)) = 0) i) u88513 b) → (∀ i : Nat, (i : Int) < u94441 → ¬ (fun i : Nat => (α 74) i / 100 = u94079 ∧ ¬ f (qNVc σ α (σ 58 10) u88513 u94079 ((α 74) i % 100) (σ 73 3)) = 0) i) → qCaN (α94443 60) (α94443 61) (σ 58 12) (fun p q => qnF (qTb (α 24)) (α 28) (α 29) (α 31) (α 30) (α 33) (σ 27 6) (σ 27 7) p q (σ 58 11)) → qCaN (α94443 62) (α94443 63) (σ 58 12) (fun p q => qbs (qhF (α 35) (α 36) (α 37) (α 40) (qcv (α 41)) (qlw (α 22)) p q (σ 58 11)) (σ 34 7 : Int).toNat) → qr_W (qe L xs vb) (d + 4) qx_e137 (fun r w' => ∃ α', w' = qw σ α' κ ρ ∧ qI σ α' κ ρ ∧ qFr [] [53, 57, 59, 60, 61, 62, 63, 85] σ α σ α' ∧ ∃ v : Int, r = some (.int (qz v)) ∧ ((-1) ≤ v ∧ v ≤ 3131) ∧ (v = -1 ∨ (0 ≤ v ∧ v / 100 ≤ 31 ∧ v % 100 ≤ 31 ∧ ¬ v / 100 = v % 100)) ∧ qFst (fun p s : Int => ¬ p = s ∧ qbit (σ 73 3) p = 1 ∧ qbit (ql_and (σ 73 3) (σ 73 6)) s = 1 ∧ ∃ i : Nat, (i : Int) < (σ 73 2) ∧ (fun i : Nat => (α 74) i / 100 = s ∧ ¬ f (qNVc σ α (σ 58 10) p s ((α 74) i % 100) (σ 73 3)) = 0) i) (σ 17 6) v ∧ qCaN (α' 60) (α' 61) (σ 58 12) (fun p q => qnF (qTb (α 24)) (α 28) (α 29) (α 31) (α 30) (α 33) (σ 27 6) (σ 27 7) p q (σ 58 11)) ∧ qCaN (α' 62) (α' 63) (σ 58 12) (fun p q => qbs (qhF (α 35) (α 36) (α 37) (α 40) (qcv (α 41)) (qlw (α 22)) p q (σ 58 11)) (σ 34 7 : Int).toNat)) (69, ls, [], qw σ α94443 κ ρ, 0, 0) := by
                      intro n
                      induction n with
                      | zero => intro ls u94441 α94443 hm g94437 g94438 g94439 g94440 hf94447 hI94444 hF94445 hk94446 hx94448 hx94449 hx94450 hx94451 hx94452; exact False.elim (by omega)
                      | succ n ih94454 =>
                        intro ls u94441 α94443 hm g94437 g94438 g94439 g94440 hf94447 hI94444 hF94445 hk94446 hx94448 hx94449 hx94450 hx94451 hx94452
                        refine qr_iload_n 70 rfl g94440 rfl ?_
                        refine qr_aload_n 71 rfl g94437 rfl ?_
                        refine qr_get 74 rfl rfl rfl (by decide) rfl ?_
                        refine qr_icmp_ge 132 77 rfl rfl rfl (qrg hf94447 (by decide) (by decide)) (qrg hz73_2 (by decide) (by decide)) (fun h94455 => ?_) (fun h94455 => ?_)
                        · skip
                          refine qr_iinc _ 135 rfl g94439 (by decide) rfl rfl ?_
                          refine qr_goto 18 rfl rfl ?_
                          exact ih94091 _ (u94079 + 1) α94443 (by omega) (qm_gk g94437 (by decide) (Or.inl (by decide))) (qm_gk g94438 (by decide) (Or.inr rfl)) (qm_ge _ _ _) (by omega) hI94444 hF94445 hk94446 hx88520 (qfs_i hx94087 (fun hc => by obtain ⟨_, _, _, i, hi, h1⟩ := hc; exact hx94450 i (by omega) h1)) hx94451 hx94452
                        · skip
                          refine qr_aload_n 78 rfl g94437 rfl ?_
                          refine qr_get 81 rfl rfl rfl (by decide) rfl ?_
                          refine qr_iload_n 82 rfl g94440 rfl ?_
                          refine qr_iaload 83 rfl rfl (by omega) (by decide) rfl ?_
                          refine qr_topI (fun v94456 hv94456 => ?_)
                          have hs94457 : 0 ≤ v94456 ∧ v94456 ≤ 3131 := by rw [hv94456]; exact hI94444.2.1 74 _ (show _ < 31 by omega)
                          have hrv94456 : v94456 = (α 74) (u94441 : Int).toNat := hv94456.trans (congrFun hk94446 _)
                          have hs94458 : v94456 % 100 ≤ 31 := by rw [hv94456]; exact hI94444.2.2.2.2.1 74 (Or.inr rfl) _ (by omega)
                          refine qr_bipush 85 rfl (by decide) rfl ?_
                          refine qr_idiv 86 rfl (qrg hs94457 (by decide) (by decide)) (by decide) rfl ?_
                          refine qr_iload_n 87 rfl g94439 rfl ?_
                          refine qr_icmp_eq 93 90 rfl rfl rfl (by omega) (qrg hf94085 (by decide) (by decide)) (fun h94459 => ?_) (fun h94459 => ?_)
                          · skip
                            refine qr_aload_n 94 rfl g94437 rfl ?_
                            refine qr_get 97 rfl rfl rfl (by decide) rfl ?_
                            refine qr_iconst 98 rfl rfl ?_
                            refine qr_iload_n 99 rfl g94438 rfl ?_
                            refine qr_iload_n 100 rfl g94439 rfl ?_
                            refine qr_aload_n 101 rfl g94437 rfl ?_
                            refine qr_get 104 rfl rfl rfl (by decide) rfl ?_
                            refine qr_iload_n 105 rfl g94440 rfl ?_
                            refine qr_iaload 106 rfl rfl (by omega) (by decide) rfl ?_
                            refine qr_topI (fun v94460 hv94460 => ?_)
                            have hs94461 : 0 ≤ v94460 ∧ v94460 ≤ 3131 := by rw [hv94460]; exact hI94444.2.1 74 _ (show _ < 31 by omega)
                            have hrv94460 : v94460 = (α 74) (u94441 : Int).toNat := hv94460.trans (congrFun hk94446 _)
                            have hs94462 : v94460 % 100 ≤ 31 := by rw [hv94460]; exact hI94444.2.2.2.2.1 74 (Or.inr rfl) _ (by omega)
                            refine qr_bipush 108 rfl (by decide) rfl ?_
                            refine qr_irem 109 rfl (qrg hs94461 (by decide) (by decide)) (by decide) rfl ?_
                            refine qr_aload_n 110 rfl g94437 rfl ?_
                            refine qr_get 113 rfl rfl rfl (by decide) rfl ?_
                            have hs94463 : (-9223372036854775808) ≤ σ 27 6 ∧ σ 27 6 ≤ 9223372036854775807 := hI94444.1 27 6
                            have hs94464 : 0 ≤ σ 27 7 ∧ σ 27 7 ≤ 40 := hI94444.1 27 7
                            have hs94465 : 0 ≤ σ 34 7 ∧ σ 34 7 ≤ 60 := hI94444.1 34 7
                            have hs94466 : (-2147483648) ≤ σ 58 11 ∧ σ 58 11 ≤ 2147483647 := hI94444.1 58 11
                            have hs94467 : (-2147483648) ≤ σ 58 12 ∧ σ 58 12 ≤ 2147483647 := hI94444.1 58 12
                            refine qr_callN 116 rfl rfl rfl (sf_90_58x (d := d + 0) hI94444 (by decide) (by omega) (by omega) (by omega) hz73_3 (by omega) (qPW_fr hF94445 (by decide) (by decide) p0) (by rw [hF94445.2 24 (by decide), hF94445.2 28 (by decide), hF94445.2 29 (by decide), hF94445.2 30 (by decide), hF94445.2 31 (by decide), hF94445.2 33 (by decide)]; exact hx94451) (by rw [hF94445.2 22 (by decide), hF94445.2 35 (by decide), hF94445.2 36 (by decide), hF94445.2 37 (by decide), hF94445.2 40 (by decide), hF94445.2 41 (by decide)]; exact hx94452) (qZp_fr hF94445 (by decide) (by decide) p3)) ?_
                            rintro _ _ ⟨α94472, rfl, hI94473, hG94474, v94468, rfl, hv94468, hx94469, hx94470, hx94471⟩
                            have hF94475 : qFr [] [53, 57, 59, 60, 61, 62, 63, 85] σ α σ α94472 := qFr_t hF94445 hG94474 (by decide) (by decide)
                            rw [hF94445.2 24 (by decide), hF94445.2 28 (by decide), hF94445.2 29 (by decide), hF94445.2 30 (by decide), hF94445.2 31 (by decide), hF94445.2 33 (by decide)] at hx94470
                            rw [hF94445.2 22 (by decide), hF94445.2 35 (by decide), hF94445.2 36 (by decide), hF94445.2 37 (by decide), hF94445.2 40 (by decide), hF94445.2 41 (by decide)] at hx94471
                            show qr_W (qe L xs vb) (d + 4) qx_e137 _ (116, _, [.int (qz v94468)], qw σ α94472 κ ρ, 0, 0)
                            rw [qNVc_fr hF94445 (by decide) (by decide)] at hx94469
                            refine qr_if_eq 126 119 rfl rfl rfl hv94468 (fun h94476 => ?_) (fun h94476 => ?_)
                            · skip
                              refine qr_iinc _ 129 rfl g94440 (by decide) rfl rfl ?_
                              refine qr_goto 69 rfl rfl ?_
                              exact ih94454 _ (u94441 + 1) α94472 (by omega) (qm_gk g94437 (by decide) (Or.inl (by decide))) (qm_gk g94438 (by decide) (Or.inl (by decide))) (qm_gk g94439 (by decide) (Or.inr rfl)) (qm_ge _ _ _) (by omega) hI94473 hF94475 ((hG94474.2 74 (by decide)).trans hk94446) hx88520 hx94087 (qfs_n (by omega) hx94450 (fun hc => hc.2 (by rw [show (α 74) (u94441 : Int).toNat = v94460 from hrv94460.symm, ← hx94469]; omega))) hx94470 hx94471
                            · skip
                              refine qr_bipush 121 rfl (by decide) rfl ?_
                              refine qr_iload_n 122 rfl g94438 rfl ?_
                              refine qr_imul 123 rfl rfl ?_
                              refine qr_iload_n 124 rfl g94439 rfl ?_
                              refine qr_iadd 125 rfl rfl ?_
                              refine qr_retI rfl rfl (by decide) (by decide) ?_
                              exact ⟨_, rfl, hI94473, hF94475, ((100 * u88513) + u94079), rfl, (by omega), by omega, (qFst_hit (p := u88513) (q := u94079) (by omega) (by omega) (by omega) (by omega) ⟨by omega, by omega, by omega, (u94441 : Int).toNat, by omega, by omega, by rw [show (α 74) (u94441 : Int).toNat = v94460 from hrv94460.symm, ← hx94469]; omega⟩ hx94086 hx94087), hx94470, hx94471⟩
                          · skip
                            refine qr_goto 126 rfl rfl ?_
                            refine qr_iinc _ 129 rfl g94440 (by decide) rfl rfl ?_
                            refine qr_goto 69 rfl rfl ?_
                            exact ih94454 _ (u94441 + 1) α94443 (by omega) (qm_gk g94437 (by decide) (Or.inl (by decide))) (qm_gk g94438 (by decide) (Or.inl (by decide))) (qm_gk g94439 (by decide) (Or.inr rfl)) (qm_ge _ _ _) (by omega) hI94444 hF94445 hk94446 hx88520 hx94087 (qfs_n (by omega) hx94450 (fun hc => absurd hc.1 (by omega))) hx94451 hx94452
                    exact hL94453 ((31 - 0 + 1 : Int)).toNat _ 0 α94081 (by omega) (qm_gk g94076 (by decide) (Or.inl (by decide))) (qm_gk g94077 (by decide) (Or.inl (by decide))) (qm_gk g94078 (by decide) (Or.inr rfl)) (qm_ge _ _ _) (by decide) hI94082 hF94083 hk94084 hx88520 hx94087 qfs_k hx94088 hx94089
                  · skip
                    refine qr_goto 132 rfl rfl ?_
                    refine qr_iinc _ 135 rfl g94078 (by decide) rfl rfl ?_
                    refine qr_goto 18 rfl rfl ?_
                    exact ih94091 _ (u94079 + 1) α94081 (by omega) (qm_gk g94076 (by decide) (Or.inl (by decide))) (qm_gk g94077 (by decide) (Or.inr rfl)) (qm_ge _ _ _) (by omega) hI94082 hF94083 hk94084 hx88520 (qfs_i hx94087 (fun hc => absurd hc.2.2.1 (by omega))) hx94088 hx94089
        exact hL94090 ((32 - 0 + 1 : Int)).toNat _ 0 α88515 (by omega) (qm_gk g88511 (by decide) (Or.inl (by decide))) (qm_gk g88512 (by decide) (Or.inr rfl)) (qm_ge _ _ _) (by decide) hI88516 hF88517 hk88518 hx88520 qfs_j hx88521 hx88522
  exact hL88523 ((32 - 0 + 1 : Int)).toNat _ 0 α (by omega) rfl rfl (by decide) hI hF0 rfl qfs_0 p1 p2
end
section
set_option maxHeartbeats 4000000 in
set_option maxRecDepth 20000 in
/-- OneRoofModel.has -/
theorem sf_226x {L : Nat} {xs : Nat → Int} {vb : Bool} {d : Nat} {σ α : Nat → Nat → Int} {κ : Nat → Option Nat} {ρ : Nat} {x0 : Int} {x1 : Int} (hI : qI σ α κ ρ) (r0 : (-9223372036854775808) ≤ x0 ∧ x0 ≤ 9223372036854775807) (r1 : 0 ≤ x1 ∧ x1 ≤ 31) : qm_T (qe L xs vb) (d + 1) 226 [.long (ql x0), .int (qz x1)] (qw σ α κ ρ) (fun r w' => w' = qw σ α κ ρ ∧ ∃ v : Int, r = some (.int (qz v)) ∧ (0 ≤ v ∧ v ≤ 1) ∧ v = qbit x0 x1) := by
  refine qr_start (d := d + 0) qv_e226 (Nat.le_of_ble_eq_true rfl) ?_
  show qr_W (qe L xs vb) (d + 0) qx_e226 _ (0, [(0, .long (ql x0)), (2, .int (qz x1))], [], _, 0, 0)
  refine qr_lload_n 1 rfl rfl rfl ?_
  refine qr_iload_n 2 rfl rfl rfl ?_
  refine qr_lshr 3 rfl rfl ?_
  refine qy_canlE (fun v1 hv1 hev1 => ?_)
  refine qr_lconst 4 rfl rfl ?_
  refine qy_vl 1 rfl ?_
  refine qr_land 5 rfl rfl ?_
  refine qy_canlE (fun v2 hv2 hev2 => ?_)
  refine qr_lconst 6 rfl rfl ?_
  refine qy_vl 1 rfl ?_
  refine qr_lc_ne 14 10 rfl rfl rfl rfl hv2 (by decide) (fun h3 => ?_) (fun h3 => ?_)
  · skip
    refine qr_iconst 15 rfl rfl ?_
    refine qr_retZ rfl rfl (Or.inl rfl) (by decide) (by decide) ?_
    exact ⟨rfl, 0, rfl, (by decide), (by have hq0 := qbit_inS (t := x0) (i := x1) (by omega) (by omega) hev1 hev2; omega)⟩
  · skip
    refine qr_iconst 11 rfl rfl ?_
    refine qr_goto 15 rfl rfl ?_
    refine qr_retZ rfl rfl (Or.inr rfl) (by decide) (by decide) ?_
    exact ⟨rfl, 1, rfl, (by decide), (by have hq0 := qbit_inS (t := x0) (i := x1) (by omega) (by omega) hev1 hev2; omega)⟩

set_option maxHeartbeats 4000000 in
set_option maxRecDepth 20000 in
/-- OneRoofModel.mustNow -/
theorem sf_227_86x {L : Nat} {xs : Nat → Int} {vb : Bool} {d : Nat} {σ α : Nat → Nat → Int} {κ : Nat → Option Nat} {ρ : Nat} {x1 : Int} {x2 : Int} {x3 : Int} {x4 : Int} {g : (Nat → Int) → Int} (hI : qI σ α κ ρ) (r1 : 0 ≤ x1 ∧ x1 ≤ 31) (r2 : 0 ≤ x2 ∧ x2 ≤ 31) (r3 : (-9223372036854775808) ≤ x3 ∧ x3 ≤ 9223372036854775807) (r4 : (-2147483648) ≤ x4 ∧ x4 ≤ 2147483647) (p0 : ¬ x1 = x2) (p1 : qPG σ α 0 g) (p2 : qZf σ α) (p3 : qZk σ α) (p4 : x1 < σ 86 6 ∧ x2 < σ 86 6) : qm_T (qe L xs vb) (d + 47) 227 [.ref 86, .int (qz x1), .int (qz x2), .long (ql x3), .int (qz x4)] (qw σ α κ ρ) (fun r w' => ∃ σ' α', w' = qw σ' α' κ ρ ∧ qI σ' α' κ ρ ∧ qFr [(86, 15), (86, 23), (86, 30), (86, 35), (86, 36), (86, 37), (86, 38), (86, 39)] [96, 109] σ α σ' α' ∧ ∃ v : Int, r = some (.int (qz v)) ∧ ((-2147483648) ≤ v ∧ v ≤ 2147483647) ∧ v = g (qNVr σ α (σ 86 29) (σ 86 10) x1 x2 (-1) x3 x4)) := by
  refine qr_start (d := d + 46) qv_e227 (Nat.le_of_ble_eq_true rfl) ?_
  show qr_W (qe L xs vb) (d + 46) qx_e227 _ (0, [(0, .ref 86), (1, .int (qz x1)), (2, .int (qz x2)), (3, .long (ql x3)), (5, .int (qz x4))], [], _, 0, 0)
  have hF0 := qFr_rf [(86, 15), (86, 23), (86, 30), (86, 35), (86, 36), (86, 37), (86, 38), (86, 39)] [96, 109] σ α
  have hz86_6 : 0 ≤ σ 86 6 ∧ σ 86 6 ≤ 32 := hI.1 86 6
  have hz86_10 : (-9223372036854775808) ≤ σ 86 10 ∧ σ 86 10 ≤ 9223372036854775807 := hI.1 86 10
  have hz86_11 : 0 ≤ σ 86 11 ∧ σ 86 11 ≤ 61 := hI.1 86 11
  have hz86_16 : 0 ≤ σ 86 16 ∧ σ 86 16 ≤ 40 := hI.1 86 16
  have hz86_22 : (-9223372036854775808) ≤ σ 86 22 ∧ σ 86 22 ≤ 9223372036854775807 := hI.1 86 22
  have hz86_24 : 0 ≤ σ 86 24 ∧ σ 86 24 ≤ 60 := hI.1 86 24
  have hz86_29 : (-9223372036854775808) ≤ σ 86 29 ∧ σ 86 29 ≤ 9223372036854775807 := hI.1 86 29
  have hz86_41 : 0 ≤ σ 86 41 ∧ σ 86 41 ≤ 1 := hI.1 86 41
  refine qr_aload_n 1 rfl rfl rfl ?_
  refine qr_iconst 2 rfl rfl ?_
  refine qr_iload_n 3 rfl rfl rfl ?_
  refine qr_iload_n 4 rfl rfl rfl ?_
  refine qr_iconst 5 rfl rfl ?_
  refine qr_lload_n 6 rfl rfl rfl ?_
  refine qr_iload 8 rfl rfl rfl ?_
  have hs1 : 0 ≤ σ 86 6 ∧ σ 86 6 ≤ 32 := hI.1 86 6
  refine qr_callN 11 rfl rfl rfl (sf_228_86x (d := d + 0) hI (by decide) r1 r2 (by decide) r3 r4 (by omega) (qPG_fr hF0 (by decide) (by decide) p1) (qZf_fr hF0 (by decide) (by decide) p2) (qZk_fr hF0 (by decide) (by decide) p3) (by omega)) ?_
  rintro _ _ ⟨σ4, α5, rfl, hI6, hG7, v2, rfl, hv2, hx3⟩
  have hF8 : qFr [(86, 15), (86, 23), (86, 30), (86, 35), (86, 36), (86, 37), (86, 38), (86, 39)] [96, 109] σ α σ4 α5 := qFr_t hF0 hG7 (by decide) (by decide)
  show qr_W (qe L xs vb) (d + 46) qx_e227 _ (11, _, [.int (qz v2)], qw σ4 α5 κ ρ, 0, 0)
  refine qr_retI rfl rfl (by decide) (by decide) ?_
  exact ⟨_, _, rfl, hI6, hF8, v2, rfl, hv2, hx3⟩

set_option maxHeartbeats 4000000 in
set_option maxRecDepth 20000 in
/-- OneRoofModel.mustHelp -/
theorem sf_249_86x {L : Nat} {xs : Nat → Int} {vb : Bool} {d : Nat} {σ α : Nat → Nat → Int} {κ : Nat → Option Nat} {ρ : Nat} {x1 : Int} {x2 : Int} {x3 : Int} {x4 : Int} {g : (Nat → Int) → Int} (hI : qI σ α κ ρ) (r1 : 0 ≤ x1 ∧ x1 ≤ 31) (r2 : 0 ≤ x2 ∧ x2 ≤ 31) (r3 : (-9223372036854775808) ≤ x3 ∧ x3 ≤ 9223372036854775807) (r4 : (-2147483648) ≤ x4 ∧ x4 ≤ 2147483647) (p0 : ¬ x1 = x2) (p1 : qPG σ α 1 g) (p2 : qZf σ α) (p3 : qZk σ α) (p4 : x1 < σ 86 6 ∧ x2 < σ 86 6) (p5 : ∀ i : Nat, (i : Int) < σ 86 50 → α 116 i < σ 86 6) : qm_T (qe L xs vb) (d + 47) 249 [.ref 86, .int (qz x1), .int (qz x2), .long (ql x3), .int (qz x4)] (qw σ α κ ρ) (fun r w' => ∃ σ' α', w' = qw σ' α' κ ρ ∧ qI σ' α' κ ρ ∧ qFr [(86, 15), (86, 23), (86, 30), (86, 35), (86, 36), (86, 37), (86, 38), (86, 39)] [96, 109] σ α σ' α' ∧ ∃ v : Int, r = some (.int (qz v)) ∧ (0 ≤ v ∧ v ≤ 1) ∧ ((v = 1 ∧ ∃ i : Nat, (i : Int) < σ 86 50 ∧ (fun i : Nat => α 115 i = x2 ∧ ¬ g (qNVr σ α (σ 86 29) (σ 86 10) x1 x2 (α 116 i) x3 x4) = 0) i) ∨ (v = 0 ∧ ∀ i : Nat, (i : Int) < σ 86 50 → ¬ (fun i : Nat => α 115 i = x2 ∧ ¬ g (qNVr σ α (σ 86 29) (σ 86 10) x1 x2 (α 116 i) x3 x4) = 0) i))) := by
  refine qr_start (d := d + 46) qv_e249 (Nat.le_of_ble_eq_true rfl) ?_
  show qr_W (qe L xs vb) (d + 46) qx_e249 _ (0, [(0, .ref 86), (1, .int (qz x1)), (2, .int (qz x2)), (3, .long (ql x3)), (5, .int (qz x4))], [], _, 0, 0)
  have hF0 := qFr_rf [(86, 15), (86, 23), (86, 30), (86, 35), (86, 36), (86, 37), (86, 38), (86, 39)] [96, 109] σ α
  have hz86_6 : 0 ≤ σ 86 6 ∧ σ 86 6 ≤ 32 := hI.1 86 6
  have hz86_50 : 0 ≤ σ 86 50 ∧ σ 86 50 ≤ 31 := hI.1 86 50
  have hz86_10 : (-9223372036854775808) ≤ σ 86 10 ∧ σ 86 10 ≤ 9223372036854775807 := hI.1 86 10
  have hz86_11 : 0 ≤ σ 86 11 ∧ σ 86 11 ≤ 61 := hI.1 86 11
  have hz86_16 : 0 ≤ σ 86 16 ∧ σ 86 16 ≤ 40 := hI.1 86 16
  have hz86_22 : (-9223372036854775808) ≤ σ 86 22 ∧ σ 86 22 ≤ 9223372036854775807 := hI.1 86 22
  have hz86_24 : 0 ≤ σ 86 24 ∧ σ 86 24 ≤ 60 := hI.1 86 24
  have hz86_29 : (-9223372036854775808) ≤ σ 86 29 ∧ σ 86 29 ≤ 9223372036854775807 := hI.1 86 29
  have hz86_41 : 0 ≤ σ 86 41 ∧ σ 86 41 ≤ 1 := hI.1 86 41
  refine qr_iconst 1 rfl rfl ?_
  refine qr_istore _ 3 rfl (by decide) rfl rfl ?_
  have hL417 : ∀ (n : Nat) (ls : qm_L) (u399 : Int) (σ400 α401 : Nat → Nat → Int), 31 - u399 < (n : Int) → qm_get ls 0 = some (.ref 86) → qm_get ls 1 = some (.int (qz x1)) → qm_get ls 2 = some (.int (qz x2)) → qm_get ls 3 = some (.long (ql x3)) → qm_get ls 5 = some (.int (qz x4)) → qm_get ls 6 = some (.int (qz u399)) → (0 ≤ u399 ∧ u399 ≤ 31) → qI σ400 α401 κ ρ → qFr [(86, 15), (86, 23), (86, 30), (86, 35), (86, 36), (86, 37), (86, 38), (86, 39)] [96, 109] σ α σ400 α401 → σ400 86 6 = (σ 86 6) → σ400 86 10 = (σ 86 10) → σ400 86 11 = (σ 86 11) → σ400 86 16 = (σ 86 16) → σ400 86 22 = (σ 86 22) → σ400 86 24 = (σ 86 24) → σ400 86 29 = (σ 86 29) → σ400 86 41 = (σ 86 41) → σ400 86 50 = (σ 86 50) → α401 115 = (α 115) → α401 116 = (α 116) → (∀ i : Nat, (i : Int) < u399 → ¬ (fun i : Nat => α 115 i = x2 ∧ ¬ g (qNVr σ α (σ 86 29) (σ 86 10) x1 x2 (α 116 i) x3 x4) = 0) i) → qr_W (qe L xs vb) (d + 46) qx_e249 (fun r w' => ∃ σ' α', w' = qw σ' α' κ ρ ∧ qI σ' α' κ ρ ∧ qFr [(86, 15), (86, 23), (86, 30), (86, 35), (86, 36), (86, 37), (86, 38), (86, 39)] [96, 109] σ α σ' α' ∧ ∃ v : Int, r = some (.int (qz v)) ∧ (0 ≤ v ∧ v ≤ 1) ∧ ((v = 1 ∧ ∃ i : Nat, (i : Int) < σ 86 50 ∧ (fun i : Nat => α 115 i = x2 ∧ ¬ g (qNVr σ α (σ 86 29) (σ 86 10) x1 x2 (α 116 i) x3 x4) = 0) i) ∨ (v = 0 ∧ ∀ i : Nat, (i : Int) < σ 86 50 → ¬ (fun i : Nat => α 115 i = x2 ∧ ¬ g (qNVr σ α (σ 86 29) (σ 86 10) x1 x2 (α 116 i) x3 x4) = 0) i))) (3, ls, [], qw σ400 α401 κ ρ, 0, 0) := by
    intro n
    induction n with
    | zero => intro ls u399 σ400 α401 hm g393 g394 g395 g396 g397 g398 hf415 hI402 hF403 hk404 hk405 hk406 hk407 hk408 hk409 hk410 hk411 hk412 hk413 hk414 hx416; exact False.elim (by omega)
    | succ n ih418 =>
      intro ls u399 σ400 α401 hm g393 g394 g395 g396 g397 g398 hf415 hI402 hF403 hk404 hk405 hk406 hk407 hk408 hk409 hk410 hk411 hk412 hk413 hk414 hx416
      refine qr_iload 5 rfl g398 rfl ?_
      refine qr_aload_n 6 rfl g393 rfl ?_
      refine qr_get 9 rfl rfl rfl (by decide) rfl ?_
      refine qy_v (σ 86 50) ((hk412).trans rfl) ?_
      refine qr_icmp_ge 51 12 rfl rfl rfl (qrg hf415 (by decide) (by decide)) (qrg hz86_50 (by decide) (by decide)) (fun h419 => ?_) (fun h419 => ?_)
      · skip
        refine qr_iconst 52 rfl rfl ?_
        refine qr_retZ rfl rfl (Or.inl rfl) (by decide) (by decide) ?_
        exact ⟨_, _, rfl, hI402, hF403, 0, rfl, (by decide), (Or.inr ⟨rfl, fun i hi => hx416 i (by omega)⟩)⟩
      · skip
        refine qr_aload_n 13 rfl g393 rfl ?_
        refine qr_get 16 rfl rfl rfl (by decide) rfl ?_
        refine qr_iload 18 rfl g398 rfl ?_
        refine qr_iaload 19 rfl rfl (by omega) (by decide) rfl ?_
        refine qr_topI (fun v420 hv420 => ?_)
        have hs421 : 0 ≤ v420 ∧ v420 ≤ 31 := by rw [hv420]; exact hI402.2.1 115 _ (show _ < 31 by omega)
        have hrv420 : v420 = (α 115) (u399 : Int).toNat := hv420.trans (congrFun hk413 _)
        refine qr_iload_n 20 rfl g395 rfl ?_
        refine qr_icmp_ne 45 23 rfl rfl rfl (qrg hs421 (by decide) (by decide)) (qrg r2 (by decide) (by decide)) (fun h422 => ?_) (fun h422 => ?_)
        · skip
          refine qr_iinc _ 48 rfl g398 (by decide) rfl rfl ?_
          refine qr_goto 3 rfl rfl ?_
          exact ih418 _ (u399 + 1) σ400 α401 (by omega) (qm_gk g393 (by decide) (Or.inl (by decide))) (qm_gk g394 (by decide) (Or.inl (by decide))) (qm_gk g395 (by decide) (Or.inl (by decide))) (qm_gk g396 (by decide) (Or.inl (by decide))) (qm_gk g397 (by decide) (Or.inr rfl)) (qm_ge _ _ _) (by omega) hI402 hF403 ((hk404).trans rfl) ((hk405).trans rfl) ((hk406).trans rfl) ((hk407).trans rfl) ((hk408).trans rfl) ((hk409).trans rfl) ((hk410).trans rfl) ((hk411).trans rfl) ((hk412).trans rfl) hk413 hk414 (qfs_n (by omega) hx416 (fun hc => absurd hc.1 (by omega)))
        · skip
          refine qr_aload_n 24 rfl g393 rfl ?_
          refine qr_iconst 25 rfl rfl ?_
          refine qr_iload_n 26 rfl g394 rfl ?_
          refine qr_iload_n 27 rfl g395 rfl ?_
          refine qr_aload_n 28 rfl g393 rfl ?_
          refine qr_get 31 rfl rfl rfl (by decide) rfl ?_
          refine qr_iload 33 rfl g398 rfl ?_
          refine qr_iaload 34 rfl rfl (by omega) (by decide) rfl ?_
          refine qr_topI (fun v423 hv423 => ?_)
          have hs424 : 0 ≤ v423 ∧ v423 ≤ 31 := by rw [hv423]; exact hI402.2.1 116 _ (show _ < 31 by omega)
          have hrv423 : v423 = (α 116) (u399 : Int).toNat := hv423.trans (congrFun hk414 _)
          have hz := p5 (u399 : Int).toNat (by omega)
          rw [← hrv423] at hz
          refine qr_lload_n 35 rfl g396 rfl ?_
          refine qr_iload 37 rfl g397 rfl ?_
          have hs425 : 0 ≤ σ400 86 6 ∧ σ400 86 6 ≤ 32 := hI402.1 86 6
          have hs426 : σ400 86 6 = (σ 86 6) := (hk404).trans rfl
          refine qr_callN 40 rfl rfl rfl (sf_228_86x (d := d + 0) hI402 (by decide) r1 r2 (qrg hs424 (by decide) (by decide)) r3 r4 (by omega) (qPG_fr hF403 (by decide) (by decide) p1) (qZf_fr hF403 (by decide) (by decide) p2) (qZk_fr hF403 (by decide) (by decide) p3) (by omega)) ?_
          rintro _ _ ⟨σ429, α430, rfl, hI431, hG432, v427, rfl, hv427, hx428⟩
          have hF433 : qFr [(86, 15), (86, 23), (86, 30), (86, 35), (86, 36), (86, 37), (86, 38), (86, 39)] [96, 109] σ α σ429 α430 := qFr_t hF403 hG432 (by decide) (by decide)
          rw [hF403.1 86 10 (by decide), hF403.1 86 29 (by decide)] at hx428
          show qr_W (qe L xs vb) (d + 46) qx_e249 _ (40, _, [.int (qz v427)], qw σ429 α430 κ ρ, 0, 0)
          rw [qNVr_fr hF403 (by decide) (by decide)] at hx428
          refine qr_if_eq 45 43 rfl rfl rfl hv427 (fun h434 => ?_) (fun h434 => ?_)
          · skip
            refine qr_iinc _ 48 rfl g398 (by decide) rfl rfl ?_
            refine qr_goto 3 rfl rfl ?_
            exact ih418 _ (u399 + 1) σ429 α430 (by omega) (qm_gk g393 (by decide) (Or.inl (by decide))) (qm_gk g394 (by decide) (Or.inl (by decide))) (qm_gk g395 (by decide) (Or.inl (by decide))) (qm_gk g396 (by decide) (Or.inl (by decide))) (qm_gk g397 (by decide) (Or.inr rfl)) (qm_ge _ _ _) (by omega) hI431 hF433 ((hG432.1 86 6 (by decide)).trans ((hk404).trans rfl)) ((hG432.1 86 10 (by decide)).trans ((hk405).trans rfl)) ((hG432.1 86 11 (by decide)).trans ((hk406).trans rfl)) ((hG432.1 86 16 (by decide)).trans ((hk407).trans rfl)) ((hG432.1 86 22 (by decide)).trans ((hk408).trans rfl)) ((hG432.1 86 24 (by decide)).trans ((hk409).trans rfl)) ((hG432.1 86 29 (by decide)).trans ((hk410).trans rfl)) ((hG432.1 86 41 (by decide)).trans ((hk411).trans rfl)) ((hG432.1 86 50 (by decide)).trans ((hk412).trans rfl)) ((hG432.2 115 (by decide)).trans hk413) ((hG432.2 116 (by decide)).trans hk414) (qfs_n (by omega) hx416 (fun hc => hc.2 (by rw [show α 116 (u399 : Int).toNat = v423 from hrv423.symm, ← hx428]; omega)))
          · skip
            refine qr_iconst 44 rfl rfl ?_
            refine qr_retZ rfl rfl (Or.inr rfl) (by decide) (by decide) ?_
            exact ⟨_, _, rfl, hI431, hF433, 1, rfl, (by decide), (Or.inl ⟨rfl, (u399 : Int).toNat, by omega, by omega, by rw [show α 116 (u399 : Int).toNat = v423 from hrv423.symm, ← hx428]; omega⟩)⟩
  exact hL417 ((31 - 0 + 1 : Int)).toNat _ 0 σ α (by omega) rfl rfl rfl rfl rfl rfl (by decide) hI hF0 (rfl) (rfl) (rfl) (rfl) (rfl) (rfl) (rfl) (rfl) (rfl) rfl rfl qfs_k

set_option maxHeartbeats 4000000 in
set_option maxRecDepth 20000 in
/-- OneRoofModel.nextBlow -/
theorem sf_248_86x {L : Nat} {xs : Nat → Int} {vb : Bool} {d : Nat} {σ α : Nat → Nat → Int} {κ : Nat → Option Nat} {ρ : Nat} {x1 : Int} {x2 : Int} {g0 g1 : (Nat → Int) → Int} (hI : qI σ α κ ρ) (r1 : (-9223372036854775808) ≤ x1 ∧ x1 ≤ 9223372036854775807) (r2 : (-2147483648) ≤ x2 ∧ x2 ≤ 2147483647) (p0 : qPG σ α 0 g0) (p1 : qPG σ α 1 g1) (p2 : qZf σ α) (p3 : qZk σ α) (p4 : ∀ i : Nat, (i : Int) < σ 86 50 → α 116 i < σ 86 6) : qm_T (qe L xs vb) (d + 48) 248 [.ref 86, .long (ql x1), .int (qz x2)] (qw σ α κ ρ) (fun r w' => ∃ σ' α', w' = qw σ' α' κ ρ ∧ qI σ' α' κ ρ ∧ qFr [(86, 15), (86, 23), (86, 30), (86, 35), (86, 36), (86, 37), (86, 38), (86, 39)] [96, 109] σ α σ' α' ∧ ∃ v : Int, r = some (.int (qz v)) ∧ ((-1) ≤ v ∧ v ≤ 3131) ∧ (v = -1 ∨ (0 ≤ v ∧ v / 100 ≤ 31 ∧ v % 100 ≤ 31)) ∧ ((0 ≤ v ∧ qFst (fun r t : Int => ¬ t = r ∧ qbit (ql_and x1 (ql_xor (σ 86 10) (-1))) r = 1 ∧ qbit (ql_and x1 (ql_xor (σ 86 10) (-1))) t = 1 ∧ ∃ i : Nat, (i : Int) < σ 86 50 ∧ (fun i : Nat => α 115 i = t ∧ ¬ g1 (qNVr σ α (σ 86 29) (σ 86 10) r t (α 116 i) x1 x2) = 0) i) (σ 86 6) v) ∨ (qFst (fun r t : Int => ¬ t = r ∧ qbit (ql_and x1 (ql_xor (σ 86 10) (-1))) r = 1 ∧ qbit (ql_and x1 (ql_xor (σ 86 10) (-1))) t = 1 ∧ ∃ i : Nat, (i : Int) < σ 86 50 ∧ (fun i : Nat => α 115 i = t ∧ ¬ g1 (qNVr σ α (σ 86 29) (σ 86 10) r t (α 116 i) x1 x2) = 0) i) (σ 86 6) (-1) ∧ qFst (fun p q : Int => ¬ q = p ∧ qbit (ql_and x1 (ql_xor (σ 86 10) (-1))) p = 1 ∧ qbit (ql_and x1 (ql_xor (σ 86 10) (-1))) q = 1 ∧ ¬ g0 (qNVr σ α (σ 86 29) (σ 86 10) p q (-1) x1 x2) = 0) (σ 86 6) v))) := by
  refine qr_start (d := d + 47) qv_e248 (Nat.le_of_ble_eq_true rfl) ?_
  show qr_W (qe L xs vb) (d + 47) qx_e248 _ (0, [(0, .ref 86), (1, .long (ql x1)), (3, .int (qz x2))], [], _, 0, 0)
  have hF0 := qFr_rf [(86, 15), (86, 23), (86, 30), (86, 35), (86, 36), (86, 37), (86, 38), (86, 39)] [96, 109] σ α
  have hz86_50 : 0 ≤ σ 86 50 ∧ σ 86 50 ≤ 31 := hI.1 86 50
  have hz86_6 : 0 ≤ σ 86 6 ∧ σ 86 6 ≤ 32 := hI.1 86 6
  have hz86_10 : (-9223372036854775808) ≤ σ 86 10 ∧ σ 86 10 ≤ 9223372036854775807 := hI.1 86 10
  have hz86_11 : 0 ≤ σ 86 11 ∧ σ 86 11 ≤ 61 := hI.1 86 11
  have hz86_16 : 0 ≤ σ 86 16 ∧ σ 86 16 ≤ 40 := hI.1 86 16
  have hz86_22 : (-9223372036854775808) ≤ σ 86 22 ∧ σ 86 22 ≤ 9223372036854775807 := hI.1 86 22
  have hz86_24 : 0 ≤ σ 86 24 ∧ σ 86 24 ≤ 60 := hI.1 86 24
  have hz86_29 : (-9223372036854775808) ≤ σ 86 29 ∧ σ 86 29 ≤ 9223372036854775807 := hI.1 86 29
  have hz86_41 : 0 ≤ σ 86 41 ∧ σ 86 41 ≤ 1 := hI.1 86 41
  refine qr_iconst 1 rfl rfl ?_
  refine qr_istore _ 3 rfl (by decide) rfl rfl ?_
  have hL81054 : ∀ (n : Nat) (ls : qm_L) (u81036 : Int) (σ81037 α81038 : Nat → Nat → Int), 32 - u81036 < (n : Int) → qm_get ls 0 = some (.ref 86) → qm_get ls 1 = some (.long (ql x1)) → qm_get ls 3 = some (.int (qz x2)) → qm_get ls 4 = some (.int (qz u81036)) → (0 ≤ u81036 ∧ u81036 ≤ 32) → qI σ81037 α81038 κ ρ → qFr [(86, 15), (86, 23), (86, 30), (86, 35), (86, 36), (86, 37), (86, 38), (86, 39)] [96, 109] σ α σ81037 α81038 → σ81037 86 6 = (σ 86 6) → σ81037 86 10 = (σ 86 10) → σ81037 86 11 = (σ 86 11) → σ81037 86 16 = (σ 86 16) → σ81037 86 22 = (σ 86 22) → σ81037 86 24 = (σ 86 24) → σ81037 86 29 = (σ 86 29) → σ81037 86 41 = (σ 86 41) → σ81037 86 50 = (σ 86 50) → α81038 115 = (α 115) → α81038 116 = (α 116) → (∀ a b : Int, 0 ≤ a → a < u81036 → 0 ≤ b → b < (σ 86 6) → ¬ (fun r t : Int => ¬ t = r ∧ qbit (ql_and x1 (ql_xor (σ 86 10) (-1))) r = 1 ∧ qbit (ql_and x1 (ql_xor (σ 86 10) (-1))) t = 1 ∧ ∃ i : Nat, (i : Int) < σ 86 50 ∧ (fun i : Nat => α 115 i = t ∧ ¬ g1 (qNVr σ α (σ 86 29) (σ 86 10) r t (α 116 i) x1 x2) = 0) i) a b) → qr_W (qe L xs vb) (d + 47) qx_e248 (fun r w' => ∃ σ' α', w' = qw σ' α' κ ρ ∧ qI σ' α' κ ρ ∧ qFr [(86, 15), (86, 23), (86, 30), (86, 35), (86, 36), (86, 37), (86, 38), (86, 39)] [96, 109] σ α σ' α' ∧ ∃ v : Int, r = some (.int (qz v)) ∧ ((-1) ≤ v ∧ v ≤ 3131) ∧ (v = -1 ∨ (0 ≤ v ∧ v / 100 ≤ 31 ∧ v % 100 ≤ 31)) ∧ ((0 ≤ v ∧ qFst (fun r t : Int => ¬ t = r ∧ qbit (ql_and x1 (ql_xor (σ 86 10) (-1))) r = 1 ∧ qbit (ql_and x1 (ql_xor (σ 86 10) (-1))) t = 1 ∧ ∃ i : Nat, (i : Int) < σ 86 50 ∧ (fun i : Nat => α 115 i = t ∧ ¬ g1 (qNVr σ α (σ 86 29) (σ 86 10) r t (α 116 i) x1 x2) = 0) i) (σ 86 6) v) ∨ (qFst (fun r t : Int => ¬ t = r ∧ qbit (ql_and x1 (ql_xor (σ 86 10) (-1))) r = 1 ∧ qbit (ql_and x1 (ql_xor (σ 86 10) (-1))) t = 1 ∧ ∃ i : Nat, (i : Int) < σ 86 50 ∧ (fun i : Nat => α 115 i = t ∧ ¬ g1 (qNVr σ α (σ 86 29) (σ 86 10) r t (α 116 i) x1 x2) = 0) i) (σ 86 6) (-1) ∧ qFst (fun p q : Int => ¬ q = p ∧ qbit (ql_and x1 (ql_xor (σ 86 10) (-1))) p = 1 ∧ qbit (ql_and x1 (ql_xor (σ 86 10) (-1))) q = 1 ∧ ¬ g0 (qNVr σ α (σ 86 29) (σ 86 10) p q (-1) x1 x2) = 0) (σ 86 6) v))) (3, ls, [], qw σ81037 α81038 κ ρ, 0, 0) := by
    intro n
    induction n with
    | zero => intro ls u81036 σ81037 α81038 hm g81032 g81033 g81034 g81035 hf81052 hI81039 hF81040 hk81041 hk81042 hk81043 hk81044 hk81045 hk81046 hk81047 hk81048 hk81049 hk81050 hk81051 hx81053; exact False.elim (by omega)
    | succ n ih81055 =>
      intro ls u81036 σ81037 α81038 hm g81032 g81033 g81034 g81035 hf81052 hI81039 hF81040 hk81041 hk81042 hk81043 hk81044 hk81045 hk81046 hk81047 hk81048 hk81049 hk81050 hk81051 hx81053
      refine qr_iload 5 rfl g81035 rfl ?_
      refine qr_aload_n 6 rfl g81032 rfl ?_
      refine qr_get 9 rfl rfl rfl (by decide) rfl ?_
      refine qy_v (σ 86 6) ((hk81041).trans rfl) ?_
      refine qr_icmp_ge 101 12 rfl rfl rfl (qrg hf81052 (by decide) (by decide)) (qrg hz86_6 (by decide) (by decide)) (fun h81056 => ?_) (fun h81056 => ?_)
      · skip
        have hN81057 : qFst (fun r t : Int => ¬ t = r ∧ qbit (ql_and x1 (ql_xor (σ 86 10) (-1))) r = 1 ∧ qbit (ql_and x1 (ql_xor (σ 86 10) (-1))) t = 1 ∧ ∃ i : Nat, (i : Int) < σ 86 50 ∧ (fun i : Nat => α 115 i = t ∧ ¬ g1 (qNVr σ α (σ 86 29) (σ 86 10) r t (α 116 i) x1 x2) = 0) i) (σ 86 6) (-1) := qFst_no rfl (by omega) hx81053
        refine qr_iconst 102 rfl rfl ?_
        refine qr_istore _ 104 rfl (by decide) rfl rfl ?_
        have hL88972 : ∀ (n : Nat) (ls : qm_L) (u88954 : Int) (σ88955 α88956 : Nat → Nat → Int), 32 - u88954 < (n : Int) → qm_get ls 0 = some (.ref 86) → qm_get ls 1 = some (.long (ql x1)) → qm_get ls 3 = some (.int (qz x2)) → qm_get ls 4 = some (.int (qz u88954)) → (0 ≤ u88954 ∧ u88954 ≤ 32) → qI σ88955 α88956 κ ρ → qFr [(86, 15), (86, 23), (86, 30), (86, 35), (86, 36), (86, 37), (86, 38), (86, 39)] [96, 109] σ α σ88955 α88956 → σ88955 86 6 = (σ 86 6) → σ88955 86 10 = (σ 86 10) → σ88955 86 11 = (σ 86 11) → σ88955 86 16 = (σ 86 16) → σ88955 86 22 = (σ 86 22) → σ88955 86 24 = (σ 86 24) → σ88955 86 29 = (σ 86 29) → σ88955 86 41 = (σ 86 41) → σ88955 86 50 = (σ 86 50) → α88956 115 = (α 115) → α88956 116 = (α 116) → (∀ a b : Int, 0 ≤ a → a < u88954 → 0 ≤ b → b < (σ 86 6) → ¬ (fun p q : Int => ¬ q = p ∧ qbit (ql_and x1 (ql_xor (σ 86 10) (-1))) p = 1 ∧ qbit (ql_and x1 (ql_xor (σ 86 10) (-1))) q = 1 ∧ ¬ g0 (qNVr σ α (σ 86 29) (σ 86 10) p q (-1) x1 x2) = 0) a b) → qr_W (qe L xs vb) (d + 47) qx_e248 (fun r w' => ∃ σ' α', w' = qw σ' α' κ ρ ∧ qI σ' α' κ ρ ∧ qFr [(86, 15), (86, 23), (86, 30), (86, 35), (86, 36), (86, 37), (86, 38), (86, 39)] [96, 109] σ α σ' α' ∧ ∃ v : Int, r = some (.int (qz v)) ∧ ((-1) ≤ v ∧ v ≤ 3131) ∧ (v = -1 ∨ (0 ≤ v ∧ v / 100 ≤ 31 ∧ v % 100 ≤ 31)) ∧ ((0 ≤ v ∧ qFst (fun r t : Int => ¬ t = r ∧ qbit (ql_and x1 (ql_xor (σ 86 10) (-1))) r = 1 ∧ qbit (ql_and x1 (ql_xor (σ 86 10) (-1))) t = 1 ∧ ∃ i : Nat, (i : Int) < σ 86 50 ∧ (fun i : Nat => α 115 i = t ∧ ¬ g1 (qNVr σ α (σ 86 29) (σ 86 10) r t (α 116 i) x1 x2) = 0) i) (σ 86 6) v) ∨ (qFst (fun r t : Int => ¬ t = r ∧ qbit (ql_and x1 (ql_xor (σ 86 10) (-1))) r = 1 ∧ qbit (ql_and x1 (ql_xor (σ 86 10) (-1))) t = 1 ∧ ∃ i : Nat, (i : Int) < σ 86 50 ∧ (fun i : Nat => α 115 i = t ∧ ¬ g1 (qNVr σ α (σ 86 29) (σ 86 10) r t (α 116 i) x1 x2) = 0) i) (σ 86 6) (-1) ∧ qFst (fun p q : Int => ¬ q = p ∧ qbit (ql_and x1 (ql_xor (σ 86 10) (-1))) p = 1 ∧ qbit (ql_and x1 (ql_xor (σ 86 10) (-1))) q = 1 ∧ ¬ g0 (qNVr σ α (σ 86 29) (σ 86 10) p q (-1) x1 x2) = 0) (σ 86 6) v))) (104, ls, [], qw σ88955 α88956 κ ρ, 0, 0) := by
          intro n
          induction n with
          | zero => intro ls u88954 σ88955 α88956 hm g88950 g88951 g88952 g88953 hf88970 hI88957 hF88958 hk88959 hk88960 hk88961 hk88962 hk88963 hk88964 hk88965 hk88966 hk88967 hk88968 hk88969 hx88971; exact False.elim (by omega)
          | succ n ih88973 =>
            intro ls u88954 σ88955 α88956 hm g88950 g88951 g88952 g88953 hf88970 hI88957 hF88958 hk88959 hk88960 hk88961 hk88962 hk88963 hk88964 hk88965 hk88966 hk88967 hk88968 hk88969 hx88971
            refine qr_iload 106 rfl g88953 rfl ?_
            refine qr_aload_n 107 rfl g88950 rfl ?_
            refine qr_get 110 rfl rfl rfl (by decide) rfl ?_
            refine qy_v (σ 86 6) ((hk88959).trans rfl) ?_
            refine qr_icmp_ge 202 113 rfl rfl rfl (qrg hf88970 (by decide) (by decide)) (qrg hz86_6 (by decide) (by decide)) (fun h88974 => ?_) (fun h88974 => ?_)
            · skip
              refine qr_iconst 203 rfl rfl ?_
              refine qr_retI rfl rfl (by decide) (by decide) ?_
              exact ⟨_, _, rfl, hI88957, hF88958, (-1), rfl, (by decide), by omega, (Or.inr ⟨hN81057, qFst_no rfl (by omega) hx88971⟩)⟩
            · skip
              refine qr_iconst 114 rfl rfl ?_
              refine qr_istore _ 116 rfl (by decide) rfl rfl ?_
              have hL89479 : ∀ (n : Nat) (ls : qm_L) (u89460 : Int) (σ89461 α89462 : Nat → Nat → Int), 32 - u89460 < (n : Int) → qm_get ls 0 = some (.ref 86) → qm_get ls 1 = some (.long (ql x1)) → qm_get ls 3 = some (.int (qz x2)) → qm_get ls 4 = some (.int (qz u88954)) → qm_get ls 5 = some (.int (qz u89460)) → (0 ≤ u89460 ∧ u89460 ≤ 32) → qI σ89461 α89462 κ ρ → qFr [(86, 15), (86, 23), (86, 30), (86, 35), (86, 36), (86, 37), (86, 38), (86, 39)] [96, 109] σ α σ89461 α89462 → σ89461 86 6 = (σ 86 6) → σ89461 86 10 = (σ 86 10) → σ89461 86 11 = (σ 86 11) → σ89461 86 16 = (σ 86 16) → σ89461 86 22 = (σ 86 22) → σ89461 86 24 = (σ 86 24) → σ89461 86 29 = (σ 86 29) → σ89461 86 41 = (σ 86 41) → σ89461 86 50 = (σ 86 50) → α89462 115 = (α 115) → α89462 116 = (α 116) → (∀ a b : Int, 0 ≤ a → a < u88954 → 0 ≤ b → b < (σ 86 6) → ¬ (fun p q : Int => ¬ q = p ∧ qbit (ql_and x1 (ql_xor (σ 86 10) (-1))) p = 1 ∧ qbit (ql_and x1 (ql_xor (σ 86 10) (-1))) q = 1 ∧ ¬ g0 (qNVr σ α (σ 86 29) (σ 86 10) p q (-1) x1 x2) = 0) a b) → (∀ b : Int, 0 ≤ b → b < u89460 → ¬ (fun p q : Int => ¬ q = p ∧ qbit (ql_and x1 (ql_xor (σ 86 10) (-1))) p = 1 ∧ qbit (ql_and x1 (ql_xor (σ 86 10) (-1))) q = 1 ∧ ¬ g0 (qNVr σ α (σ 86 29) (σ 86 10) p q (-1) x1 x2) = 0) u88954 b) → qr_W (qe L xs vb) (d + 47) qx_e248 (fun r w' => ∃ σ' α', w' = qw σ' α' κ ρ ∧ qI σ' α' κ ρ ∧ qFr [(86, 15), (86, 23), (86, 30), (86, 35), (86, 36), (86, 37), (86, 38), (86, 39)] [96, 109] σ α σ' α' ∧ ∃ v : Int, r = some (.int (qz v)) ∧ ((-1) ≤ v ∧ v ≤ 3131) ∧ (v = -1 ∨ (0 ≤ v ∧ v / 100 ≤ 31 ∧ v % 100 ≤ 31)) ∧ ((0 ≤ v ∧ qFst (fun r t : Int => ¬ t = r ∧ qbit (ql_and x1 (ql_xor (σ 86 10) (-1))) r = 1 ∧ qbit (ql_and x1 (ql_xor (σ 86 10) (-1))) t = 1 ∧ ∃ i : Nat, (i : Int) < σ 86 50 ∧ (fun i : Nat => α 115 i = t ∧ ¬ g1 (qNVr σ α (σ 86 29) (σ 86 10) r t (α 116 i) x1 x2) = 0) i) (σ 86 6) v) ∨ (qFst (fun r t : Int => ¬ t = r ∧ qbit (ql_and x1 (ql_xor (σ 86 10) (-1))) r = 1 ∧ qbit (ql_and x1 (ql_xor (σ 86 10) (-1))) t = 1 ∧ ∃ i : Nat, (i : Int) < σ 86 50 ∧ (fun i : Nat => α 115 i = t ∧ ¬ g1 (qNVr σ α (σ 86 29) (σ 86 10) r t (α 116 i) x1 x2) = 0) i) (σ 86 6) (-1) ∧ qFst (fun p q : Int => ¬ q = p ∧ qbit (ql_and x1 (ql_xor (σ 86 10) (-1))) p = 1 ∧ qbit (ql_and x1 (ql_xor (σ 86 10) (-1))) q = 1 ∧ ¬ g0 (qNVr σ α (σ 86 29) (σ 86 10) p q (-1) x1 x2) = 0) (σ 86 6) v))) (116, ls, [], qw σ89461 α89462 κ ρ, 0, 0) := by
                intro n
                induction n with
                | zero => intro ls u89460 σ89461 α89462 hm g89455 g89456 g89457 g89458 g89459 hf89476 hI89463 hF89464 hk89465 hk89466 hk89467 hk89468 hk89469 hk89470 hk89471 hk89472 hk89473 hk89474 hk89475 hx89477 hx89478; exact False.elim (by omega)
                | succ n ih89480 =>
                  intro ls u89460 σ89461 α89462 hm g89455 g89456 g89457 g89458 g89459 hf89476 hI89463 hF89464 hk89465 hk89466 hk89467 hk89468 hk89469 hk89470 hk89471 hk89472 hk89473 hk89474 hk89475 hx89477 hx89478
                  refine qr_iload 118 rfl g89459 rfl ?_
                  refine qr_aload_n 119 rfl g89455 rfl ?_
                  refine qr_get 122 rfl rfl rfl (by decide) rfl ?_
                  refine qy_v (σ 86 6) ((hk89465).trans rfl) ?_
                  refine qr_icmp_ge 196 125 rfl rfl rfl (qrg hf89476 (by decide) (by decide)) (qrg hz86_6 (by decide) (by decide)) (fun h89481 => ?_) (fun h89481 => ?_)
                  · skip
                    refine qr_iinc _ 199 rfl g89458 (by decide) rfl rfl ?_
                    refine qr_goto 104 rfl rfl ?_
                    exact ih88973 _ (u88954 + 1) σ89461 α89462 (by omega) (qm_gk g89455 (by decide) (Or.inl (by decide))) (qm_gk g89456 (by decide) (Or.inl (by decide))) (qm_gk g89457 (by decide) (Or.inr rfl)) (qm_ge _ _ _) (by omega) hI89463 hF89464 ((hk89465).trans rfl) ((hk89466).trans rfl) ((hk89467).trans rfl) ((hk89468).trans rfl) ((hk89469).trans rfl) ((hk89470).trans rfl) ((hk89471).trans rfl) ((hk89472).trans rfl) ((hk89473).trans rfl) hk89474 hk89475 (qfs_o hx88971 (fun b h1 h2 => hx89478 b h1 (by omega)))
                  · skip
                    refine qr_lload_n 126 rfl g89456 rfl ?_
                    refine qr_aload_n 127 rfl g89455 rfl ?_
                    refine qr_get 130 rfl rfl rfl (by decide) rfl ?_
                    refine qy_vl (σ 86 10) ((hk89466).trans rfl) ?_
                    refine qr_ldc2 (-1) 133 rfl (by decide) rfl ?_
                    refine qr_lxor 134 rfl rfl ?_
                    refine qy_canlE (fun v89482 hv89482 hev89482 => ?_)
                    refine qr_land 135 rfl rfl ?_
                    refine qy_canlE (fun v89483 hv89483 hev89483 => ?_)
                    refine qr_iload 137 rfl g89458 rfl ?_
                    refine qr_callN 140 rfl rfl rfl (sf_226x (d := d + 46) hI89463 hv89483 (by omega)) ?_
                    rintro _ _ ⟨rfl, v89484, rfl, hv89484, hp89485⟩
                    show qr_W (qe L xs vb) (d + 47) qx_e248 _ (140, _, [.int (qz v89484)], qw σ89461 α89462 κ ρ, 0, 0)
                    rw [ql_val hev89483 (by omega) (ql_and_r _ _), ql_val hev89482 (by omega) (ql_xor_r _ _)] at hp89485
                    refine qr_if_eq 196 143 rfl rfl rfl (qrg hv89484 (by decide) (by decide)) (fun h89486 => ?_) (fun h89486 => ?_)
                    · skip
                      refine qr_iinc _ 199 rfl g89458 (by decide) rfl rfl ?_
                      refine qr_goto 104 rfl rfl ?_
                      exact ih88973 _ (u88954 + 1) σ89461 α89462 (by omega) (qm_gk g89455 (by decide) (Or.inl (by decide))) (qm_gk g89456 (by decide) (Or.inl (by decide))) (qm_gk g89457 (by decide) (Or.inr rfl)) (qm_ge _ _ _) (by omega) hI89463 hF89464 ((hk89465).trans rfl) ((hk89466).trans rfl) ((hk89467).trans rfl) ((hk89468).trans rfl) ((hk89469).trans rfl) ((hk89470).trans rfl) ((hk89471).trans rfl) ((hk89472).trans rfl) ((hk89473).trans rfl) hk89474 hk89475 (qfs_o hx88971 (fun b h1 h2 hc => absurd hc.2.1 (by omega)))
                    · skip
                      refine qr_iload 145 rfl g89459 rfl ?_
                      refine qr_iload 147 rfl g89458 rfl ?_
                      refine qr_icmp_eq 190 150 rfl rfl rfl (qrg hf89476 (by decide) (by decide)) (qrg hf88970 (by decide) (by decide)) (fun h89487 => ?_) (fun h89487 => ?_)
                      · skip
                        refine qr_iinc _ 193 rfl g89459 (by decide) rfl rfl ?_
                        refine qr_goto 116 rfl rfl ?_
                        exact ih89480 _ (u89460 + 1) σ89461 α89462 (by omega) (qm_gk g89455 (by decide) (Or.inl (by decide))) (qm_gk g89456 (by decide) (Or.inl (by decide))) (qm_gk g89457 (by decide) (Or.inl (by decide))) (qm_gk g89458 (by decide) (Or.inr rfl)) (qm_ge _ _ _) (by omega) hI89463 hF89464 ((hk89465).trans rfl) ((hk89466).trans rfl) ((hk89467).trans rfl) ((hk89468).trans rfl) ((hk89469).trans rfl) ((hk89470).trans rfl) ((hk89471).trans rfl) ((hk89472).trans rfl) ((hk89473).trans rfl) hk89474 hk89475 hx88971 (qfs_i hx89478 (fun hc => hc.1 (by omega)))
                      · skip
                        refine qr_lload_n 151 rfl g89456 rfl ?_
                        refine qr_aload_n 152 rfl g89455 rfl ?_
                        refine qr_get 155 rfl rfl rfl (by decide) rfl ?_
                        refine qy_vl (σ 86 10) ((hk89466).trans rfl) ?_
                        refine qr_ldc2 (-1) 158 rfl (by decide) rfl ?_
                        refine qr_lxor 159 rfl rfl ?_
                        refine qy_canlE (fun v89488 hv89488 hev89488 => ?_)
                        refine qr_land 160 rfl rfl ?_
                        refine qy_canlE (fun v89489 hv89489 hev89489 => ?_)
                        refine qr_iload 162 rfl g89459 rfl ?_
                        refine qr_callN 165 rfl rfl rfl (sf_226x (d := d + 46) hI89463 hv89489 (by omega)) ?_
                        rintro _ _ ⟨rfl, v89490, rfl, hv89490, hp89491⟩
                        show qr_W (qe L xs vb) (d + 47) qx_e248 _ (165, _, [.int (qz v89490)], qw σ89461 α89462 κ ρ, 0, 0)
                        rw [ql_val hev89489 (by omega) (ql_and_r _ _), ql_val hev89488 (by omega) (ql_xor_r _ _)] at hp89491
                        refine qr_if_eq 190 168 rfl rfl rfl (qrg hv89490 (by decide) (by decide)) (fun h89492 => ?_) (fun h89492 => ?_)
                        · skip
                          refine qr_iinc _ 193 rfl g89459 (by decide) rfl rfl ?_
                          refine qr_goto 116 rfl rfl ?_
                          exact ih89480 _ (u89460 + 1) σ89461 α89462 (by omega) (qm_gk g89455 (by decide) (Or.inl (by decide))) (qm_gk g89456 (by decide) (Or.inl (by decide))) (qm_gk g89457 (by decide) (Or.inl (by decide))) (qm_gk g89458 (by decide) (Or.inr rfl)) (qm_ge _ _ _) (by omega) hI89463 hF89464 ((hk89465).trans rfl) ((hk89466).trans rfl) ((hk89467).trans rfl) ((hk89468).trans rfl) ((hk89469).trans rfl) ((hk89470).trans rfl) ((hk89471).trans rfl) ((hk89472).trans rfl) ((hk89473).trans rfl) hk89474 hk89475 hx88971 (qfs_i hx89478 (fun hc => absurd hc.2.2.1 (by omega)))
                        · skip
                          refine qr_aload_n 169 rfl g89455 rfl ?_
                          refine qr_iload 171 rfl g89458 rfl ?_
                          refine qr_iload 173 rfl g89459 rfl ?_
                          refine qr_lload_n 174 rfl g89456 rfl ?_
                          refine qr_iload_n 175 rfl g89457 rfl ?_
                          have hs89493 : 0 ≤ σ89461 86 6 ∧ σ89461 86 6 ≤ 32 := hI89463.1 86 6
                          have hs89494 : σ89461 86 6 = (σ 86 6) := (hk89465).trans rfl
                          refine qr_callN 178 rfl rfl rfl (sf_227_86x (d := d + 0) hI89463 (by omega) (by omega) r1 r2 (by omega) (qPG_fr hF89464 (by decide) (by decide) p0) (qZf_fr hF89464 (by decide) (by decide) p2) (qZk_fr hF89464 (by decide) (by decide) p3) (by omega)) ?_
                          rintro _ _ ⟨σ89497, α89498, rfl, hI89499, hG89500, v89495, rfl, hv89495, hx89496⟩
                          have hF89501 : qFr [(86, 15), (86, 23), (86, 30), (86, 35), (86, 36), (86, 37), (86, 38), (86, 39)] [96, 109] σ α σ89497 α89498 := qFr_t hF89464 hG89500 (by decide) (by decide)
                          rw [hF89464.1 86 10 (by decide), hF89464.1 86 29 (by decide)] at hx89496
                          show qr_W (qe L xs vb) (d + 47) qx_e248 _ (178, _, [.int (qz v89495)], qw σ89497 α89498 κ ρ, 0, 0)
                          rw [qNVr_fr hF89464 (by decide) (by decide)] at hx89496
                          refine qr_if_eq 190 181 rfl rfl rfl hv89495 (fun h89502 => ?_) (fun h89502 => ?_)
                          · skip
                            refine qr_iinc _ 193 rfl g89459 (by decide) rfl rfl ?_
                            refine qr_goto 116 rfl rfl ?_
                            exact ih89480 _ (u89460 + 1) σ89497 α89498 (by omega) (qm_gk g89455 (by decide) (Or.inl (by decide))) (qm_gk g89456 (by decide) (Or.inl (by decide))) (qm_gk g89457 (by decide) (Or.inl (by decide))) (qm_gk g89458 (by decide) (Or.inr rfl)) (qm_ge _ _ _) (by omega) hI89499 hF89501 ((hG89500.1 86 6 (by decide)).trans ((hk89465).trans rfl)) ((hG89500.1 86 10 (by decide)).trans ((hk89466).trans rfl)) ((hG89500.1 86 11 (by decide)).trans ((hk89467).trans rfl)) ((hG89500.1 86 16 (by decide)).trans ((hk89468).trans rfl)) ((hG89500.1 86 22 (by decide)).trans ((hk89469).trans rfl)) ((hG89500.1 86 24 (by decide)).trans ((hk89470).trans rfl)) ((hG89500.1 86 29 (by decide)).trans ((hk89471).trans rfl)) ((hG89500.1 86 41 (by decide)).trans ((hk89472).trans rfl)) ((hG89500.1 86 50 (by decide)).trans ((hk89473).trans rfl)) ((hG89500.2 115 (by decide)).trans hk89474) ((hG89500.2 116 (by decide)).trans hk89475) hx88971 (qfs_i hx89478 (fun hc => hc.2.2.2 (by rw [← hx89496]; omega)))
                          · skip
                            refine qr_bipush 183 rfl (by decide) rfl ?_
                            refine qr_iload 185 rfl g89458 rfl ?_
                            refine qr_imul 186 rfl rfl ?_
                            refine qr_iload 188 rfl g89459 rfl ?_
                            refine qr_iadd 189 rfl rfl ?_
                            refine qr_retI rfl rfl (by decide) (by decide) ?_
                            exact ⟨_, _, rfl, hI89499, hF89501, ((100 * u88954) + u89460), rfl, (by omega), by omega, (Or.inr ⟨hN81057, qFst_hit (p := u88954) (q := u89460) (by omega) (by omega) (by omega) (by omega) ⟨by omega, by omega, by omega, by rw [← hx89496]; omega⟩ hx89477 hx89478⟩)⟩
              exact hL89479 ((32 - 0 + 1 : Int)).toNat _ 0 σ88955 α88956 (by omega) (qm_gk g88950 (by decide) (Or.inl (by decide))) (qm_gk g88951 (by decide) (Or.inl (by decide))) (qm_gk g88952 (by decide) (Or.inl (by decide))) (qm_gk g88953 (by decide) (Or.inr rfl)) (qm_ge _ _ _) (by decide) hI88957 hF88958 ((hk88959).trans rfl) ((hk88960).trans rfl) ((hk88961).trans rfl) ((hk88962).trans rfl) ((hk88963).trans rfl) ((hk88964).trans rfl) ((hk88965).trans rfl) ((hk88966).trans rfl) ((hk88967).trans rfl) hk88968 hk88969 hx88971 qfs_j
        exact hL88972 ((32 - 0 + 1 : Int)).toNat _ 0 σ81037 α81038 (by omega) (qm_gk g81032 (by decide) (Or.inl (by decide))) (qm_gk g81033 (by decide) (Or.inl (by decide))) (qm_gk g81034 (by decide) (Or.inr rfl)) (qm_ge _ _ _) (by decide) hI81039 hF81040 ((hk81041).trans rfl) ((hk81042).trans rfl) ((hk81043).trans rfl) ((hk81044).trans rfl) ((hk81045).trans rfl) ((hk81046).trans rfl) ((hk81047).trans rfl) ((hk81048).trans rfl) ((hk81049).trans rfl) hk81050 hk81051 qfs_0
      · skip
        refine qr_iconst 13 rfl rfl ?_
        refine qr_istore _ 15 rfl (by decide) rfl rfl ?_
        have hL90037 : ∀ (n : Nat) (ls : qm_L) (u90018 : Int) (σ90019 α90020 : Nat → Nat → Int), 32 - u90018 < (n : Int) → qm_get ls 0 = some (.ref 86) → qm_get ls 1 = some (.long (ql x1)) → qm_get ls 3 = some (.int (qz x2)) → qm_get ls 4 = some (.int (qz u81036)) → qm_get ls 5 = some (.int (qz u90018)) → (0 ≤ u90018 ∧ u90018 ≤ 32) → qI σ90019 α90020 κ ρ → qFr [(86, 15), (86, 23), (86, 30), (86, 35), (86, 36), (86, 37), (86, 38), (86, 39)] [96, 109] σ α σ90019 α90020 → σ90019 86 6 = (σ 86 6) → σ90019 86 10 = (σ 86 10) → σ90019 86 11 = (σ 86 11) → σ90019 86 16 = (σ 86 16) → σ90019 86 22 = (σ 86 22) → σ90019 86 24 = (σ 86 24) → σ90019 86 29 = (σ 86 29) → σ90019 86 41 = (σ 86 41) → σ90019 86 50 = (σ 86 50) → α90020 115 = (α 115) → α90020 116 = (α 116) → (∀ a b : Int, 0 ≤ a → a < u81036 → 0 ≤ b → b < (σ 86 6) → ¬ (fun r t : Int => ¬ t = r ∧ qbit (ql_and x1 (ql_xor (σ 86 10) (-1))) r = 1 ∧ qbit (ql_and x1 (ql_xor (σ 86 10) (-1))) t = 1 ∧ ∃ i : Nat, (i : Int) < σ 86 50 ∧ (fun i : Nat => α 115 i = t ∧ ¬ g1 (qNVr σ α (σ 86 29) (σ 86 10) r t (α 116 i) x1 x2) = 0) i) a b) → (∀ b : Int, 0 ≤ b → b < u90018 → ¬ (fun r t : Int => ¬ t = r ∧ qbit (ql_and x1 (ql_xor (σ 86 10) (-1))) r = 1 ∧ qbit (ql_and x1 (ql_xor (σ 86 10) (-1))) t = 1 ∧ ∃ i : Nat, (i : Int) < σ 86 50 ∧ (fun i : Nat => α 115 i = t ∧ ¬ g1 (qNVr σ α (σ 86 29) (σ 86 10) r t (α 116 i) x1 x2) = 0) i) u81036 b) → qr_W (qe L xs vb) (d + 47) qx_e248 (fun r w' => ∃ σ' α', w' = qw σ' α' κ ρ ∧ qI σ' α' κ ρ ∧ qFr [(86, 15), (86, 23), (86, 30), (86, 35), (86, 36), (86, 37), (86, 38), (86, 39)] [96, 109] σ α σ' α' ∧ ∃ v : Int, r = some (.int (qz v)) ∧ ((-1) ≤ v ∧ v ≤ 3131) ∧ (v = -1 ∨ (0 ≤ v ∧ v / 100 ≤ 31 ∧ v % 100 ≤ 31)) ∧ ((0 ≤ v ∧ qFst (fun r t : Int => ¬ t = r ∧ qbit (ql_and x1 (ql_xor (σ 86 10) (-1))) r = 1 ∧ qbit (ql_and x1 (ql_xor (σ 86 10) (-1))) t = 1 ∧ ∃ i : Nat, (i : Int) < σ 86 50 ∧ (fun i : Nat => α 115 i = t ∧ ¬ g1 (qNVr σ α (σ 86 29) (σ 86 10) r t (α 116 i) x1 x2) = 0) i) (σ 86 6) v) ∨ (qFst (fun r t : Int => ¬ t = r ∧ qbit (ql_and x1 (ql_xor (σ 86 10) (-1))) r = 1 ∧ qbit (ql_and x1 (ql_xor (σ 86 10) (-1))) t = 1 ∧ ∃ i : Nat, (i : Int) < σ 86 50 ∧ (fun i : Nat => α 115 i = t ∧ ¬ g1 (qNVr σ α (σ 86 29) (σ 86 10) r t (α 116 i) x1 x2) = 0) i) (σ 86 6) (-1) ∧ qFst (fun p q : Int => ¬ q = p ∧ qbit (ql_and x1 (ql_xor (σ 86 10) (-1))) p = 1 ∧ qbit (ql_and x1 (ql_xor (σ 86 10) (-1))) q = 1 ∧ ¬ g0 (qNVr σ α (σ 86 29) (σ 86 10) p q (-1) x1 x2) = 0) (σ 86 6) v))) (15, ls, [], qw σ90019 α90020 κ ρ, 0, 0) := by
          intro n
          induction n with
          | zero => intro ls u90018 σ90019 α90020 hm g90013 g90014 g90015 g90016 g90017 hf90034 hI90021 hF90022 hk90023 hk90024 hk90025 hk90026 hk90027 hk90028 hk90029 hk90030 hk90031 hk90032 hk90033 hx90035 hx90036; exact False.elim (by omega)
          | succ n ih90038 =>
            intro ls u90018 σ90019 α90020 hm g90013 g90014 g90015 g90016 g90017 hf90034 hI90021 hF90022 hk90023 hk90024 hk90025 hk90026 hk90027 hk90028 hk90029 hk90030 hk90031 hk90032 hk90033 hx90035 hx90036
            refine qr_iload 17 rfl g90017 rfl ?_
            refine qr_aload_n 18 rfl g90013 rfl ?_
            refine qr_get 21 rfl rfl rfl (by decide) rfl ?_
            refine qy_v (σ 86 6) ((hk90023).trans rfl) ?_
            refine qr_icmp_ge 95 24 rfl rfl rfl (qrg hf90034 (by decide) (by decide)) (qrg hz86_6 (by decide) (by decide)) (fun h90039 => ?_) (fun h90039 => ?_)
            · skip
              refine qr_iinc _ 98 rfl g90016 (by decide) rfl rfl ?_
              refine qr_goto 3 rfl rfl ?_
              exact ih81055 _ (u81036 + 1) σ90019 α90020 (by omega) (qm_gk g90013 (by decide) (Or.inl (by decide))) (qm_gk g90014 (by decide) (Or.inl (by decide))) (qm_gk g90015 (by decide) (Or.inr rfl)) (qm_ge _ _ _) (by omega) hI90021 hF90022 ((hk90023).trans rfl) ((hk90024).trans rfl) ((hk90025).trans rfl) ((hk90026).trans rfl) ((hk90027).trans rfl) ((hk90028).trans rfl) ((hk90029).trans rfl) ((hk90030).trans rfl) ((hk90031).trans rfl) hk90032 hk90033 (qfs_o hx81053 (fun b h1 h2 => hx90036 b h1 (by omega)))
            · skip
              refine qr_lload_n 25 rfl g90014 rfl ?_
              refine qr_aload_n 26 rfl g90013 rfl ?_
              refine qr_get 29 rfl rfl rfl (by decide) rfl ?_
              refine qy_vl (σ 86 10) ((hk90024).trans rfl) ?_
              refine qr_ldc2 (-1) 32 rfl (by decide) rfl ?_
              refine qr_lxor 33 rfl rfl ?_
              refine qy_canlE (fun v90040 hv90040 hev90040 => ?_)
              refine qr_land 34 rfl rfl ?_
              refine qy_canlE (fun v90041 hv90041 hev90041 => ?_)
              refine qr_iload 36 rfl g90016 rfl ?_
              refine qr_callN 39 rfl rfl rfl (sf_226x (d := d + 46) hI90021 hv90041 (by omega)) ?_
              rintro _ _ ⟨rfl, v90042, rfl, hv90042, hp90043⟩
              show qr_W (qe L xs vb) (d + 47) qx_e248 _ (39, _, [.int (qz v90042)], qw σ90019 α90020 κ ρ, 0, 0)
              rw [ql_val hev90041 (by omega) (ql_and_r _ _), ql_val hev90040 (by omega) (ql_xor_r _ _)] at hp90043
              refine qr_if_eq 95 42 rfl rfl rfl (qrg hv90042 (by decide) (by decide)) (fun h90044 => ?_) (fun h90044 => ?_)
              · skip
                refine qr_iinc _ 98 rfl g90016 (by decide) rfl rfl ?_
                refine qr_goto 3 rfl rfl ?_
                exact ih81055 _ (u81036 + 1) σ90019 α90020 (by omega) (qm_gk g90013 (by decide) (Or.inl (by decide))) (qm_gk g90014 (by decide) (Or.inl (by decide))) (qm_gk g90015 (by decide) (Or.inr rfl)) (qm_ge _ _ _) (by omega) hI90021 hF90022 ((hk90023).trans rfl) ((hk90024).trans rfl) ((hk90025).trans rfl) ((hk90026).trans rfl) ((hk90027).trans rfl) ((hk90028).trans rfl) ((hk90029).trans rfl) ((hk90030).trans rfl) ((hk90031).trans rfl) hk90032 hk90033 (qfs_o hx81053 (fun b h1 h2 hc => absurd hc.2.1 (by omega)))
              · skip
                refine qr_iload 44 rfl g90017 rfl ?_
                refine qr_iload 46 rfl g90016 rfl ?_
                refine qr_icmp_eq 89 49 rfl rfl rfl (qrg hf90034 (by decide) (by decide)) (qrg hf81052 (by decide) (by decide)) (fun h90045 => ?_) (fun h90045 => ?_)
                · skip
                  refine qr_iinc _ 92 rfl g90017 (by decide) rfl rfl ?_
                  refine qr_goto 15 rfl rfl ?_
                  exact ih90038 _ (u90018 + 1) σ90019 α90020 (by omega) (qm_gk g90013 (by decide) (Or.inl (by decide))) (qm_gk g90014 (by decide) (Or.inl (by decide))) (qm_gk g90015 (by decide) (Or.inl (by decide))) (qm_gk g90016 (by decide) (Or.inr rfl)) (qm_ge _ _ _) (by omega) hI90021 hF90022 ((hk90023).trans rfl) ((hk90024).trans rfl) ((hk90025).trans rfl) ((hk90026).trans rfl) ((hk90027).trans rfl) ((hk90028).trans rfl) ((hk90029).trans rfl) ((hk90030).trans rfl) ((hk90031).trans rfl) hk90032 hk90033 hx81053 (qfs_i hx90036 (fun hc => hc.1 (by omega)))
                · skip
                  refine qr_lload_n 50 rfl g90014 rfl ?_
                  refine qr_aload_n 51 rfl g90013 rfl ?_
                  refine qr_get 54 rfl rfl rfl (by decide) rfl ?_
                  refine qy_vl (σ 86 10) ((hk90024).trans rfl) ?_
                  refine qr_ldc2 (-1) 57 rfl (by decide) rfl ?_
                  refine qr_lxor 58 rfl rfl ?_
                  refine qy_canlE (fun v90046 hv90046 hev90046 => ?_)
                  refine qr_land 59 rfl rfl ?_
                  refine qy_canlE (fun v90047 hv90047 hev90047 => ?_)
                  refine qr_iload 61 rfl g90017 rfl ?_
                  refine qr_callN 64 rfl rfl rfl (sf_226x (d := d + 46) hI90021 hv90047 (by omega)) ?_
                  rintro _ _ ⟨rfl, v90048, rfl, hv90048, hp90049⟩
                  show qr_W (qe L xs vb) (d + 47) qx_e248 _ (64, _, [.int (qz v90048)], qw σ90019 α90020 κ ρ, 0, 0)
                  rw [ql_val hev90047 (by omega) (ql_and_r _ _), ql_val hev90046 (by omega) (ql_xor_r _ _)] at hp90049
                  refine qr_if_eq 89 67 rfl rfl rfl (qrg hv90048 (by decide) (by decide)) (fun h90050 => ?_) (fun h90050 => ?_)
                  · skip
                    refine qr_iinc _ 92 rfl g90017 (by decide) rfl rfl ?_
                    refine qr_goto 15 rfl rfl ?_
                    exact ih90038 _ (u90018 + 1) σ90019 α90020 (by omega) (qm_gk g90013 (by decide) (Or.inl (by decide))) (qm_gk g90014 (by decide) (Or.inl (by decide))) (qm_gk g90015 (by decide) (Or.inl (by decide))) (qm_gk g90016 (by decide) (Or.inr rfl)) (qm_ge _ _ _) (by omega) hI90021 hF90022 ((hk90023).trans rfl) ((hk90024).trans rfl) ((hk90025).trans rfl) ((hk90026).trans rfl) ((hk90027).trans rfl) ((hk90028).trans rfl) ((hk90029).trans rfl) ((hk90030).trans rfl) ((hk90031).trans rfl) hk90032 hk90033 hx81053 (qfs_i hx90036 (fun hc => absurd hc.2.2.1 (by omega)))
                  · skip
                    refine qr_aload_n 68 rfl g90013 rfl ?_
                    refine qr_iload 70 rfl g90016 rfl ?_
                    refine qr_iload 72 rfl g90017 rfl ?_
                    refine qr_lload_n 73 rfl g90014 rfl ?_
                    refine qr_iload_n 74 rfl g90015 rfl ?_
                    have hs90051 : 0 ≤ σ90019 86 50 ∧ σ90019 86 50 ≤ 31 := hI90021.1 86 50
                    have hs90052 : σ90019 86 50 = (σ 86 50) := (hk90031).trans rfl
                    have hs90053 : 0 ≤ σ90019 86 6 ∧ σ90019 86 6 ≤ 32 := hI90021.1 86 6
                    have hs90054 : σ90019 86 6 = (σ 86 6) := (hk90023).trans rfl
                    refine qr_callN 77 rfl rfl rfl (sf_249_86x (d := d + 0) hI90021 (by omega) (by omega) r1 r2 (by omega) (qPG_fr hF90022 (by decide) (by decide) p1) (qZf_fr hF90022 (by decide) (by decide) p2) (qZk_fr hF90022 (by decide) (by decide) p3) (by omega) (by rw [hF90022.1 86 50 (by decide), hF90022.1 86 6 (by decide), hF90022.2 116 (by decide)]; exact p4)) ?_
                    rintro _ _ ⟨σ90057, α90058, rfl, hI90059, hG90060, v90055, rfl, hv90055, hx90056⟩
                    have hF90061 : qFr [(86, 15), (86, 23), (86, 30), (86, 35), (86, 36), (86, 37), (86, 38), (86, 39)] [96, 109] σ α σ90057 α90058 := qFr_t hF90022 hG90060 (by decide) (by decide)
                    rw [hF90022.2 115 (by decide), hF90022.2 116 (by decide), hF90022.1 86 10 (by decide), hF90022.1 86 29 (by decide), hF90022.1 86 50 (by decide)] at hx90056
                    show qr_W (qe L xs vb) (d + 47) qx_e248 _ (77, _, [.int (qz v90055)], qw σ90057 α90058 κ ρ, 0, 0)
                    simp only [qNVr_fr hF90022 (by decide) (by decide)] at hx90056
                    refine qr_if_eq 89 80 rfl rfl rfl (qrg hv90055 (by decide) (by decide)) (fun h90062 => ?_) (fun h90062 => ?_)
                    · skip
                      refine qr_iinc _ 92 rfl g90017 (by decide) rfl rfl ?_
                      refine qr_goto 15 rfl rfl ?_
                      exact ih90038 _ (u90018 + 1) σ90057 α90058 (by omega) (qm_gk g90013 (by decide) (Or.inl (by decide))) (qm_gk g90014 (by decide) (Or.inl (by decide))) (qm_gk g90015 (by decide) (Or.inl (by decide))) (qm_gk g90016 (by decide) (Or.inr rfl)) (qm_ge _ _ _) (by omega) hI90059 hF90061 ((hG90060.1 86 6 (by decide)).trans ((hk90023).trans rfl)) ((hG90060.1 86 10 (by decide)).trans ((hk90024).trans rfl)) ((hG90060.1 86 11 (by decide)).trans ((hk90025).trans rfl)) ((hG90060.1 86 16 (by decide)).trans ((hk90026).trans rfl)) ((hG90060.1 86 22 (by decide)).trans ((hk90027).trans rfl)) ((hG90060.1 86 24 (by decide)).trans ((hk90028).trans rfl)) ((hG90060.1 86 29 (by decide)).trans ((hk90029).trans rfl)) ((hG90060.1 86 41 (by decide)).trans ((hk90030).trans rfl)) ((hG90060.1 86 50 (by decide)).trans ((hk90031).trans rfl)) ((hG90060.2 115 (by decide)).trans hk90032) ((hG90060.2 116 (by decide)).trans hk90033) hx81053 (qfs_i hx90036 (fun hc => by obtain ⟨_, _, _, i, hi, h1⟩ := hc; rcases hx90056 with hm | hm; (exact absurd hm.1 (by omega)); (exact hm.2 i hi h1)))
                    · skip
                      refine qr_bipush 82 rfl (by decide) rfl ?_
                      refine qr_iload 84 rfl g90016 rfl ?_
                      refine qr_imul 85 rfl rfl ?_
                      refine qr_iload 87 rfl g90017 rfl ?_
                      refine qr_iadd 88 rfl rfl ?_
                      refine qr_retI rfl rfl (by decide) (by decide) ?_
                      exact ⟨_, _, rfl, hI90059, hF90061, ((100 * u81036) + u90018), rfl, (by omega), by omega, (Or.inl ⟨by omega, qFst_hit (p := u81036) (q := u90018) (by omega) (by omega) (by omega) (by omega) ⟨by omega, by omega, by omega, by rcases hx90056 with hm | hm; (exact hm.2); (exact absurd hm.1 (by omega))⟩ hx90035 hx90036⟩)⟩
        exact hL90037 ((32 - 0 + 1 : Int)).toNat _ 0 σ81037 α81038 (by omega) (qm_gk g81032 (by decide) (Or.inl (by decide))) (qm_gk g81033 (by decide) (Or.inl (by decide))) (qm_gk g81034 (by decide) (Or.inl (by decide))) (qm_gk g81035 (by decide) (Or.inr rfl)) (qm_ge _ _ _) (by decide) hI81039 hF81040 ((hk81041).trans rfl) ((hk81042).trans rfl) ((hk81043).trans rfl) ((hk81044).trans rfl) ((hk81045).trans rfl) ((hk81046).trans rfl) ((hk81047).trans rfl) ((hk81048).trans rfl) ((hk81049).trans rfl) hk81050 hk81051 hx81053 qfs_j
  exact hL81054 ((32 - 0 + 1 : Int)).toNat _ 0 σ α (by omega) rfl rfl rfl rfl (by decide) hI hF0 (rfl) (rfl) (rfl) (rfl) (rfl) (rfl) (rfl) (rfl) (rfl) rfl rfl qfs_0
end
section
/-! lists in rows; a telling -/
def qLs (r : Nat → Int) (n : Int) (l : List Int) : Prop := (l.length : Int) = n ∧ ∀ (i : Nat) (h : i < l.length), r i = l[i]
theorem qLs_0 (r : Nat → Int) : qLs r 0 [] := ⟨rfl, fun i h => absurd h (Nat.not_lt_zero i)⟩
theorem qLs_app {r : Nat → Int} {n v : Int} {l : List Int} (h : qLs r n l) : qLs (qzu r n.toNat v) (n + 1) (l ++ [v]) := by
  obtain ⟨h1, h2⟩ := h
  have hl : (l ++ [v]).length = l.length + 1 := List.length_append
  refine ⟨by rw [hl]; omega, fun i hi => ?_⟩
  have hn : n.toNat = l.length := by omega
  rw [hl] at hi
  by_cases c : i < l.length
  · rw [List.getElem_append_left c, ← h2 i c]
    exact if_neg (by omega)
  · have e : i = l.length := by omega
    have e2 : (l ++ [v])[i]'(by rw [hl]; exact hi) = v := by
      rw [List.getElem_append_right (by omega)]
      simp
    rw [e2]
    exact if_pos (by omega)
/-- the peaces of a row of bits, the least first -/
def qBr (P : Nat → Int) : Nat → List Int
  | 0 => []
  | n + 1 => if P n = 1 then qBr P n ++ [(n : Int)] else qBr P n
theorem qBr_s (P : Nat → Int) {i : Int} (h : 0 ≤ i) : (P i.toNat = 1 ∧ qBr P (i + 1).toNat = qBr P i.toNat ++ [i]) ∨ (¬ P i.toNat = 1 ∧ qBr P (i + 1).toNat = qBr P i.toNat) := by
  obtain ⟨n, rfl⟩ : ∃ n : Nat, i = n := ⟨i.toNat, by omega⟩
  rw [show ((n : Int) + 1).toNat = n + 1 by omega, Int.toNat_natCast]
  by_cases e : P n = 1
  · exact Or.inl ⟨e, if_pos e⟩
  · exact Or.inr ⟨e, if_neg e⟩
theorem qBr_eq {P Q : Nat → Int} : ∀ n : Nat, (∀ k, k < n → P k = Q k) → qBr P n = qBr Q n
  | 0, _ => rfl
  | n + 1, h => by
    show (if P n = 1 then qBr P n ++ [(n : Int)] else qBr P n) = (if Q n = 1 then qBr Q n ++ [(n : Int)] else qBr Q n)
    rw [qBr_eq n (fun k hk => h k (by omega)), h n (by omega)]
/-- the first of two, as a number -/
noncomputable def qfst (C : Int → Int → Prop) (n : Int) : Int := @Classical.epsilon Int ⟨0⟩ (qFst C n)
theorem qfst_of {C : Int → Int → Prop} {n v : Int} (hn : n ≤ 32) (h : qFst C n v) : qfst C n = v := qFst_un hn (@Classical.epsilon_spec Int (qFst C n) ⟨v, h⟩) h
theorem qFst_ex (C : Int → Int → Prop) (n : Int) (hn : n ≤ 32) : qFst C n (qfst C n) := by
  have key : ∀ m : Nat, (∃ p q : Int, 0 ≤ p ∧ p < n ∧ 0 ≤ q ∧ q < n ∧ C p q ∧ 100 * p + q < (m : Int)) → ∃ v, qFst C n v := by
    intro m
    induction m with
    | zero => intro ⟨p, q, h1, h2, h3, h4, h5, h6⟩; exact False.elim (by omega)
    | succ m ih =>
      intro ⟨p, q, h1, h2, h3, h4, h5, h6⟩
      by_cases c : ∃ p q : Int, 0 ≤ p ∧ p < n ∧ 0 ≤ q ∧ q < n ∧ C p q ∧ 100 * p + q < (m : Int)
      · exact ih c
      · refine ⟨100 * p + q, Or.inr ⟨by omega, ?_, fun a b g1 g2 g3 g4 g5 g6 => c ⟨a, b, g1, g2, g3, g4, g6, by omega⟩⟩⟩
        rw [show (100 * p + q) / 100 = p by omega, show (100 * p + q) % 100 = q by omega]
        exact h5
  have ex : ∃ v, qFst C n v := by
    by_cases c : ∃ p q : Int, 0 ≤ p ∧ p < n ∧ 0 ≤ q ∧ q < n ∧ C p q
    · obtain ⟨p, q, h1, h2, h3, h4, h5⟩ := c
      exact key 4000 ⟨p, q, h1, h2, h3, h4, h5, by omega⟩
    · exact ⟨-1, Or.inl ⟨rfl, fun p q h1 h2 h3 h4 h5 => c ⟨p, q, h1, h2, h3, h4, h5⟩⟩⟩
  exact @Classical.epsilon_spec Int (qFst C n) ex
theorem qLs_in {r r2 Q : Nat → Int} {n n2 : Int} {l : List Int} (e : r2 = r) (en : n2 = n) (h : qLs r n l) : qLs r2 n2 (l ++ qBr Q (0 : Int).toNat) := by
  rw [e, en, show qBr Q (0 : Int).toNat = [] from rfl, List.append_nil]
  exact h
theorem qLs_bn {Q w1 : Nat → Int} {i n : Int} {l : List Int} (hi : 0 ≤ i) (hb : ¬ Q i.toNat = 1) (h : qLs w1 n (l ++ qBr Q i.toNat)) : qLs w1 n (l ++ qBr Q (i + 1).toNat) := by
  have h1 := qBr_s Q hi
  rcases h1 with h1 | h1
  · exact absurd h1.1 hb
  · rw [h1.2]
    exact h
theorem qLs_by {Q w1 rw2 : Nat → Int} {i n n2 : Int} {l : List Int} (hi : 0 ≤ i) (hb : Q i.toNat = 1) (e : rw2 = qzu w1 n.toNat i) (en : n2 = n + 1) (h : qLs w1 n (l ++ qBr Q i.toNat)) : qLs rw2 n2 (l ++ qBr Q (i + 1).toNat) := by
  have h1 := qBr_s Q hi
  rcases h1 with h1 | h1
  · rw [h1.2, e, en, ← List.append_assoc]
    exact qLs_app h
  · exact absurd hb h1.1
theorem qBr_st {Q : Nat → Int} (h01 : ∀ k, 0 ≤ Q k ∧ Q k ≤ 1) : ∀ (n i : Nat), i ≤ n → qsm Q n ≤ qsm Q i → qBr Q i = qBr Q n
  | 0, i, h, _ => by rw [Nat.le_zero.mp h]
  | n + 1, i, h, g => by
    by_cases e : i = n + 1
    · rw [e]
    · have hs : qsm Q (n + 1) = qsm Q n + Q n := rfl
      have h0 := h01 n
      have hmono : ∀ m : Nat, qsm Q i ≤ qsm Q (i + m) := by
        intro m
        induction m with
        | zero => exact Int.le_refl _
        | succ m ih =>
          have h2 : qsm Q (i + (m + 1)) = qsm Q (i + m) + Q (i + m) := rfl
          have h3 := h01 (i + m)
          omega
      have h4 := hmono (n - i)
      rw [show i + (n - i) = n by omega] at h4
      rw [qBr_st h01 n i (by omega) (by omega)]
      exact (if_neg (show ¬ Q n = 1 by omega)).symm
theorem qBr_iff {P Q : Nat → Int} : ∀ n : Nat, (∀ k, k < n → (P k = 1 ↔ Q k = 1)) → qBr P n = qBr Q n
  | 0, _ => rfl
  | n + 1, h => by
    show (if P n = 1 then qBr P n ++ [(n : Int)] else qBr P n) = (if Q n = 1 then qBr Q n ++ [(n : Int)] else qBr Q n)
    rw [qBr_iff n (fun k hk => h k (by omega))]
    by_cases e : P n = 1
    · rw [if_pos e, if_pos ((h n (by omega)).mp e)]
    · rw [if_neg e, if_neg (fun z => e ((h n (by omega)).mpr z))]
theorem qBr_stop {Q : Nat → Int} {n : Nat} (h : ∀ k, n ≤ k → ¬ Q k = 1) : ∀ m : Nat, qBr Q (n + m) = qBr Q n
  | 0 => rfl
  | m + 1 => (if_neg (h (n + m) (by omega))).trans (qBr_stop h m)
theorem qsm_le {f g : Nat → Int} : ∀ n : Nat, (∀ k, k < n → f k ≤ g k) → qsm f n ≤ qsm g n
  | 0, _ => Int.le_refl _
  | n + 1, h => by
    have h1 := qsm_le n (fun k hk => h k (by omega))
    have h2 := h n (by omega)
    show qsm f n + f n ≤ qsm g n + g n
    omega
theorem qsm_sub {f g q : Nat → Int} : ∀ n : Nat, (∀ k, k < n → f k = g k - q k) → qsm f n = qsm g n - qsm q n
  | 0, _ => rfl
  | n + 1, h => by
    have h1 := qsm_sub n (fun k hk => h k (by omega))
    have h2 := h n (by omega)
    show qsm f n + f n = qsm g n + g n - (qsm q n + q n)
    omega
theorem qsm_mo {Q : Nat → Int} (h01 : ∀ k, 0 ≤ Q k ∧ Q k ≤ 1) (i : Nat) : ∀ m : Nat, qsm Q i ≤ qsm Q (i + m)
  | 0 => Int.le_refl _
  | m + 1 => by
    have h1 := qsm_mo h01 i m
    have h2 : qsm Q (i + (m + 1)) = qsm Q (i + m) + Q (i + m) := rfl
    have h3 := h01 (i + m)
    omega
theorem qsm_b (br : Int) {i : Int} (hi : 0 ≤ i) : qsm (fun k => qbit br (k : Int)) (i + 1).toNat = qsm (fun k => qbit br (k : Int)) i.toNat + qbit br i := by
  have h := qsm_s (fun k => qbit br (k : Int)) hi
  have e : ((i.toNat : Nat) : Int) = i := by omega
  rw [h]
  show _ + qbit br ((i.toNat : Nat) : Int) = _
  rw [e]
/-- whom a peace binds; those broken; those that are not -/
def qbF (gv : Nat → Int) (cov : Nat → Int → Int) (p : Int) (k : Nat) : Int := if gv k = p ∨ cov k p = 1 then 1 else 0
theorem qbF_c (gv cv : Nat → Int) (p : Int) (k : Nat) : (qbF gv (qcv cv) p k = 1 ∧ (gv k = p ∨ qbit (cv k) p = 1)) ∨ (qbF gv (qcv cv) p k = 0 ∧ ¬ (gv k = p ∨ qbit (cv k) p = 1)) := by
  by_cases c : gv k = p ∨ qbit (cv k) p = 1
  · exact Or.inl ⟨if_pos c, c⟩
  · exact Or.inr ⟨if_neg c, c⟩
theorem qbF_d (gv : Nat → Int) (cov : Nat → Int → Int) (p : Int) (k : Nat) : (qbF gv cov p k = 1 ∧ (gv k = p ∨ cov k p = 1)) ∨ (qbF gv cov p k = 0 ∧ ¬ (gv k = p ∨ cov k p = 1)) := by
  by_cases c : gv k = p ∨ cov k p = 1
  · exact Or.inl ⟨if_pos c, c⟩
  · exact Or.inr ⟨if_neg c, c⟩
def qPk (H B : Nat → Int) (k : Nat) : Int := if H k = 1 ∧ B k = 1 then 1 else 0
theorem qPk_c (H B : Nat → Int) (k : Nat) : (qPk H B k = 1 ∧ H k = 1 ∧ B k = 1) ∨ (qPk H B k = 0 ∧ ¬ (H k = 1 ∧ B k = 1)) := by
  by_cases c : H k = 1 ∧ B k = 1
  · exact Or.inl ⟨if_pos c, c⟩
  · exact Or.inr ⟨if_neg c, c⟩
def qnb (b : Int) (k : Nat) : Int := 1 - qbit b (k : Int)
theorem qhG_c (b : Int) (f : Nat → Int) (k : Nat) : (qbit b (k : Int) = 1 ∧ qhG b f k = 0) ∨ (¬ qbit b (k : Int) = 1 ∧ qhG b f k = f k) := by
  by_cases c : qbit b (k : Int) = 1
  · exact Or.inl ⟨c, if_pos c⟩
  · exact Or.inr ⟨c, if_neg c⟩
theorem qbs_c (f : Nat → Int) {i : Int} (hi : 0 ≤ i) {n : Nat} (hn : n ≤ 64) : (qbit (qbs f n) i = 1 ∧ i < (n : Int) ∧ f i.toNat = 1) ∨ (qbit (qbs f n) i = 0 ∧ ¬ (i < (n : Int) ∧ f i.toNat = 1)) := by
  rw [qbs_bit f hi n hn]
  by_cases c : i < (n : Int) ∧ f i.toNat = 1
  · exact Or.inl ⟨if_pos c, c⟩
  · exact Or.inr ⟨if_neg c, c⟩
theorem qband_c (a b i : Int) : (qbit (ql_and a b) i = 1 ∧ qbit a i = 1 ∧ qbit b i = 1) ∨ (qbit (ql_and a b) i = 0 ∧ ¬ (qbit a i = 1 ∧ qbit b i = 1)) := by
  rw [qbit_and]
  by_cases c : qbit a i = 1 ∧ qbit b i = 1
  · exact Or.inl ⟨if_pos c, c⟩
  · exact Or.inr ⟨if_neg c, c⟩
theorem qbor_c (a b i : Int) : (qbit (ql_or a b) i = 1 ∧ (qbit a i = 1 ∨ qbit b i = 1)) ∨ (qbit (ql_or a b) i = 0 ∧ ¬ (qbit a i = 1 ∨ qbit b i = 1)) := by
  rw [qbit_or]
  by_cases c : qbit a i = 1 ∨ qbit b i = 1
  · exact Or.inl ⟨if_pos c, c⟩
  · exact Or.inr ⟨if_neg c, c⟩
theorem qld_br {HF BF : Nat → Int} {n : Nat} {b hd bd br : Int} (hn : n ≤ 64) (h1 : hd = ql_and (qbs HF n) (ql_xor b (-1))) (h2 : bd = qbs BF n) (h3 : br = ql_and hd bd) : br = qbs (qPk (qhG b HF) BF) n := by
  rw [h3, h1, h2]
  refine qbit_ext (ql_and_r _ _) (qbs_r _ _) (fun i hi hi2 => ?_)
  have a1 := qband_c (ql_and (qbs HF n) (ql_xor b (-1))) (qbs BF n) i
  have a2 := qband_c (qbs HF n) (ql_xor b (-1)) i
  have a3 := qbs_c HF hi hn
  have a4 := qbs_c BF hi hn
  have a5 := qbs_c (qPk (qhG b HF) BF) hi hn
  have a6 := qPk_c (qhG b HF) BF i.toNat
  have a7 := qhG_c b HF i.toNat
  rw [show ((i.toNat : Nat) : Int) = i by omega] at a7
  have a8 := qbit_not b ⟨hi, hi2⟩
  have a9 := qbit_r b i
  omega
/-- a telling: blows, who is left, broken as bits and in their order -/
abbrev qTS := List Int × Int × Int × List Int
/-- one strikes another one: H whether a peace is between them (with those broken), B whether it binds the one -/
def qland (H : Int → Int → Int → Nat → Int) (B : Int → Nat → Int) (m : Nat) (s : qTS) (v : Int) : qTS :=
  (s.1 ++ [v], ql_and s.2.1 (ql_xor (ql_shl 1 (v % 100)) (-1)), ql_or s.2.2.1 (qbs (qPk (H s.2.2.1 (v / 100) (v % 100)) (B (v / 100))) m), s.2.2.2 ++ qBr (qPk (H s.2.2.1 (v / 100) (v % 100)) (B (v / 100))) m)
/-- whom it falls to next -/
def qkC1 (W : Int → Int → Int → Int → Int → Int → Int) (s : qTS) (r t : Int) : Prop := ¬ r = t ∧ qbit s.2.1 r = 1 ∧ qbit s.2.1 t = 1 ∧ ∃ (i : Nat) (h : i < s.1.length), s.1[i] / 100 = t ∧ ¬ W 1 s.2.2.1 r t (s.1[i] % 100) s.2.1 = 0
def qkC0 (W : Int → Int → Int → Int → Int → Int → Int) (s : qTS) (p q : Int) : Prop := ¬ p = q ∧ qbit s.2.1 p = 1 ∧ qbit s.2.1 q = 1 ∧ ¬ W 0 s.2.2.1 p q (-1) s.2.1 = 0
noncomputable def qnext (W : Int → Int → Int → Int → Int → Int → Int) (n : Int) (s : qTS) : Int := if qfst (qkC1 W s) n < 0 then qfst (qkC0 W s) n else qfst (qkC1 W s) n
/-- on, at most k blows more -/
noncomputable def qtell (H : Int → Int → Int → Nat → Int) (B : Int → Nat → Int) (m : Nat) (W : Int → Int → Int → Int → Int → Int → Int) (n : Int) : Nat → qTS → qTS
  | 0, s => s
  | k + 1, s => @ite _ (qnext W n s < 0) (Classical.propDecidable _) s (qtell H B m W n k (qland H B m s (qnext W n s)))
theorem qnext_1 {W : Int → Int → Int → Int → Int → Int → Int} {n v : Int} {s : qTS} (h1 : qfst (qkC1 W s) n = v) (h : ¬ v < 0) : qnext W n s = v := by
  unfold qnext
  rw [h1, if_neg h]
theorem qnext_0 {W : Int → Int → Int → Int → Int → Int → Int} {n v w : Int} {s : qTS} (h1 : qfst (qkC1 W s) n = v) (h : v < 0) (h0 : qfst (qkC0 W s) n = w) : qnext W n s = w := by
  unfold qnext
  rw [h1, if_pos h, h0]
theorem qtell_go {H : Int → Int → Int → Nat → Int} {B : Int → Nat → Int} {m : Nat} {W : Int → Int → Int → Int → Int → Int → Int} {n v i : Int} {s X : qTS} (hi : i ≤ 30) (hv : qnext W n s = v) (h0 : ¬ v < 0) (h : qtell H B m W n (31 - i).toNat s = X) : qtell H B m W n (31 - (i + 1)).toNat (qland H B m s v) = X := by
  rw [show (31 - i).toNat = (31 - (i + 1)).toNat + 1 by omega] at h
  rw [← h]
  have h0' : ¬ qnext W n s < 0 := by rw [hv]; exact h0
  rw [show qtell H B m W n ((31 - (i + 1)).toNat + 1) s = qtell H B m W n (31 - (i + 1)).toNat (qland H B m s (qnext W n s)) from if_neg h0', hv]
theorem qtell_end {H : Int → Int → Int → Nat → Int} {B : Int → Nat → Int} {m : Nat} {W : Int → Int → Int → Int → Int → Int → Int} {n i : Int} {s X : qTS} (hi : 31 ≤ i) (h : qtell H B m W n (31 - i).toNat s = X) : s = X := by
  rw [show (31 - i).toNat = 0 by omega] at h
  exact h
theorem qtell_stop {H : Int → Int → Int → Nat → Int} {B : Int → Nat → Int} {m : Nat} {W : Int → Int → Int → Int → Int → Int → Int} {n v i : Int} {s X : qTS} (hi : i ≤ 30) (hv : qnext W n s = v) (h0 : v < 0) (h : qtell H B m W n (31 - i).toNat s = X) : s = X := by
  rw [show (31 - i).toNat = (31 - (i + 1)).toNat + 1 by omega] at h
  rw [← h]
  have h0' : qnext W n s < 0 := by rw [hv]; exact h0
  exact (show qtell H B m W n ((31 - (i + 1)).toNat + 1) s = s from if_pos h0').symm
noncomputable def qHc (σ α : Nat → Nat → Int) (b p q : Int) : Nat → Int := qhG b (qhF (α 35) (α 36) (α 37) (α 40) (qcv (α 41)) (qlw (α 22)) p q (σ 58 11))
theorem qHc_fr {S : List (Nat × Nat)} {R : List Nat} {σ α σ' α' : Nat → Nat → Int} (hG : qFr S R σ α σ' α') (hs : [(58, 11)].all (fun x => !S.contains x) = true) (hr : [22, 35, 36, 37, 40, 41].all (fun x => !R.contains x) = true) : qHc σ' α' = qHc σ α := by
  have es : ∀ a k, (a, k) ∈ [(58, 11)] → σ' a k = σ a k := fun a k hm => hG.1 a k (fun hn => by
    have h1 := List.all_eq_true.mp hs (a, k) hm
    rw [List.contains_iff_mem.mpr hn] at h1
    exact absurd h1 (by decide))
  have er : ∀ a, a ∈ [22, 35, 36, 37, 40, 41] → α' a = α a := fun a hm => hG.2 a (fun hn => by
    have h1 := List.all_eq_true.mp hr a hm
    rw [List.contains_iff_mem.mpr hn] at h1
    exact absurd h1 (by decide))
  unfold qHc
  rw [es 58 11 (by decide), er 22 (by decide), er 35 (by decide), er 36 (by decide), er 37 (by decide), er 40 (by decide), er 41 (by decide)]
noncomputable def qBc (_ α : Nat → Nat → Int) (p : Int) : Nat → Int := qbF (α 36) (qcv (α 41)) p
theorem qBc_fr {S : List (Nat × Nat)} {R : List Nat} {σ α σ' α' : Nat → Nat → Int} (hG : qFr S R σ α σ' α') (hr : [36, 41].all (fun x => !R.contains x) = true) : qBc σ' α' = qBc σ α := by
  have er : ∀ a, a ∈ [36, 41] → α' a = α a := fun a hm => hG.2 a (fun hn => by
    have h1 := List.all_eq_true.mp hr a hm
    rw [List.contains_iff_mem.mpr hn] at h1
    exact absurd h1 (by decide))
  unfold qBc
  rw [er 36 (by decide), er 41 (by decide)]
noncomputable def qWc (σ α : Nat → Nat → Int) (f0 f1 : (Nat → Int) → Int) (u b p q st t : Int) : Int := if u = 0 then f0 (qNVc σ α b p q st t) else f1 (qNVc σ α b p q st t)
/-- the state of a telling, as the class keeps it -/
def qTl (σ α : Nat → Nat → Int) (r : Nat) (s : qTS) : Prop := qLs (α (r + 1)) (σ r 2) s.1 ∧ σ r 3 = s.2.1 ∧ σ 58 10 = s.2.2.1 ∧ qLs (α (r + 2)) (σ r 5) s.2.2.2 ∧ (∀ (j : Nat) (h : j < s.1.length), qbit (σ r 6) (s.1[j] / 100) = 1) ∧ σ r 5 + qsm (qnb (σ 58 10)) 60 ≤ 60
def qTd (σ α : Nat → Nat → Int) (r : Nat) (s : qTS) : Prop := qLs (α (r + 1)) (σ r 2) s.1 ∧ σ r 3 = s.2.1 ∧ qLs (α (r + 2)) (σ r 5) s.2.2.2
theorem qnb_01 (b : Int) (k : Nat) : 0 ≤ qnb b k ∧ qnb b k ≤ 1 := by
  have h := qbit_r b (k : Int)
  unfold qnb
  omega
theorem qTl_0 {σ α : Nat → Nat → Int} {r : Nat} {t : Int} (h2 : σ r 2 = 0) (h3 : σ r 3 = t) (h10 : σ 58 10 = 0) (h5 : σ r 5 = 0) : qTl σ α r ([], t, 0, []) := by
  refine ⟨by rw [h2]; exact qLs_0 _, h3, h10, by rw [h5]; exact qLs_0 _, fun j h => absurd h (Nat.not_lt_zero j), ?_⟩
  have h := (qsm_01 (f := qnb (σ 58 10)) (fun k => qnb_01 _ k) 60).2
  omega
theorem qTl_a {σ α α' : Nat → Nat → Int} {r : Nat} {s : qTS} (e1 : α' (r + 1) = α (r + 1)) (e2 : α' (r + 2) = α (r + 2)) (h : qTl σ α r s) : qTl σ α' r s := by
  unfold qTl
  rw [e1, e2]
  exact h
theorem qTd_of {σ σ' α : Nat → Nat → Int} {r : Nat} {s : qTS} (e2 : σ' r 2 = σ r 2) (e3 : σ' r 3 = σ r 3) (e5 : σ' r 5 = σ r 5) (h : qTl σ α r s) : qTd σ' α r s := by
  unfold qTd
  rw [e2, e3, e5]
  exact ⟨h.1, h.2.1, h.2.2.2.1⟩
theorem qTl_land {σ α σ' α' : Nat → Nat → Int} {r : Nat} {s : qTS} {x1 x2 br i c : Int} {H : Int → Int → Int → Nat → Int} {B : Int → Nat → Int} {n : Nat} (hx : (0 ≤ x1 ∧ x1 ≤ 31) ∧ 0 ≤ x2 ∧ x2 ≤ 31) (hn : n ≤ 60) (hT : qTl σ α r s)
    (e1 : α' (r + 1) = qzu (α (r + 1)) (σ r 2).toNat (100 * x1 + x2)) (e2 : σ' r 2 = σ r 2 + 1) (e3 : σ' r 3 = ql_and (σ r 3) (ql_xor (ql_shl 1 x2) (-1))) (e6 : σ' r 6 = ql_or (σ r 6) (ql_shl 1 x1)) (e5 : σ' r 5 = c)
    (hbr : br = qbs (qPk (H (σ 58 10) x1 x2) (B x1)) n) (eb : σ' 58 10 = ql_or (σ 58 10) br) (hd : ∀ k : Nat, H (σ 58 10) x1 x2 k = 1 → ¬ qbit (σ 58 10) (k : Int) = 1)
    (hl : qLs (α' (r + 2)) c (s.2.2.2 ++ qBr (fun k => qbit br (k : Int)) i.toNat)) (hc : c = σ r 5 + qsm (fun k => qbit br (k : Int)) i.toNat) (hi : 0 ≤ i ∧ i ≤ 60) (he : 60 ≤ i ∨ 60 ≤ c) : qTl σ' α' r (qland H B n s (100 * x1 + x2)) := by
  obtain ⟨h1, h2, h3, h4, h5, h6⟩ := hT
  have d1 : (100 * x1 + x2) / 100 = x1 := by omega
  have d2 : (100 * x1 + x2) % 100 = x2 := by omega
  have h01 : ∀ k : Nat, 0 ≤ (fun k : Nat => qbit br (k : Int)) k ∧ (fun k : Nat => qbit br (k : Int)) k ≤ 1 := fun k => qbit_r br (k : Int)
  have hQ : ∀ k : Nat, (qbit br (k : Int) = 1 ∧ (k : Int) < (n : Int) ∧ qPk (H (σ 58 10) x1 x2) (B x1) k = 1) ∨ (qbit br (k : Int) = 0 ∧ ¬ ((k : Int) < (n : Int) ∧ qPk (H (σ 58 10) x1 x2) (B x1) k = 1)) := fun k => by
    have h := qbs_c (qPk (H (σ 58 10) x1 x2) (B x1)) (i := (k : Int)) (by omega) (n := n) (by omega)
    rw [← hbr, Int.toNat_natCast] at h
    exact h
  have hdis : ∀ k : Nat, qbit br (k : Int) = 1 → qbit (σ 58 10) (k : Int) = 0 := fun k hk => by
    have a1 := hQ k
    have a2 := qPk_c (H (σ 58 10) x1 x2) (B x1) k
    have a3 := hd k
    have a4 := qbit_r (σ 58 10) (k : Int)
    rcases a2 with a2 | a2
    · have := a3 a2.2.1
      omega
    · omega
  have hle : qsm (fun k : Nat => qbit br (k : Int)) 60 ≤ qsm (qnb (σ 58 10)) 60 := qsm_le 60 (fun k _ => by
    have a1 := hdis k
    have a2 := qbit_r br (k : Int)
    have a4 := qbit_r (σ 58 10) (k : Int)
    show qbit br (k : Int) ≤ 1 - qbit (σ 58 10) (k : Int)
    omega)
  have hmo := qsm_mo h01 i.toNat (60 - i.toNat)
  rw [show i.toNat + (60 - i.toNat) = 60 by omega] at hmo
  have hst : qsm (fun k : Nat => qbit br (k : Int)) 60 ≤ qsm (fun k : Nat => qbit br (k : Int)) i.toNat := by
    rcases he with he | he
    · rw [show i.toNat = 60 by omega]
      exact Int.le_refl _
    · omega
  have hBr := qBr_st h01 60 i.toNat (by omega) hst
  have hBn : qBr (fun k : Nat => qbit br (k : Int)) 60 = qBr (qPk (H (σ 58 10) x1 x2) (B x1)) n := by
    have a := qBr_stop (Q := fun k : Nat => qbit br (k : Int)) (n := n) (fun k hk => by
      have a1 := hQ k
      show ¬ qbit br (k : Int) = 1
      omega) (60 - n)
    rw [show n + (60 - n) = 60 by omega] at a
    rw [a]
    refine qBr_iff n (fun k hk => ?_)
    have a1 := hQ k
    show qbit br (k : Int) = 1 ↔ _
    omega
  refine ⟨?_, ?_, ?_, ?_, ?_, ?_⟩
  · rw [e1, e2]
    exact qLs_app h1
  · show σ' r 3 = ql_and s.2.1 (ql_xor (ql_shl 1 ((100 * x1 + x2) % 100)) (-1))
    rw [e3, h2, d2]
  · show σ' 58 10 = ql_or s.2.2.1 (qbs (qPk (H s.2.2.1 ((100 * x1 + x2) / 100) ((100 * x1 + x2) % 100)) (B ((100 * x1 + x2) / 100))) n)
    rw [eb, hbr, h3, d1, d2]
  · show qLs (α' (r + 2)) (σ' r 5) (s.2.2.2 ++ qBr (qPk (H s.2.2.1 ((100 * x1 + x2) / 100) ((100 * x1 + x2) % 100)) (B ((100 * x1 + x2) / 100))) n)
    rw [hBr, hBn] at hl
    rw [d1, d2, ← h3, e5]
    exact hl
  · intro j h
    have hor : ∀ t : Int, (qbit (σ r 6) t = 1 ∨ t = x1) → qbit (σ' r 6) t = 1 := fun t ht => by
      rw [e6, qbit_or]
      rcases ht with ht | ht
      · exact if_pos (Or.inl ht)
      · refine if_pos (Or.inr ?_)
        rw [qbit_shl (by omega) (by omega)]
        exact if_pos ht
    have hlen : (s.1 ++ [100 * x1 + x2]).length = s.1.length + 1 := List.length_append
    have h2 : j < (s.1 ++ [100 * x1 + x2]).length := h
    show qbit (σ' r 6) ((s.1 ++ [100 * x1 + x2])[j]'h2 / 100) = 1
    by_cases c1 : j < s.1.length
    · have e : (s.1 ++ [100 * x1 + x2])[j]'h2 = s.1[j] := List.getElem_append_left c1
      rw [e]
      exact hor _ (Or.inl (h5 j c1))
    · have e : (s.1 ++ [100 * x1 + x2])[j]'h2 = 100 * x1 + x2 := by
        rw [List.getElem_append_right (show s.1.length ≤ j by omega)]
        simp
      rw [e, d1]
      exact hor _ (Or.inr rfl)
  · have hs : qsm (qnb (ql_or (σ 58 10) br)) 60 = qsm (qnb (σ 58 10)) 60 - qsm (fun k : Nat => qbit br (k : Int)) 60 := qsm_sub 60 (fun k _ => by
      have a1 := hdis k
      have a2 := qbit_r br (k : Int)
      have a4 := qbit_r (σ 58 10) (k : Int)
      have a5 := qbor_c (σ 58 10) br (k : Int)
      show 1 - qbit (ql_or (σ 58 10) br) (k : Int) = 1 - qbit (σ 58 10) (k : Int) - qbit br (k : Int)
      omega)
    rw [e5, eb]
    omega
theorem qHc_d {σ α : Nat → Nat → Int} {b p q : Int} (k : Nat) (h : qHc σ α b p q k = 1) : ¬ qbit b (k : Int) = 1 := fun z => by
  have h2 : qHc σ α b p q k = 0 := if_pos z
  rw [h2] at h
  exact absurd h (by decide)
/-- who helps, who strikes: as a telling has it -/
theorem qtl_1 {σ α σn αn : Nat → Nat → Int} {r : Nat} {s : qTS} {f0 f1 : (Nat → Int) → Int} {v N : Int} (e : qNVc σn αn = qNVc σ α) (hT : qTl σn αn r s) (hN : N ≤ 32) (h : qFst (fun p t : Int => ¬ p = t ∧ qbit (σn r 3) p = 1 ∧ qbit (ql_and (σn r 3) (σn r 6)) t = 1 ∧ ∃ i : Nat, (i : Int) < σn r 2 ∧ (αn (r + 1) i / 100 = t ∧ ¬ f1 (qNVc σn αn (σn 58 10) p t (αn (r + 1) i % 100) (σn r 3)) = 0)) N v) : qfst (qkC1 (qWc σ α f0 f1) s) N = v := by
  obtain ⟨h1, h2, h3, h4, h5, h6⟩ := hT
  refine qfst_of hN (qFst_eq (fun p t hp _ ht _ => ?_) h)
  have hW : ∀ x : Int, qWc σ α f0 f1 1 s.2.2.1 p t x s.2.1 = f1 (qNVc σn αn (σn 58 10) p t x (σn r 3)) := fun x => by
    rw [e, h2, h3]
    exact if_neg (by decide)
  constructor
  · rintro ⟨c1, c2, c3, i, hi, c4, c5⟩
    have hi2 : i < s.1.length := by have := h1.1; omega
    have e1 := h1.2 i hi2
    have a := qband_c (σn r 3) (σn r 6) t
    refine ⟨c1, by rw [← h2]; exact c2, by rw [← h2]; omega, i, hi2, by rw [← e1]; exact c4, ?_⟩
    rw [hW, ← e1]
    exact c5
  · rintro ⟨c1, c2, c3, i, hi2, c4, c5⟩
    have e1 := h1.2 i hi2
    have a := qband_c (σn r 3) (σn r 6) t
    have b := h5 i hi2
    rw [c4] at b
    rw [hW, ← e1] at c5
    rw [← h2] at c3
    refine ⟨c1, by rw [h2]; exact c2, by omega, i, by have := h1.1; omega, by rw [e1]; exact c4, c5⟩
theorem qtl_0 {σ α σn αn : Nat → Nat → Int} {r : Nat} {s : qTS} {f0 f1 : (Nat → Int) → Int} {v N : Int} (e : qNVc σn αn = qNVc σ α) (h2 : σn r 3 = s.2.1) (h3 : σn 58 10 = s.2.2.1) (hN : N ≤ 32) (h : qFst (fun p q : Int => ¬ p = q ∧ qbit (σn r 3) p = 1 ∧ qbit (σn r 3) q = 1 ∧ ¬ f0 (qNVc σn αn (σn 58 10) p q (-1) (σn r 3)) = 0) N v) : qfst (qkC0 (qWc σ α f0 f1) s) N = v := by
  refine qfst_of hN (qFst_eq (fun p t hp _ ht _ => ?_) h)
  have hW : qWc σ α f0 f1 0 s.2.2.1 p t (-1) s.2.1 = f0 (qNVc σn αn (σn 58 10) p t (-1) (σn r 3)) := by
    rw [e, h2, h3]
    exact if_pos rfl
  unfold qkC0
  rw [hW, h2]

set_option maxHeartbeats 4000000 in
set_option maxRecDepth 20000 in
/-- OneRoof$Peaces.bindingOn -/
theorem sf_136_34x {L : Nat} {xs : Nat → Int} {vb : Bool} {d : Nat} {σ α : Nat → Nat → Int} {κ : Nat → Option Nat} {ρ : Nat} {x1 : Int} (hI : qI σ α κ ρ) (r1 : 0 ≤ x1 ∧ x1 ≤ 31) : qm_T (qe L xs vb) (d + 2) 136 [.ref 34, .int (qz x1)] (qw σ α κ ρ) (fun r w' => w' = qw σ α κ ρ ∧ ∃ v : Int, r = some (.long (ql v)) ∧ ((-9223372036854775808) ≤ v ∧ v ≤ 9223372036854775807) ∧ v = qbs (qbF (α 36) (qcv (α 41)) x1) (σ 34 7 : Int).toNat) := by
  refine qr_start (d := d + 1) qv_e136 (Nat.le_of_ble_eq_true rfl) ?_
  show qr_W (qe L xs vb) (d + 1) qx_e136 _ (0, [(0, .ref 34), (1, .int (qz x1))], [], _, 0, 0)
  have hz34_7 : 0 ≤ σ 34 7 ∧ σ 34 7 ≤ 60 := hI.1 34 7
  refine qr_lconst 1 rfl rfl ?_
  refine qy_vl 0 rfl ?_
  refine qr_lstore_n _ 2 rfl (by decide) rfl rfl ?_
  refine qr_iconst 3 rfl rfl ?_
  refine qr_istore _ 5 rfl (by decide) rfl rfl ?_
  have hL347 : ∀ (n : Nat) (ls : qm_L) (u340 u342 : Int), 60 - u342 < (n : Int) → qm_get ls 0 = some (.ref 34) → qm_get ls 1 = some (.int (qz x1)) → qm_get ls 2 = some (.long (ql u340)) → qm_get ls 4 = some (.int (qz u342)) → ((-9223372036854775808) ≤ u340 ∧ u340 ≤ 9223372036854775807) → (0 ≤ u342 ∧ u342 ≤ 60) → u340 = qbs (qbF (α 36) (qcv (α 41)) x1) (u342 : Int).toNat → u342 ≤ σ 34 7 → qr_W (qe L xs vb) (d + 1) qx_e136 (fun r w' => w' = qw σ α κ ρ ∧ ∃ v : Int, r = some (.long (ql v)) ∧ ((-9223372036854775808) ≤ v ∧ v ≤ 9223372036854775807) ∧ v = qbs (qbF (α 36) (qcv (α 41)) x1) (σ 34 7 : Int).toNat) (5, ls, [], qw σ α κ ρ, 0, 0) := by
    intro n
    induction n with
    | zero => intro ls u340 u342 hm g337 g338 g339 g341 hf343 hf344 hx345 hx346; exact False.elim (by omega)
    | succ n ih348 =>
      intro ls u340 u342 hm g337 g338 g339 g341 hf343 hf344 hx345 hx346
      refine qr_iload 7 rfl g341 rfl ?_
      refine qr_aload_n 8 rfl g337 rfl ?_
      refine qr_get 11 rfl rfl rfl (by decide) rfl ?_
      refine qr_icmp_ge 52 14 rfl rfl rfl (qrg hf344 (by decide) (by decide)) (qrg hz34_7 (by decide) (by decide)) (fun h349 => ?_) (fun h349 => ?_)
      · skip
        refine qr_lload_n 53 rfl g339 rfl ?_
        refine qr_retL rfl rfl (by decide) (by decide) ?_
        exact ⟨rfl, u340, rfl, hf343, (by rw [show (σ 34 7) = u342 by omega]; exact hx345)⟩
      · skip
        refine qr_aload_n 15 rfl g337 rfl ?_
        refine qr_get 18 rfl rfl rfl (by decide) rfl ?_
        refine qr_iload 20 rfl g341 rfl ?_
        refine qr_iaload 21 rfl rfl (by omega) (by decide) rfl ?_
        refine qr_topI (fun v350 hv350 => ?_)
        have hs351 : (-2147483648) ≤ v350 ∧ v350 ≤ 2147483647 := by rw [hv350]; exact hI.2.1 36 _ (show _ < 60 by omega)
        refine qr_iload_n 22 rfl g338 rfl ?_
        refine qr_icmp_eq 39 25 rfl rfl rfl hs351 (qrg r1 (by decide) (by decide)) (fun h352 => ?_) (fun h352 => ?_)
        · skip
          refine qr_lload_n 40 rfl g339 rfl ?_
          refine qr_lconst 41 rfl rfl ?_
          refine qy_vl 1 rfl ?_
          refine qr_iload 43 rfl g341 rfl ?_
          refine qr_lshl 44 rfl rfl ?_
          refine qy_canlE (fun v353 hv353 hev353 => ?_)
          refine qr_lor 45 rfl rfl ?_
          refine qy_canlE (fun v354 hv354 hev354 => ?_)
          refine qr_lstore_n _ 46 rfl (by decide) rfl rfl ?_
          refine qr_iinc _ 49 rfl (qm_gk2 g341 (by decide) (by decide) (Or.inl (by decide))) (by decide) rfl rfl ?_
          refine qr_goto 5 rfl rfl ?_
          exact ih348 _ v354 (u342 + 1) (by omega) (qm_gk (qm_gk2 g337 (by decide) (by decide) (Or.inl (by decide))) (by decide) (Or.inl (by decide))) (qm_gk (qm_gk2 g338 (by decide) (by decide) (Or.inr rfl)) (by decide) (Or.inl (by decide))) (qm_gk (qm_ge2 _ _ _) (by decide) (Or.inl (by decide))) (qm_ge _ _ _) hv354 (by omega) (by have hg0 : v350 = α 36 (u342 : Int).toNat := hv350; have hq0 := qbF_c (α 36) (α 41) x1 (u342 : Int).toNat; have hq1 := qbs_s (qbF (α 36) (qcv (α 41)) x1) (i := u342) (by omega); have hs0 := ql_val hev353 (by omega) (ql_shl_r _ _); have hs1 := ql_val hev354 (by omega) (ql_or_r _ _); rw [hs0, hx345] at hs1; omega) (by omega)
        · skip
          refine qr_aload_n 26 rfl g337 rfl ?_
          refine qr_get 29 rfl rfl rfl (by decide) rfl ?_
          refine qr_iload 31 rfl g341 rfl ?_
          refine qr_laload 32 rfl (by decide) rfl (by omega) (by decide) rfl ?_
          refine qr_topL (fun v355 hv355 => ?_)
          have hs356 : (-9223372036854775808) ≤ v355 ∧ v355 ≤ 9223372036854775807 := by rw [hv355]; exact hI.2.1 41 _ (show _ < 60 by omega)
          refine qr_iload_n 33 rfl g338 rfl ?_
          refine qr_callN 36 rfl rfl rfl (sf_50b (d := d + 0) hI hs356 (qrg r1 (by decide) (by decide))) ?_
          rintro _ _ ⟨rfl, v357, rfl, hv357, hp358⟩
          show qr_W (qe L xs vb) (d + 1) qx_e136 _ (36, _, [.int (qz v357)], qw σ α κ ρ, 0, 0)
          refine qr_if_eq 46 39 rfl rfl rfl (qrg hv357 (by decide) (by decide)) (fun h359 => ?_) (fun h359 => ?_)
          · skip
            refine qr_iinc _ 49 rfl g341 (by decide) rfl rfl ?_
            refine qr_goto 5 rfl rfl ?_
            exact ih348 _ u340 (u342 + 1) (by omega) (qm_gk g337 (by decide) (Or.inl (by decide))) (qm_gk g338 (by decide) (Or.inl (by decide))) (qm_gk g339 (by decide) (Or.inl (by decide))) (qm_ge _ _ _) hf343 (by omega) (by have hg0 : v350 = α 36 (u342 : Int).toNat := hv350; have hq0 := qbF_c (α 36) (α 41) x1 (u342 : Int).toNat; have hq1 := qbs_s (qbF (α 36) (qcv (α 41)) x1) (i := u342) (by omega); have hp0 := hp358; rw [hv355] at hp0; omega) (by omega)
          · skip
            refine qr_lload_n 40 rfl g339 rfl ?_
            refine qr_lconst 41 rfl rfl ?_
            refine qy_vl 1 rfl ?_
            refine qr_iload 43 rfl g341 rfl ?_
            refine qr_lshl 44 rfl rfl ?_
            refine qy_canlE (fun v360 hv360 hev360 => ?_)
            refine qr_lor 45 rfl rfl ?_
            refine qy_canlE (fun v361 hv361 hev361 => ?_)
            refine qr_lstore_n _ 46 rfl (by decide) rfl rfl ?_
            refine qr_iinc _ 49 rfl (qm_gk2 g341 (by decide) (by decide) (Or.inl (by decide))) (by decide) rfl rfl ?_
            refine qr_goto 5 rfl rfl ?_
            exact ih348 _ v361 (u342 + 1) (by omega) (qm_gk (qm_gk2 g337 (by decide) (by decide) (Or.inl (by decide))) (by decide) (Or.inl (by decide))) (qm_gk (qm_gk2 g338 (by decide) (by decide) (Or.inr rfl)) (by decide) (Or.inl (by decide))) (qm_gk (qm_ge2 _ _ _) (by decide) (Or.inl (by decide))) (qm_ge _ _ _) hv361 (by omega) (by have hg0 : v350 = α 36 (u342 : Int).toNat := hv350; have hq0 := qbF_c (α 36) (α 41) x1 (u342 : Int).toNat; have hq1 := qbs_s (qbF (α 36) (qcv (α 41)) x1) (i := u342) (by omega); have hp0 := hp358; rw [hv355] at hp0; have hs0 := ql_val hev360 (by omega) (ql_shl_r _ _); have hs1 := ql_val hev361 (by omega) (ql_or_r _ _); rw [hs0, hx345] at hs1; omega) (by omega)
  exact hL347 ((60 - 0 + 1 : Int)).toNat _ 0 0 (by omega) rfl rfl rfl rfl (by decide) (by decide) rfl (by omega)

set_option maxHeartbeats 4000000 in
set_option maxRecDepth 20000 in
/-- OneRoof$Telling.land -/
theorem sf_135_70x {L : Nat} {xs : Nat → Int} {vb : Bool} {d : Nat} {σ α : Nat → Nat → Int} {κ : Nat → Option Nat} {ρ : Nat} {x1 : Int} {x2 : Int} {s : qTS} (hI : qI σ α κ ρ) (r1 : 0 ≤ x1 ∧ x1 ≤ 31) (r2 : 0 ≤ x2 ∧ x2 ≤ 31) (p0 : ¬ x1 = x2) (p1 : qTl σ α 70 s) (p2 : σ 70 2 ≤ 30) (p3 : qCaN (α 62) (α 63) (σ 58 12) (fun p q => qbs (qhF (α 35) (α 36) (α 37) (α 40) (qcv (α 41)) (qlw (α 22)) p q (σ 58 11)) (σ 34 7 : Int).toNat)) (p4 : qZp σ α) : qm_T (qe L xs vb) (d + 4) 135 [.ref 70, .int (qz x1), .int (qz x2)] (qw σ α κ ρ) (fun r w' => ∃ σ' α', w' = qw σ' α' κ ρ ∧ qI σ' α' κ ρ ∧ qFr [(58, 10), (70, 2), (70, 3), (70, 5), (70, 6)] [62, 63, 71, 72] σ α σ' α' ∧ r = none ∧ qTl σ' α' 70 (qland (qHc σ α) (qBc σ α) (σ 34 7 : Int).toNat s (100 * x1 + x2)) ∧ qCaN (α' 62) (α' 63) (σ 58 12) (fun p q => qbs (qhF (α 35) (α 36) (α 37) (α 40) (qcv (α 41)) (qlw (α 22)) p q (σ 58 11)) (σ 34 7 : Int).toNat)) := by
  refine qr_start (d := d + 3) qv_e135 (Nat.le_of_ble_eq_true rfl) ?_
  show qr_W (qe L xs vb) (d + 3) qx_e135 _ (0, [(0, .ref 70), (1, .int (qz x1)), (2, .int (qz x2))], [], _, 0, 0)
  have hF0 := qFr_rf [(58, 10), (70, 2), (70, 3), (70, 5), (70, 6)] [62, 63, 71, 72] σ α
  have hz70_2 : 0 ≤ σ 70 2 ∧ σ 70 2 ≤ 31 := hI.1 70 2
  have hz58_12 : (-2147483648) ≤ σ 58 12 ∧ σ 58 12 ≤ 2147483647 := hI.1 58 12
  have hz58_11 : (-2147483648) ≤ σ 58 11 ∧ σ 58 11 ≤ 2147483647 := hI.1 58 11
  have hz34_7 : 0 ≤ σ 34 7 ∧ σ 34 7 ≤ 60 := hI.1 34 7
  have hz70_3 : (-9223372036854775808) ≤ σ 70 3 ∧ σ 70 3 ≤ 9223372036854775807 := hI.1 70 3
  have hz70_5 : 0 ≤ σ 70 5 ∧ σ 70 5 ≤ 60 := hI.1 70 5
  have hz70_6 : (-9223372036854775808) ≤ σ 70 6 ∧ σ 70 6 ≤ 9223372036854775807 := hI.1 70 6
  have hz58_10 : (-9223372036854775808) ≤ σ 58 10 ∧ σ 58 10 ≤ 9223372036854775807 := hI.1 58 10
  refine qr_aload_n 1 rfl rfl rfl ?_
  refine qr_get 4 rfl rfl rfl (by decide) rfl ?_
  refine qr_aload_n 5 rfl rfl rfl ?_
  refine qr_get 8 rfl rfl rfl (by decide) rfl ?_
  refine qr_alen 9 rfl rfl (by first | exact Or.inl (by decide) | exact Or.inr (Or.inl rfl) | exact Or.inr (Or.inr (Or.inl rfl)) | exact Or.inr (Or.inr (Or.inr (Or.inl rfl)))) rfl ?_
  refine qy_v 31 rfl ?_
  refine qr_icmp_lt 13 12 rfl rfl rfl (qrg hz70_2 (by decide) (by decide)) (by decide) (fun h1 => ?_) (fun h => False.elim (by omega))
  refine qr_aload_n 14 rfl rfl rfl ?_
  refine qr_get 17 rfl rfl rfl (by decide) rfl ?_
  refine qr_aload_n 18 rfl rfl rfl ?_
  refine qr_dup 19 rfl rfl rfl ?_
  refine qr_get 22 rfl rfl rfl (by decide) rfl ?_
  refine qr_dup_x1 23 rfl rfl rfl rfl ?_
  refine qr_iconst 24 rfl rfl ?_
  refine qr_iadd 25 rfl rfl ?_
  refine qr_put 28 rfl (by decide) rfl (Nat.le_of_ble_eq_true rfl) (Nat.le_of_ble_eq_true rfl) (Or.inl rfl) (qr_fitI rfl _) rfl ?_
  refine qy_wS (qw_s σ 70 2 ((σ 70 2) + 1)) rfl (fun σ2 e3 => ?_)
  have hI4 : qI σ2 α κ ρ := by rw [e3]; exact qI_s hI 70 2 rfl (show 0 ≤ ((σ 70 2) + 1) ∧ ((σ 70 2) + 1) ≤ 31 by omega)
  have hF5 : qFr [(58, 10), (70, 2), (70, 3), (70, 5), (70, 6)] [62, 63, 71, 72] σ α σ2 α := by rw [e3]; exact qFr_s hF0 70 2 _ (by decide)
  refine qr_bipush 30 rfl (by decide) rfl ?_
  refine qr_iload_n 31 rfl rfl rfl ?_
  refine qr_imul 32 rfl rfl ?_
  refine qr_iload_n 33 rfl rfl rfl ?_
  refine qr_iadd 34 rfl rfl ?_
  refine qr_iastore 35 rfl (by decide) rfl (by omega) (by decide) rfl ?_
  refine qy_wA (qw_r α 71 (qzu (α 71) ((σ 70 2) : Int).toNat ((100 * x1) + x2))) rfl (fun α6 e7 => ?_)
  have hI8 : qI σ2 α6 κ ρ := by rw [e7]; exact qI_r71 hI4 71 _ (by decide) (show 0 ≤ ((100 * x1) + x2) ∧ ((100 * x1) + x2) ≤ 3131 by omega) (by omega)
  have hF9 : qFr [(58, 10), (70, 2), (70, 3), (70, 5), (70, 6)] [62, 63, 71, 72] σ α σ2 α6 := by rw [e7]; exact qFr_r hF5 71 _ (by decide)
  refine qr_aload_n 36 rfl rfl rfl ?_
  refine qr_dup 37 rfl rfl rfl ?_
  refine qr_get 40 rfl rfl rfl (by decide) rfl ?_
  refine qy_vl (σ 70 6) ((congrFun (congrFun e3 70) 6).trans rfl) ?_
  refine qr_lconst 41 rfl rfl ?_
  refine qy_vl 1 rfl ?_
  refine qr_iload_n 42 rfl rfl rfl ?_
  refine qr_lshl 43 rfl rfl ?_
  refine qy_canlE (fun v10 hv10 hev10 => ?_)
  refine qr_lor 44 rfl rfl ?_
  refine qy_canlE (fun v11 hv11 hev11 => ?_)
  refine qr_put 47 rfl (by decide) rfl (Nat.le_of_ble_eq_true rfl) (Nat.le_of_ble_eq_true rfl) (Or.inl rfl) (qr_fitL rfl _) rfl ?_
  refine qy_wS (qw_s σ2 70 6 v11) rfl (fun σ12 e13 => ?_)
  have hI14 : qI σ12 α6 κ ρ := by rw [e13]; exact qI_s hI8 70 6 rfl (show (-9223372036854775808) ≤ v11 ∧ v11 ≤ 9223372036854775807 by omega)
  have hF15 : qFr [(58, 10), (70, 2), (70, 3), (70, 5), (70, 6)] [62, 63, 71, 72] σ α σ12 α6 := by rw [e13]; exact qFr_s hF9 70 6 _ (by decide)
  refine qr_aload_n 48 rfl rfl rfl ?_
  refine qr_dup 49 rfl rfl rfl ?_
  refine qr_get 52 rfl rfl rfl (by decide) rfl ?_
  refine qy_vl (σ 70 3) ((congrFun (congrFun e13 70) 3).trans ((congrFun (congrFun e3 70) 3).trans rfl)) ?_
  refine qr_lconst 53 rfl rfl ?_
  refine qy_vl 1 rfl ?_
  refine qr_iload_n 54 rfl rfl rfl ?_
  refine qr_lshl 55 rfl rfl ?_
  refine qy_canlE (fun v16 hv16 hev16 => ?_)
  refine qr_ldc2 (-1) 58 rfl (by decide) rfl ?_
  refine qr_lxor 59 rfl rfl ?_
  refine qy_canlE (fun v17 hv17 hev17 => ?_)
  refine qr_land 60 rfl rfl ?_
  refine qy_canlE (fun v18 hv18 hev18 => ?_)
  refine qr_put 63 rfl (by decide) rfl (Nat.le_of_ble_eq_true rfl) (Nat.le_of_ble_eq_true rfl) (Or.inl rfl) (qr_fitL rfl _) rfl ?_
  refine qy_wS (qw_s σ12 70 3 v18) rfl (fun σ19 e20 => ?_)
  have hI21 : qI σ19 α6 κ ρ := by rw [e20]; exact qI_s hI14 70 3 rfl (show (-9223372036854775808) ≤ v18 ∧ v18 ≤ 9223372036854775807 by omega)
  have hF22 : qFr [(58, 10), (70, 2), (70, 3), (70, 5), (70, 6)] [62, 63, 71, 72] σ α σ19 α6 := by rw [e20]; exact qFr_s hF15 70 3 _ (by decide)
  refine qr_aload_n 64 rfl rfl rfl ?_
  refine qr_get 67 rfl rfl rfl (by decide) rfl ?_
  refine qr_iload_n 68 rfl rfl rfl ?_
  refine qr_iload_n 69 rfl rfl rfl ?_
  have hs23 : 0 ≤ σ19 34 7 ∧ σ19 34 7 ≤ 60 := hI21.1 34 7
  have hs24 : σ19 34 7 = (σ 34 7) := (congrFun (congrFun e20 34) 7).trans ((congrFun (congrFun e13 34) 7).trans ((congrFun (congrFun e3 34) 7).trans rfl))
  have hs25 : (-2147483648) ≤ σ19 58 11 ∧ σ19 58 11 ≤ 2147483647 := hI21.1 58 11
  have hs26 : σ19 58 11 = (σ 58 11) := (congrFun (congrFun e20 58) 11).trans ((congrFun (congrFun e13 58) 11).trans ((congrFun (congrFun e3 58) 11).trans rfl))
  have hs27 : (-2147483648) ≤ σ19 58 12 ∧ σ19 58 12 ≤ 2147483647 := hI21.1 58 12
  have hs28 : σ19 58 12 = (σ 58 12) := (congrFun (congrFun e20 58) 12).trans ((congrFun (congrFun e13 58) 12).trans ((congrFun (congrFun e3 58) 12).trans rfl))
  refine qr_callN 72 rfl rfl rfl (sf_94_58x (d := d + 0) hI21 r1 r2 (by omega) (by rw [hF22.1 58 12 (by decide), hF22.1 58 11 (by decide), hF22.1 34 7 (by decide), hF22.2 22 (by decide), hF22.2 35 (by decide), hF22.2 36 (by decide), hF22.2 37 (by decide), hF22.2 40 (by decide), hF22.2 41 (by decide), ((congrFun e7 62).trans ((qw_r_ne (by decide)).trans rfl)), ((congrFun e7 63).trans ((qw_r_ne (by decide)).trans rfl))]; exact p3) (qZp_fr hF22 (by decide) (by decide) p4)) ?_
  rintro _ _ ⟨α32, rfl, hI33, hG34, v29, rfl, hv29, hx30, hx31⟩
  have hF35 : qFr [(58, 10), (70, 2), (70, 3), (70, 5), (70, 6)] [62, 63, 71, 72] σ α σ19 α32 := qFr_t hF22 hG34 (by decide) (by decide)
  rw [hF22.2 22 (by decide), hF22.2 35 (by decide), hF22.2 36 (by decide), hF22.2 37 (by decide), hF22.2 40 (by decide), hF22.2 41 (by decide), hF22.1 34 7 (by decide), hF22.1 58 11 (by decide), (show σ19 58 10 = (σ 58 10) from (congrFun (congrFun e20 58) 10).trans ((congrFun (congrFun e13 58) 10).trans ((congrFun (congrFun e3 58) 10).trans rfl)))] at hx30
  rw [hF22.2 22 (by decide), hF22.2 35 (by decide), hF22.2 36 (by decide), hF22.2 37 (by decide), hF22.2 40 (by decide), hF22.2 41 (by decide), hF22.1 34 7 (by decide), hF22.1 58 11 (by decide), hF22.1 58 12 (by decide)] at hx31
  show qr_W (qe L xs vb) (d + 3) qx_e135 _ (72, _, [.long (ql v29)], qw σ19 α32 κ ρ, 0, 0)
  refine qr_aload_n 73 rfl rfl rfl ?_
  refine qr_get 76 rfl rfl rfl (by decide) rfl ?_
  refine qr_get 79 rfl rfl rfl (by decide) rfl ?_
  refine qr_iload_n 80 rfl rfl rfl ?_
  refine qr_callN 83 rfl rfl rfl (sf_136_34x (d := d + 1) hI33 r1) ?_
  have hs38 : 0 ≤ σ19 34 7 ∧ σ19 34 7 ≤ 60 := hI33.1 34 7
  have hs39 : σ19 34 7 = (σ 34 7) := (congrFun (congrFun e20 34) 7).trans ((congrFun (congrFun e13 34) 7).trans ((congrFun (congrFun e3 34) 7).trans rfl))
  rintro _ _ ⟨rfl, v36, rfl, hv36, hp37⟩
  rw [hF35.2 36 (by decide), hF35.2 41 (by decide), hF35.1 34 7 (by decide)] at hp37
  show qr_W (qe L xs vb) (d + 3) qx_e135 _ (83, _, [.long (ql v36), .long (ql v29)], qw σ19 α32 κ ρ, 0, 0)
  refine qr_land 84 rfl rfl ?_
  refine qy_canlE (fun v40 hv40 hev40 => ?_)
  as_aux_lemma =>
    refine qr_lstore_n _ 85 rfl (by decide) rfl rfl ?_
    refine qr_iconst 86 rfl rfl ?_
    refine qr_istore _ 88 rfl (by decide) rfl rfl ?_
    have hL778 : ∀ (n : Nat) (ls : qm_L) (u760 : Int) (σ761 α762 : Nat → Nat → Int), 60 - u760 < (n : Int) → qm_get ls 0 = some (.ref 70) → qm_get ls 3 = some (.long (ql v40)) → qm_get ls 5 = some (.int (qz u760)) → (0 ≤ u760 ∧ u760 ≤ 60) → qI σ761 α762 κ ρ → qFr [(58, 10), (70, 2), (70, 3), (70, 5), (70, 6)] [62, 63, 71, 72] σ α σ761 α762 → σ761 34 7 = (σ 34 7) → σ761 58 10 = (σ 58 10) → σ761 58 11 = (σ 58 11) → σ761 58 12 = (σ 58 12) → σ761 70 2 = ((σ 70 2) + 1) → σ761 70 3 = v18 → σ761 70 6 = v11 → α762 62 = (α32 62) → α762 63 = (α32 63) → α762 71 = (qzu (α 71) ((σ 70 2) : Int).toNat ((100 * x1) + x2)) → qLs (α762 72) (σ761 70 5) (s.2.2.2 ++ qBr (fun k => qbit v40 (k : Int)) (u760 : Int).toNat) → σ761 70 5 = σ 70 5 + qsm (fun k => qbit v40 (k : Int)) (u760 : Int).toNat → qr_W (qe L xs vb) (d + 3) qx_e135 (fun r w' => ∃ σ' α', w' = qw σ' α' κ ρ ∧ qI σ' α' κ ρ ∧ qFr [(58, 10), (70, 2), (70, 3), (70, 5), (70, 6)] [62, 63, 71, 72] σ α σ' α' ∧ r = none ∧ qTl σ' α' 70 (qland (qHc σ α) (qBc σ α) (σ 34 7 : Int).toNat s (100 * x1 + x2)) ∧ qCaN (α' 62) (α' 63) (σ 58 12) (fun p q => qbs (qhF (α 35) (α 36) (α 37) (α 40) (qcv (α 41)) (qlw (α 22)) p q (σ 58 11)) (σ 34 7 : Int).toNat)) (88, ls, [], qw σ761 α762 κ ρ, 0, 0) := by
      intro n
      induction n with
      | zero => intro ls u760 σ761 α762 hm g757 g758 g759 hf775 hI763 hF764 hk765 hk766 hk767 hk768 hk769 hk770 hk771 hk772 hk773 hk774 hx776 hx777; exact False.elim (by omega)
      | succ n ih779 =>
        intro ls u760 σ761 α762 hm g757 g758 g759 hf775 hI763 hF764 hk765 hk766 hk767 hk768 hk769 hk770 hk771 hk772 hk773 hk774 hx776 hx777
        have hs780 : 0 ≤ σ761 70 5 ∧ σ761 70 5 ≤ 60 := hI763.1 70 5
        refine qr_iload 90 rfl g759 rfl ?_
        refine qr_bipush 92 rfl (by decide) rfl ?_
        refine qr_icmp_ge 140 95 rfl rfl rfl (qrg hf775 (by decide) (by decide)) (by decide) (fun h781 => ?_) (fun h781 => ?_)
        · skip
          refine qr_aload_n 141 rfl g757 rfl ?_
          refine qr_get 144 rfl rfl rfl (by decide) rfl ?_
          refine qr_dup 145 rfl rfl rfl ?_
          refine qr_get 148 rfl rfl rfl (by decide) rfl ?_
          refine qy_vl (σ 58 10) ((hk766).trans rfl) ?_
          refine qr_lload_n 149 rfl g758 rfl ?_
          refine qr_lor 150 rfl rfl ?_
          refine qy_canlE (fun v782 hv782 hev782 => ?_)
          refine qr_put 153 rfl (by decide) rfl (Nat.le_of_ble_eq_true rfl) (Nat.le_of_ble_eq_true rfl) (Or.inl rfl) (qr_fitL rfl _) rfl ?_
          refine qy_wS (qw_s σ761 58 10 v782) rfl (fun σ783 e784 => ?_)
          have hI785 : qI σ783 α762 κ ρ := by rw [e784]; exact qI_s hI763 58 10 rfl (show (-9223372036854775808) ≤ v782 ∧ v782 ≤ 9223372036854775807 by omega)
          have hF786 : qFr [(58, 10), (70, 2), (70, 3), (70, 5), (70, 6)] [62, 63, 71, 72] σ α σ783 α762 := by rw [e784]; exact qFr_s hF764 58 10 _ (by decide)
          refine qr_retV rfl rfl (by decide) (by decide) ?_
          exact ⟨_, _, rfl, hI785, hF786, rfl, (qTl_land (r := 70) (H := qHc σ α) (B := qBc σ α) (br := v40) (i := u760) (c := (σ761 70 5)) ⟨r1, r2⟩ (by omega) p1 hk774 ((congrFun (congrFun e784 70) 2).trans ((hk769).trans rfl)) (((congrFun (congrFun e784 70) 3).trans ((hk770).trans rfl)).trans (by rw [ql_val hev18 (by omega) (ql_and_r _ _), ql_val hev17 (by omega) (ql_xor_r _ _), ql_val hev16 (by omega) (ql_shl_r _ _)])) (((congrFun (congrFun e784 70) 6).trans ((hk771).trans rfl)).trans (by rw [ql_val hev11 (by omega) (ql_or_r _ _), ql_val hev10 (by omega) (ql_shl_r _ _)])) ((congrFun (congrFun e784 70) 5).trans rfl) (qld_br (by omega) hx30 hp37 (ql_val hev40 (by omega) (ql_and_r _ _))) (by have hw : σ783 58 10 = v782 := (congrFun (congrFun e784 58) 10).trans rfl; rw [hw, ql_val hev782 (by omega) (ql_or_r _ _)]) (fun k hk => qHc_d k hk) hx776 hx777 (by omega) (by omega)), (qCaN_c hk772 hk773 hx31)⟩
        · skip
          refine qr_aload_n 96 rfl g757 rfl ?_
          refine qr_get 99 rfl rfl rfl (by decide) rfl ?_
          refine qr_aload_n 100 rfl g757 rfl ?_
          refine qr_get 103 rfl rfl rfl (by decide) rfl ?_
          refine qr_alen 104 rfl rfl (by first | exact Or.inl (by decide) | exact Or.inr (Or.inl rfl) | exact Or.inr (Or.inr (Or.inl rfl)) | exact Or.inr (Or.inr (Or.inr (Or.inl rfl)))) rfl ?_
          refine qy_v 60 rfl ?_
          refine qr_icmp_ge 140 107 rfl rfl rfl (by omega) (by decide) (fun h787 => ?_) (fun h787 => ?_)
          · skip
            refine qr_aload_n 141 rfl g757 rfl ?_
            refine qr_get 144 rfl rfl rfl (by decide) rfl ?_
            refine qr_dup 145 rfl rfl rfl ?_
            refine qr_get 148 rfl rfl rfl (by decide) rfl ?_
            refine qy_vl (σ 58 10) ((hk766).trans rfl) ?_
            refine qr_lload_n 149 rfl g758 rfl ?_
            refine qr_lor 150 rfl rfl ?_
            refine qy_canlE (fun v788 hv788 hev788 => ?_)
            refine qr_put 153 rfl (by decide) rfl (Nat.le_of_ble_eq_true rfl) (Nat.le_of_ble_eq_true rfl) (Or.inl rfl) (qr_fitL rfl _) rfl ?_
            refine qy_wS (qw_s σ761 58 10 v788) rfl (fun σ789 e790 => ?_)
            have hI791 : qI σ789 α762 κ ρ := by rw [e790]; exact qI_s hI763 58 10 rfl (show (-9223372036854775808) ≤ v788 ∧ v788 ≤ 9223372036854775807 by omega)
            have hF792 : qFr [(58, 10), (70, 2), (70, 3), (70, 5), (70, 6)] [62, 63, 71, 72] σ α σ789 α762 := by rw [e790]; exact qFr_s hF764 58 10 _ (by decide)
            refine qr_retV rfl rfl (by decide) (by decide) ?_
            exact ⟨_, _, rfl, hI791, hF792, rfl, (qTl_land (r := 70) (H := qHc σ α) (B := qBc σ α) (br := v40) (i := u760) (c := (σ761 70 5)) ⟨r1, r2⟩ (by omega) p1 hk774 ((congrFun (congrFun e790 70) 2).trans ((hk769).trans rfl)) (((congrFun (congrFun e790 70) 3).trans ((hk770).trans rfl)).trans (by rw [ql_val hev18 (by omega) (ql_and_r _ _), ql_val hev17 (by omega) (ql_xor_r _ _), ql_val hev16 (by omega) (ql_shl_r _ _)])) (((congrFun (congrFun e790 70) 6).trans ((hk771).trans rfl)).trans (by rw [ql_val hev11 (by omega) (ql_or_r _ _), ql_val hev10 (by omega) (ql_shl_r _ _)])) ((congrFun (congrFun e790 70) 5).trans rfl) (qld_br (by omega) hx30 hp37 (ql_val hev40 (by omega) (ql_and_r _ _))) (by have hw : σ789 58 10 = v788 := (congrFun (congrFun e790 58) 10).trans rfl; rw [hw, ql_val hev788 (by omega) (ql_or_r _ _)]) (fun k hk => qHc_d k hk) hx776 hx777 (by omega) (by omega)), (qCaN_c hk772 hk773 hx31)⟩
          · skip
            refine qr_lload_n 108 rfl g758 rfl ?_
            refine qr_iload 110 rfl g759 rfl ?_
            refine qr_callN 113 rfl rfl rfl (sf_50b (d := d + 2) hI763 hv40 (qrg hf775 (by decide) (by decide))) ?_
            rintro _ _ ⟨rfl, v793, rfl, hv793, hp794⟩
            show qr_W (qe L xs vb) (d + 3) qx_e135 _ (113, _, [.int (qz v793)], qw σ761 α762 κ ρ, 0, 0)
            refine qr_if_eq 134 116 rfl rfl rfl (qrg hv793 (by decide) (by decide)) (fun h795 => ?_) (fun h795 => ?_)
            · skip
              refine qr_iinc _ 137 rfl g759 (by decide) rfl rfl ?_
              refine qr_goto 88 rfl rfl ?_
              exact ih779 _ (u760 + 1) σ761 α762 (by omega) (qm_gk g757 (by decide) (Or.inl (by decide))) (qm_gk g758 (by decide) (Or.inl (by decide))) (qm_ge _ _ _) (by omega) hI763 hF764 ((hk765).trans rfl) ((hk766).trans rfl) ((hk767).trans rfl) ((hk768).trans rfl) ((hk769).trans rfl) ((hk770).trans rfl) ((hk771).trans rfl) hk772 hk773 hk774 (qLs_bn (by omega) (by show ¬ qbit v40 (((u760 : Int).toNat : Nat) : Int) = 1; rw [show (((u760 : Int).toNat : Nat) : Int) = u760 by omega]; omega) hx776) (by have hq := qsm_b v40 (i := u760) (by omega); have hx := hx777; have hw : σ761 70 5 = (σ761 70 5) := rfl; omega)
            · skip
              refine qr_aload_n 117 rfl g757 rfl ?_
              refine qr_get 120 rfl rfl rfl (by decide) rfl ?_
              refine qr_aload_n 121 rfl g757 rfl ?_
              refine qr_dup 122 rfl rfl rfl ?_
              refine qr_get 125 rfl rfl rfl (by decide) rfl ?_
              refine qr_dup_x1 126 rfl rfl rfl rfl ?_
              refine qr_iconst 127 rfl rfl ?_
              refine qr_iadd 128 rfl rfl ?_
              refine qr_put 131 rfl (by decide) rfl (Nat.le_of_ble_eq_true rfl) (Nat.le_of_ble_eq_true rfl) (Or.inl rfl) (qr_fitI rfl _) rfl ?_
              refine qy_wS (qw_s σ761 70 5 ((σ761 70 5) + 1)) rfl (fun σ796 e797 => ?_)
              have hI798 : qI σ796 α762 κ ρ := by rw [e797]; exact qI_s hI763 70 5 rfl (show 0 ≤ ((σ761 70 5) + 1) ∧ ((σ761 70 5) + 1) ≤ 60 by omega)
              have hF799 : qFr [(58, 10), (70, 2), (70, 3), (70, 5), (70, 6)] [62, 63, 71, 72] σ α σ796 α762 := by rw [e797]; exact qFr_s hF764 70 5 _ (by decide)
              refine qr_iload 133 rfl g759 rfl ?_
              refine qr_iastore 134 rfl (by decide) rfl (by omega) (by decide) rfl ?_
              refine qy_wA (qw_r α762 72 (qzu (α762 72) ((σ761 70 5) : Int).toNat u760)) rfl (fun α800 e801 => ?_)
              have hI802 : qI σ796 α800 κ ρ := by rw [e801]; exact qI_r hI798 72 _ rfl (show 0 ≤ u760 ∧ u760 ≤ 59 by omega)
              have hF803 : qFr [(58, 10), (70, 2), (70, 3), (70, 5), (70, 6)] [62, 63, 71, 72] σ α σ796 α800 := by rw [e801]; exact qFr_r hF799 72 _ (by decide)
              refine qr_iinc _ 137 rfl g759 (by decide) rfl rfl ?_
              refine qr_goto 88 rfl rfl ?_
              exact ih779 _ (u760 + 1) σ796 α800 (by omega) (qm_gk g757 (by decide) (Or.inl (by decide))) (qm_gk g758 (by decide) (Or.inl (by decide))) (qm_ge _ _ _) (by omega) hI802 hF803 ((congrFun (congrFun e797 34) 7).trans ((hk765).trans rfl)) ((congrFun (congrFun e797 58) 10).trans ((hk766).trans rfl)) ((congrFun (congrFun e797 58) 11).trans ((hk767).trans rfl)) ((congrFun (congrFun e797 58) 12).trans ((hk768).trans rfl)) ((congrFun (congrFun e797 70) 2).trans ((hk769).trans rfl)) ((congrFun (congrFun e797 70) 3).trans ((hk770).trans rfl)) ((congrFun (congrFun e797 70) 6).trans ((hk771).trans rfl)) ((congrFun e801 62).trans ((qw_r_ne (by decide)).trans hk772)) ((congrFun e801 63).trans ((qw_r_ne (by decide)).trans hk773)) ((congrFun e801 71).trans ((qw_r_ne (by decide)).trans hk774)) (qLs_by (by omega) (by show qbit v40 (((u760 : Int).toNat : Nat) : Int) = 1; rw [show (((u760 : Int).toNat : Nat) : Int) = u760 by omega]; omega) (((congrFun e801 72).trans (qw_r_eq.trans (congrArg (fun f => qzu f ((σ761 70 5) : Int).toNat u760) rfl)))) ((congrFun (congrFun e797 70) 5).trans rfl) hx776) (by have hq := qsm_b v40 (i := u760) (by omega); have hx := hx777; have hw : σ796 70 5 = ((σ761 70 5) + 1) := (congrFun (congrFun e797 70) 5).trans rfl; omega)
    exact hL778 ((60 - 0 + 1 : Int)).toNat _ 0 σ19 α32 (by omega) rfl rfl rfl (by decide) hI33 hF35 ((congrFun (congrFun e20 34) 7).trans ((congrFun (congrFun e13 34) 7).trans ((congrFun (congrFun e3 34) 7).trans rfl))) ((congrFun (congrFun e20 58) 10).trans ((congrFun (congrFun e13 58) 10).trans ((congrFun (congrFun e3 58) 10).trans rfl))) ((congrFun (congrFun e20 58) 11).trans ((congrFun (congrFun e13 58) 11).trans ((congrFun (congrFun e3 58) 11).trans rfl))) ((congrFun (congrFun e20 58) 12).trans ((congrFun (congrFun e13 58) 12).trans ((congrFun (congrFun e3 58) 12).trans rfl))) ((congrFun (congrFun e20 70) 2).trans ((congrFun (congrFun e13 70) 2).trans ((congrFun (congrFun e3 70) 2).trans rfl))) ((congrFun (congrFun e20 70) 3).trans rfl) ((congrFun (congrFun e20 70) 6).trans ((congrFun (congrFun e13 70) 6).trans rfl)) rfl rfl ((hG34.2 71 (by decide)).trans ((congrFun e7 71).trans (qw_r_eq.trans (congrArg (fun f => qzu f ((σ 70 2) : Int).toNat ((100 * x1) + x2)) rfl)))) (qLs_in (((hG34.2 72 (by decide)).trans ((congrFun e7 72).trans ((qw_r_ne (by decide)).trans rfl)))) ((congrFun (congrFun e20 70) 5).trans ((congrFun (congrFun e13 70) 5).trans ((congrFun (congrFun e3 70) 5).trans rfl))) p1.2.2.2.1) (((congrFun (congrFun e20 70) 5).trans ((congrFun (congrFun e13 70) 5).trans ((congrFun (congrFun e3 70) 5).trans rfl))).trans (Int.add_zero _).symm)

set_option maxHeartbeats 4000000 in
set_option maxRecDepth 20000 in
/-- OneRoof$Telling.land -/
theorem sf_135_73x {L : Nat} {xs : Nat → Int} {vb : Bool} {d : Nat} {σ α : Nat → Nat → Int} {κ : Nat → Option Nat} {ρ : Nat} {x1 : Int} {x2 : Int} {s : qTS} (hI : qI σ α κ ρ) (r1 : 0 ≤ x1 ∧ x1 ≤ 31) (r2 : 0 ≤ x2 ∧ x2 ≤ 31) (p0 : ¬ x1 = x2) (p1 : qTl σ α 73 s) (p2 : σ 73 2 ≤ 30) (p3 : qCaN (α 62) (α 63) (σ 58 12) (fun p q => qbs (qhF (α 35) (α 36) (α 37) (α 40) (qcv (α 41)) (qlw (α 22)) p q (σ 58 11)) (σ 34 7 : Int).toNat)) (p4 : qZp σ α) : qm_T (qe L xs vb) (d + 4) 135 [.ref 73, .int (qz x1), .int (qz x2)] (qw σ α κ ρ) (fun r w' => ∃ σ' α', w' = qw σ' α' κ ρ ∧ qI σ' α' κ ρ ∧ qFr [(58, 10), (73, 2), (73, 3), (73, 5), (73, 6)] [62, 63, 74, 75] σ α σ' α' ∧ r = none ∧ qTl σ' α' 73 (qland (qHc σ α) (qBc σ α) (σ 34 7 : Int).toNat s (100 * x1 + x2)) ∧ qCaN (α' 62) (α' 63) (σ 58 12) (fun p q => qbs (qhF (α 35) (α 36) (α 37) (α 40) (qcv (α 41)) (qlw (α 22)) p q (σ 58 11)) (σ 34 7 : Int).toNat)) := by
  refine qr_start (d := d + 3) qv_e135 (Nat.le_of_ble_eq_true rfl) ?_
  show qr_W (qe L xs vb) (d + 3) qx_e135 _ (0, [(0, .ref 73), (1, .int (qz x1)), (2, .int (qz x2))], [], _, 0, 0)
  have hF0 := qFr_rf [(58, 10), (73, 2), (73, 3), (73, 5), (73, 6)] [62, 63, 74, 75] σ α
  have hz73_2 : 0 ≤ σ 73 2 ∧ σ 73 2 ≤ 31 := hI.1 73 2
  have hz58_12 : (-2147483648) ≤ σ 58 12 ∧ σ 58 12 ≤ 2147483647 := hI.1 58 12
  have hz58_11 : (-2147483648) ≤ σ 58 11 ∧ σ 58 11 ≤ 2147483647 := hI.1 58 11
  have hz34_7 : 0 ≤ σ 34 7 ∧ σ 34 7 ≤ 60 := hI.1 34 7
  have hz73_3 : (-9223372036854775808) ≤ σ 73 3 ∧ σ 73 3 ≤ 9223372036854775807 := hI.1 73 3
  have hz73_5 : 0 ≤ σ 73 5 ∧ σ 73 5 ≤ 60 := hI.1 73 5
  have hz73_6 : (-9223372036854775808) ≤ σ 73 6 ∧ σ 73 6 ≤ 9223372036854775807 := hI.1 73 6
  have hz58_10 : (-9223372036854775808) ≤ σ 58 10 ∧ σ 58 10 ≤ 9223372036854775807 := hI.1 58 10
  refine qr_aload_n 1 rfl rfl rfl ?_
  refine qr_get 4 rfl rfl rfl (by decide) rfl ?_
  refine qr_aload_n 5 rfl rfl rfl ?_
  refine qr_get 8 rfl rfl rfl (by decide) rfl ?_
  refine qr_alen 9 rfl rfl (by first | exact Or.inl (by decide) | exact Or.inr (Or.inl rfl) | exact Or.inr (Or.inr (Or.inl rfl)) | exact Or.inr (Or.inr (Or.inr (Or.inl rfl)))) rfl ?_
  refine qy_v 31 rfl ?_
  refine qr_icmp_lt 13 12 rfl rfl rfl (qrg hz73_2 (by decide) (by decide)) (by decide) (fun h1 => ?_) (fun h => False.elim (by omega))
  refine qr_aload_n 14 rfl rfl rfl ?_
  refine qr_get 17 rfl rfl rfl (by decide) rfl ?_
  refine qr_aload_n 18 rfl rfl rfl ?_
  refine qr_dup 19 rfl rfl rfl ?_
  refine qr_get 22 rfl rfl rfl (by decide) rfl ?_
  refine qr_dup_x1 23 rfl rfl rfl rfl ?_
  refine qr_iconst 24 rfl rfl ?_
  refine qr_iadd 25 rfl rfl ?_
  refine qr_put 28 rfl (by decide) rfl (Nat.le_of_ble_eq_true rfl) (Nat.le_of_ble_eq_true rfl) (Or.inl rfl) (qr_fitI rfl _) rfl ?_
  refine qy_wS (qw_s σ 73 2 ((σ 73 2) + 1)) rfl (fun σ2 e3 => ?_)
  have hI4 : qI σ2 α κ ρ := by rw [e3]; exact qI_s hI 73 2 rfl (show 0 ≤ ((σ 73 2) + 1) ∧ ((σ 73 2) + 1) ≤ 31 by omega)
  have hF5 : qFr [(58, 10), (73, 2), (73, 3), (73, 5), (73, 6)] [62, 63, 74, 75] σ α σ2 α := by rw [e3]; exact qFr_s hF0 73 2 _ (by decide)
  refine qr_bipush 30 rfl (by decide) rfl ?_
  refine qr_iload_n 31 rfl rfl rfl ?_
  refine qr_imul 32 rfl rfl ?_
  refine qr_iload_n 33 rfl rfl rfl ?_
  refine qr_iadd 34 rfl rfl ?_
  refine qr_iastore 35 rfl (by decide) rfl (by omega) (by decide) rfl ?_
  refine qy_wA (qw_r α 74 (qzu (α 74) ((σ 73 2) : Int).toNat ((100 * x1) + x2))) rfl (fun α6 e7 => ?_)
  have hI8 : qI σ2 α6 κ ρ := by rw [e7]; exact qI_r71 hI4 74 _ (by decide) (show 0 ≤ ((100 * x1) + x2) ∧ ((100 * x1) + x2) ≤ 3131 by omega) (by omega)
  have hF9 : qFr [(58, 10), (73, 2), (73, 3), (73, 5), (73, 6)] [62, 63, 74, 75] σ α σ2 α6 := by rw [e7]; exact qFr_r hF5 74 _ (by decide)
  refine qr_aload_n 36 rfl rfl rfl ?_
  refine qr_dup 37 rfl rfl rfl ?_
  refine qr_get 40 rfl rfl rfl (by decide) rfl ?_
  refine qy_vl (σ 73 6) ((congrFun (congrFun e3 73) 6).trans rfl) ?_
  refine qr_lconst 41 rfl rfl ?_
  refine qy_vl 1 rfl ?_
  refine qr_iload_n 42 rfl rfl rfl ?_
  refine qr_lshl 43 rfl rfl ?_
  refine qy_canlE (fun v10 hv10 hev10 => ?_)
  refine qr_lor 44 rfl rfl ?_
  refine qy_canlE (fun v11 hv11 hev11 => ?_)
  refine qr_put 47 rfl (by decide) rfl (Nat.le_of_ble_eq_true rfl) (Nat.le_of_ble_eq_true rfl) (Or.inl rfl) (qr_fitL rfl _) rfl ?_
  refine qy_wS (qw_s σ2 73 6 v11) rfl (fun σ12 e13 => ?_)
  have hI14 : qI σ12 α6 κ ρ := by rw [e13]; exact qI_s hI8 73 6 rfl (show (-9223372036854775808) ≤ v11 ∧ v11 ≤ 9223372036854775807 by omega)
  have hF15 : qFr [(58, 10), (73, 2), (73, 3), (73, 5), (73, 6)] [62, 63, 74, 75] σ α σ12 α6 := by rw [e13]; exact qFr_s hF9 73 6 _ (by decide)
  refine qr_aload_n 48 rfl rfl rfl ?_
  refine qr_dup 49 rfl rfl rfl ?_
  refine qr_get 52 rfl rfl rfl (by decide) rfl ?_
  refine qy_vl (σ 73 3) ((congrFun (congrFun e13 73) 3).trans ((congrFun (congrFun e3 73) 3).trans rfl)) ?_
  refine qr_lconst 53 rfl rfl ?_
  refine qy_vl 1 rfl ?_
  refine qr_iload_n 54 rfl rfl rfl ?_
  refine qr_lshl 55 rfl rfl ?_
  refine qy_canlE (fun v16 hv16 hev16 => ?_)
  refine qr_ldc2 (-1) 58 rfl (by decide) rfl ?_
  refine qr_lxor 59 rfl rfl ?_
  refine qy_canlE (fun v17 hv17 hev17 => ?_)
  refine qr_land 60 rfl rfl ?_
  refine qy_canlE (fun v18 hv18 hev18 => ?_)
  refine qr_put 63 rfl (by decide) rfl (Nat.le_of_ble_eq_true rfl) (Nat.le_of_ble_eq_true rfl) (Or.inl rfl) (qr_fitL rfl _) rfl ?_
  refine qy_wS (qw_s σ12 73 3 v18) rfl (fun σ19 e20 => ?_)
  have hI21 : qI σ19 α6 κ ρ := by rw [e20]; exact qI_s hI14 73 3 rfl (show (-9223372036854775808) ≤ v18 ∧ v18 ≤ 9223372036854775807 by omega)
  have hF22 : qFr [(58, 10), (73, 2), (73, 3), (73, 5), (73, 6)] [62, 63, 74, 75] σ α σ19 α6 := by rw [e20]; exact qFr_s hF15 73 3 _ (by decide)
  refine qr_aload_n 64 rfl rfl rfl ?_
  refine qr_get 67 rfl rfl rfl (by decide) rfl ?_
  refine qr_iload_n 68 rfl rfl rfl ?_
  refine qr_iload_n 69 rfl rfl rfl ?_
  have hs23 : 0 ≤ σ19 34 7 ∧ σ19 34 7 ≤ 60 := hI21.1 34 7
  have hs24 : σ19 34 7 = (σ 34 7) := (congrFun (congrFun e20 34) 7).trans ((congrFun (congrFun e13 34) 7).trans ((congrFun (congrFun e3 34) 7).trans rfl))
  have hs25 : (-2147483648) ≤ σ19 58 11 ∧ σ19 58 11 ≤ 2147483647 := hI21.1 58 11
  have hs26 : σ19 58 11 = (σ 58 11) := (congrFun (congrFun e20 58) 11).trans ((congrFun (congrFun e13 58) 11).trans ((congrFun (congrFun e3 58) 11).trans rfl))
  have hs27 : (-2147483648) ≤ σ19 58 12 ∧ σ19 58 12 ≤ 2147483647 := hI21.1 58 12
  have hs28 : σ19 58 12 = (σ 58 12) := (congrFun (congrFun e20 58) 12).trans ((congrFun (congrFun e13 58) 12).trans ((congrFun (congrFun e3 58) 12).trans rfl))
  refine qr_callN 72 rfl rfl rfl (sf_94_58x (d := d + 0) hI21 r1 r2 (by omega) (by rw [hF22.1 58 12 (by decide), hF22.1 58 11 (by decide), hF22.1 34 7 (by decide), hF22.2 22 (by decide), hF22.2 35 (by decide), hF22.2 36 (by decide), hF22.2 37 (by decide), hF22.2 40 (by decide), hF22.2 41 (by decide), ((congrFun e7 62).trans ((qw_r_ne (by decide)).trans rfl)), ((congrFun e7 63).trans ((qw_r_ne (by decide)).trans rfl))]; exact p3) (qZp_fr hF22 (by decide) (by decide) p4)) ?_
  rintro _ _ ⟨α32, rfl, hI33, hG34, v29, rfl, hv29, hx30, hx31⟩
  have hF35 : qFr [(58, 10), (73, 2), (73, 3), (73, 5), (73, 6)] [62, 63, 74, 75] σ α σ19 α32 := qFr_t hF22 hG34 (by decide) (by decide)
  rw [hF22.2 22 (by decide), hF22.2 35 (by decide), hF22.2 36 (by decide), hF22.2 37 (by decide), hF22.2 40 (by decide), hF22.2 41 (by decide), hF22.1 34 7 (by decide), hF22.1 58 11 (by decide), (show σ19 58 10 = (σ 58 10) from (congrFun (congrFun e20 58) 10).trans ((congrFun (congrFun e13 58) 10).trans ((congrFun (congrFun e3 58) 10).trans rfl)))] at hx30
  rw [hF22.2 22 (by decide), hF22.2 35 (by decide), hF22.2 36 (by decide), hF22.2 37 (by decide), hF22.2 40 (by decide), hF22.2 41 (by decide), hF22.1 34 7 (by decide), hF22.1 58 11 (by decide), hF22.1 58 12 (by decide)] at hx31
  show qr_W (qe L xs vb) (d + 3) qx_e135 _ (72, _, [.long (ql v29)], qw σ19 α32 κ ρ, 0, 0)
  refine qr_aload_n 73 rfl rfl rfl ?_
  refine qr_get 76 rfl rfl rfl (by decide) rfl ?_
  refine qr_get 79 rfl rfl rfl (by decide) rfl ?_
  refine qr_iload_n 80 rfl rfl rfl ?_
  refine qr_callN 83 rfl rfl rfl (sf_136_34x (d := d + 1) hI33 r1) ?_
  have hs38 : 0 ≤ σ19 34 7 ∧ σ19 34 7 ≤ 60 := hI33.1 34 7
  have hs39 : σ19 34 7 = (σ 34 7) := (congrFun (congrFun e20 34) 7).trans ((congrFun (congrFun e13 34) 7).trans ((congrFun (congrFun e3 34) 7).trans rfl))
  rintro _ _ ⟨rfl, v36, rfl, hv36, hp37⟩
  rw [hF35.2 36 (by decide), hF35.2 41 (by decide), hF35.1 34 7 (by decide)] at hp37
  show qr_W (qe L xs vb) (d + 3) qx_e135 _ (83, _, [.long (ql v36), .long (ql v29)], qw σ19 α32 κ ρ, 0, 0)
  refine qr_land 84 rfl rfl ?_
  refine qy_canlE (fun v40 hv40 hev40 => ?_)
  as_aux_lemma =>
    refine qr_lstore_n _ 85 rfl (by decide) rfl rfl ?_
    refine qr_iconst 86 rfl rfl ?_
    refine qr_istore _ 88 rfl (by decide) rfl rfl ?_
    have hL778 : ∀ (n : Nat) (ls : qm_L) (u760 : Int) (σ761 α762 : Nat → Nat → Int), 60 - u760 < (n : Int) → qm_get ls 0 = some (.ref 73) → qm_get ls 3 = some (.long (ql v40)) → qm_get ls 5 = some (.int (qz u760)) → (0 ≤ u760 ∧ u760 ≤ 60) → qI σ761 α762 κ ρ → qFr [(58, 10), (73, 2), (73, 3), (73, 5), (73, 6)] [62, 63, 74, 75] σ α σ761 α762 → σ761 34 7 = (σ 34 7) → σ761 58 10 = (σ 58 10) → σ761 58 11 = (σ 58 11) → σ761 58 12 = (σ 58 12) → σ761 73 2 = ((σ 73 2) + 1) → σ761 73 3 = v18 → σ761 73 6 = v11 → α762 62 = (α32 62) → α762 63 = (α32 63) → α762 74 = (qzu (α 74) ((σ 73 2) : Int).toNat ((100 * x1) + x2)) → qLs (α762 75) (σ761 73 5) (s.2.2.2 ++ qBr (fun k => qbit v40 (k : Int)) (u760 : Int).toNat) → σ761 73 5 = σ 73 5 + qsm (fun k => qbit v40 (k : Int)) (u760 : Int).toNat → qr_W (qe L xs vb) (d + 3) qx_e135 (fun r w' => ∃ σ' α', w' = qw σ' α' κ ρ ∧ qI σ' α' κ ρ ∧ qFr [(58, 10), (73, 2), (73, 3), (73, 5), (73, 6)] [62, 63, 74, 75] σ α σ' α' ∧ r = none ∧ qTl σ' α' 73 (qland (qHc σ α) (qBc σ α) (σ 34 7 : Int).toNat s (100 * x1 + x2)) ∧ qCaN (α' 62) (α' 63) (σ 58 12) (fun p q => qbs (qhF (α 35) (α 36) (α 37) (α 40) (qcv (α 41)) (qlw (α 22)) p q (σ 58 11)) (σ 34 7 : Int).toNat)) (88, ls, [], qw σ761 α762 κ ρ, 0, 0) := by
      intro n
      induction n with
      | zero => intro ls u760 σ761 α762 hm g757 g758 g759 hf775 hI763 hF764 hk765 hk766 hk767 hk768 hk769 hk770 hk771 hk772 hk773 hk774 hx776 hx777; exact False.elim (by omega)
      | succ n ih779 =>
        intro ls u760 σ761 α762 hm g757 g758 g759 hf775 hI763 hF764 hk765 hk766 hk767 hk768 hk769 hk770 hk771 hk772 hk773 hk774 hx776 hx777
        have hs780 : 0 ≤ σ761 73 5 ∧ σ761 73 5 ≤ 60 := hI763.1 73 5
        refine qr_iload 90 rfl g759 rfl ?_
        refine qr_bipush 92 rfl (by decide) rfl ?_
        refine qr_icmp_ge 140 95 rfl rfl rfl (qrg hf775 (by decide) (by decide)) (by decide) (fun h781 => ?_) (fun h781 => ?_)
        · skip
          refine qr_aload_n 141 rfl g757 rfl ?_
          refine qr_get 144 rfl rfl rfl (by decide) rfl ?_
          refine qr_dup 145 rfl rfl rfl ?_
          refine qr_get 148 rfl rfl rfl (by decide) rfl ?_
          refine qy_vl (σ 58 10) ((hk766).trans rfl) ?_
          refine qr_lload_n 149 rfl g758 rfl ?_
          refine qr_lor 150 rfl rfl ?_
          refine qy_canlE (fun v782 hv782 hev782 => ?_)
          refine qr_put 153 rfl (by decide) rfl (Nat.le_of_ble_eq_true rfl) (Nat.le_of_ble_eq_true rfl) (Or.inl rfl) (qr_fitL rfl _) rfl ?_
          refine qy_wS (qw_s σ761 58 10 v782) rfl (fun σ783 e784 => ?_)
          have hI785 : qI σ783 α762 κ ρ := by rw [e784]; exact qI_s hI763 58 10 rfl (show (-9223372036854775808) ≤ v782 ∧ v782 ≤ 9223372036854775807 by omega)
          have hF786 : qFr [(58, 10), (73, 2), (73, 3), (73, 5), (73, 6)] [62, 63, 74, 75] σ α σ783 α762 := by rw [e784]; exact qFr_s hF764 58 10 _ (by decide)
          refine qr_retV rfl rfl (by decide) (by decide) ?_
          exact ⟨_, _, rfl, hI785, hF786, rfl, (qTl_land (r := 73) (H := qHc σ α) (B := qBc σ α) (br := v40) (i := u760) (c := (σ761 73 5)) ⟨r1, r2⟩ (by omega) p1 hk774 ((congrFun (congrFun e784 73) 2).trans ((hk769).trans rfl)) (((congrFun (congrFun e784 73) 3).trans ((hk770).trans rfl)).trans (by rw [ql_val hev18 (by omega) (ql_and_r _ _), ql_val hev17 (by omega) (ql_xor_r _ _), ql_val hev16 (by omega) (ql_shl_r _ _)])) (((congrFun (congrFun e784 73) 6).trans ((hk771).trans rfl)).trans (by rw [ql_val hev11 (by omega) (ql_or_r _ _), ql_val hev10 (by omega) (ql_shl_r _ _)])) ((congrFun (congrFun e784 73) 5).trans rfl) (qld_br (by omega) hx30 hp37 (ql_val hev40 (by omega) (ql_and_r _ _))) (by have hw : σ783 58 10 = v782 := (congrFun (congrFun e784 58) 10).trans rfl; rw [hw, ql_val hev782 (by omega) (ql_or_r _ _)]) (fun k hk => qHc_d k hk) hx776 hx777 (by omega) (by omega)), (qCaN_c hk772 hk773 hx31)⟩
        · skip
          refine qr_aload_n 96 rfl g757 rfl ?_
          refine qr_get 99 rfl rfl rfl (by decide) rfl ?_
          refine qr_aload_n 100 rfl g757 rfl ?_
          refine qr_get 103 rfl rfl rfl (by decide) rfl ?_
          refine qr_alen 104 rfl rfl (by first | exact Or.inl (by decide) | exact Or.inr (Or.inl rfl) | exact Or.inr (Or.inr (Or.inl rfl)) | exact Or.inr (Or.inr (Or.inr (Or.inl rfl)))) rfl ?_
          refine qy_v 60 rfl ?_
          refine qr_icmp_ge 140 107 rfl rfl rfl (by omega) (by decide) (fun h787 => ?_) (fun h787 => ?_)
          · skip
            refine qr_aload_n 141 rfl g757 rfl ?_
            refine qr_get 144 rfl rfl rfl (by decide) rfl ?_
            refine qr_dup 145 rfl rfl rfl ?_
            refine qr_get 148 rfl rfl rfl (by decide) rfl ?_
            refine qy_vl (σ 58 10) ((hk766).trans rfl) ?_
            refine qr_lload_n 149 rfl g758 rfl ?_
            refine qr_lor 150 rfl rfl ?_
            refine qy_canlE (fun v788 hv788 hev788 => ?_)
            refine qr_put 153 rfl (by decide) rfl (Nat.le_of_ble_eq_true rfl) (Nat.le_of_ble_eq_true rfl) (Or.inl rfl) (qr_fitL rfl _) rfl ?_
            refine qy_wS (qw_s σ761 58 10 v788) rfl (fun σ789 e790 => ?_)
            have hI791 : qI σ789 α762 κ ρ := by rw [e790]; exact qI_s hI763 58 10 rfl (show (-9223372036854775808) ≤ v788 ∧ v788 ≤ 9223372036854775807 by omega)
            have hF792 : qFr [(58, 10), (73, 2), (73, 3), (73, 5), (73, 6)] [62, 63, 74, 75] σ α σ789 α762 := by rw [e790]; exact qFr_s hF764 58 10 _ (by decide)
            refine qr_retV rfl rfl (by decide) (by decide) ?_
            exact ⟨_, _, rfl, hI791, hF792, rfl, (qTl_land (r := 73) (H := qHc σ α) (B := qBc σ α) (br := v40) (i := u760) (c := (σ761 73 5)) ⟨r1, r2⟩ (by omega) p1 hk774 ((congrFun (congrFun e790 73) 2).trans ((hk769).trans rfl)) (((congrFun (congrFun e790 73) 3).trans ((hk770).trans rfl)).trans (by rw [ql_val hev18 (by omega) (ql_and_r _ _), ql_val hev17 (by omega) (ql_xor_r _ _), ql_val hev16 (by omega) (ql_shl_r _ _)])) (((congrFun (congrFun e790 73) 6).trans ((hk771).trans rfl)).trans (by rw [ql_val hev11 (by omega) (ql_or_r _ _), ql_val hev10 (by omega) (ql_shl_r _ _)])) ((congrFun (congrFun e790 73) 5).trans rfl) (qld_br (by omega) hx30 hp37 (ql_val hev40 (by omega) (ql_and_r _ _))) (by have hw : σ789 58 10 = v788 := (congrFun (congrFun e790 58) 10).trans rfl; rw [hw, ql_val hev788 (by omega) (ql_or_r _ _)]) (fun k hk => qHc_d k hk) hx776 hx777 (by omega) (by omega)), (qCaN_c hk772 hk773 hx31)⟩
          · skip
            refine qr_lload_n 108 rfl g758 rfl ?_
            refine qr_iload 110 rfl g759 rfl ?_
            refine qr_callN 113 rfl rfl rfl (sf_50b (d := d + 2) hI763 hv40 (qrg hf775 (by decide) (by decide))) ?_
            rintro _ _ ⟨rfl, v793, rfl, hv793, hp794⟩
            show qr_W (qe L xs vb) (d + 3) qx_e135 _ (113, _, [.int (qz v793)], qw σ761 α762 κ ρ, 0, 0)
            refine qr_if_eq 134 116 rfl rfl rfl (qrg hv793 (by decide) (by decide)) (fun h795 => ?_) (fun h795 => ?_)
            · skip
              refine qr_iinc _ 137 rfl g759 (by decide) rfl rfl ?_
              refine qr_goto 88 rfl rfl ?_
              exact ih779 _ (u760 + 1) σ761 α762 (by omega) (qm_gk g757 (by decide) (Or.inl (by decide))) (qm_gk g758 (by decide) (Or.inl (by decide))) (qm_ge _ _ _) (by omega) hI763 hF764 ((hk765).trans rfl) ((hk766).trans rfl) ((hk767).trans rfl) ((hk768).trans rfl) ((hk769).trans rfl) ((hk770).trans rfl) ((hk771).trans rfl) hk772 hk773 hk774 (qLs_bn (by omega) (by show ¬ qbit v40 (((u760 : Int).toNat : Nat) : Int) = 1; rw [show (((u760 : Int).toNat : Nat) : Int) = u760 by omega]; omega) hx776) (by have hq := qsm_b v40 (i := u760) (by omega); have hx := hx777; have hw : σ761 73 5 = (σ761 73 5) := rfl; omega)
            · skip
              refine qr_aload_n 117 rfl g757 rfl ?_
              refine qr_get 120 rfl rfl rfl (by decide) rfl ?_
              refine qr_aload_n 121 rfl g757 rfl ?_
              refine qr_dup 122 rfl rfl rfl ?_
              refine qr_get 125 rfl rfl rfl (by decide) rfl ?_
              refine qr_dup_x1 126 rfl rfl rfl rfl ?_
              refine qr_iconst 127 rfl rfl ?_
              refine qr_iadd 128 rfl rfl ?_
              refine qr_put 131 rfl (by decide) rfl (Nat.le_of_ble_eq_true rfl) (Nat.le_of_ble_eq_true rfl) (Or.inl rfl) (qr_fitI rfl _) rfl ?_
              refine qy_wS (qw_s σ761 73 5 ((σ761 73 5) + 1)) rfl (fun σ796 e797 => ?_)
              have hI798 : qI σ796 α762 κ ρ := by rw [e797]; exact qI_s hI763 73 5 rfl (show 0 ≤ ((σ761 73 5) + 1) ∧ ((σ761 73 5) + 1) ≤ 60 by omega)
              have hF799 : qFr [(58, 10), (73, 2), (73, 3), (73, 5), (73, 6)] [62, 63, 74, 75] σ α σ796 α762 := by rw [e797]; exact qFr_s hF764 73 5 _ (by decide)
              refine qr_iload 133 rfl g759 rfl ?_
              refine qr_iastore 134 rfl (by decide) rfl (by omega) (by decide) rfl ?_
              refine qy_wA (qw_r α762 75 (qzu (α762 75) ((σ761 73 5) : Int).toNat u760)) rfl (fun α800 e801 => ?_)
              have hI802 : qI σ796 α800 κ ρ := by rw [e801]; exact qI_r hI798 75 _ rfl (show 0 ≤ u760 ∧ u760 ≤ 59 by omega)
              have hF803 : qFr [(58, 10), (73, 2), (73, 3), (73, 5), (73, 6)] [62, 63, 74, 75] σ α σ796 α800 := by rw [e801]; exact qFr_r hF799 75 _ (by decide)
              refine qr_iinc _ 137 rfl g759 (by decide) rfl rfl ?_
              refine qr_goto 88 rfl rfl ?_
              exact ih779 _ (u760 + 1) σ796 α800 (by omega) (qm_gk g757 (by decide) (Or.inl (by decide))) (qm_gk g758 (by decide) (Or.inl (by decide))) (qm_ge _ _ _) (by omega) hI802 hF803 ((congrFun (congrFun e797 34) 7).trans ((hk765).trans rfl)) ((congrFun (congrFun e797 58) 10).trans ((hk766).trans rfl)) ((congrFun (congrFun e797 58) 11).trans ((hk767).trans rfl)) ((congrFun (congrFun e797 58) 12).trans ((hk768).trans rfl)) ((congrFun (congrFun e797 73) 2).trans ((hk769).trans rfl)) ((congrFun (congrFun e797 73) 3).trans ((hk770).trans rfl)) ((congrFun (congrFun e797 73) 6).trans ((hk771).trans rfl)) ((congrFun e801 62).trans ((qw_r_ne (by decide)).trans hk772)) ((congrFun e801 63).trans ((qw_r_ne (by decide)).trans hk773)) ((congrFun e801 74).trans ((qw_r_ne (by decide)).trans hk774)) (qLs_by (by omega) (by show qbit v40 (((u760 : Int).toNat : Nat) : Int) = 1; rw [show (((u760 : Int).toNat : Nat) : Int) = u760 by omega]; omega) (((congrFun e801 75).trans (qw_r_eq.trans (congrArg (fun f => qzu f ((σ761 73 5) : Int).toNat u760) rfl)))) ((congrFun (congrFun e797 73) 5).trans rfl) hx776) (by have hq := qsm_b v40 (i := u760) (by omega); have hx := hx777; have hw : σ796 73 5 = ((σ761 73 5) + 1) := (congrFun (congrFun e797 73) 5).trans rfl; omega)
    exact hL778 ((60 - 0 + 1 : Int)).toNat _ 0 σ19 α32 (by omega) rfl rfl rfl (by decide) hI33 hF35 ((congrFun (congrFun e20 34) 7).trans ((congrFun (congrFun e13 34) 7).trans ((congrFun (congrFun e3 34) 7).trans rfl))) ((congrFun (congrFun e20 58) 10).trans ((congrFun (congrFun e13 58) 10).trans ((congrFun (congrFun e3 58) 10).trans rfl))) ((congrFun (congrFun e20 58) 11).trans ((congrFun (congrFun e13 58) 11).trans ((congrFun (congrFun e3 58) 11).trans rfl))) ((congrFun (congrFun e20 58) 12).trans ((congrFun (congrFun e13 58) 12).trans ((congrFun (congrFun e3 58) 12).trans rfl))) ((congrFun (congrFun e20 73) 2).trans ((congrFun (congrFun e13 73) 2).trans ((congrFun (congrFun e3 73) 2).trans rfl))) ((congrFun (congrFun e20 73) 3).trans rfl) ((congrFun (congrFun e20 73) 6).trans ((congrFun (congrFun e13 73) 6).trans rfl)) rfl rfl ((hG34.2 74 (by decide)).trans ((congrFun e7 74).trans (qw_r_eq.trans (congrArg (fun f => qzu f ((σ 73 2) : Int).toNat ((100 * x1) + x2)) rfl)))) (qLs_in (((hG34.2 75 (by decide)).trans ((congrFun e7 75).trans ((qw_r_ne (by decide)).trans rfl)))) ((congrFun (congrFun e20 73) 5).trans ((congrFun (congrFun e13 73) 5).trans ((congrFun (congrFun e3 73) 5).trans rfl))) p1.2.2.2.1) (((congrFun (congrFun e20 73) 5).trans ((congrFun (congrFun e13 73) 5).trans ((congrFun (congrFun e3 73) 5).trans rfl))).trans (Int.add_zero _).symm)

set_option maxHeartbeats 4000000 in
set_option maxRecDepth 20000 in
/-- OneRoof$Telling.tell -/
theorem sf_134_70x {L : Nat} {xs : Nat → Int} {vb : Bool} {d : Nat} {σ α : Nat → Nat → Int} {κ : Nat → Option Nat} {ρ : Nat} {x1 : Int} {x2 : Int} {x3 : Int} {f0 f1 : (Nat → Int) → Int} (hI : qI σ α κ ρ) (r1 : 0 ≤ x1 ∧ x1 ≤ 31) (r2 : 0 ≤ x2 ∧ x2 ≤ 31) (r3 : (-9223372036854775808) ≤ x3 ∧ x3 ≤ 9223372036854775807) (p0 : ¬ x1 = x2) (p1 : qPW σ α κ (0 : Int).toNat f0) (p2 : qPW σ α κ (1 : Int).toNat f1) (p3 : qCaN (α 60) (α 61) (σ 58 12) (fun p q => qnF (qTb (α 24)) (α 28) (α 29) (α 31) (α 30) (α 33) (σ 27 6) (σ 27 7) p q (σ 58 11))) (p4 : qCaN (α 62) (α 63) (σ 58 12) (fun p q => qbs (qhF (α 35) (α 36) (α 37) (α 40) (qcv (α 41)) (qlw (α 22)) p q (σ 58 11)) (σ 34 7 : Int).toNat)) (p5 : qZp σ α) (p6 : σ 58 10 = 0) : qm_T (qe L xs vb) (d + 6) 134 [.ref 70, .int (qz x1), .int (qz x2), .long (ql x3)] (qw σ α κ ρ) (fun r w' => ∃ σ' α', w' = qw σ' α' κ ρ ∧ qI σ' α' κ ρ ∧ qFr [(58, 10), (70, 2), (70, 3), (70, 5), (70, 6)] [53, 57, 59, 60, 61, 62, 63, 71, 72, 85] σ α σ' α' ∧ σ' 58 10 = 0 ∧ r = none ∧ qTd σ' α' 70 (qtell (qHc σ α) (qBc σ α) (σ 34 7 : Int).toNat (qWc σ α f0 f1) (σ 17 6) 30 (qland (qHc σ α) (qBc σ α) (σ 34 7 : Int).toNat ([], x3, 0, []) (100 * x1 + x2))) ∧ qCaN (α' 60) (α' 61) (σ 58 12) (fun p q => qnF (qTb (α 24)) (α 28) (α 29) (α 31) (α 30) (α 33) (σ 27 6) (σ 27 7) p q (σ 58 11)) ∧ qCaN (α' 62) (α' 63) (σ 58 12) (fun p q => qbs (qhF (α 35) (α 36) (α 37) (α 40) (qcv (α 41)) (qlw (α 22)) p q (σ 58 11)) (σ 34 7 : Int).toNat)) := by
  refine qr_start (d := d + 5) qv_e134 (Nat.le_of_ble_eq_true rfl) ?_
  show qr_W (qe L xs vb) (d + 5) qx_e134 _ (0, [(0, .ref 70), (1, .int (qz x1)), (2, .int (qz x2)), (3, .long (ql x3))], [], _, 0, 0)
  have hF0 := qFr_rf [(58, 10), (70, 2), (70, 3), (70, 5), (70, 6)] [53, 57, 59, 60, 61, 62, 63, 71, 72, 85] σ α
  have hz58_12 : (-2147483648) ≤ σ 58 12 ∧ σ 58 12 ≤ 2147483647 := hI.1 58 12
  have hz27_6 : (-9223372036854775808) ≤ σ 27 6 ∧ σ 27 6 ≤ 9223372036854775807 := hI.1 27 6
  have hz27_7 : 0 ≤ σ 27 7 ∧ σ 27 7 ≤ 40 := hI.1 27 7
  have hz58_11 : (-2147483648) ≤ σ 58 11 ∧ σ 58 11 ≤ 2147483647 := hI.1 58 11
  have hz34_7 : 0 ≤ σ 34 7 ∧ σ 34 7 ≤ 60 := hI.1 34 7
  have hz58_10 : (-9223372036854775808) ≤ σ 58 10 ∧ σ 58 10 ≤ 9223372036854775807 := hI.1 58 10
  have hz70_2 : 0 ≤ σ 70 2 ∧ σ 70 2 ≤ 31 := hI.1 70 2
  have hz70_3 : (-9223372036854775808) ≤ σ 70 3 ∧ σ 70 3 ≤ 9223372036854775807 := hI.1 70 3
  have hz70_5 : 0 ≤ σ 70 5 ∧ σ 70 5 ≤ 60 := hI.1 70 5
  have hz70_6 : (-9223372036854775808) ≤ σ 70 6 ∧ σ 70 6 ≤ 9223372036854775807 := hI.1 70 6
  have hz17_6 : 0 ≤ σ 17 6 ∧ σ 17 6 ≤ 32 := hI.1 17 6
  refine qr_aload_n 1 rfl rfl rfl ?_
  refine qr_lload_n 2 rfl rfl rfl ?_
  refine qr_put 5 rfl (by decide) rfl (Nat.le_of_ble_eq_true rfl) (Nat.le_of_ble_eq_true rfl) (Or.inl rfl) (qr_fitL rfl _) rfl ?_
  refine qy_wS (qw_s σ 70 3 x3) rfl (fun σ1 e2 => ?_)
  have hI3 : qI σ1 α κ ρ := by rw [e2]; exact qI_s hI 70 3 rfl (show (-9223372036854775808) ≤ x3 ∧ x3 ≤ 9223372036854775807 by omega)
  have hF4 : qFr [(58, 10), (70, 2), (70, 3), (70, 5), (70, 6)] [53, 57, 59, 60, 61, 62, 63, 71, 72, 85] σ α σ1 α := by rw [e2]; exact qFr_s hF0 70 3 _ (by decide)
  refine qr_aload_n 6 rfl rfl rfl ?_
  refine qr_iconst 7 rfl rfl ?_
  refine qr_put 10 rfl (by decide) rfl (Nat.le_of_ble_eq_true rfl) (Nat.le_of_ble_eq_true rfl) (Or.inl rfl) (qr_fitI rfl _) rfl ?_
  refine qy_wS (qw_s σ1 70 2 0) rfl (fun σ5 e6 => ?_)
  have hI7 : qI σ5 α κ ρ := by rw [e6]; exact qI_s hI3 70 2 rfl (show 0 ≤ 0 ∧ 0 ≤ 31 by omega)
  have hF8 : qFr [(58, 10), (70, 2), (70, 3), (70, 5), (70, 6)] [53, 57, 59, 60, 61, 62, 63, 71, 72, 85] σ α σ5 α := by rw [e6]; exact qFr_s hF4 70 2 _ (by decide)
  refine qr_aload_n 11 rfl rfl rfl ?_
  refine qr_iconst 12 rfl rfl ?_
  refine qr_put 15 rfl (by decide) rfl (Nat.le_of_ble_eq_true rfl) (Nat.le_of_ble_eq_true rfl) (Or.inl rfl) (qr_fitI rfl _) rfl ?_
  refine qy_wS (qw_s σ5 70 5 0) rfl (fun σ9 e10 => ?_)
  have hI11 : qI σ9 α κ ρ := by rw [e10]; exact qI_s hI7 70 5 rfl (show 0 ≤ 0 ∧ 0 ≤ 60 by omega)
  have hF12 : qFr [(58, 10), (70, 2), (70, 3), (70, 5), (70, 6)] [53, 57, 59, 60, 61, 62, 63, 71, 72, 85] σ α σ9 α := by rw [e10]; exact qFr_s hF8 70 5 _ (by decide)
  refine qr_aload_n 16 rfl rfl rfl ?_
  refine qr_lconst 17 rfl rfl ?_
  refine qy_vl 0 rfl ?_
  refine qr_put 20 rfl (by decide) rfl (Nat.le_of_ble_eq_true rfl) (Nat.le_of_ble_eq_true rfl) (Or.inl rfl) (qr_fitL rfl _) rfl ?_
  refine qy_wS (qw_s σ9 70 6 0) rfl (fun σ13 e14 => ?_)
  have hI15 : qI σ13 α κ ρ := by rw [e14]; exact qI_s hI11 70 6 rfl (show (-9223372036854775808) ≤ 0 ∧ 0 ≤ 9223372036854775807 by omega)
  have hF16 : qFr [(58, 10), (70, 2), (70, 3), (70, 5), (70, 6)] [53, 57, 59, 60, 61, 62, 63, 71, 72, 85] σ α σ13 α := by rw [e14]; exact qFr_s hF12 70 6 _ (by decide)
  refine qr_aload_n 21 rfl rfl rfl ?_
  refine qr_iload_n 22 rfl rfl rfl ?_
  refine qr_iload_n 23 rfl rfl rfl ?_
  have hT17 : qTl σ13 α 70 ([], x3, 0, []) := qTl_0 ((congrFun (congrFun e14 70) 2).trans ((congrFun (congrFun e10 70) 2).trans ((congrFun (congrFun e6 70) 2).trans rfl))) ((congrFun (congrFun e14 70) 3).trans ((congrFun (congrFun e10 70) 3).trans ((congrFun (congrFun e6 70) 3).trans ((congrFun (congrFun e2 70) 3).trans rfl)))) (((congrFun (congrFun e14 58) 10).trans ((congrFun (congrFun e10 58) 10).trans ((congrFun (congrFun e6 58) 10).trans ((congrFun (congrFun e2 58) 10).trans rfl)))).trans p6) ((congrFun (congrFun e14 70) 5).trans ((congrFun (congrFun e10 70) 5).trans rfl))
  have hb18 : σ13 70 2 ≤ 30 := by have hw : σ13 70 2 = 0 := (congrFun (congrFun e14 70) 2).trans ((congrFun (congrFun e10 70) 2).trans ((congrFun (congrFun e6 70) 2).trans rfl)); omega
  have hs19 : 0 ≤ σ13 34 7 ∧ σ13 34 7 ≤ 60 := hI15.1 34 7
  have hs20 : σ13 34 7 = (σ 34 7) := (congrFun (congrFun e14 34) 7).trans ((congrFun (congrFun e10 34) 7).trans ((congrFun (congrFun e6 34) 7).trans ((congrFun (congrFun e2 34) 7).trans rfl)))
  have hs21 : (-2147483648) ≤ σ13 58 11 ∧ σ13 58 11 ≤ 2147483647 := hI15.1 58 11
  have hs22 : σ13 58 11 = (σ 58 11) := (congrFun (congrFun e14 58) 11).trans ((congrFun (congrFun e10 58) 11).trans ((congrFun (congrFun e6 58) 11).trans ((congrFun (congrFun e2 58) 11).trans rfl)))
  have hs23 : (-2147483648) ≤ σ13 58 12 ∧ σ13 58 12 ≤ 2147483647 := hI15.1 58 12
  have hs24 : σ13 58 12 = (σ 58 12) := (congrFun (congrFun e14 58) 12).trans ((congrFun (congrFun e10 58) 12).trans ((congrFun (congrFun e6 58) 12).trans ((congrFun (congrFun e2 58) 12).trans rfl)))
  have hs25 : 0 ≤ σ13 70 2 ∧ σ13 70 2 ≤ 31 := hI15.1 70 2
  have hs26 : σ13 70 2 = 0 := (congrFun (congrFun e14 70) 2).trans ((congrFun (congrFun e10 70) 2).trans ((congrFun (congrFun e6 70) 2).trans rfl))
  refine qr_callN 26 rfl rfl rfl (sf_135_70x (d := d + 1) hI15 r1 r2 (by omega) hT17 (by omega) (by rw [hF16.1 58 11 (by decide), hF16.1 58 12 (by decide), hF16.1 34 7 (by decide)]; exact p4) (qZp_fr hF16 (by decide) (by decide) p5)) ?_
  rintro _ _ ⟨σ29, α30, rfl, hI31, hG32, rfl, hx27, hx28⟩
  have hF33 : qFr [(58, 10), (70, 2), (70, 3), (70, 5), (70, 6)] [53, 57, 59, 60, 61, 62, 63, 71, 72, 85] σ α σ29 α30 := qFr_t hF16 hG32 (by decide) (by decide)
  rw [hF16.1 34 7 (by decide)] at hx27
  rw [hF16.1 34 7 (by decide), hF16.1 58 11 (by decide), hF16.1 58 12 (by decide)] at hx28
  show qr_W (qe L xs vb) (d + 5) qx_e134 _ (26, _, [], qw σ29 α30 κ ρ, 0, 0)
  rw [qHc_fr hF16 (by decide) (by decide), qBc_fr hF16 (by decide)] at hx27
  have hc34 := p3
  rw [← hG32.2 60 (by decide), ← hG32.2 61 (by decide)] at hc34
  refine qr_iconst 27 rfl rfl ?_
  refine qr_istore _ 29 rfl (by decide) rfl rfl ?_
  have hL1383 : ∀ (n : Nat) (ls : qm_L) (u1367 : Int) (σ1368 α1369 : Nat → Nat → Int), 31 - u1367 < (n : Int) → qm_get ls 0 = some (.ref 70) → qm_get ls 5 = some (.int (qz u1367)) → (1 ≤ u1367 ∧ u1367 ≤ 31) → qI σ1368 α1369 κ ρ → qFr [(58, 10), (70, 2), (70, 3), (70, 5), (70, 6)] [53, 57, 59, 60, 61, 62, 63, 71, 72, 85] σ α σ1368 α1369 → σ1368 17 6 = (σ 17 6) → σ1368 27 6 = (σ 27 6) → σ1368 27 7 = (σ 27 7) → σ1368 34 7 = (σ 34 7) → σ1368 58 11 = (σ 58 11) → σ1368 58 12 = (σ 58 12) → (∃ s : qTS, qTl σ1368 α1369 70 s ∧ qtell (qHc σ α) (qBc σ α) (σ 34 7 : Int).toNat (qWc σ α f0 f1) (σ 17 6) (31 - u1367 : Int).toNat s = (qtell (qHc σ α) (qBc σ α) (σ 34 7 : Int).toNat (qWc σ α f0 f1) (σ 17 6) 30 (qland (qHc σ α) (qBc σ α) (σ 34 7 : Int).toNat ([], x3, 0, []) (100 * x1 + x2)))) → σ1368 70 2 = u1367 → qCaN (α1369 60) (α1369 61) (σ 58 12) (fun p q => qnF (qTb (α 24)) (α 28) (α 29) (α 31) (α 30) (α 33) (σ 27 6) (σ 27 7) p q (σ 58 11)) → qCaN (α1369 62) (α1369 63) (σ 58 12) (fun p q => qbs (qhF (α 35) (α 36) (α 37) (α 40) (qcv (α 41)) (qlw (α 22)) p q (σ 58 11)) (σ 34 7 : Int).toNat) → qr_W (qe L xs vb) (d + 5) qx_e134 (fun r w' => ∃ σ' α', w' = qw σ' α' κ ρ ∧ qI σ' α' κ ρ ∧ qFr [(58, 10), (70, 2), (70, 3), (70, 5), (70, 6)] [53, 57, 59, 60, 61, 62, 63, 71, 72, 85] σ α σ' α' ∧ σ' 58 10 = 0 ∧ r = none ∧ qTd σ' α' 70 (qtell (qHc σ α) (qBc σ α) (σ 34 7 : Int).toNat (qWc σ α f0 f1) (σ 17 6) 30 (qland (qHc σ α) (qBc σ α) (σ 34 7 : Int).toNat ([], x3, 0, []) (100 * x1 + x2))) ∧ qCaN (α' 60) (α' 61) (σ 58 12) (fun p q => qnF (qTb (α 24)) (α 28) (α 29) (α 31) (α 30) (α 33) (σ 27 6) (σ 27 7) p q (σ 58 11)) ∧ qCaN (α' 62) (α' 63) (σ 58 12) (fun p q => qbs (qhF (α 35) (α 36) (α 37) (α 40) (qcv (α 41)) (qlw (α 22)) p q (σ 58 11)) (σ 34 7 : Int).toNat)) (29, ls, [], qw σ1368 α1369 κ ρ, 0, 0) := by
    intro n
    induction n with
    | zero => intro ls u1367 σ1368 α1369 hm g1365 g1366 hf1378 hI1370 hF1371 hk1372 hk1373 hk1374 hk1375 hk1376 hk1377 hx1379 hx1380 hx1381 hx1382; exact False.elim (by omega)
    | succ n ih1384 =>
      intro ls u1367 σ1368 α1369 hm g1365 g1366 hf1378 hI1370 hF1371 hk1372 hk1373 hk1374 hk1375 hk1376 hk1377 hx1379 hx1380 hx1381 hx1382
      obtain ⟨s1385, ht1386, ht1387⟩ := hx1379
      refine qr_iload 31 rfl g1366 rfl ?_
      refine qr_bipush 33 rfl (by decide) rfl ?_
      refine qr_icmp_ge 88 36 rfl rfl rfl (qrg hf1378 (by decide) (by decide)) (by decide) (fun h1388 => ?_) (fun h1388 => ?_)
      · skip
        refine qr_aload_n 89 rfl g1365 rfl ?_
        refine qr_get 92 rfl rfl rfl (by decide) rfl ?_
        refine qr_lconst 93 rfl rfl ?_
        refine qy_vl 0 rfl ?_
        refine qr_put 96 rfl (by decide) rfl (Nat.le_of_ble_eq_true rfl) (Nat.le_of_ble_eq_true rfl) (Or.inl rfl) (qr_fitL rfl _) rfl ?_
        refine qy_wS (qw_s σ1368 58 10 0) rfl (fun σ1389 e1390 => ?_)
        have hI1391 : qI σ1389 α1369 κ ρ := by rw [e1390]; exact qI_s hI1370 58 10 rfl (show (-9223372036854775808) ≤ 0 ∧ 0 ≤ 9223372036854775807 by omega)
        have hF1392 : qFr [(58, 10), (70, 2), (70, 3), (70, 5), (70, 6)] [53, 57, 59, 60, 61, 62, 63, 71, 72, 85] σ α σ1389 α1369 := by rw [e1390]; exact qFr_s hF1371 58 10 _ (by decide)
        have hk1393 : σ1389 70 2 = σ1368 70 2 := (congrFun (congrFun e1390 70) 2)
        have hk1394 : σ1389 70 3 = σ1368 70 3 := (congrFun (congrFun e1390 70) 3)
        have hk1395 : σ1389 70 5 = σ1368 70 5 := (congrFun (congrFun e1390 70) 5)
        refine qr_retV rfl rfl (by decide) (by decide) ?_
        exact ⟨_, _, rfl, hI1391, hF1392, (by have hw : σ1389 58 10 = 0 := (congrFun (congrFun e1390 58) 10).trans rfl; omega), rfl, (by rw [← (qtell_end (by omega) ht1387)]; exact qTd_of (hk1393) (hk1394) (hk1395) ht1386), hx1381, hx1382⟩
      · skip
        refine qr_aload_n 37 rfl g1365 rfl ?_
        have hs1396 : (-9223372036854775808) ≤ σ1368 27 6 ∧ σ1368 27 6 ≤ 9223372036854775807 := hI1370.1 27 6
        have hs1397 : σ1368 27 6 = (σ 27 6) := (hk1373).trans rfl
        have hs1398 : 0 ≤ σ1368 27 7 ∧ σ1368 27 7 ≤ 40 := hI1370.1 27 7
        have hs1399 : σ1368 27 7 = (σ 27 7) := (hk1374).trans rfl
        have hs1400 : 0 ≤ σ1368 34 7 ∧ σ1368 34 7 ≤ 60 := hI1370.1 34 7
        have hs1401 : σ1368 34 7 = (σ 34 7) := (hk1375).trans rfl
        have hs1402 : (-2147483648) ≤ σ1368 58 11 ∧ σ1368 58 11 ≤ 2147483647 := hI1370.1 58 11
        have hs1403 : σ1368 58 11 = (σ 58 11) := (hk1376).trans rfl
        have hs1404 : (-2147483648) ≤ σ1368 58 12 ∧ σ1368 58 12 ≤ 2147483647 := hI1370.1 58 12
        have hs1405 : σ1368 58 12 = (σ 58 12) := (hk1377).trans rfl
        refine qr_callN 40 rfl rfl rfl (sf_137_70x (d := d + 0) hI1370 (qPW_fr hF1371 (by decide) (by decide) p2) (by rw [hF1371.1 58 11 (by decide), hF1371.1 58 12 (by decide), hF1371.1 27 6 (by decide), hF1371.1 27 7 (by decide), hF1371.2 24 (by decide), hF1371.2 28 (by decide), hF1371.2 29 (by decide), hF1371.2 30 (by decide), hF1371.2 31 (by decide), hF1371.2 33 (by decide)]; exact hx1381) (by rw [hF1371.1 58 11 (by decide), hF1371.1 58 12 (by decide), hF1371.1 34 7 (by decide), hF1371.2 22 (by decide), hF1371.2 35 (by decide), hF1371.2 36 (by decide), hF1371.2 37 (by decide), hF1371.2 40 (by decide), hF1371.2 41 (by decide)]; exact hx1382) (qZp_fr hF1371 (by decide) (by decide) p5)) ?_
        rintro _ _ ⟨α1411, rfl, hI1412, hG1413, v1406, rfl, hv1406, hp1407, hx1408, hx1409, hx1410⟩
        have hF1414 : qFr [(58, 10), (70, 2), (70, 3), (70, 5), (70, 6)] [53, 57, 59, 60, 61, 62, 63, 71, 72, 85] σ α σ1368 α1411 := qFr_t hF1371 hG1413 (by decide) (by decide)
        rw [hF1371.1 17 6 (by decide)] at hx1408
        rw [hF1371.2 24 (by decide), hF1371.2 28 (by decide), hF1371.2 29 (by decide), hF1371.2 30 (by decide), hF1371.2 31 (by decide), hF1371.2 33 (by decide), hF1371.1 27 6 (by decide), hF1371.1 27 7 (by decide), hF1371.1 58 11 (by decide), hF1371.1 58 12 (by decide)] at hx1409
        rw [hF1371.2 22 (by decide), hF1371.2 35 (by decide), hF1371.2 36 (by decide), hF1371.2 37 (by decide), hF1371.2 40 (by decide), hF1371.2 41 (by decide), hF1371.1 34 7 (by decide), hF1371.1 58 11 (by decide), hF1371.1 58 12 (by decide)] at hx1410
        show qr_W (qe L xs vb) (d + 5) qx_e134 _ (40, _, [.int (qz v1406)], qw σ1368 α1411 κ ρ, 0, 0)
        have hq1415 := qtl_1 (σ := σ) (α := α) (f0 := f0) (f1 := f1) (r := 70) (qNVc_fr hF1371 (by decide) (by decide)) ht1386 (by omega) hx1408
        have ht1416 := qTl_a (r := 70) (hG1413.2 71 (by decide)) (hG1413.2 72 (by decide)) ht1386
        refine qr_istore _ 42 rfl (by decide) rfl rfl ?_
        refine qr_iload 44 rfl (qm_ge _ _ _) rfl ?_
        refine qr_if_ge 60 47 rfl rfl rfl (qrg hv1406 (by decide) (by decide)) (fun h1417 => ?_) (fun h1417 => ?_)
        · skip
          refine qr_iload 62 rfl (qm_ge _ _ _) rfl ?_
          refine qr_if_ge 68 65 rfl rfl rfl (qrg hv1406 (by decide) (by decide)) (fun h1418 => ?_) (fun h => False.elim (by omega))
          refine qr_aload_n 69 rfl (qm_gk g1365 (by decide) (Or.inl (by decide))) rfl ?_
          refine qr_iload 71 rfl (qm_ge _ _ _) rfl ?_
          refine qr_bipush 73 rfl (by decide) rfl ?_
          refine qr_idiv 74 rfl (by omega) (by decide) rfl ?_
          refine qr_iload 76 rfl (qm_ge _ _ _) rfl ?_
          refine qr_bipush 78 rfl (by decide) rfl ?_
          refine qr_irem 79 rfl (by omega) (by decide) rfl ?_
          have hs1419 : 0 ≤ σ1368 34 7 ∧ σ1368 34 7 ≤ 60 := hI1412.1 34 7
          have hs1420 : σ1368 34 7 = (σ 34 7) := (hk1375).trans rfl
          have hs1421 : (-2147483648) ≤ σ1368 58 11 ∧ σ1368 58 11 ≤ 2147483647 := hI1412.1 58 11
          have hs1422 : σ1368 58 11 = (σ 58 11) := (hk1376).trans rfl
          have hs1423 : (-2147483648) ≤ σ1368 58 12 ∧ σ1368 58 12 ≤ 2147483647 := hI1412.1 58 12
          have hs1424 : σ1368 58 12 = (σ 58 12) := (hk1377).trans rfl
          have hs1425 : 0 ≤ σ1368 70 2 ∧ σ1368 70 2 ≤ 31 := hI1412.1 70 2
          refine qr_callN 82 rfl rfl rfl (sf_135_70x (d := d + 1) hI1412 (by omega) (by omega) (by omega) ht1416 (by omega) (by rw [hF1414.1 58 11 (by decide), hF1414.1 58 12 (by decide), hF1414.1 34 7 (by decide), hF1414.2 22 (by decide), hF1414.2 35 (by decide), hF1414.2 36 (by decide), hF1414.2 37 (by decide), hF1414.2 40 (by decide), hF1414.2 41 (by decide)]; exact hx1410) (qZp_fr hF1414 (by decide) (by decide) p5)) ?_
          rintro _ _ ⟨σ1428, α1429, rfl, hI1430, hG1431, rfl, hx1426, hx1427⟩
          have hF1432 : qFr [(58, 10), (70, 2), (70, 3), (70, 5), (70, 6)] [53, 57, 59, 60, 61, 62, 63, 71, 72, 85] σ α σ1428 α1429 := qFr_t hF1414 hG1431 (by decide) (by decide)
          rw [hF1414.1 34 7 (by decide)] at hx1426
          rw [hF1414.2 22 (by decide), hF1414.2 35 (by decide), hF1414.2 36 (by decide), hF1414.2 37 (by decide), hF1414.2 40 (by decide), hF1414.2 41 (by decide), hF1414.1 34 7 (by decide), hF1414.1 58 11 (by decide), hF1414.1 58 12 (by decide)] at hx1427
          show qr_W (qe L xs vb) (d + 5) qx_e134 _ (82, _, [], qw σ1428 α1429 κ ρ, 0, 0)
          rw [qHc_fr hF1414 (by decide) (by decide), qBc_fr hF1414 (by decide), show 100 * (v1406 / 100) + v1406 % 100 = v1406 by omega] at hx1426
          have hc1433 := hx1409
          rw [← hG1431.2 60 (by decide), ← hG1431.2 61 (by decide)] at hc1433
          refine qr_iinc _ 85 rfl (qm_gk g1366 (by decide) (Or.inr rfl)) (by decide) rfl rfl ?_
          refine qr_goto 29 rfl rfl ?_
          exact ih1384 _ (u1367 + 1) σ1428 α1429 (by omega) (qm_gk (qm_gk g1365 (by decide) (Or.inl (by decide))) (by decide) (Or.inl (by decide))) (qm_ge _ _ _) (by omega) hI1430 hF1432 ((hG1431.1 17 6 (by decide)).trans ((hk1372).trans rfl)) ((hG1431.1 27 6 (by decide)).trans ((hk1373).trans rfl)) ((hG1431.1 27 7 (by decide)).trans ((hk1374).trans rfl)) ((hG1431.1 34 7 (by decide)).trans ((hk1375).trans rfl)) ((hG1431.1 58 11 (by decide)).trans ((hk1376).trans rfl)) ((hG1431.1 58 12 (by decide)).trans ((hk1377).trans rfl)) ⟨_, hx1426, qtell_go (by omega) (qnext_1 hq1415 (by omega)) (by omega) ht1387⟩ (by have hl := hx1426.1.1; have hl0 := ht1416.1.1; have hl2 : (s1385.1 ++ [v1406]).length = s1385.1.length + 1 := List.length_append; have hl3 : ((s1385.1 ++ [v1406]).length : Int) = σ1428 70 2 := hl; have hb := hx1380; omega) hc1433 hx1427
        · skip
          refine qr_aload_n 48 rfl (qm_gk g1365 (by decide) (Or.inl (by decide))) rfl ?_
          refine qr_get 51 rfl rfl rfl (by decide) rfl ?_
          refine qr_aload_n 52 rfl (qm_gk g1365 (by decide) (Or.inl (by decide))) rfl ?_
          refine qr_get 55 rfl rfl rfl (by decide) rfl ?_
          have hs1434 : (-9223372036854775808) ≤ σ1368 70 3 ∧ σ1368 70 3 ≤ 9223372036854775807 := hI1412.1 70 3
          have hs1435 : (-9223372036854775808) ≤ σ1368 27 6 ∧ σ1368 27 6 ≤ 9223372036854775807 := hI1412.1 27 6
          have hs1436 : σ1368 27 6 = (σ 27 6) := (hk1373).trans rfl
          have hs1437 : 0 ≤ σ1368 27 7 ∧ σ1368 27 7 ≤ 40 := hI1412.1 27 7
          have hs1438 : σ1368 27 7 = (σ 27 7) := (hk1374).trans rfl
          have hs1439 : 0 ≤ σ1368 34 7 ∧ σ1368 34 7 ≤ 60 := hI1412.1 34 7
          have hs1440 : σ1368 34 7 = (σ 34 7) := (hk1375).trans rfl
          have hs1441 : (-2147483648) ≤ σ1368 58 11 ∧ σ1368 58 11 ≤ 2147483647 := hI1412.1 58 11
          have hs1442 : σ1368 58 11 = (σ 58 11) := (hk1376).trans rfl
          have hs1443 : (-2147483648) ≤ σ1368 58 12 ∧ σ1368 58 12 ≤ 2147483647 := hI1412.1 58 12
          have hs1444 : σ1368 58 12 = (σ 58 12) := (hk1377).trans rfl
          refine qr_callN 58 rfl rfl rfl (sf_104_58x (d := d + 0) hI1412 hs1434 (qPW_fr hF1414 (by decide) (by decide) p1) (by rw [hF1414.1 58 11 (by decide), hF1414.1 58 12 (by decide), hF1414.1 27 6 (by decide), hF1414.1 27 7 (by decide), hF1414.2 24 (by decide), hF1414.2 28 (by decide), hF1414.2 29 (by decide), hF1414.2 30 (by decide), hF1414.2 31 (by decide), hF1414.2 33 (by decide)]; exact hx1409) (by rw [hF1414.1 58 11 (by decide), hF1414.1 58 12 (by decide), hF1414.1 34 7 (by decide), hF1414.2 22 (by decide), hF1414.2 35 (by decide), hF1414.2 36 (by decide), hF1414.2 37 (by decide), hF1414.2 40 (by decide), hF1414.2 41 (by decide)]; exact hx1410) (qZp_fr hF1414 (by decide) (by decide) p5)) ?_
          rintro _ _ ⟨α1450, rfl, hI1451, hG1452, v1445, rfl, hv1445, hp1446, hx1447, hx1448, hx1449⟩
          have hF1453 : qFr [(58, 10), (70, 2), (70, 3), (70, 5), (70, 6)] [53, 57, 59, 60, 61, 62, 63, 71, 72, 85] σ α σ1368 α1450 := qFr_t hF1414 hG1452 (by decide) (by decide)
          rw [hF1414.1 17 6 (by decide)] at hx1447
          rw [hF1414.2 24 (by decide), hF1414.2 28 (by decide), hF1414.2 29 (by decide), hF1414.2 30 (by decide), hF1414.2 31 (by decide), hF1414.2 33 (by decide), hF1414.1 27 6 (by decide), hF1414.1 27 7 (by decide), hF1414.1 58 11 (by decide), hF1414.1 58 12 (by decide)] at hx1448
          rw [hF1414.2 22 (by decide), hF1414.2 35 (by decide), hF1414.2 36 (by decide), hF1414.2 37 (by decide), hF1414.2 40 (by decide), hF1414.2 41 (by decide), hF1414.1 34 7 (by decide), hF1414.1 58 11 (by decide), hF1414.1 58 12 (by decide)] at hx1449
          show qr_W (qe L xs vb) (d + 5) qx_e134 _ (58, _, [.int (qz v1445)], qw σ1368 α1450 κ ρ, 0, 0)
          have hq1454 := qtl_0 (σ := σ) (α := α) (f0 := f0) (f1 := f1) (r := 70) (qNVc_fr hF1414 (by decide) (by decide)) ht1416.2.1 ht1416.2.2.1 (by omega) hx1447
          have ht1455 := qTl_a (r := 70) (hG1452.2 71 (by decide)) (hG1452.2 72 (by decide)) ht1416
          refine qr_istore _ 60 rfl (by decide) rfl rfl ?_
          refine qr_iload 62 rfl (qm_ge _ _ _) rfl ?_
          refine qr_if_ge 68 65 rfl rfl rfl (qrg hv1445 (by decide) (by decide)) (fun h1456 => ?_) (fun h1456 => ?_)
          · skip
            refine qr_aload_n 69 rfl (qm_gk (qm_gk g1365 (by decide) (Or.inl (by decide))) (by decide) (Or.inl (by decide))) rfl ?_
            refine qr_iload 71 rfl (qm_ge _ _ _) rfl ?_
            refine qr_bipush 73 rfl (by decide) rfl ?_
            refine qr_idiv 74 rfl (by omega) (by decide) rfl ?_
            refine qr_iload 76 rfl (qm_ge _ _ _) rfl ?_
            refine qr_bipush 78 rfl (by decide) rfl ?_
            refine qr_irem 79 rfl (by omega) (by decide) rfl ?_
            have hs1457 : 0 ≤ σ1368 34 7 ∧ σ1368 34 7 ≤ 60 := hI1451.1 34 7
            have hs1458 : σ1368 34 7 = (σ 34 7) := (hk1375).trans rfl
            have hs1459 : (-2147483648) ≤ σ1368 58 11 ∧ σ1368 58 11 ≤ 2147483647 := hI1451.1 58 11
            have hs1460 : σ1368 58 11 = (σ 58 11) := (hk1376).trans rfl
            have hs1461 : (-2147483648) ≤ σ1368 58 12 ∧ σ1368 58 12 ≤ 2147483647 := hI1451.1 58 12
            have hs1462 : σ1368 58 12 = (σ 58 12) := (hk1377).trans rfl
            have hs1463 : 0 ≤ σ1368 70 2 ∧ σ1368 70 2 ≤ 31 := hI1451.1 70 2
            refine qr_callN 82 rfl rfl rfl (sf_135_70x (d := d + 1) hI1451 (by omega) (by omega) (by omega) ht1455 (by omega) (by rw [hF1453.1 58 11 (by decide), hF1453.1 58 12 (by decide), hF1453.1 34 7 (by decide), hF1453.2 22 (by decide), hF1453.2 35 (by decide), hF1453.2 36 (by decide), hF1453.2 37 (by decide), hF1453.2 40 (by decide), hF1453.2 41 (by decide)]; exact hx1449) (qZp_fr hF1453 (by decide) (by decide) p5)) ?_
            rintro _ _ ⟨σ1466, α1467, rfl, hI1468, hG1469, rfl, hx1464, hx1465⟩
            have hF1470 : qFr [(58, 10), (70, 2), (70, 3), (70, 5), (70, 6)] [53, 57, 59, 60, 61, 62, 63, 71, 72, 85] σ α σ1466 α1467 := qFr_t hF1453 hG1469 (by decide) (by decide)
            rw [hF1453.1 34 7 (by decide)] at hx1464
            rw [hF1453.2 22 (by decide), hF1453.2 35 (by decide), hF1453.2 36 (by decide), hF1453.2 37 (by decide), hF1453.2 40 (by decide), hF1453.2 41 (by decide), hF1453.1 34 7 (by decide), hF1453.1 58 11 (by decide), hF1453.1 58 12 (by decide)] at hx1465
            show qr_W (qe L xs vb) (d + 5) qx_e134 _ (82, _, [], qw σ1466 α1467 κ ρ, 0, 0)
            rw [qHc_fr hF1453 (by decide) (by decide), qBc_fr hF1453 (by decide), show 100 * (v1445 / 100) + v1445 % 100 = v1445 by omega] at hx1464
            have hc1471 := hx1448
            rw [← hG1469.2 60 (by decide), ← hG1469.2 61 (by decide)] at hc1471
            refine qr_iinc _ 85 rfl (qm_gk (qm_gk g1366 (by decide) (Or.inr rfl)) (by decide) (Or.inr rfl)) (by decide) rfl rfl ?_
            refine qr_goto 29 rfl rfl ?_
            exact ih1384 _ (u1367 + 1) σ1466 α1467 (by omega) (qm_gk (qm_gk (qm_gk g1365 (by decide) (Or.inl (by decide))) (by decide) (Or.inl (by decide))) (by decide) (Or.inl (by decide))) (qm_ge _ _ _) (by omega) hI1468 hF1470 ((hG1469.1 17 6 (by decide)).trans ((hk1372).trans rfl)) ((hG1469.1 27 6 (by decide)).trans ((hk1373).trans rfl)) ((hG1469.1 27 7 (by decide)).trans ((hk1374).trans rfl)) ((hG1469.1 34 7 (by decide)).trans ((hk1375).trans rfl)) ((hG1469.1 58 11 (by decide)).trans ((hk1376).trans rfl)) ((hG1469.1 58 12 (by decide)).trans ((hk1377).trans rfl)) ⟨_, hx1464, qtell_go (by omega) (qnext_0 hq1415 (by omega) hq1454) (by omega) ht1387⟩ (by have hl := hx1464.1.1; have hl0 := ht1455.1.1; have hl2 : (s1385.1 ++ [v1445]).length = s1385.1.length + 1 := List.length_append; have hl3 : ((s1385.1 ++ [v1445]).length : Int) = σ1466 70 2 := hl; have hb := hx1380; omega) hc1471 hx1465
          · skip
            refine qr_goto 88 rfl rfl ?_
            refine qr_aload_n 89 rfl (qm_gk (qm_gk g1365 (by decide) (Or.inl (by decide))) (by decide) (Or.inl (by decide))) rfl ?_
            refine qr_get 92 rfl rfl rfl (by decide) rfl ?_
            refine qr_lconst 93 rfl rfl ?_
            refine qy_vl 0 rfl ?_
            refine qr_put 96 rfl (by decide) rfl (Nat.le_of_ble_eq_true rfl) (Nat.le_of_ble_eq_true rfl) (Or.inl rfl) (qr_fitL rfl _) rfl ?_
            refine qy_wS (qw_s σ1368 58 10 0) rfl (fun σ1472 e1473 => ?_)
            have hI1474 : qI σ1472 α1450 κ ρ := by rw [e1473]; exact qI_s hI1451 58 10 rfl (show (-9223372036854775808) ≤ 0 ∧ 0 ≤ 9223372036854775807 by omega)
            have hF1475 : qFr [(58, 10), (70, 2), (70, 3), (70, 5), (70, 6)] [53, 57, 59, 60, 61, 62, 63, 71, 72, 85] σ α σ1472 α1450 := by rw [e1473]; exact qFr_s hF1453 58 10 _ (by decide)
            have hk1476 : σ1472 70 2 = σ1368 70 2 := (congrFun (congrFun e1473 70) 2)
            have hk1477 : σ1472 70 3 = σ1368 70 3 := (congrFun (congrFun e1473 70) 3)
            have hk1478 : σ1472 70 5 = σ1368 70 5 := (congrFun (congrFun e1473 70) 5)
            refine qr_retV rfl rfl (by decide) (by decide) ?_
            exact ⟨_, _, rfl, hI1474, hF1475, (by have hw : σ1472 58 10 = 0 := (congrFun (congrFun e1473 58) 10).trans rfl; omega), rfl, (by rw [← (qtell_stop (by omega) (qnext_0 hq1415 (by omega) hq1454) (by omega) ht1387)]; exact qTd_of (hk1476) (hk1477) (hk1478) ht1455), hx1448, hx1449⟩
  exact hL1383 ((31 - 1 + 1 : Int)).toNat _ 1 σ29 α30 (by omega) rfl rfl (by decide) hI31 hF33 ((hG32.1 17 6 (by decide)).trans ((congrFun (congrFun e14 17) 6).trans ((congrFun (congrFun e10 17) 6).trans ((congrFun (congrFun e6 17) 6).trans ((congrFun (congrFun e2 17) 6).trans rfl))))) ((hG32.1 27 6 (by decide)).trans ((congrFun (congrFun e14 27) 6).trans ((congrFun (congrFun e10 27) 6).trans ((congrFun (congrFun e6 27) 6).trans ((congrFun (congrFun e2 27) 6).trans rfl))))) ((hG32.1 27 7 (by decide)).trans ((congrFun (congrFun e14 27) 7).trans ((congrFun (congrFun e10 27) 7).trans ((congrFun (congrFun e6 27) 7).trans ((congrFun (congrFun e2 27) 7).trans rfl))))) ((hG32.1 34 7 (by decide)).trans ((congrFun (congrFun e14 34) 7).trans ((congrFun (congrFun e10 34) 7).trans ((congrFun (congrFun e6 34) 7).trans ((congrFun (congrFun e2 34) 7).trans rfl))))) ((hG32.1 58 11 (by decide)).trans ((congrFun (congrFun e14 58) 11).trans ((congrFun (congrFun e10 58) 11).trans ((congrFun (congrFun e6 58) 11).trans ((congrFun (congrFun e2 58) 11).trans rfl))))) ((hG32.1 58 12 (by decide)).trans ((congrFun (congrFun e14 58) 12).trans ((congrFun (congrFun e10 58) 12).trans ((congrFun (congrFun e6 58) 12).trans ((congrFun (congrFun e2 58) 12).trans rfl))))) ⟨_, hx27, rfl⟩ (by have hl := hx27.1.1; have hl2 : (([] : List Int) ++ [100 * x1 + x2]).length = 1 := rfl; have hl3 : ((([] : List Int) ++ [100 * x1 + x2]).length : Int) = σ29 70 2 := hl; omega) hc34 hx28

set_option maxHeartbeats 4000000 in
set_option maxRecDepth 20000 in
/-- OneRoof$Telling.tell -/
theorem sf_134_73x {L : Nat} {xs : Nat → Int} {vb : Bool} {d : Nat} {σ α : Nat → Nat → Int} {κ : Nat → Option Nat} {ρ : Nat} {x1 : Int} {x2 : Int} {x3 : Int} {f0 f1 : (Nat → Int) → Int} (hI : qI σ α κ ρ) (r1 : 0 ≤ x1 ∧ x1 ≤ 31) (r2 : 0 ≤ x2 ∧ x2 ≤ 31) (r3 : (-9223372036854775808) ≤ x3 ∧ x3 ≤ 9223372036854775807) (p0 : ¬ x1 = x2) (p1 : qPW σ α κ (0 : Int).toNat f0) (p2 : qPW σ α κ (1 : Int).toNat f1) (p3 : qCaN (α 60) (α 61) (σ 58 12) (fun p q => qnF (qTb (α 24)) (α 28) (α 29) (α 31) (α 30) (α 33) (σ 27 6) (σ 27 7) p q (σ 58 11))) (p4 : qCaN (α 62) (α 63) (σ 58 12) (fun p q => qbs (qhF (α 35) (α 36) (α 37) (α 40) (qcv (α 41)) (qlw (α 22)) p q (σ 58 11)) (σ 34 7 : Int).toNat)) (p5 : qZp σ α) (p6 : σ 58 10 = 0) : qm_T (qe L xs vb) (d + 6) 134 [.ref 73, .int (qz x1), .int (qz x2), .long (ql x3)] (qw σ α κ ρ) (fun r w' => ∃ σ' α', w' = qw σ' α' κ ρ ∧ qI σ' α' κ ρ ∧ qFr [(58, 10), (73, 2), (73, 3), (73, 5), (73, 6)] [53, 57, 59, 60, 61, 62, 63, 74, 75, 85] σ α σ' α' ∧ σ' 58 10 = 0 ∧ r = none ∧ qTd σ' α' 73 (qtell (qHc σ α) (qBc σ α) (σ 34 7 : Int).toNat (qWc σ α f0 f1) (σ 17 6) 30 (qland (qHc σ α) (qBc σ α) (σ 34 7 : Int).toNat ([], x3, 0, []) (100 * x1 + x2))) ∧ qCaN (α' 60) (α' 61) (σ 58 12) (fun p q => qnF (qTb (α 24)) (α 28) (α 29) (α 31) (α 30) (α 33) (σ 27 6) (σ 27 7) p q (σ 58 11)) ∧ qCaN (α' 62) (α' 63) (σ 58 12) (fun p q => qbs (qhF (α 35) (α 36) (α 37) (α 40) (qcv (α 41)) (qlw (α 22)) p q (σ 58 11)) (σ 34 7 : Int).toNat)) := by
  refine qr_start (d := d + 5) qv_e134 (Nat.le_of_ble_eq_true rfl) ?_
  show qr_W (qe L xs vb) (d + 5) qx_e134 _ (0, [(0, .ref 73), (1, .int (qz x1)), (2, .int (qz x2)), (3, .long (ql x3))], [], _, 0, 0)
  have hF0 := qFr_rf [(58, 10), (73, 2), (73, 3), (73, 5), (73, 6)] [53, 57, 59, 60, 61, 62, 63, 74, 75, 85] σ α
  have hz58_12 : (-2147483648) ≤ σ 58 12 ∧ σ 58 12 ≤ 2147483647 := hI.1 58 12
  have hz27_6 : (-9223372036854775808) ≤ σ 27 6 ∧ σ 27 6 ≤ 9223372036854775807 := hI.1 27 6
  have hz27_7 : 0 ≤ σ 27 7 ∧ σ 27 7 ≤ 40 := hI.1 27 7
  have hz58_11 : (-2147483648) ≤ σ 58 11 ∧ σ 58 11 ≤ 2147483647 := hI.1 58 11
  have hz34_7 : 0 ≤ σ 34 7 ∧ σ 34 7 ≤ 60 := hI.1 34 7
  have hz58_10 : (-9223372036854775808) ≤ σ 58 10 ∧ σ 58 10 ≤ 9223372036854775807 := hI.1 58 10
  have hz73_2 : 0 ≤ σ 73 2 ∧ σ 73 2 ≤ 31 := hI.1 73 2
  have hz73_3 : (-9223372036854775808) ≤ σ 73 3 ∧ σ 73 3 ≤ 9223372036854775807 := hI.1 73 3
  have hz73_5 : 0 ≤ σ 73 5 ∧ σ 73 5 ≤ 60 := hI.1 73 5
  have hz73_6 : (-9223372036854775808) ≤ σ 73 6 ∧ σ 73 6 ≤ 9223372036854775807 := hI.1 73 6
  have hz17_6 : 0 ≤ σ 17 6 ∧ σ 17 6 ≤ 32 := hI.1 17 6
  refine qr_aload_n 1 rfl rfl rfl ?_
  refine qr_lload_n 2 rfl rfl rfl ?_
  refine qr_put 5 rfl (by decide) rfl (Nat.le_of_ble_eq_true rfl) (Nat.le_of_ble_eq_true rfl) (Or.inl rfl) (qr_fitL rfl _) rfl ?_
  refine qy_wS (qw_s σ 73 3 x3) rfl (fun σ1 e2 => ?_)
  have hI3 : qI σ1 α κ ρ := by rw [e2]; exact qI_s hI 73 3 rfl (show (-9223372036854775808) ≤ x3 ∧ x3 ≤ 9223372036854775807 by omega)
  have hF4 : qFr [(58, 10), (73, 2), (73, 3), (73, 5), (73, 6)] [53, 57, 59, 60, 61, 62, 63, 74, 75, 85] σ α σ1 α := by rw [e2]; exact qFr_s hF0 73 3 _ (by decide)
  refine qr_aload_n 6 rfl rfl rfl ?_
  refine qr_iconst 7 rfl rfl ?_
  refine qr_put 10 rfl (by decide) rfl (Nat.le_of_ble_eq_true rfl) (Nat.le_of_ble_eq_true rfl) (Or.inl rfl) (qr_fitI rfl _) rfl ?_
  refine qy_wS (qw_s σ1 73 2 0) rfl (fun σ5 e6 => ?_)
  have hI7 : qI σ5 α κ ρ := by rw [e6]; exact qI_s hI3 73 2 rfl (show 0 ≤ 0 ∧ 0 ≤ 31 by omega)
  have hF8 : qFr [(58, 10), (73, 2), (73, 3), (73, 5), (73, 6)] [53, 57, 59, 60, 61, 62, 63, 74, 75, 85] σ α σ5 α := by rw [e6]; exact qFr_s hF4 73 2 _ (by decide)
  refine qr_aload_n 11 rfl rfl rfl ?_
  refine qr_iconst 12 rfl rfl ?_
  refine qr_put 15 rfl (by decide) rfl (Nat.le_of_ble_eq_true rfl) (Nat.le_of_ble_eq_true rfl) (Or.inl rfl) (qr_fitI rfl _) rfl ?_
  refine qy_wS (qw_s σ5 73 5 0) rfl (fun σ9 e10 => ?_)
  have hI11 : qI σ9 α κ ρ := by rw [e10]; exact qI_s hI7 73 5 rfl (show 0 ≤ 0 ∧ 0 ≤ 60 by omega)
  have hF12 : qFr [(58, 10), (73, 2), (73, 3), (73, 5), (73, 6)] [53, 57, 59, 60, 61, 62, 63, 74, 75, 85] σ α σ9 α := by rw [e10]; exact qFr_s hF8 73 5 _ (by decide)
  refine qr_aload_n 16 rfl rfl rfl ?_
  refine qr_lconst 17 rfl rfl ?_
  refine qy_vl 0 rfl ?_
  refine qr_put 20 rfl (by decide) rfl (Nat.le_of_ble_eq_true rfl) (Nat.le_of_ble_eq_true rfl) (Or.inl rfl) (qr_fitL rfl _) rfl ?_
  refine qy_wS (qw_s σ9 73 6 0) rfl (fun σ13 e14 => ?_)
  have hI15 : qI σ13 α κ ρ := by rw [e14]; exact qI_s hI11 73 6 rfl (show (-9223372036854775808) ≤ 0 ∧ 0 ≤ 9223372036854775807 by omega)
  have hF16 : qFr [(58, 10), (73, 2), (73, 3), (73, 5), (73, 6)] [53, 57, 59, 60, 61, 62, 63, 74, 75, 85] σ α σ13 α := by rw [e14]; exact qFr_s hF12 73 6 _ (by decide)
  refine qr_aload_n 21 rfl rfl rfl ?_
  refine qr_iload_n 22 rfl rfl rfl ?_
  refine qr_iload_n 23 rfl rfl rfl ?_
  have hT17 : qTl σ13 α 73 ([], x3, 0, []) := qTl_0 ((congrFun (congrFun e14 73) 2).trans ((congrFun (congrFun e10 73) 2).trans ((congrFun (congrFun e6 73) 2).trans rfl))) ((congrFun (congrFun e14 73) 3).trans ((congrFun (congrFun e10 73) 3).trans ((congrFun (congrFun e6 73) 3).trans ((congrFun (congrFun e2 73) 3).trans rfl)))) (((congrFun (congrFun e14 58) 10).trans ((congrFun (congrFun e10 58) 10).trans ((congrFun (congrFun e6 58) 10).trans ((congrFun (congrFun e2 58) 10).trans rfl)))).trans p6) ((congrFun (congrFun e14 73) 5).trans ((congrFun (congrFun e10 73) 5).trans rfl))
  have hb18 : σ13 73 2 ≤ 30 := by have hw : σ13 73 2 = 0 := (congrFun (congrFun e14 73) 2).trans ((congrFun (congrFun e10 73) 2).trans ((congrFun (congrFun e6 73) 2).trans rfl)); omega
  have hs19 : 0 ≤ σ13 34 7 ∧ σ13 34 7 ≤ 60 := hI15.1 34 7
  have hs20 : σ13 34 7 = (σ 34 7) := (congrFun (congrFun e14 34) 7).trans ((congrFun (congrFun e10 34) 7).trans ((congrFun (congrFun e6 34) 7).trans ((congrFun (congrFun e2 34) 7).trans rfl)))
  have hs21 : (-2147483648) ≤ σ13 58 11 ∧ σ13 58 11 ≤ 2147483647 := hI15.1 58 11
  have hs22 : σ13 58 11 = (σ 58 11) := (congrFun (congrFun e14 58) 11).trans ((congrFun (congrFun e10 58) 11).trans ((congrFun (congrFun e6 58) 11).trans ((congrFun (congrFun e2 58) 11).trans rfl)))
  have hs23 : (-2147483648) ≤ σ13 58 12 ∧ σ13 58 12 ≤ 2147483647 := hI15.1 58 12
  have hs24 : σ13 58 12 = (σ 58 12) := (congrFun (congrFun e14 58) 12).trans ((congrFun (congrFun e10 58) 12).trans ((congrFun (congrFun e6 58) 12).trans ((congrFun (congrFun e2 58) 12).trans rfl)))
  have hs25 : 0 ≤ σ13 73 2 ∧ σ13 73 2 ≤ 31 := hI15.1 73 2
  have hs26 : σ13 73 2 = 0 := (congrFun (congrFun e14 73) 2).trans ((congrFun (congrFun e10 73) 2).trans ((congrFun (congrFun e6 73) 2).trans rfl))
  refine qr_callN 26 rfl rfl rfl (sf_135_73x (d := d + 1) hI15 r1 r2 (by omega) hT17 (by omega) (by rw [hF16.1 58 11 (by decide), hF16.1 58 12 (by decide), hF16.1 34 7 (by decide)]; exact p4) (qZp_fr hF16 (by decide) (by decide) p5)) ?_
  rintro _ _ ⟨σ29, α30, rfl, hI31, hG32, rfl, hx27, hx28⟩
  have hF33 : qFr [(58, 10), (73, 2), (73, 3), (73, 5), (73, 6)] [53, 57, 59, 60, 61, 62, 63, 74, 75, 85] σ α σ29 α30 := qFr_t hF16 hG32 (by decide) (by decide)
  rw [hF16.1 34 7 (by decide)] at hx27
  rw [hF16.1 34 7 (by decide), hF16.1 58 11 (by decide), hF16.1 58 12 (by decide)] at hx28
  show qr_W (qe L xs vb) (d + 5) qx_e134 _ (26, _, [], qw σ29 α30 κ ρ, 0, 0)
  rw [qHc_fr hF16 (by decide) (by decide), qBc_fr hF16 (by decide)] at hx27
  have hc34 := p3
  rw [← hG32.2 60 (by decide), ← hG32.2 61 (by decide)] at hc34
  refine qr_iconst 27 rfl rfl ?_
  refine qr_istore _ 29 rfl (by decide) rfl rfl ?_
  have hL1383 : ∀ (n : Nat) (ls : qm_L) (u1367 : Int) (σ1368 α1369 : Nat → Nat → Int), 31 - u1367 < (n : Int) → qm_get ls 0 = some (.ref 73) → qm_get ls 5 = some (.int (qz u1367)) → (1 ≤ u1367 ∧ u1367 ≤ 31) → qI σ1368 α1369 κ ρ → qFr [(58, 10), (73, 2), (73, 3), (73, 5), (73, 6)] [53, 57, 59, 60, 61, 62, 63, 74, 75, 85] σ α σ1368 α1369 → σ1368 17 6 = (σ 17 6) → σ1368 27 6 = (σ 27 6) → σ1368 27 7 = (σ 27 7) → σ1368 34 7 = (σ 34 7) → σ1368 58 11 = (σ 58 11) → σ1368 58 12 = (σ 58 12) → (∃ s : qTS, qTl σ1368 α1369 73 s ∧ qtell (qHc σ α) (qBc σ α) (σ 34 7 : Int).toNat (qWc σ α f0 f1) (σ 17 6) (31 - u1367 : Int).toNat s = (qtell (qHc σ α) (qBc σ α) (σ 34 7 : Int).toNat (qWc σ α f0 f1) (σ 17 6) 30 (qland (qHc σ α) (qBc σ α) (σ 34 7 : Int).toNat ([], x3, 0, []) (100 * x1 + x2)))) → σ1368 73 2 = u1367 → qCaN (α1369 60) (α1369 61) (σ 58 12) (fun p q => qnF (qTb (α 24)) (α 28) (α 29) (α 31) (α 30) (α 33) (σ 27 6) (σ 27 7) p q (σ 58 11)) → qCaN (α1369 62) (α1369 63) (σ 58 12) (fun p q => qbs (qhF (α 35) (α 36) (α 37) (α 40) (qcv (α 41)) (qlw (α 22)) p q (σ 58 11)) (σ 34 7 : Int).toNat) → qr_W (qe L xs vb) (d + 5) qx_e134 (fun r w' => ∃ σ' α', w' = qw σ' α' κ ρ ∧ qI σ' α' κ ρ ∧ qFr [(58, 10), (73, 2), (73, 3), (73, 5), (73, 6)] [53, 57, 59, 60, 61, 62, 63, 74, 75, 85] σ α σ' α' ∧ σ' 58 10 = 0 ∧ r = none ∧ qTd σ' α' 73 (qtell (qHc σ α) (qBc σ α) (σ 34 7 : Int).toNat (qWc σ α f0 f1) (σ 17 6) 30 (qland (qHc σ α) (qBc σ α) (σ 34 7 : Int).toNat ([], x3, 0, []) (100 * x1 + x2))) ∧ qCaN (α' 60) (α' 61) (σ 58 12) (fun p q => qnF (qTb (α 24)) (α 28) (α 29) (α 31) (α 30) (α 33) (σ 27 6) (σ 27 7) p q (σ 58 11)) ∧ qCaN (α' 62) (α' 63) (σ 58 12) (fun p q => qbs (qhF (α 35) (α 36) (α 37) (α 40) (qcv (α 41)) (qlw (α 22)) p q (σ 58 11)) (σ 34 7 : Int).toNat)) (29, ls, [], qw σ1368 α1369 κ ρ, 0, 0) := by
    intro n
    induction n with
    | zero => intro ls u1367 σ1368 α1369 hm g1365 g1366 hf1378 hI1370 hF1371 hk1372 hk1373 hk1374 hk1375 hk1376 hk1377 hx1379 hx1380 hx1381 hx1382; exact False.elim (by omega)
    | succ n ih1384 =>
      intro ls u1367 σ1368 α1369 hm g1365 g1366 hf1378 hI1370 hF1371 hk1372 hk1373 hk1374 hk1375 hk1376 hk1377 hx1379 hx1380 hx1381 hx1382
      obtain ⟨s1385, ht1386, ht1387⟩ := hx1379
      refine qr_iload 31 rfl g1366 rfl ?_
      refine qr_bipush 33 rfl (by decide) rfl ?_
      refine qr_icmp_ge 88 36 rfl rfl rfl (qrg hf1378 (by decide) (by decide)) (by decide) (fun h1388 => ?_) (fun h1388 => ?_)
      · skip
        refine qr_aload_n 89 rfl g1365 rfl ?_
        refine qr_get 92 rfl rfl rfl (by decide) rfl ?_
        refine qr_lconst 93 rfl rfl ?_
        refine qy_vl 0 rfl ?_
        refine qr_put 96 rfl (by decide) rfl (Nat.le_of_ble_eq_true rfl) (Nat.le_of_ble_eq_true rfl) (Or.inl rfl) (qr_fitL rfl _) rfl ?_
        refine qy_wS (qw_s σ1368 58 10 0) rfl (fun σ1389 e1390 => ?_)
        have hI1391 : qI σ1389 α1369 κ ρ := by rw [e1390]; exact qI_s hI1370 58 10 rfl (show (-9223372036854775808) ≤ 0 ∧ 0 ≤ 9223372036854775807 by omega)
        have hF1392 : qFr [(58, 10), (73, 2), (73, 3), (73, 5), (73, 6)] [53, 57, 59, 60, 61, 62, 63, 74, 75, 85] σ α σ1389 α1369 := by rw [e1390]; exact qFr_s hF1371 58 10 _ (by decide)
        have hk1393 : σ1389 73 2 = σ1368 73 2 := (congrFun (congrFun e1390 73) 2)
        have hk1394 : σ1389 73 3 = σ1368 73 3 := (congrFun (congrFun e1390 73) 3)
        have hk1395 : σ1389 73 5 = σ1368 73 5 := (congrFun (congrFun e1390 73) 5)
        refine qr_retV rfl rfl (by decide) (by decide) ?_
        exact ⟨_, _, rfl, hI1391, hF1392, (by have hw : σ1389 58 10 = 0 := (congrFun (congrFun e1390 58) 10).trans rfl; omega), rfl, (by rw [← (qtell_end (by omega) ht1387)]; exact qTd_of (hk1393) (hk1394) (hk1395) ht1386), hx1381, hx1382⟩
      · skip
        refine qr_aload_n 37 rfl g1365 rfl ?_
        have hs1396 : (-9223372036854775808) ≤ σ1368 27 6 ∧ σ1368 27 6 ≤ 9223372036854775807 := hI1370.1 27 6
        have hs1397 : σ1368 27 6 = (σ 27 6) := (hk1373).trans rfl
        have hs1398 : 0 ≤ σ1368 27 7 ∧ σ1368 27 7 ≤ 40 := hI1370.1 27 7
        have hs1399 : σ1368 27 7 = (σ 27 7) := (hk1374).trans rfl
        have hs1400 : 0 ≤ σ1368 34 7 ∧ σ1368 34 7 ≤ 60 := hI1370.1 34 7
        have hs1401 : σ1368 34 7 = (σ 34 7) := (hk1375).trans rfl
        have hs1402 : (-2147483648) ≤ σ1368 58 11 ∧ σ1368 58 11 ≤ 2147483647 := hI1370.1 58 11
        have hs1403 : σ1368 58 11 = (σ 58 11) := (hk1376).trans rfl
        have hs1404 : (-2147483648) ≤ σ1368 58 12 ∧ σ1368 58 12 ≤ 2147483647 := hI1370.1 58 12
        have hs1405 : σ1368 58 12 = (σ 58 12) := (hk1377).trans rfl
        refine qr_callN 40 rfl rfl rfl (sf_137_73x (d := d + 0) hI1370 (qPW_fr hF1371 (by decide) (by decide) p2) (by rw [hF1371.1 58 11 (by decide), hF1371.1 58 12 (by decide), hF1371.1 27 6 (by decide), hF1371.1 27 7 (by decide), hF1371.2 24 (by decide), hF1371.2 28 (by decide), hF1371.2 29 (by decide), hF1371.2 30 (by decide), hF1371.2 31 (by decide), hF1371.2 33 (by decide)]; exact hx1381) (by rw [hF1371.1 58 11 (by decide), hF1371.1 58 12 (by decide), hF1371.1 34 7 (by decide), hF1371.2 22 (by decide), hF1371.2 35 (by decide), hF1371.2 36 (by decide), hF1371.2 37 (by decide), hF1371.2 40 (by decide), hF1371.2 41 (by decide)]; exact hx1382) (qZp_fr hF1371 (by decide) (by decide) p5)) ?_
        rintro _ _ ⟨α1411, rfl, hI1412, hG1413, v1406, rfl, hv1406, hp1407, hx1408, hx1409, hx1410⟩
        have hF1414 : qFr [(58, 10), (73, 2), (73, 3), (73, 5), (73, 6)] [53, 57, 59, 60, 61, 62, 63, 74, 75, 85] σ α σ1368 α1411 := qFr_t hF1371 hG1413 (by decide) (by decide)
        rw [hF1371.1 17 6 (by decide)] at hx1408
        rw [hF1371.2 24 (by decide), hF1371.2 28 (by decide), hF1371.2 29 (by decide), hF1371.2 30 (by decide), hF1371.2 31 (by decide), hF1371.2 33 (by decide), hF1371.1 27 6 (by decide), hF1371.1 27 7 (by decide), hF1371.1 58 11 (by decide), hF1371.1 58 12 (by decide)] at hx1409
        rw [hF1371.2 22 (by decide), hF1371.2 35 (by decide), hF1371.2 36 (by decide), hF1371.2 37 (by decide), hF1371.2 40 (by decide), hF1371.2 41 (by decide), hF1371.1 34 7 (by decide), hF1371.1 58 11 (by decide), hF1371.1 58 12 (by decide)] at hx1410
        show qr_W (qe L xs vb) (d + 5) qx_e134 _ (40, _, [.int (qz v1406)], qw σ1368 α1411 κ ρ, 0, 0)
        have hq1415 := qtl_1 (σ := σ) (α := α) (f0 := f0) (f1 := f1) (r := 73) (qNVc_fr hF1371 (by decide) (by decide)) ht1386 (by omega) hx1408
        have ht1416 := qTl_a (r := 73) (hG1413.2 74 (by decide)) (hG1413.2 75 (by decide)) ht1386
        refine qr_istore _ 42 rfl (by decide) rfl rfl ?_
        refine qr_iload 44 rfl (qm_ge _ _ _) rfl ?_
        refine qr_if_ge 60 47 rfl rfl rfl (qrg hv1406 (by decide) (by decide)) (fun h1417 => ?_) (fun h1417 => ?_)
        · skip
          refine qr_iload 62 rfl (qm_ge _ _ _) rfl ?_
          refine qr_if_ge 68 65 rfl rfl rfl (qrg hv1406 (by decide) (by decide)) (fun h1418 => ?_) (fun h => False.elim (by omega))
          refine qr_aload_n 69 rfl (qm_gk g1365 (by decide) (Or.inl (by decide))) rfl ?_
          refine qr_iload 71 rfl (qm_ge _ _ _) rfl ?_
          refine qr_bipush 73 rfl (by decide) rfl ?_
          refine qr_idiv 74 rfl (by omega) (by decide) rfl ?_
          refine qr_iload 76 rfl (qm_ge _ _ _) rfl ?_
          refine qr_bipush 78 rfl (by decide) rfl ?_
          refine qr_irem 79 rfl (by omega) (by decide) rfl ?_
          have hs1419 : 0 ≤ σ1368 34 7 ∧ σ1368 34 7 ≤ 60 := hI1412.1 34 7
          have hs1420 : σ1368 34 7 = (σ 34 7) := (hk1375).trans rfl
          have hs1421 : (-2147483648) ≤ σ1368 58 11 ∧ σ1368 58 11 ≤ 2147483647 := hI1412.1 58 11
          have hs1422 : σ1368 58 11 = (σ 58 11) := (hk1376).trans rfl
          have hs1423 : (-2147483648) ≤ σ1368 58 12 ∧ σ1368 58 12 ≤ 2147483647 := hI1412.1 58 12
          have hs1424 : σ1368 58 12 = (σ 58 12) := (hk1377).trans rfl
          have hs1425 : 0 ≤ σ1368 73 2 ∧ σ1368 73 2 ≤ 31 := hI1412.1 73 2
          refine qr_callN 82 rfl rfl rfl (sf_135_73x (d := d + 1) hI1412 (by omega) (by omega) (by omega) ht1416 (by omega) (by rw [hF1414.1 58 11 (by decide), hF1414.1 58 12 (by decide), hF1414.1 34 7 (by decide), hF1414.2 22 (by decide), hF1414.2 35 (by decide), hF1414.2 36 (by decide), hF1414.2 37 (by decide), hF1414.2 40 (by decide), hF1414.2 41 (by decide)]; exact hx1410) (qZp_fr hF1414 (by decide) (by decide) p5)) ?_
          rintro _ _ ⟨σ1428, α1429, rfl, hI1430, hG1431, rfl, hx1426, hx1427⟩
          have hF1432 : qFr [(58, 10), (73, 2), (73, 3), (73, 5), (73, 6)] [53, 57, 59, 60, 61, 62, 63, 74, 75, 85] σ α σ1428 α1429 := qFr_t hF1414 hG1431 (by decide) (by decide)
          rw [hF1414.1 34 7 (by decide)] at hx1426
          rw [hF1414.2 22 (by decide), hF1414.2 35 (by decide), hF1414.2 36 (by decide), hF1414.2 37 (by decide), hF1414.2 40 (by decide), hF1414.2 41 (by decide), hF1414.1 34 7 (by decide), hF1414.1 58 11 (by decide), hF1414.1 58 12 (by decide)] at hx1427
          show qr_W (qe L xs vb) (d + 5) qx_e134 _ (82, _, [], qw σ1428 α1429 κ ρ, 0, 0)
          rw [qHc_fr hF1414 (by decide) (by decide), qBc_fr hF1414 (by decide), show 100 * (v1406 / 100) + v1406 % 100 = v1406 by omega] at hx1426
          have hc1433 := hx1409
          rw [← hG1431.2 60 (by decide), ← hG1431.2 61 (by decide)] at hc1433
          refine qr_iinc _ 85 rfl (qm_gk g1366 (by decide) (Or.inr rfl)) (by decide) rfl rfl ?_
          refine qr_goto 29 rfl rfl ?_
          exact ih1384 _ (u1367 + 1) σ1428 α1429 (by omega) (qm_gk (qm_gk g1365 (by decide) (Or.inl (by decide))) (by decide) (Or.inl (by decide))) (qm_ge _ _ _) (by omega) hI1430 hF1432 ((hG1431.1 17 6 (by decide)).trans ((hk1372).trans rfl)) ((hG1431.1 27 6 (by decide)).trans ((hk1373).trans rfl)) ((hG1431.1 27 7 (by decide)).trans ((hk1374).trans rfl)) ((hG1431.1 34 7 (by decide)).trans ((hk1375).trans rfl)) ((hG1431.1 58 11 (by decide)).trans ((hk1376).trans rfl)) ((hG1431.1 58 12 (by decide)).trans ((hk1377).trans rfl)) ⟨_, hx1426, qtell_go (by omega) (qnext_1 hq1415 (by omega)) (by omega) ht1387⟩ (by have hl := hx1426.1.1; have hl0 := ht1416.1.1; have hl2 : (s1385.1 ++ [v1406]).length = s1385.1.length + 1 := List.length_append; have hl3 : ((s1385.1 ++ [v1406]).length : Int) = σ1428 73 2 := hl; have hb := hx1380; omega) hc1433 hx1427
        · skip
          refine qr_aload_n 48 rfl (qm_gk g1365 (by decide) (Or.inl (by decide))) rfl ?_
          refine qr_get 51 rfl rfl rfl (by decide) rfl ?_
          refine qr_aload_n 52 rfl (qm_gk g1365 (by decide) (Or.inl (by decide))) rfl ?_
          refine qr_get 55 rfl rfl rfl (by decide) rfl ?_
          have hs1434 : (-9223372036854775808) ≤ σ1368 73 3 ∧ σ1368 73 3 ≤ 9223372036854775807 := hI1412.1 73 3
          have hs1435 : (-9223372036854775808) ≤ σ1368 27 6 ∧ σ1368 27 6 ≤ 9223372036854775807 := hI1412.1 27 6
          have hs1436 : σ1368 27 6 = (σ 27 6) := (hk1373).trans rfl
          have hs1437 : 0 ≤ σ1368 27 7 ∧ σ1368 27 7 ≤ 40 := hI1412.1 27 7
          have hs1438 : σ1368 27 7 = (σ 27 7) := (hk1374).trans rfl
          have hs1439 : 0 ≤ σ1368 34 7 ∧ σ1368 34 7 ≤ 60 := hI1412.1 34 7
          have hs1440 : σ1368 34 7 = (σ 34 7) := (hk1375).trans rfl
          have hs1441 : (-2147483648) ≤ σ1368 58 11 ∧ σ1368 58 11 ≤ 2147483647 := hI1412.1 58 11
          have hs1442 : σ1368 58 11 = (σ 58 11) := (hk1376).trans rfl
          have hs1443 : (-2147483648) ≤ σ1368 58 12 ∧ σ1368 58 12 ≤ 2147483647 := hI1412.1 58 12
          have hs1444 : σ1368 58 12 = (σ 58 12) := (hk1377).trans rfl
          refine qr_callN 58 rfl rfl rfl (sf_104_58x (d := d + 0) hI1412 hs1434 (qPW_fr hF1414 (by decide) (by decide) p1) (by rw [hF1414.1 58 11 (by decide), hF1414.1 58 12 (by decide), hF1414.1 27 6 (by decide), hF1414.1 27 7 (by decide), hF1414.2 24 (by decide), hF1414.2 28 (by decide), hF1414.2 29 (by decide), hF1414.2 30 (by decide), hF1414.2 31 (by decide), hF1414.2 33 (by decide)]; exact hx1409) (by rw [hF1414.1 58 11 (by decide), hF1414.1 58 12 (by decide), hF1414.1 34 7 (by decide), hF1414.2 22 (by decide), hF1414.2 35 (by decide), hF1414.2 36 (by decide), hF1414.2 37 (by decide), hF1414.2 40 (by decide), hF1414.2 41 (by decide)]; exact hx1410) (qZp_fr hF1414 (by decide) (by decide) p5)) ?_
          rintro _ _ ⟨α1450, rfl, hI1451, hG1452, v1445, rfl, hv1445, hp1446, hx1447, hx1448, hx1449⟩
          have hF1453 : qFr [(58, 10), (73, 2), (73, 3), (73, 5), (73, 6)] [53, 57, 59, 60, 61, 62, 63, 74, 75, 85] σ α σ1368 α1450 := qFr_t hF1414 hG1452 (by decide) (by decide)
          rw [hF1414.1 17 6 (by decide)] at hx1447
          rw [hF1414.2 24 (by decide), hF1414.2 28 (by decide), hF1414.2 29 (by decide), hF1414.2 30 (by decide), hF1414.2 31 (by decide), hF1414.2 33 (by decide), hF1414.1 27 6 (by decide), hF1414.1 27 7 (by decide), hF1414.1 58 11 (by decide), hF1414.1 58 12 (by decide)] at hx1448
          rw [hF1414.2 22 (by decide), hF1414.2 35 (by decide), hF1414.2 36 (by decide), hF1414.2 37 (by decide), hF1414.2 40 (by decide), hF1414.2 41 (by decide), hF1414.1 34 7 (by decide), hF1414.1 58 11 (by decide), hF1414.1 58 12 (by decide)] at hx1449
          show qr_W (qe L xs vb) (d + 5) qx_e134 _ (58, _, [.int (qz v1445)], qw σ1368 α1450 κ ρ, 0, 0)
          have hq1454 := qtl_0 (σ := σ) (α := α) (f0 := f0) (f1 := f1) (r := 73) (qNVc_fr hF1414 (by decide) (by decide)) ht1416.2.1 ht1416.2.2.1 (by omega) hx1447
          have ht1455 := qTl_a (r := 73) (hG1452.2 74 (by decide)) (hG1452.2 75 (by decide)) ht1416
          refine qr_istore _ 60 rfl (by decide) rfl rfl ?_
          refine qr_iload 62 rfl (qm_ge _ _ _) rfl ?_
          refine qr_if_ge 68 65 rfl rfl rfl (qrg hv1445 (by decide) (by decide)) (fun h1456 => ?_) (fun h1456 => ?_)
          · skip
            refine qr_aload_n 69 rfl (qm_gk (qm_gk g1365 (by decide) (Or.inl (by decide))) (by decide) (Or.inl (by decide))) rfl ?_
            refine qr_iload 71 rfl (qm_ge _ _ _) rfl ?_
            refine qr_bipush 73 rfl (by decide) rfl ?_
            refine qr_idiv 74 rfl (by omega) (by decide) rfl ?_
            refine qr_iload 76 rfl (qm_ge _ _ _) rfl ?_
            refine qr_bipush 78 rfl (by decide) rfl ?_
            refine qr_irem 79 rfl (by omega) (by decide) rfl ?_
            have hs1457 : 0 ≤ σ1368 34 7 ∧ σ1368 34 7 ≤ 60 := hI1451.1 34 7
            have hs1458 : σ1368 34 7 = (σ 34 7) := (hk1375).trans rfl
            have hs1459 : (-2147483648) ≤ σ1368 58 11 ∧ σ1368 58 11 ≤ 2147483647 := hI1451.1 58 11
            have hs1460 : σ1368 58 11 = (σ 58 11) := (hk1376).trans rfl
            have hs1461 : (-2147483648) ≤ σ1368 58 12 ∧ σ1368 58 12 ≤ 2147483647 := hI1451.1 58 12
            have hs1462 : σ1368 58 12 = (σ 58 12) := (hk1377).trans rfl
            have hs1463 : 0 ≤ σ1368 73 2 ∧ σ1368 73 2 ≤ 31 := hI1451.1 73 2
            refine qr_callN 82 rfl rfl rfl (sf_135_73x (d := d + 1) hI1451 (by omega) (by omega) (by omega) ht1455 (by omega) (by rw [hF1453.1 58 11 (by decide), hF1453.1 58 12 (by decide), hF1453.1 34 7 (by decide), hF1453.2 22 (by decide), hF1453.2 35 (by decide), hF1453.2 36 (by decide), hF1453.2 37 (by decide), hF1453.2 40 (by decide), hF1453.2 41 (by decide)]; exact hx1449) (qZp_fr hF1453 (by decide) (by decide) p5)) ?_
            rintro _ _ ⟨σ1466, α1467, rfl, hI1468, hG1469, rfl, hx1464, hx1465⟩
            have hF1470 : qFr [(58, 10), (73, 2), (73, 3), (73, 5), (73, 6)] [53, 57, 59, 60, 61, 62, 63, 74, 75, 85] σ α σ1466 α1467 := qFr_t hF1453 hG1469 (by decide) (by decide)
            rw [hF1453.1 34 7 (by decide)] at hx1464
            rw [hF1453.2 22 (by decide), hF1453.2 35 (by decide), hF1453.2 36 (by decide), hF1453.2 37 (by decide), hF1453.2 40 (by decide), hF1453.2 41 (by decide), hF1453.1 34 7 (by decide), hF1453.1 58 11 (by decide), hF1453.1 58 12 (by decide)] at hx1465
            show qr_W (qe L xs vb) (d + 5) qx_e134 _ (82, _, [], qw σ1466 α1467 κ ρ, 0, 0)
            rw [qHc_fr hF1453 (by decide) (by decide), qBc_fr hF1453 (by decide), show 100 * (v1445 / 100) + v1445 % 100 = v1445 by omega] at hx1464
            have hc1471 := hx1448
            rw [← hG1469.2 60 (by decide), ← hG1469.2 61 (by decide)] at hc1471
            refine qr_iinc _ 85 rfl (qm_gk (qm_gk g1366 (by decide) (Or.inr rfl)) (by decide) (Or.inr rfl)) (by decide) rfl rfl ?_
            refine qr_goto 29 rfl rfl ?_
            exact ih1384 _ (u1367 + 1) σ1466 α1467 (by omega) (qm_gk (qm_gk (qm_gk g1365 (by decide) (Or.inl (by decide))) (by decide) (Or.inl (by decide))) (by decide) (Or.inl (by decide))) (qm_ge _ _ _) (by omega) hI1468 hF1470 ((hG1469.1 17 6 (by decide)).trans ((hk1372).trans rfl)) ((hG1469.1 27 6 (by decide)).trans ((hk1373).trans rfl)) ((hG1469.1 27 7 (by decide)).trans ((hk1374).trans rfl)) ((hG1469.1 34 7 (by decide)).trans ((hk1375).trans rfl)) ((hG1469.1 58 11 (by decide)).trans ((hk1376).trans rfl)) ((hG1469.1 58 12 (by decide)).trans ((hk1377).trans rfl)) ⟨_, hx1464, qtell_go (by omega) (qnext_0 hq1415 (by omega) hq1454) (by omega) ht1387⟩ (by have hl := hx1464.1.1; have hl0 := ht1455.1.1; have hl2 : (s1385.1 ++ [v1445]).length = s1385.1.length + 1 := List.length_append; have hl3 : ((s1385.1 ++ [v1445]).length : Int) = σ1466 73 2 := hl; have hb := hx1380; omega) hc1471 hx1465
          · skip
            refine qr_goto 88 rfl rfl ?_
            refine qr_aload_n 89 rfl (qm_gk (qm_gk g1365 (by decide) (Or.inl (by decide))) (by decide) (Or.inl (by decide))) rfl ?_
            refine qr_get 92 rfl rfl rfl (by decide) rfl ?_
            refine qr_lconst 93 rfl rfl ?_
            refine qy_vl 0 rfl ?_
            refine qr_put 96 rfl (by decide) rfl (Nat.le_of_ble_eq_true rfl) (Nat.le_of_ble_eq_true rfl) (Or.inl rfl) (qr_fitL rfl _) rfl ?_
            refine qy_wS (qw_s σ1368 58 10 0) rfl (fun σ1472 e1473 => ?_)
            have hI1474 : qI σ1472 α1450 κ ρ := by rw [e1473]; exact qI_s hI1451 58 10 rfl (show (-9223372036854775808) ≤ 0 ∧ 0 ≤ 9223372036854775807 by omega)
            have hF1475 : qFr [(58, 10), (73, 2), (73, 3), (73, 5), (73, 6)] [53, 57, 59, 60, 61, 62, 63, 74, 75, 85] σ α σ1472 α1450 := by rw [e1473]; exact qFr_s hF1453 58 10 _ (by decide)
            have hk1476 : σ1472 73 2 = σ1368 73 2 := (congrFun (congrFun e1473 73) 2)
            have hk1477 : σ1472 73 3 = σ1368 73 3 := (congrFun (congrFun e1473 73) 3)
            have hk1478 : σ1472 73 5 = σ1368 73 5 := (congrFun (congrFun e1473 73) 5)
            refine qr_retV rfl rfl (by decide) (by decide) ?_
            exact ⟨_, _, rfl, hI1474, hF1475, (by have hw : σ1472 58 10 = 0 := (congrFun (congrFun e1473 58) 10).trans rfl; omega), rfl, (by rw [← (qtell_stop (by omega) (qnext_0 hq1415 (by omega) hq1454) (by omega) ht1387)]; exact qTd_of (hk1476) (hk1477) (hk1478) ht1455), hx1448, hx1449⟩
  exact hL1383 ((31 - 1 + 1 : Int)).toNat _ 1 σ29 α30 (by omega) rfl rfl (by decide) hI31 hF33 ((hG32.1 17 6 (by decide)).trans ((congrFun (congrFun e14 17) 6).trans ((congrFun (congrFun e10 17) 6).trans ((congrFun (congrFun e6 17) 6).trans ((congrFun (congrFun e2 17) 6).trans rfl))))) ((hG32.1 27 6 (by decide)).trans ((congrFun (congrFun e14 27) 6).trans ((congrFun (congrFun e10 27) 6).trans ((congrFun (congrFun e6 27) 6).trans ((congrFun (congrFun e2 27) 6).trans rfl))))) ((hG32.1 27 7 (by decide)).trans ((congrFun (congrFun e14 27) 7).trans ((congrFun (congrFun e10 27) 7).trans ((congrFun (congrFun e6 27) 7).trans ((congrFun (congrFun e2 27) 7).trans rfl))))) ((hG32.1 34 7 (by decide)).trans ((congrFun (congrFun e14 34) 7).trans ((congrFun (congrFun e10 34) 7).trans ((congrFun (congrFun e6 34) 7).trans ((congrFun (congrFun e2 34) 7).trans rfl))))) ((hG32.1 58 11 (by decide)).trans ((congrFun (congrFun e14 58) 11).trans ((congrFun (congrFun e10 58) 11).trans ((congrFun (congrFun e6 58) 11).trans ((congrFun (congrFun e2 58) 11).trans rfl))))) ((hG32.1 58 12 (by decide)).trans ((congrFun (congrFun e14 58) 12).trans ((congrFun (congrFun e10 58) 12).trans ((congrFun (congrFun e6 58) 12).trans ((congrFun (congrFun e2 58) 12).trans rfl))))) ⟨_, hx27, rfl⟩ (by have hl := hx27.1.1; have hl2 : (([] : List Int) ++ [100 * x1 + x2]).length = 1 := rfl; have hl3 : ((([] : List Int) ++ [100 * x1 + x2]).length : Int) = σ29 73 2 := hl; omega) hc34 hx28
end
