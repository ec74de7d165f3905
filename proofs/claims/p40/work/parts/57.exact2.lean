section
/-! people from a row: f what stands at a place (b ahead of it), len how long the row is, i the first place; c how many came, s how many there are, L their lords, W their weights -/
def qpa (f : Nat → Int) (b j : Int) : Int := (qz (f (b + j).toNat)).toInt
def qpc (f : Nat → Int) (b len i c s : Int) : Prop := 0 ≤ i + 3 * c ∧ i + 3 * c + 2 < len ∧ s < 32 ∧ qfit s (qpa f b (i + 3 * c)) (qpa f b (i + 3 * c + 1)) (qpa f b (i + 3 * c + 2))
noncomputable def qpl (f : Nat → Int) (b len i : Int) : Nat → Int → Int → (Nat → Int) → (Nat → Int) → Int × Int × (Nat → Int) × (Nat → Int)
  | 0, c, s, L, W => (c, s, L, W)
  | n + 1, c, s, L, W => @ite _ (qpc f b len i c s) (Classical.propDecidable _) (qpl f b len i n (c + 1) (s + 1) (qzu L s.toNat (qpa f b (i + 3 * c))) (qzu W s.toNat (qpa f b (i + 3 * c + 1)))) (c, s, L, W)
theorem qpl_0 {f : Nat → Int} {b len i c s : Int} {L W : Nat → Int} {n : Nat} (hn : n = 0) : qpl f b len i n c s L W = (c, s, L, W) := by
  subst hn
  unfold qpl
  rfl
theorem qpl_stop {f : Nat → Int} {b len i c s : Int} {L W : Nat → Int} {n : Nat} (h : ¬ qpc f b len i c s) : qpl f b len i n c s L W = (c, s, L, W) := by
  cases n with
  | zero => exact qpl_0 rfl
  | succ n =>
    unfold qpl
    exact if_neg h
theorem qpl_go {f : Nat → Int} {b len i c s : Int} {L W : Nat → Int} {n m : Nat} (h : qpc f b len i c s) (hn : n = m + 1) : qpl f b len i n c s L W = qpl f b len i m (c + 1) (s + 1) (qzu L s.toNat (qpa f b (i + 3 * c))) (qzu W s.toNat (qpa f b (i + 3 * c + 1))) := by
  subst hn
  rw [qpl]
  exact if_pos h
theorem qpl_eq {f g : Nat → Int} {b len i : Int} (h : ∀ j : Int, 0 ≤ j → j < len → qpa f b j = qpa g b j) : ∀ (n : Nat) (c s : Int) (L W : Nat → Int), qpl f b len i n c s L W = qpl g b len i n c s L W := by
  intro n
  induction n with
  | zero => intro c s L W; rw [qpl_0 rfl, qpl_0 rfl]
  | succ n ih =>
    intro c s L W
    have key : 0 ≤ i + 3 * c ∧ i + 3 * c + 2 < len → qpa f b (i + 3 * c) = qpa g b (i + 3 * c) ∧ qpa f b (i + 3 * c + 1) = qpa g b (i + 3 * c + 1) ∧ qpa f b (i + 3 * c + 2) = qpa g b (i + 3 * c + 2) := fun hh => ⟨h _ (by omega) (by omega), h _ (by omega) (by omega), h _ (by omega) (by omega)⟩
    by_cases hc : qpc f b len i c s
    · obtain ⟨k1, k2, k3⟩ := key ⟨hc.1, hc.2.1⟩
      have hc2 : qpc g b len i c s := ⟨hc.1, hc.2.1, hc.2.2.1, by rw [← k1, ← k2, ← k3]; exact hc.2.2.2⟩
      rw [qpl_go hc rfl, qpl_go hc2 rfl, ih, k1, k2]
    · have hc2 : ¬ qpc g b len i c s := fun h2 => by
        obtain ⟨k1, k2, k3⟩ := key ⟨h2.1, h2.2.1⟩
        exact hc ⟨h2.1, h2.2.1, h2.2.2.1, by rw [k1, k2, k3]; exact h2.2.2.2⟩
      rw [qpl_stop hc, qpl_stop hc2]

set_option maxHeartbeats 4000000 in
set_option maxRecDepth 20000 in
/-- OneRoof.people -/
theorem sf_43_16x {L : Nat} {xs : Nat → Int} {vb : Bool} {d : Nat} {σ α : Nat → Nat → Int} {κ : Nat → Option Nat} {ρ : Nat} {x1 : Int} {x2 : Int} {x3 : Int} (hI : qI σ α κ ρ) (r1 : (-2147483648) ≤ x1 ∧ x1 ≤ 2147483647) (r2 : (-2147483648) ≤ x2 ∧ x2 ≤ 2147483647) (r3 : (-2147483648) ≤ x3 ∧ x3 ≤ 2147483647) : qm_T (qe L xs vb) (d + 3) 43 [.ref 16, .int (qz x1), .int (qz x2), .int (qz x3)] (qw σ α κ ρ) (fun r w' => ∃ σ' α', w' = qw σ' α' κ ρ ∧ qI σ' α' κ ρ ∧ qFr [(17, 6)] [18, 19, 20, 22] σ α σ' α' ∧ ∃ v : Int, r = some (.int (qz v)) ∧ ((-2147483648) ≤ v ∧ v ≤ 2147483647) ∧ (((v = -1 ∧ ¬ (0 ≤ x1 ∧ x1 ≤ 5 ∧ 1 ≤ x3 ∧ x3 ≤ 20) ∧ σ' 17 6 = σ 17 6) ∧ α' 18 = α 18 ∧ α' 19 = α 19) ∨ ((v = 0 ∧ (0 ≤ x1 ∧ x1 ≤ 5 ∧ 1 ≤ x3 ∧ x3 ≤ 20) ∧ α 45 (x1 : Int).toNat = 6 ∧ σ' 17 6 = σ 17 6) ∧ α' 18 = α 18 ∧ α' 19 = α 19) ∨ ((v = -12 ∧ (0 ≤ x1 ∧ x1 ≤ 5 ∧ 1 ≤ x3 ∧ x3 ≤ 20) ∧ ¬ α 45 (x1 : Int).toNat = 6 ∧ ¬ α 45 (x1 : Int).toNat = 0 ∧ σ' 17 6 = σ 17 6) ∧ α' 18 = α 18 ∧ α' 19 = α 19) ∨ ((((0 ≤ x1 ∧ x1 ≤ 5 ∧ 1 ≤ x3 ∧ x3 ≤ 20) ∧ α 45 (x1 : Int).toNat = 0) ∧ (v, σ' 17 6, α' 18, α' 19) = qpl (α 48) (x1 * 60) (α 46 (x1 : Int).toNat) x2 (x3 : Int).toNat 0 (σ 17 6) (α 18) (α 19))))) := by
  refine qr_start (d := d + 2) qv_e43 (Nat.le_of_ble_eq_true rfl) ?_
  show qr_W (qe L xs vb) (d + 2) qx_e43 _ (0, [(0, .ref 16), (1, .int (qz x1)), (2, .int (qz x2)), (3, .int (qz x3))], [], _, 0, 0)
  have hF0 := qFr_rf [(17, 6)] [18, 19, 20, 22] σ α
  have hz17_6 : 0 ≤ σ 17 6 ∧ σ 17 6 ≤ 32 := hI.1 17 6
  refine qr_aload_n 1 rfl rfl rfl ?_
  refine qr_get 4 rfl rfl rfl (by decide) rfl ?_
  refine qr_iload_n 5 rfl rfl rfl ?_
  refine qr_callN 8 rfl rfl rfl (sf_44_44 (d := d + 1) hI r1) ?_
  rintro _ _ ⟨rfl, v1, rfl, hv1, hp2⟩
  show qr_W (qe L xs vb) (d + 2) qx_e43 _ (8, _, [.int (qz v1)], qw σ α κ ρ, 0, 0)
  refine qr_if_eq 22 11 rfl rfl rfl (qrg hv1 (by decide) (by decide)) (fun h3 => ?_) (fun h3 => ?_)
  · skip
    refine qr_iconst 23 rfl rfl ?_
    refine qr_retI rfl rfl (by decide) (by decide) ?_
    have hw4 : σ 17 6 = (σ 17 6) := rfl
    exact ⟨_, _, rfl, hI, hF0, (-1), rfl, (by decide), (Or.inl ⟨by omega, rfl, rfl⟩)⟩
  · skip
    refine qr_iload_n 12 rfl rfl rfl ?_
    refine qr_iconst 13 rfl rfl ?_
    refine qr_icmp_lt 22 16 rfl rfl rfl r3 (by decide) (fun h5 => ?_) (fun h5 => ?_)
    · skip
      refine qr_iconst 23 rfl rfl ?_
      refine qr_retI rfl rfl (by decide) (by decide) ?_
      have hw6 : σ 17 6 = (σ 17 6) := rfl
      exact ⟨_, _, rfl, hI, hF0, (-1), rfl, (by decide), (Or.inl ⟨by omega, rfl, rfl⟩)⟩
    · skip
      refine qr_iload_n 17 rfl rfl rfl ?_
      refine qr_bipush 19 rfl (by decide) rfl ?_
      refine qr_icmp_le 24 22 rfl rfl rfl r3 (by decide) (fun h7 => ?_) (fun h7 => ?_)
      · skip
        refine qr_aload_n 25 rfl rfl rfl ?_
        refine qr_get 28 rfl rfl rfl (by decide) rfl ?_
        refine qr_iload_n 29 rfl rfl rfl ?_
        refine qr_callN 32 rfl rfl rfl (sf_45_44x (d := d + 1) hI (by omega)) ?_
        rintro _ _ ⟨rfl, v8, rfl, hv8, hp9⟩
        show qr_W (qe L xs vb) (d + 2) qx_e43 _ (32, _, [.int (qz v8)], qw σ α κ ρ, 0, 0)
        refine qr_if_eq 37 35 rfl rfl rfl (qrg hv8 (by decide) (by decide)) (fun h10 => ?_) (fun h10 => ?_)
        · skip
          refine qr_aload_n 38 rfl rfl rfl ?_
          refine qr_get 41 rfl rfl rfl (by decide) rfl ?_
          refine qr_iload_n 42 rfl rfl rfl ?_
          refine qr_iconst 43 rfl rfl ?_
          refine qr_callN 46 rfl rfl rfl (sf_46_44x (d := d + 0) hI (by omega) (by decide)) ?_
          rintro _ _ ⟨rfl, v11, rfl, hv11, hp12⟩
          show qr_W (qe L xs vb) (d + 2) qx_e43 _ (46, _, [.int (qz v11)], qw σ α κ ρ, 0, 0)
          refine qr_if_ne 52 49 rfl rfl rfl (qrg hv11 (by decide) (by decide)) (fun h13 => ?_) (fun h13 => ?_)
          · skip
            refine qr_iconst 53 rfl rfl ?_
            refine qr_istore _ 55 rfl (by decide) rfl rfl ?_
            have hL482 : ∀ (n : Nat) (ls : qm_L) (u474 : Int) (σ475 α476 : Nat → Nat → Int), 20 - u474 < (n : Int) → qm_get ls 0 = some (.ref 16) → qm_get ls 1 = some (.int (qz x1)) → qm_get ls 2 = some (.int (qz x2)) → qm_get ls 3 = some (.int (qz x3)) → qm_get ls 4 = some (.int (qz u474)) → (0 ≤ u474 ∧ u474 ≤ 20) → qI σ475 α476 κ ρ → qFr [(17, 6)] [18, 19, 20, 22] σ α σ475 α476 → qpl (α 48) (x1 * 60) (α 46 (x1 : Int).toNat) x2 (x3 - u474 : Int).toNat u474 (σ475 17 6) (α476 18) (α476 19) = qpl (α 48) (x1 * 60) (α 46 (x1 : Int).toNat) x2 (x3 : Int).toNat 0 (σ 17 6) (α 18) (α 19) → u474 ≤ x3 → qr_W (qe L xs vb) (d + 2) qx_e43 (fun r w' => ∃ σ' α', w' = qw σ' α' κ ρ ∧ qI σ' α' κ ρ ∧ qFr [(17, 6)] [18, 19, 20, 22] σ α σ' α' ∧ ∃ v : Int, r = some (.int (qz v)) ∧ ((-2147483648) ≤ v ∧ v ≤ 2147483647) ∧ (((v = -1 ∧ ¬ (0 ≤ x1 ∧ x1 ≤ 5 ∧ 1 ≤ x3 ∧ x3 ≤ 20) ∧ σ' 17 6 = σ 17 6) ∧ α' 18 = α 18 ∧ α' 19 = α 19) ∨ ((v = 0 ∧ (0 ≤ x1 ∧ x1 ≤ 5 ∧ 1 ≤ x3 ∧ x3 ≤ 20) ∧ α 45 (x1 : Int).toNat = 6 ∧ σ' 17 6 = σ 17 6) ∧ α' 18 = α 18 ∧ α' 19 = α 19) ∨ ((v = -12 ∧ (0 ≤ x1 ∧ x1 ≤ 5 ∧ 1 ≤ x3 ∧ x3 ≤ 20) ∧ ¬ α 45 (x1 : Int).toNat = 6 ∧ ¬ α 45 (x1 : Int).toNat = 0 ∧ σ' 17 6 = σ 17 6) ∧ α' 18 = α 18 ∧ α' 19 = α 19) ∨ ((((0 ≤ x1 ∧ x1 ≤ 5 ∧ 1 ≤ x3 ∧ x3 ≤ 20) ∧ α 45 (x1 : Int).toNat = 0) ∧ (v, σ' 17 6, α' 18, α' 19) = qpl (α 48) (x1 * 60) (α 46 (x1 : Int).toNat) x2 (x3 : Int).toNat 0 (σ 17 6) (α 18) (α 19))))) (55, ls, [], qw σ475 α476 κ ρ, 0, 0) := by
              intro n
              induction n with
              | zero => intro ls u474 σ475 α476 hm g469 g470 g471 g472 g473 hf479 hI477 hF478 hx480 hx481; exact False.elim (by omega)
              | succ n ih483 =>
                intro ls u474 σ475 α476 hm g469 g470 g471 g472 g473 hf479 hI477 hF478 hx480 hx481
                have hs484 : 0 ≤ σ475 17 6 ∧ σ475 17 6 ≤ 32 := hI477.1 17 6
                refine qr_iload 57 rfl g473 rfl ?_
                refine qr_iload_n 58 rfl g472 rfl ?_
                refine qr_icmp_ge 200 61 rfl rfl rfl (qrg hf479 (by decide) (by decide)) r3 (fun h485 => ?_) (fun h485 => ?_)
                · skip
                  refine qr_iload_n 201 rfl g472 rfl ?_
                  refine qr_retI rfl rfl (by decide) (by decide) ?_
                  have hw486 : σ475 17 6 = (σ475 17 6) := rfl
                  exact ⟨_, _, rfl, hI477, hF478, x3, rfl, r3, (Or.inr (Or.inr (Or.inr (⟨by omega, (congrArg (fun t : Int => (t, σ475 17 6, α476 18, α476 19)) (show x3 = u474 by omega)).trans ((qpl_0 (by omega)).symm.trans hx480)⟩))))⟩
                · skip
                  refine qr_iload_n 62 rfl g471 rfl ?_
                  refine qr_i2l 63 rfl r2 rfl ?_
                  refine qr_ldc2 3 66 rfl (by decide) rfl ?_
                  refine qr_iload 68 rfl g473 rfl ?_
                  refine qr_i2l 69 rfl (qrg hf479 (by decide) (by decide)) rfl ?_
                  refine qr_lmul 70 rfl rfl ?_
                  refine qr_ladd 71 rfl rfl ?_
                  refine qr_lstore _ 73 rfl (by decide) rfl rfl ?_
                  have hq487 : α476 46 (x1 : Int).toNat = α 46 (x1 : Int).toNat := congrFun (hF478.2 46 (by decide)) _
                  refine qr_lload 75 rfl (qm_ge2 _ _ _) rfl ?_
                  refine qr_lconst 76 rfl rfl ?_
                  refine qy_vl 0 rfl ?_
                  refine qr_lc_lt 112 80 rfl rfl rfl rfl (by omega) (by decide) (fun h488 => ?_) (fun h488 => ?_)
                  · skip
                    refine qr_iload 114 rfl (qm_gk2 g473 (by decide) (by decide) (Or.inr rfl)) rfl ?_
                    refine qr_retI rfl rfl (by decide) (by decide) ?_
                    have hw489 : σ475 17 6 = (σ475 17 6) := rfl
                    exact ⟨_, _, rfl, hI477, hF478, u474, rfl, (qrg hf479 (by decide) (by decide)), (Or.inr (Or.inr (Or.inr (⟨by omega, (qpl_stop (fun hc => by obtain ⟨h1, h2, h3, h4⟩ := hc; omega)).symm.trans hx480⟩))))⟩
                  · skip
                    refine qr_lload 82 rfl (qm_ge2 _ _ _) rfl ?_
                    refine qr_ldc2 2 85 rfl (by decide) rfl ?_
                    refine qr_ladd 86 rfl rfl ?_
                    refine qr_aload_n 87 rfl (qm_gk2 g469 (by decide) (by decide) (Or.inl (by decide))) rfl ?_
                    refine qr_get 90 rfl rfl rfl (by decide) rfl ?_
                    refine qr_get 93 rfl rfl rfl (by decide) rfl ?_
                    refine qr_iload_n 94 rfl (qm_gk2 g470 (by decide) (by decide) (Or.inl (by decide))) rfl ?_
                    refine qr_iaload 95 rfl rfl (by omega) (by decide) rfl ?_
                    refine qr_topI (fun v490 hv490 => ?_)
                    have hs491 : 0 ≤ v490 ∧ v490 ≤ 60 := by rw [hv490]; exact hI477.2.1 46 _ (show _ < 6 by omega)
                    refine qr_i2l 96 rfl (qrg hs491 (by decide) (by decide)) rfl ?_
                    refine qr_lc_ge 112 100 rfl rfl rfl rfl (by omega) (qrg hs491 (by decide) (by decide)) (fun h492 => ?_) (fun h492 => ?_)
                    · skip
                      refine qr_iload 114 rfl (qm_gk2 g473 (by decide) (by decide) (Or.inr rfl)) rfl ?_
                      refine qr_retI rfl rfl (by decide) (by decide) ?_
                      have hw493 : σ475 17 6 = (σ475 17 6) := rfl
                      exact ⟨_, _, rfl, hI477, hF478, u474, rfl, (qrg hf479 (by decide) (by decide)), (Or.inr (Or.inr (Or.inr (⟨by omega, (qpl_stop (fun hc => by obtain ⟨h1, h2, h3, h4⟩ := hc; omega)).symm.trans hx480⟩))))⟩
                    · skip
                      refine qr_aload_n 101 rfl (qm_gk2 g469 (by decide) (by decide) (Or.inl (by decide))) rfl ?_
                      refine qr_get 104 rfl rfl rfl (by decide) rfl ?_
                      refine qr_get 107 rfl rfl rfl (by decide) rfl ?_
                      refine qr_bipush 109 rfl (by decide) rfl ?_
                      refine qr_icmp_lt 115 112 rfl rfl rfl (by omega) (by decide) (fun h494 => ?_) (fun h494 => ?_)
                      · skip
                        refine qr_aload_n 116 rfl (qm_gk2 g469 (by decide) (by decide) (Or.inl (by decide))) rfl ?_
                        refine qr_get 119 rfl rfl rfl (by decide) rfl ?_
                        refine qr_iload_n 120 rfl (qm_gk2 g470 (by decide) (by decide) (Or.inl (by decide))) rfl ?_
                        refine qr_lload 122 rfl (qm_ge2 _ _ _) rfl ?_
                        refine qr_l2i 123 rfl rfl ?_
                        refine qr_callN 126 rfl rfl rfl (sf_48_44x (d := d + 1) hI477 (by omega) (by omega)) ?_
                        rintro _ _ ⟨rfl, v495, rfl, hv495, hp496⟩
                        show qr_W (qe L xs vb) (d + 2) qx_e43 _ (126, _, [.long (ql v495)], qw σ475 α476 κ ρ, 0, 0)
                        refine qr_l2i 127 rfl rfl ?_
                        refine qy_canE (fun v497 hv497 hev497 => ?_)
                        refine qr_istore _ 129 rfl (by decide) rfl rfl ?_
                        refine qr_aload_n 130 rfl (qm_gk (qm_gk2 g469 (by decide) (by decide) (Or.inl (by decide))) (by decide) (Or.inl (by decide))) rfl ?_
                        refine qr_get 133 rfl rfl rfl (by decide) rfl ?_
                        refine qr_iload_n 134 rfl (qm_gk (qm_gk2 g470 (by decide) (by decide) (Or.inl (by decide))) (by decide) (Or.inl (by decide))) rfl ?_
                        refine qr_lload 136 rfl (qm_gk (qm_ge2 _ _ _) (by decide) (Or.inl (by decide))) rfl ?_
                        refine qr_l2i 137 rfl rfl ?_
                        refine qr_iconst 138 rfl rfl ?_
                        refine qr_iadd 139 rfl rfl ?_
                        refine qr_callN 142 rfl rfl rfl (sf_48_44x (d := d + 1) hI477 (by omega) (by omega)) ?_
                        rintro _ _ ⟨rfl, v498, rfl, hv498, hp499⟩
                        show qr_W (qe L xs vb) (d + 2) qx_e43 _ (142, _, [.long (ql v498)], qw σ475 α476 κ ρ, 0, 0)
                        refine qr_l2i 143 rfl rfl ?_
                        refine qy_canE (fun v500 hv500 hev500 => ?_)
                        refine qr_istore _ 145 rfl (by decide) rfl rfl ?_
                        refine qr_aload_n 146 rfl (qm_gk (qm_gk (qm_gk2 g469 (by decide) (by decide) (Or.inl (by decide))) (by decide) (Or.inl (by decide))) (by decide) (Or.inl (by decide))) rfl ?_
                        refine qr_get 149 rfl rfl rfl (by decide) rfl ?_
                        refine qr_iload_n 150 rfl (qm_gk (qm_gk (qm_gk2 g470 (by decide) (by decide) (Or.inl (by decide))) (by decide) (Or.inl (by decide))) (by decide) (Or.inl (by decide))) rfl ?_
                        as_aux_lemma =>
                          refine qr_lload 152 rfl (qm_gk (qm_gk (qm_ge2 _ _ _) (by decide) (Or.inl (by decide))) (by decide) (Or.inl (by decide))) rfl ?_
                          refine qr_l2i 153 rfl rfl ?_
                          refine qr_iconst 154 rfl rfl ?_
                          refine qr_iadd 155 rfl rfl ?_
                          refine qr_callN 158 rfl rfl rfl (sf_48_44x (d := d + 1) hI477 (by omega) (by omega)) ?_
                          rintro _ _ ⟨rfl, v501, rfl, hv501, hp502⟩
                          show qr_W (qe L xs vb) (d + 2) qx_e43 _ (158, _, [.long (ql v501)], qw σ475 α476 κ ρ, 0, 0)
                          refine qr_l2i 159 rfl rfl ?_
                          refine qy_canE (fun v503 hv503 hev503 => ?_)
                          refine qr_istore _ 161 rfl (by decide) rfl rfl ?_
                          have e504 : v497 = qpa (α 48) (x1 * 60) (x2 + 3 * u474) := (qna_i hev497 (by omega)).trans (congrArg (fun t : Int => (qz t).toInt) (hp496.trans ((congrFun (hF478.2 48 (by decide)) _).trans (congrArg (fun j : Int => α 48 j.toNat) (by omega)))))
                          have e505 : v500 = qpa (α 48) (x1 * 60) (x2 + 3 * u474 + 1) := (qna_i hev500 (by omega)).trans (congrArg (fun t : Int => (qz t).toInt) (hp499.trans ((congrFun (hF478.2 48 (by decide)) _).trans (congrArg (fun j : Int => α 48 j.toNat) (by omega)))))
                          have e506 : v503 = qpa (α 48) (x1 * 60) (x2 + 3 * u474 + 2) := (qna_i hev503 (by omega)).trans (congrArg (fun t : Int => (qz t).toInt) (hp502.trans ((congrFun (hF478.2 48 (by decide)) _).trans (congrArg (fun j : Int => α 48 j.toNat) (by omega)))))
                          refine qr_aload_n 162 rfl (qm_gk (qm_gk (qm_gk (qm_gk2 g469 (by decide) (by decide) (Or.inl (by decide))) (by decide) (Or.inl (by decide))) (by decide) (Or.inl (by decide))) (by decide) (Or.inl (by decide))) rfl ?_
                          refine qr_get 165 rfl rfl rfl (by decide) rfl ?_
                          refine qr_iload 167 rfl (qm_gk (qm_gk (qm_ge _ _ _) (by decide) (Or.inr rfl)) (by decide) (Or.inl (by decide))) rfl ?_
                          refine qr_iload 169 rfl (qm_gk (qm_ge _ _ _) (by decide) (Or.inr rfl)) rfl ?_
                          refine qr_iload 171 rfl (qm_ge _ _ _) rfl ?_
                          refine qr_callN 174 rfl rfl rfl (sf_39_17x (d := d + 0) hI477 hv497 hv500 hv503) ?_
                          have hs509 : 0 ≤ σ475 17 6 ∧ σ475 17 6 ≤ 32 := hI477.1 17 6
                          rintro _ _ ⟨rfl, v507, rfl, hv507, hp508⟩
                          show qr_W (qe L xs vb) (d + 2) qx_e43 _ (174, _, [.int (qz v507)], qw σ475 α476 κ ρ, 0, 0)
                          refine qr_if_ne 180 177 rfl rfl rfl (qrg hv507 (by decide) (by decide)) (fun h510 => ?_) (fun h510 => ?_)
                          · skip
                            refine qr_aload_n 181 rfl (qm_gk (qm_gk (qm_gk (qm_gk2 g469 (by decide) (by decide) (Or.inl (by decide))) (by decide) (Or.inl (by decide))) (by decide) (Or.inl (by decide))) (by decide) (Or.inl (by decide))) rfl ?_
                            refine qr_get 184 rfl rfl rfl (by decide) rfl ?_
                            refine qr_iload 186 rfl (qm_gk (qm_gk (qm_ge _ _ _) (by decide) (Or.inr rfl)) (by decide) (Or.inl (by decide))) rfl ?_
                            refine qr_iload 188 rfl (qm_gk (qm_ge _ _ _) (by decide) (Or.inr rfl)) rfl ?_
                            refine qr_iload 190 rfl (qm_ge _ _ _) rfl ?_
                            have hs511 : 0 ≤ σ475 17 6 ∧ σ475 17 6 ≤ 32 := hI477.1 17 6
                            refine qr_callN 193 rfl rfl rfl (sf_42_17x (d := d + 1) hI477 (by omega) (by omega) (by omega) (by omega)) ?_
                            have hs517 : 0 ≤ σ475 17 6 ∧ σ475 17 6 ≤ 32 := hI477.1 17 6
                            rintro _ _ ⟨σ518, α519, rfl, hI520, hG521, hw516, v512, rfl, hv512, hp513, hx514, hx515⟩
                            have hF522 : qFr [(17, 6)] [18, 19, 20, 22] σ α σ518 α519 := qFr_t hF478 hG521 (by decide) (by decide)
                            have hs523 : 0 ≤ σ518 17 6 ∧ σ518 17 6 ≤ 32 := hI520.1 17 6
                            show qr_W (qe L xs vb) (d + 2) qx_e43 _ (193, _, [.int (qz v512)], qw σ518 α519 κ ρ, 0, 0)
                            refine qr_pop 194 rfl rfl rfl ?_
                            refine qr_iinc _ 197 rfl (qm_gk (qm_gk (qm_gk (qm_gk2 g473 (by decide) (by decide) (Or.inr rfl)) (by decide) (Or.inl (by decide))) (by decide) (Or.inl (by decide))) (by decide) (Or.inl (by decide))) (by decide) rfl rfl ?_
                            refine qr_goto 55 rfl rfl ?_
                            exact ih483 _ (u474 + 1) σ518 α519 (by omega) (qm_gk (qm_gk (qm_gk (qm_gk (qm_gk2 g469 (by decide) (by decide) (Or.inl (by decide))) (by decide) (Or.inl (by decide))) (by decide) (Or.inl (by decide))) (by decide) (Or.inl (by decide))) (by decide) (Or.inl (by decide))) (qm_gk (qm_gk (qm_gk (qm_gk (qm_gk2 g470 (by decide) (by decide) (Or.inl (by decide))) (by decide) (Or.inl (by decide))) (by decide) (Or.inl (by decide))) (by decide) (Or.inl (by decide))) (by decide) (Or.inl (by decide))) (qm_gk (qm_gk (qm_gk (qm_gk (qm_gk2 g471 (by decide) (by decide) (Or.inl (by decide))) (by decide) (Or.inl (by decide))) (by decide) (Or.inl (by decide))) (by decide) (Or.inl (by decide))) (by decide) (Or.inl (by decide))) (qm_gk (qm_gk (qm_gk (qm_gk (qm_gk2 g472 (by decide) (by decide) (Or.inl (by decide))) (by decide) (Or.inl (by decide))) (by decide) (Or.inl (by decide))) (by decide) (Or.inl (by decide))) (by decide) (Or.inr rfl)) (qm_ge _ _ _) (by omega) hI520 hF522 (by rw [hx514, hx515, hw516, show (v512 : Int).toNat = (σ475 17 6 : Int).toNat by omega, e504, e505]; exact (qpl_go (m := (x3 - (u474 + 1) : Int).toNat) (⟨by omega, by omega, by omega, by unfold qfit; rw [← e504, ← e505, ← e506]; omega⟩) (by omega)).symm.trans hx480) (by omega)
                          · skip
                            refine qr_iload 179 rfl (qm_gk (qm_gk (qm_gk (qm_gk2 g473 (by decide) (by decide) (Or.inr rfl)) (by decide) (Or.inl (by decide))) (by decide) (Or.inl (by decide))) (by decide) (Or.inl (by decide))) rfl ?_
                            refine qr_retI rfl rfl (by decide) (by decide) ?_
                            have hw524 : σ475 17 6 = (σ475 17 6) := rfl
                            exact ⟨_, _, rfl, hI477, hF478, u474, rfl, (qrg hf479 (by decide) (by decide)), (Or.inr (Or.inr (Or.inr (⟨by omega, (qpl_stop (fun hc => by obtain ⟨h1, h2, h3, h4⟩ := hc; unfold qfit at h4; rw [← e504, ← e505, ← e506] at h4; omega)).symm.trans hx480⟩))))⟩
                      · skip
                        refine qr_iload 114 rfl (qm_gk2 g473 (by decide) (by decide) (Or.inr rfl)) rfl ?_
                        refine qr_retI rfl rfl (by decide) (by decide) ?_
                        have hw525 : σ475 17 6 = (σ475 17 6) := rfl
                        exact ⟨_, _, rfl, hI477, hF478, u474, rfl, (qrg hf479 (by decide) (by decide)), (Or.inr (Or.inr (Or.inr (⟨by omega, (qpl_stop (fun hc => by obtain ⟨h1, h2, h3, h4⟩ := hc; omega)).symm.trans hx480⟩))))⟩
            exact hL482 ((20 - 0 + 1 : Int)).toNat _ 0 σ α (by omega) rfl rfl rfl rfl rfl (by decide) hI hF0 (by rw [show (x3 - 0 : Int).toNat = (x3 : Int).toNat by omega]) (by omega)
          · skip
            refine qr_bipush 51 rfl (by decide) rfl ?_
            refine qr_retI rfl rfl (by decide) (by decide) ?_
            have hw526 : σ 17 6 = (σ 17 6) := rfl
            exact ⟨_, _, rfl, hI, hF0, (-12), rfl, (by decide), (Or.inr (Or.inr (Or.inl ⟨by omega, rfl, rfl⟩)))⟩
        · skip
          refine qr_iconst 36 rfl rfl ?_
          refine qr_retI rfl rfl (by decide) (by decide) ?_
          have hw527 : σ 17 6 = (σ 17 6) := rfl
          exact ⟨_, _, rfl, hI, hF0, 0, rfl, (by decide), (Or.inr (Or.inl ⟨by omega, rfl, rfl⟩))⟩
      · skip
        refine qr_iconst 23 rfl rfl ?_
        refine qr_retI rfl rfl (by decide) (by decide) ?_
        have hw528 : σ 17 6 = (σ 17 6) := rfl
        exact ⟨_, _, rfl, hI, hF0, (-1), rfl, (by decide), (Or.inl ⟨by omega, rfl, rfl⟩)⟩

set_option maxHeartbeats 4000000 in
set_option maxRecDepth 20000 in
/-- OneRoofModel.people -/
theorem sf_177_86x {L : Nat} {xs : Nat → Int} {vb : Bool} {d : Nat} {σ α : Nat → Nat → Int} {κ : Nat → Option Nat} {ρ : Nat} {x1 : Int} {x2 : Int} {x3 : Int} (hI : qI σ α κ ρ) (r1 : (-2147483648) ≤ x1 ∧ x1 ≤ 2147483647) (r2 : (-2147483648) ≤ x2 ∧ x2 ≤ 2147483647) (r3 : (-2147483648) ≤ x3 ∧ x3 ≤ 2147483647) : qm_T (qe L xs vb) (d + 4) 177 [.ref 86, .int (qz x1), .int (qz x2), .int (qz x3)] (qw σ α κ ρ) (fun r w' => ∃ σ' α', w' = qw σ' α' κ ρ ∧ qI σ' α' κ ρ ∧ qFr [(86, 6), (86, 15)] [87, 91, 92] σ α σ' α' ∧ ∃ v : Int, r = some (.int (qz v)) ∧ ((-2147483648) ≤ v ∧ v ≤ 2147483647) ∧ (((v = -1 ∧ ¬ (0 ≤ x1 ∧ x1 ≤ 5 ∧ 1 ≤ x3 ∧ x3 ≤ 20) ∧ σ' 86 6 = σ 86 6) ∧ α' 91 = α 91 ∧ α' 92 = α 92) ∨ ((v = 0 ∧ (0 ≤ x1 ∧ x1 ≤ 5 ∧ 1 ≤ x3 ∧ x3 ≤ 20) ∧ α 121 (x1 : Int).toNat < 0 ∧ σ' 86 6 = σ 86 6) ∧ α' 91 = α 91 ∧ α' 92 = α 92) ∨ ((v = -12 ∧ (0 ≤ x1 ∧ x1 ≤ 5 ∧ 1 ≤ x3 ∧ x3 ≤ 20) ∧ 0 ≤ α 121 (x1 : Int).toNat ∧ ¬ α 121 (x1 : Int).toNat = 60 ∧ σ' 86 6 = σ 86 6) ∧ α' 91 = α 91 ∧ α' 92 = α 92) ∨ ((((0 ≤ x1 ∧ x1 ≤ 5 ∧ 1 ≤ x3 ∧ x3 ≤ 20) ∧ α 121 (x1 : Int).toNat = 60) ∧ (v, σ' 86 6, α' 91, α' 92) = qpl (α 123) (60 * x1) (α 122 (x1 : Int).toNat) x2 (x3 : Int).toNat 0 (σ 86 6) (α 91) (α 92))))) := by
  refine qr_start (d := d + 3) qv_e177 (Nat.le_of_ble_eq_true rfl) ?_
  show qr_W (qe L xs vb) (d + 3) qx_e177 _ (0, [(0, .ref 86), (1, .int (qz x1)), (2, .int (qz x2)), (3, .int (qz x3))], [], _, 0, 0)
  have hF0 := qFr_rf [(86, 6), (86, 15)] [87, 91, 92] σ α
  have hz86_6 : 0 ≤ σ 86 6 ∧ σ 86 6 ≤ 32 := hI.1 86 6
  refine qr_iload_n 1 rfl rfl rfl ?_
  refine qr_callN 4 rfl rfl rfl (sf_178 (d := d + 1) hI r1) ?_
  rintro _ _ ⟨rfl, v1, rfl, hv1, hp2⟩
  show qr_W (qe L xs vb) (d + 3) qx_e177 _ (4, _, [.int (qz v1)], qw σ α κ ρ, 0, 0)
  refine qr_if_eq 19 7 rfl rfl rfl (qrg hv1 (by decide) (by decide)) (fun h3 => ?_) (fun h3 => ?_)
  · skip
    refine qr_iconst 20 rfl rfl ?_
    refine qr_retI rfl rfl (by decide) (by decide) ?_
    have hw4 : σ 86 6 = (σ 86 6) := rfl
    exact ⟨_, _, rfl, hI, hF0, (-1), rfl, (by decide), (Or.inl ⟨by omega, rfl, rfl⟩)⟩
  · skip
    refine qr_iload_n 8 rfl rfl rfl ?_
    refine qr_i2l 9 rfl r3 rfl ?_
    refine qr_lconst 10 rfl rfl ?_
    refine qy_vl 1 rfl ?_
    refine qr_ldc2 20 13 rfl (by decide) rfl ?_
    refine qr_callN 16 rfl rfl rfl (sf_176 (d := d + 2) hI (qrg r3 (by decide) (by decide)) (by decide) (by decide)) ?_
    rintro _ _ ⟨rfl, v5, rfl, hv5, hp6⟩
    show qr_W (qe L xs vb) (d + 3) qx_e177 _ (16, _, [.int (qz v5)], qw σ α κ ρ, 0, 0)
    refine qr_if_ne 21 19 rfl rfl rfl (qrg hv5 (by decide) (by decide)) (fun h7 => ?_) (fun h7 => ?_)
    · skip
      refine qr_aload_n 22 rfl rfl rfl ?_
      refine qr_get 25 rfl rfl rfl (by decide) rfl ?_
      refine qr_iload_n 26 rfl rfl rfl ?_
      refine qr_iaload 27 rfl rfl (by omega) (by decide) rfl ?_
      refine qr_topI (fun v8 hv8 => ?_)
      have hs9 : (-1) ≤ v8 ∧ v8 ≤ 64 := by rw [hv8]; exact hI.2.1 121 _ (show _ < 6 by omega)
      refine qr_if_lt 44 30 rfl rfl rfl (qrg hs9 (by decide) (by decide)) (fun h10 => ?_) (fun h10 => ?_)
      · skip
        refine qr_iconst 45 rfl rfl ?_
        refine qr_istore _ 47 rfl (by decide) rfl rfl ?_
        refine qr_aload_n 48 rfl rfl rfl ?_
        refine qr_get 51 rfl rfl rfl (by decide) rfl ?_
        refine qr_iload_n 52 rfl rfl rfl ?_
        refine qr_iaload 53 rfl rfl (by omega) (by decide) rfl ?_
        refine qr_topI (fun v11 hv11 => ?_)
        have hs12 : (-1) ≤ v11 ∧ v11 ≤ 64 := by rw [hv11]; exact hI.2.1 121 _ (show _ < 6 by omega)
        refine qr_bipush 55 rfl (by decide) rfl ?_
        refine qr_icmp_ne 66 58 rfl rfl rfl (qrg hs12 (by decide) (by decide)) (by decide) (fun h13 => ?_) (fun h13 => ?_)
        · skip
          refine qr_iconst 67 rfl rfl ?_
          refine qr_istore _ 69 rfl (by decide) rfl rfl ?_
          refine qr_iload 71 rfl rfl rfl ?_
          refine qr_if_eq 218 74 rfl rfl rfl (by decide) (fun h14 => ?_) (fun h => False.elim (by omega))
          refine qr_iload 220 rfl rfl rfl ?_
          refine qr_retI rfl rfl (by decide) (by decide) ?_
          have hw15 : σ 86 6 = (σ 86 6) := rfl
          exact ⟨_, _, rfl, hI, hF0, 0, rfl, (by decide), (Or.inr (Or.inl ⟨by omega, rfl, rfl⟩))⟩
        · skip
          refine qr_iload_n 59 rfl rfl rfl ?_
          refine qr_if_lt 66 62 rfl rfl rfl r2 (fun h16 => ?_) (fun h16 => ?_)
          · skip
            refine qr_iconst 67 rfl rfl ?_
            refine qr_istore _ 69 rfl (by decide) rfl rfl ?_
            refine qr_iload 71 rfl rfl rfl ?_
            refine qr_if_eq 218 74 rfl rfl rfl (by decide) (fun h17 => ?_) (fun h => False.elim (by omega))
            refine qr_iload 220 rfl rfl rfl ?_
            refine qr_retI rfl rfl (by decide) (by decide) ?_
            have hw18 : σ 86 6 = (σ 86 6) := rfl
            exact ⟨_, _, rfl, hI, hF0, 0, rfl, (by decide), (Or.inr (Or.inr (Or.inr (⟨by omega, (qpl_stop (fun hc => by obtain ⟨h1, h2, h3, h4⟩ := hc; omega)).symm⟩))))⟩
          · skip
            refine qr_iconst 63 rfl rfl ?_
            refine qr_goto 67 rfl rfl ?_
            refine qr_istore _ 69 rfl (by decide) rfl rfl ?_
            have hL658 : ∀ (n : Nat) (ls : qm_L) (u647 u649 : Int) (σ650 α651 : Nat → Nat → Int), 20 - u647 < (n : Int) → qm_get ls 0 = some (.ref 86) → qm_get ls 1 = some (.int (qz x1)) → qm_get ls 2 = some (.int (qz x2)) → qm_get ls 3 = some (.int (qz x3)) → qm_get ls 4 = some (.int (qz u647)) → qm_get ls 5 = some (.int (qz u649)) → (0 ≤ u647 ∧ u647 ≤ 20) → (1 ≤ u649 ∧ u649 ≤ 1) → qI σ650 α651 κ ρ → qFr [(86, 6), (86, 15)] [87, 91, 92] σ α σ650 α651 → qpl (α 123) (60 * x1) (α 122 (x1 : Int).toNat) x2 (x3 - u647 : Int).toNat u647 (σ650 86 6) (α651 91) (α651 92) = qpl (α 123) (60 * x1) (α 122 (x1 : Int).toNat) x2 (x3 : Int).toNat 0 (σ 86 6) (α 91) (α 92) → u647 ≤ x3 → qr_W (qe L xs vb) (d + 3) qx_e177 (fun r w' => ∃ σ' α', w' = qw σ' α' κ ρ ∧ qI σ' α' κ ρ ∧ qFr [(86, 6), (86, 15)] [87, 91, 92] σ α σ' α' ∧ ∃ v : Int, r = some (.int (qz v)) ∧ ((-2147483648) ≤ v ∧ v ≤ 2147483647) ∧ (((v = -1 ∧ ¬ (0 ≤ x1 ∧ x1 ≤ 5 ∧ 1 ≤ x3 ∧ x3 ≤ 20) ∧ σ' 86 6 = σ 86 6) ∧ α' 91 = α 91 ∧ α' 92 = α 92) ∨ ((v = 0 ∧ (0 ≤ x1 ∧ x1 ≤ 5 ∧ 1 ≤ x3 ∧ x3 ≤ 20) ∧ α 121 (x1 : Int).toNat < 0 ∧ σ' 86 6 = σ 86 6) ∧ α' 91 = α 91 ∧ α' 92 = α 92) ∨ ((v = -12 ∧ (0 ≤ x1 ∧ x1 ≤ 5 ∧ 1 ≤ x3 ∧ x3 ≤ 20) ∧ 0 ≤ α 121 (x1 : Int).toNat ∧ ¬ α 121 (x1 : Int).toNat = 60 ∧ σ' 86 6 = σ 86 6) ∧ α' 91 = α 91 ∧ α' 92 = α 92) ∨ ((((0 ≤ x1 ∧ x1 ≤ 5 ∧ 1 ≤ x3 ∧ x3 ≤ 20) ∧ α 121 (x1 : Int).toNat = 60) ∧ (v, σ' 86 6, α' 91, α' 92) = qpl (α 123) (60 * x1) (α 122 (x1 : Int).toNat) x2 (x3 : Int).toNat 0 (σ 86 6) (α 91) (α 92))))) (69, ls, [], qw σ650 α651 κ ρ, 0, 0) := by
              intro n
              induction n with
              | zero => intro ls u647 u649 σ650 α651 hm g642 g643 g644 g645 g646 g648 hf654 hf655 hI652 hF653 hx656 hx657; exact False.elim (by omega)
              | succ n ih659 =>
                intro ls u647 u649 σ650 α651 hm g642 g643 g644 g645 g646 g648 hf654 hf655 hI652 hF653 hx656 hx657
                have hs660 : 0 ≤ σ650 86 6 ∧ σ650 86 6 ≤ 32 := hI652.1 86 6
                refine qr_iload 71 rfl g648 rfl ?_
                refine qr_if_eq 218 74 rfl rfl rfl (qrg hf655 (by decide) (by decide)) (fun h => False.elim (by omega)) (fun h661 => ?_)
                refine qr_iload 76 rfl g646 rfl ?_
                refine qr_iload_n 77 rfl g645 rfl ?_
                refine qr_icmp_ge 218 80 rfl rfl rfl (qrg hf654 (by decide) (by decide)) r3 (fun h662 => ?_) (fun h662 => ?_)
                · skip
                  refine qr_iload 220 rfl g646 rfl ?_
                  refine qr_retI rfl rfl (by decide) (by decide) ?_
                  have hw663 : σ650 86 6 = (σ650 86 6) := rfl
                  exact ⟨_, _, rfl, hI652, hF653, u647, rfl, (qrg hf654 (by decide) (by decide)), (Or.inr (Or.inr (Or.inr (⟨by omega, (qpl_0 (by omega)).symm.trans hx656⟩))))⟩
                · skip
                  have hq664 : α651 122 (x1 : Int).toNat = α 122 (x1 : Int).toNat := congrFun (hF653.2 122 (by decide)) _
                  refine qr_iload_n 81 rfl g644 rfl ?_
                  refine qr_aload_n 82 rfl g642 rfl ?_
                  refine qr_get 85 rfl rfl rfl (by decide) rfl ?_
                  refine qr_iload_n 86 rfl g643 rfl ?_
                  refine qr_iaload 87 rfl rfl (by omega) (by decide) rfl ?_
                  refine qr_topI (fun v665 hv665 => ?_)
                  have hs666 : 0 ≤ v665 ∧ v665 ≤ 60 := by rw [hv665]; exact hI652.2.1 122 _ (show _ < 6 by omega)
                  refine qr_iconst 88 rfl rfl ?_
                  refine qr_isub 89 rfl rfl ?_
                  refine qr_iconst 90 rfl rfl ?_
                  refine qr_iload 92 rfl g646 rfl ?_
                  refine qr_imul 93 rfl rfl ?_
                  refine qr_isub 94 rfl rfl ?_
                  refine qr_icmp_gt 110 97 rfl rfl rfl r2 (by omega) (fun h667 => ?_) (fun h667 => ?_)
                  · skip
                    refine qr_iconst 111 rfl rfl ?_
                    refine qr_istore _ 113 rfl (by decide) rfl rfl ?_
                    refine qr_bipush 115 rfl (by decide) rfl ?_
                    refine qr_iload_n 116 rfl (qm_gk g643 (by decide) (Or.inl (by decide))) rfl ?_
                    refine qr_imul 117 rfl rfl ?_
                    refine qr_iload_n 118 rfl (qm_gk g644 (by decide) (Or.inl (by decide))) rfl ?_
                    refine qr_iadd 119 rfl rfl ?_
                    refine qy_canE (fun v668 hv668 hev668 => ?_)
                    refine qr_iconst 120 rfl rfl ?_
                    refine qr_iload 122 rfl (qm_gk g646 (by decide) (Or.inr rfl)) rfl ?_
                    refine qr_imul 123 rfl rfl ?_
                    refine qr_iadd 124 rfl rfl ?_
                    refine qy_canE (fun v669 hv669 hev669 => ?_)
                    refine qr_istore _ 126 rfl (by decide) rfl rfl ?_
                    refine qr_iload 128 rfl (qm_gk (qm_ge _ _ _) (by decide) (Or.inr rfl)) rfl ?_
                    refine qr_if_eq 170 131 rfl rfl rfl (by decide) (fun h670 => ?_) (fun h => False.elim (by omega))
                    refine qr_iconst 171 rfl rfl ?_
                    refine qr_istore _ 173 rfl (by decide) rfl rfl ?_
                    refine qr_iload 175 rfl (qm_ge _ _ _) rfl ?_
                    refine qr_if_eq 215 178 rfl rfl rfl (by decide) (fun h671 => ?_) (fun h => False.elim (by omega))
                    refine qr_goto 69 rfl rfl ?_
                    refine qr_iload 71 rfl (qm_ge _ _ _) rfl ?_
                    refine qr_if_eq 218 74 rfl rfl rfl (by decide) (fun h672 => ?_) (fun h => False.elim (by omega))
                    refine qr_iload 220 rfl (qm_gk (qm_gk (qm_gk g646 (by decide) (Or.inr rfl)) (by decide) (Or.inl (by decide))) (by decide) (Or.inr rfl)) rfl ?_
                    refine qr_retI rfl rfl (by decide) (by decide) ?_
                    have hw673 : σ650 86 6 = (σ650 86 6) := rfl
                    exact ⟨_, _, rfl, hI652, hF653, u647, rfl, (qrg hf654 (by decide) (by decide)), (Or.inr (Or.inr (Or.inr (⟨by omega, (qpl_stop (fun hc => by obtain ⟨h1, h2, h3, h4⟩ := hc; omega)).symm.trans hx656⟩))))⟩
                  · skip
                    refine qr_aload_n 98 rfl g642 rfl ?_
                    refine qr_get 101 rfl rfl rfl (by decide) rfl ?_
                    refine qr_bipush 103 rfl (by decide) rfl ?_
                    refine qr_icmp_ge 110 106 rfl rfl rfl (by omega) (by decide) (fun h674 => ?_) (fun h674 => ?_)
                    · skip
                      refine qr_iconst 111 rfl rfl ?_
                      refine qr_istore _ 113 rfl (by decide) rfl rfl ?_
                      refine qr_bipush 115 rfl (by decide) rfl ?_
                      refine qr_iload_n 116 rfl (qm_gk g643 (by decide) (Or.inl (by decide))) rfl ?_
                      refine qr_imul 117 rfl rfl ?_
                      refine qr_iload_n 118 rfl (qm_gk g644 (by decide) (Or.inl (by decide))) rfl ?_
                      refine qr_iadd 119 rfl rfl ?_
                      refine qr_iconst 120 rfl rfl ?_
                      refine qr_iload 122 rfl (qm_gk g646 (by decide) (Or.inr rfl)) rfl ?_
                      refine qr_imul 123 rfl rfl ?_
                      refine qr_iadd 124 rfl rfl ?_
                      refine qr_istore _ 126 rfl (by decide) rfl rfl ?_
                      refine qr_iload 128 rfl (qm_gk (qm_ge _ _ _) (by decide) (Or.inr rfl)) rfl ?_
                      refine qr_if_eq 170 131 rfl rfl rfl (by decide) (fun h675 => ?_) (fun h => False.elim (by omega))
                      refine qr_iconst 171 rfl rfl ?_
                      refine qr_istore _ 173 rfl (by decide) rfl rfl ?_
                      refine qr_iload 175 rfl (qm_ge _ _ _) rfl ?_
                      refine qr_if_eq 215 178 rfl rfl rfl (by decide) (fun h676 => ?_) (fun h => False.elim (by omega))
                      refine qr_goto 69 rfl rfl ?_
                      refine qr_iload 71 rfl (qm_ge _ _ _) rfl ?_
                      refine qr_if_eq 218 74 rfl rfl rfl (by decide) (fun h677 => ?_) (fun h => False.elim (by omega))
                      refine qr_iload 220 rfl (qm_gk (qm_gk (qm_gk g646 (by decide) (Or.inr rfl)) (by decide) (Or.inl (by decide))) (by decide) (Or.inr rfl)) rfl ?_
                      refine qr_retI rfl rfl (by decide) (by decide) ?_
                      have hw678 : σ650 86 6 = (σ650 86 6) := rfl
                      exact ⟨_, _, rfl, hI652, hF653, u647, rfl, (qrg hf654 (by decide) (by decide)), (Or.inr (Or.inr (Or.inr (⟨by omega, (qpl_stop (fun hc => by obtain ⟨h1, h2, h3, h4⟩ := hc; omega)).symm.trans hx656⟩))))⟩
                    · skip
                      refine qr_iconst 107 rfl rfl ?_
                      refine qr_goto 111 rfl rfl ?_
                      refine qr_istore _ 113 rfl (by decide) rfl rfl ?_
                      refine qr_bipush 115 rfl (by decide) rfl ?_
                      refine qr_iload_n 116 rfl (qm_gk g643 (by decide) (Or.inl (by decide))) rfl ?_
                      refine qr_imul 117 rfl rfl ?_
                      refine qr_iload_n 118 rfl (qm_gk g644 (by decide) (Or.inl (by decide))) rfl ?_
                      refine qr_iadd 119 rfl rfl ?_
                      refine qr_iconst 120 rfl rfl ?_
                      refine qr_iload 122 rfl (qm_gk g646 (by decide) (Or.inr rfl)) rfl ?_
                      refine qr_imul 123 rfl rfl ?_
                      refine qr_iadd 124 rfl rfl ?_
                      refine qr_istore _ 126 rfl (by decide) rfl rfl ?_
                      refine qr_iload 128 rfl (qm_gk (qm_ge _ _ _) (by decide) (Or.inr rfl)) rfl ?_
                      refine qr_if_eq 170 131 rfl rfl rfl (by decide) (fun h => False.elim (by omega)) (fun h679 => ?_)
                      refine qr_aload_n 132 rfl (qm_gk (qm_gk g642 (by decide) (Or.inl (by decide))) (by decide) (Or.inl (by decide))) rfl ?_
                      refine qr_aload_n 133 rfl (qm_gk (qm_gk g642 (by decide) (Or.inl (by decide))) (by decide) (Or.inl (by decide))) rfl ?_
                      refine qr_get 136 rfl rfl rfl (by decide) rfl ?_
                      refine qr_iload 138 rfl (qm_ge _ _ _) rfl ?_
                      refine qr_laload 139 rfl (by decide) rfl (by omega) (by decide) rfl ?_
                      refine qr_topL (fun v680 hv680 => ?_)
                      have hs681 : (-9223372036854775808) ≤ v680 ∧ v680 ≤ 9223372036854775807 := by rw [hv680]; exact hI652.2.1 123 _ (show _ < 360 by omega)
                      refine qr_l2i 140 rfl rfl ?_
                      refine qy_canE (fun v682 hv682 hev682 => ?_)
                      refine qr_aload_n 141 rfl (qm_gk (qm_gk g642 (by decide) (Or.inl (by decide))) (by decide) (Or.inl (by decide))) rfl ?_
                      refine qr_get 144 rfl rfl rfl (by decide) rfl ?_
                      refine qr_iload 146 rfl (qm_ge _ _ _) rfl ?_
                      refine qr_iconst 147 rfl rfl ?_
                      refine qr_iadd 148 rfl rfl ?_
                      refine qr_laload 149 rfl (by decide) rfl (by omega) (by decide) rfl ?_
                      refine qr_topL (fun v683 hv683 => ?_)
                      have hs684 : (-9223372036854775808) ≤ v683 ∧ v683 ≤ 9223372036854775807 := by rw [hv683]; exact hI652.2.1 123 _ (show _ < 360 by omega)
                      refine qr_l2i 150 rfl rfl ?_
                      refine qy_canE (fun v685 hv685 hev685 => ?_)
                      refine qr_aload_n 151 rfl (qm_gk (qm_gk g642 (by decide) (Or.inl (by decide))) (by decide) (Or.inl (by decide))) rfl ?_
                      as_aux_lemma =>
                        refine qr_get 154 rfl rfl rfl (by decide) rfl ?_
                        refine qr_iload 156 rfl (qm_ge _ _ _) rfl ?_
                        refine qr_iconst 157 rfl rfl ?_
                        refine qr_iadd 158 rfl rfl ?_
                        refine qr_laload 159 rfl (by decide) rfl (by omega) (by decide) rfl ?_
                        refine qr_topL (fun v686 hv686 => ?_)
                        have hs687 : (-9223372036854775808) ≤ v686 ∧ v686 ≤ 9223372036854775807 := by rw [hv686]; exact hI652.2.1 123 _ (show _ < 360 by omega)
                        refine qr_l2i 160 rfl rfl ?_
                        refine qy_canE (fun v688 hv688 hev688 => ?_)
                        refine qr_callN 163 rfl rfl rfl (sf_175_86 (d := d + 1) hI652 hv682 hv685 hv688) ?_
                        have hs691 : 0 ≤ σ650 86 6 ∧ σ650 86 6 ≤ 32 := hI652.1 86 6
                        rintro _ _ ⟨rfl, v689, rfl, hv689, hp690⟩
                        show qr_W (qe L xs vb) (d + 3) qx_e177 _ (163, _, [.int (qz v689)], qw σ650 α651 κ ρ, 0, 0)
                        have e692 : v682 = qpa (α 123) (60 * x1) (x2 + 3 * u647) := (qna_i hev682 (by omega)).trans (congrArg (fun t : Int => (qz t).toInt) (hv680.trans ((congrFun (hF653.2 123 (by decide)) _).trans (congrArg (fun j : Int => α 123 j.toNat) (by omega)))))
                        have e693 : v685 = qpa (α 123) (60 * x1) (x2 + 3 * u647 + 1) := (qna_i hev685 (by omega)).trans (congrArg (fun t : Int => (qz t).toInt) (hv683.trans ((congrFun (hF653.2 123 (by decide)) _).trans (congrArg (fun j : Int => α 123 j.toNat) (by omega)))))
                        have e694 : v688 = qpa (α 123) (60 * x1) (x2 + 3 * u647 + 2) := (qna_i hev688 (by omega)).trans (congrArg (fun t : Int => (qz t).toInt) (hv686.trans ((congrFun (hF653.2 123 (by decide)) _).trans (congrArg (fun j : Int => α 123 j.toNat) (by omega)))))
                        refine qr_if_eq 170 166 rfl rfl rfl (qrg hv689 (by decide) (by decide)) (fun h695 => ?_) (fun h695 => ?_)
                        · skip
                          refine qr_iconst 171 rfl rfl ?_
                          refine qr_istore _ 173 rfl (by decide) rfl rfl ?_
                          refine qr_iload 175 rfl (qm_ge _ _ _) rfl ?_
                          refine qr_if_eq 215 178 rfl rfl rfl (by decide) (fun h696 => ?_) (fun h => False.elim (by omega))
                          refine qr_goto 69 rfl rfl ?_
                          refine qr_iload 71 rfl (qm_ge _ _ _) rfl ?_
                          refine qr_if_eq 218 74 rfl rfl rfl (by decide) (fun h697 => ?_) (fun h => False.elim (by omega))
                          refine qr_iload 220 rfl (qm_gk (qm_gk (qm_gk g646 (by decide) (Or.inr rfl)) (by decide) (Or.inl (by decide))) (by decide) (Or.inr rfl)) rfl ?_
                          refine qr_retI rfl rfl (by decide) (by decide) ?_
                          have hw698 : σ650 86 6 = (σ650 86 6) := rfl
                          exact ⟨_, _, rfl, hI652, hF653, u647, rfl, (qrg hf654 (by decide) (by decide)), (Or.inr (Or.inr (Or.inr (⟨by omega, (qpl_stop (fun hc => by obtain ⟨h1, h2, h3, h4⟩ := hc; unfold qfit at h4; rw [← e692, ← e693, ← e694] at h4; omega)).symm.trans hx656⟩))))⟩
                        · skip
                          refine qr_iconst 167 rfl rfl ?_
                          refine qr_goto 171 rfl rfl ?_
                          refine qr_istore _ 173 rfl (by decide) rfl rfl ?_
                          refine qr_iload 175 rfl (qm_ge _ _ _) rfl ?_
                          refine qr_if_eq 215 178 rfl rfl rfl (by decide) (fun h => False.elim (by omega)) (fun h699 => ?_)
                          refine qr_aload_n 179 rfl (qm_gk (qm_gk (qm_gk g642 (by decide) (Or.inl (by decide))) (by decide) (Or.inl (by decide))) (by decide) (Or.inl (by decide))) rfl ?_
                          refine qr_aload_n 180 rfl (qm_gk (qm_gk (qm_gk g642 (by decide) (Or.inl (by decide))) (by decide) (Or.inl (by decide))) (by decide) (Or.inl (by decide))) rfl ?_
                          refine qr_get 183 rfl rfl rfl (by decide) rfl ?_
                          refine qr_iload 185 rfl (qm_gk (qm_ge _ _ _) (by decide) (Or.inl (by decide))) rfl ?_
                          refine qr_laload 186 rfl (by decide) rfl (by omega) (by decide) rfl ?_
                          refine qr_topL (fun v700 hv700 => ?_)
                          have hs701 : (-9223372036854775808) ≤ v700 ∧ v700 ≤ 9223372036854775807 := by rw [hv700]; exact hI652.2.1 123 _ (show _ < 360 by omega)
                          refine qr_l2i 187 rfl rfl ?_
                          refine qy_canE (fun v702 hv702 hev702 => ?_)
                          refine qr_aload_n 188 rfl (qm_gk (qm_gk (qm_gk g642 (by decide) (Or.inl (by decide))) (by decide) (Or.inl (by decide))) (by decide) (Or.inl (by decide))) rfl ?_
                          refine qr_get 191 rfl rfl rfl (by decide) rfl ?_
                          refine qr_iload 193 rfl (qm_gk (qm_ge _ _ _) (by decide) (Or.inl (by decide))) rfl ?_
                          refine qr_iconst 194 rfl rfl ?_
                          refine qr_iadd 195 rfl rfl ?_
                          refine qr_laload 196 rfl (by decide) rfl (by omega) (by decide) rfl ?_
                          refine qr_topL (fun v703 hv703 => ?_)
                          have hs704 : (-9223372036854775808) ≤ v703 ∧ v703 ≤ 9223372036854775807 := by rw [hv703]; exact hI652.2.1 123 _ (show _ < 360 by omega)
                          refine qr_l2i 197 rfl rfl ?_
                          refine qy_canE (fun v705 hv705 hev705 => ?_)
                          refine qr_aload_n 198 rfl (qm_gk (qm_gk (qm_gk g642 (by decide) (Or.inl (by decide))) (by decide) (Or.inl (by decide))) (by decide) (Or.inl (by decide))) rfl ?_
                          refine qr_get 201 rfl rfl rfl (by decide) rfl ?_
                          refine qr_iload 203 rfl (qm_gk (qm_ge _ _ _) (by decide) (Or.inl (by decide))) rfl ?_
                          refine qr_iconst 204 rfl rfl ?_
                          refine qr_iadd 205 rfl rfl ?_
                          refine qr_laload 206 rfl (by decide) rfl (by omega) (by decide) rfl ?_
                          refine qr_topL (fun v706 hv706 => ?_)
                          have hs707 : (-9223372036854775808) ≤ v706 ∧ v706 ≤ 9223372036854775807 := by rw [hv706]; exact hI652.2.1 123 _ (show _ < 360 by omega)
                          refine qr_l2i 207 rfl rfl ?_
                          refine qy_canE (fun v708 hv708 hev708 => ?_)
                          have e709 : v702 = qpa (α 123) (60 * x1) (x2 + 3 * u647) := (qna_i hev702 (by omega)).trans (congrArg (fun t : Int => (qz t).toInt) (hv700.trans ((congrFun (hF653.2 123 (by decide)) _).trans (congrArg (fun j : Int => α 123 j.toNat) (by omega)))))
                          have e710 : v705 = qpa (α 123) (60 * x1) (x2 + 3 * u647 + 1) := (qna_i hev705 (by omega)).trans (congrArg (fun t : Int => (qz t).toInt) (hv703.trans ((congrFun (hF653.2 123 (by decide)) _).trans (congrArg (fun j : Int => α 123 j.toNat) (by omega)))))
                          have e711 : v708 = qpa (α 123) (60 * x1) (x2 + 3 * u647 + 2) := (qna_i hev708 (by omega)).trans (congrArg (fun t : Int => (qz t).toInt) (hv706.trans ((congrFun (hF653.2 123 (by decide)) _).trans (congrArg (fun j : Int => α 123 j.toNat) (by omega)))))
                          have hs712 : 0 ≤ σ650 86 6 ∧ σ650 86 6 ≤ 32 := hI652.1 86 6
                          have hs713 := e692.trans e709.symm
                          have hs714 := e693.trans e710.symm
                          have hs715 := e694.trans e711.symm
                          refine qr_callN 210 rfl rfl rfl (sf_174_86x (d := d + 0) hI652 hv702 hv705 hv708) ?_
                          rintro _ _ ⟨σ718, α719, rfl, hI720, hG721, v716, rfl, hv716, ha717⟩
                          have hF722 : qFr [(86, 6), (86, 15)] [87, 91, 92] σ α σ718 α719 := qFr_t hF653 hG721 (by decide) (by decide)
                          show qr_W (qe L xs vb) (d + 3) qx_e177 _ (210, _, [.int (qz v716)], qw σ718 α719 κ ρ, 0, 0)
                          have hb723 : (v716 = σ650 86 6 ∧ σ718 86 6 = σ650 86 6 + 1) ∧ α719 91 = qzu (α651 91) (v716 : Int).toNat v702 ∧ α719 92 = qzu (α651 92) (v716 : Int).toNat v705 := by
                            rcases ha717 with ⟨⟨a1, a2, a3⟩, a4, a5⟩ | ⟨⟨a1, a2, a3, a4⟩, a5, a6⟩ | ⟨⟨a1, a2, a3, a4⟩, a5, a6⟩
                            · exact absurd (show ((v702 = -1 ∨ (0 ≤ v702 ∧ v702 < σ650 86 6)) ∧ 1 ≤ v705 ∧ v705 ≤ 99 ∧ (v708 = 0 ∨ v708 = 1)) by omega) a2
                            · exact absurd a3 (by omega)
                            · exact ⟨⟨a1, a4⟩, a5, a6⟩
                          refine qr_istore _ 212 rfl (by decide) rfl rfl ?_
                          refine qr_iinc _ 215 rfl (qm_gk (qm_gk (qm_gk (qm_gk g646 (by decide) (Or.inr rfl)) (by decide) (Or.inl (by decide))) (by decide) (Or.inr rfl)) (by decide) (Or.inl (by decide))) (by decide) rfl rfl ?_
                          refine qr_goto 69 rfl rfl ?_
                          exact ih659 _ (u647 + 1) 1 σ718 α719 (by omega) (qm_gk (qm_gk (qm_gk (qm_gk (qm_gk g642 (by decide) (Or.inl (by decide))) (by decide) (Or.inl (by decide))) (by decide) (Or.inl (by decide))) (by decide) (Or.inl (by decide))) (by decide) (Or.inl (by decide))) (qm_gk (qm_gk (qm_gk (qm_gk (qm_gk g643 (by decide) (Or.inl (by decide))) (by decide) (Or.inl (by decide))) (by decide) (Or.inl (by decide))) (by decide) (Or.inl (by decide))) (by decide) (Or.inl (by decide))) (qm_gk (qm_gk (qm_gk (qm_gk (qm_gk g644 (by decide) (Or.inl (by decide))) (by decide) (Or.inl (by decide))) (by decide) (Or.inl (by decide))) (by decide) (Or.inl (by decide))) (by decide) (Or.inl (by decide))) (qm_gk (qm_gk (qm_gk (qm_gk (qm_gk g645 (by decide) (Or.inl (by decide))) (by decide) (Or.inl (by decide))) (by decide) (Or.inl (by decide))) (by decide) (Or.inl (by decide))) (by decide) (Or.inr rfl)) (qm_ge _ _ _) (qm_gk (qm_gk (qm_ge _ _ _) (by decide) (Or.inl (by decide))) (by decide) (Or.inl (by decide))) (by omega) (by decide) hI720 hF722 (by rw [hb723.2.1, hb723.2.2, hb723.1.2, show (v716 : Int).toNat = (σ650 86 6 : Int).toNat by omega, e709, e710]; exact (qpl_go (m := (x3 - (u647 + 1) : Int).toNat) (⟨by omega, by omega, by omega, by unfold qfit; rw [← e692, ← e693, ← e694]; omega⟩) (by omega)).symm.trans hx656) (by omega)
            exact hL658 ((20 - 0 + 1 : Int)).toNat _ 0 1 σ α (by omega) rfl rfl rfl rfl rfl rfl (by decide) (by decide) hI hF0 (by rw [show (x3 - 0 : Int).toNat = (x3 : Int).toNat by omega]) (by omega)
      · skip
        refine qr_aload_n 31 rfl rfl rfl ?_
        refine qr_get 34 rfl rfl rfl (by decide) rfl ?_
        refine qr_iload_n 35 rfl rfl rfl ?_
        refine qr_iaload 36 rfl rfl (by omega) (by decide) rfl ?_
        refine qr_topI (fun v724 hv724 => ?_)
        have hs725 : (-1) ≤ v724 ∧ v724 ≤ 64 := by rw [hv724]; exact hI.2.1 121 _ (show _ < 6 by omega)
        refine qr_bipush 38 rfl (by decide) rfl ?_
        refine qr_icmp_eq 44 41 rfl rfl rfl (qrg hs725 (by decide) (by decide)) (by decide) (fun h726 => ?_) (fun h726 => ?_)
        · skip
          refine qr_iconst 45 rfl rfl ?_
          refine qr_istore _ 47 rfl (by decide) rfl rfl ?_
          refine qr_aload_n 48 rfl rfl rfl ?_
          refine qr_get 51 rfl rfl rfl (by decide) rfl ?_
          refine qr_iload_n 52 rfl rfl rfl ?_
          refine qr_iaload 53 rfl rfl (by omega) (by decide) rfl ?_
          refine qr_topI (fun v727 hv727 => ?_)
          have hs728 : (-1) ≤ v727 ∧ v727 ≤ 64 := by rw [hv727]; exact hI.2.1 121 _ (show _ < 6 by omega)
          refine qr_bipush 55 rfl (by decide) rfl ?_
          refine qr_icmp_ne 66 58 rfl rfl rfl (qrg hs728 (by decide) (by decide)) (by decide) (fun h729 => ?_) (fun h729 => ?_)
          · skip
            refine qr_iconst 67 rfl rfl ?_
            refine qr_istore _ 69 rfl (by decide) rfl rfl ?_
            refine qr_iload 71 rfl rfl rfl ?_
            refine qr_if_eq 218 74 rfl rfl rfl (by decide) (fun h730 => ?_) (fun h => False.elim (by omega))
            refine qr_iload 220 rfl rfl rfl ?_
            refine qr_retI rfl rfl (by decide) (by decide) ?_
            have hw731 : σ 86 6 = (σ 86 6) := rfl
            exact ⟨_, _, rfl, hI, hF0, 0, rfl, (by decide), (Or.inr (Or.inl ⟨by omega, rfl, rfl⟩))⟩
          · skip
            refine qr_iload_n 59 rfl rfl rfl ?_
            refine qr_if_lt 66 62 rfl rfl rfl r2 (fun h732 => ?_) (fun h732 => ?_)
            · skip
              refine qr_iconst 67 rfl rfl ?_
              refine qr_istore _ 69 rfl (by decide) rfl rfl ?_
              refine qr_iload 71 rfl rfl rfl ?_
              refine qr_if_eq 218 74 rfl rfl rfl (by decide) (fun h733 => ?_) (fun h => False.elim (by omega))
              refine qr_iload 220 rfl rfl rfl ?_
              refine qr_retI rfl rfl (by decide) (by decide) ?_
              have hw734 : σ 86 6 = (σ 86 6) := rfl
              exact ⟨_, _, rfl, hI, hF0, 0, rfl, (by decide), (Or.inr (Or.inr (Or.inr (⟨by omega, (qpl_stop (fun hc => by obtain ⟨h1, h2, h3, h4⟩ := hc; omega)).symm⟩))))⟩
            · skip
              refine qr_iconst 63 rfl rfl ?_
              refine qr_goto 67 rfl rfl ?_
              refine qr_istore _ 69 rfl (by decide) rfl rfl ?_
              have hL1374 : ∀ (n : Nat) (ls : qm_L) (u1363 u1365 : Int) (σ1366 α1367 : Nat → Nat → Int), 20 - u1363 < (n : Int) → qm_get ls 0 = some (.ref 86) → qm_get ls 1 = some (.int (qz x1)) → qm_get ls 2 = some (.int (qz x2)) → qm_get ls 3 = some (.int (qz x3)) → qm_get ls 4 = some (.int (qz u1363)) → qm_get ls 5 = some (.int (qz u1365)) → (0 ≤ u1363 ∧ u1363 ≤ 20) → (1 ≤ u1365 ∧ u1365 ≤ 1) → qI σ1366 α1367 κ ρ → qFr [(86, 6), (86, 15)] [87, 91, 92] σ α σ1366 α1367 → qpl (α 123) (60 * x1) (α 122 (x1 : Int).toNat) x2 (x3 - u1363 : Int).toNat u1363 (σ1366 86 6) (α1367 91) (α1367 92) = qpl (α 123) (60 * x1) (α 122 (x1 : Int).toNat) x2 (x3 : Int).toNat 0 (σ 86 6) (α 91) (α 92) → u1363 ≤ x3 → qr_W (qe L xs vb) (d + 3) qx_e177 (fun r w' => ∃ σ' α', w' = qw σ' α' κ ρ ∧ qI σ' α' κ ρ ∧ qFr [(86, 6), (86, 15)] [87, 91, 92] σ α σ' α' ∧ ∃ v : Int, r = some (.int (qz v)) ∧ ((-2147483648) ≤ v ∧ v ≤ 2147483647) ∧ (((v = -1 ∧ ¬ (0 ≤ x1 ∧ x1 ≤ 5 ∧ 1 ≤ x3 ∧ x3 ≤ 20) ∧ σ' 86 6 = σ 86 6) ∧ α' 91 = α 91 ∧ α' 92 = α 92) ∨ ((v = 0 ∧ (0 ≤ x1 ∧ x1 ≤ 5 ∧ 1 ≤ x3 ∧ x3 ≤ 20) ∧ α 121 (x1 : Int).toNat < 0 ∧ σ' 86 6 = σ 86 6) ∧ α' 91 = α 91 ∧ α' 92 = α 92) ∨ ((v = -12 ∧ (0 ≤ x1 ∧ x1 ≤ 5 ∧ 1 ≤ x3 ∧ x3 ≤ 20) ∧ 0 ≤ α 121 (x1 : Int).toNat ∧ ¬ α 121 (x1 : Int).toNat = 60 ∧ σ' 86 6 = σ 86 6) ∧ α' 91 = α 91 ∧ α' 92 = α 92) ∨ ((((0 ≤ x1 ∧ x1 ≤ 5 ∧ 1 ≤ x3 ∧ x3 ≤ 20) ∧ α 121 (x1 : Int).toNat = 60) ∧ (v, σ' 86 6, α' 91, α' 92) = qpl (α 123) (60 * x1) (α 122 (x1 : Int).toNat) x2 (x3 : Int).toNat 0 (σ 86 6) (α 91) (α 92))))) (69, ls, [], qw σ1366 α1367 κ ρ, 0, 0) := by
                intro n
                induction n with
                | zero => intro ls u1363 u1365 σ1366 α1367 hm g1358 g1359 g1360 g1361 g1362 g1364 hf1370 hf1371 hI1368 hF1369 hx1372 hx1373; exact False.elim (by omega)
                | succ n ih1375 =>
                  intro ls u1363 u1365 σ1366 α1367 hm g1358 g1359 g1360 g1361 g1362 g1364 hf1370 hf1371 hI1368 hF1369 hx1372 hx1373
                  have hs1376 : 0 ≤ σ1366 86 6 ∧ σ1366 86 6 ≤ 32 := hI1368.1 86 6
                  refine qr_iload 71 rfl g1364 rfl ?_
                  refine qr_if_eq 218 74 rfl rfl rfl (qrg hf1371 (by decide) (by decide)) (fun h => False.elim (by omega)) (fun h1377 => ?_)
                  refine qr_iload 76 rfl g1362 rfl ?_
                  refine qr_iload_n 77 rfl g1361 rfl ?_
                  refine qr_icmp_ge 218 80 rfl rfl rfl (qrg hf1370 (by decide) (by decide)) r3 (fun h1378 => ?_) (fun h1378 => ?_)
                  · skip
                    refine qr_iload 220 rfl g1362 rfl ?_
                    refine qr_retI rfl rfl (by decide) (by decide) ?_
                    have hw1379 : σ1366 86 6 = (σ1366 86 6) := rfl
                    exact ⟨_, _, rfl, hI1368, hF1369, u1363, rfl, (qrg hf1370 (by decide) (by decide)), (Or.inr (Or.inr (Or.inr (⟨by omega, (qpl_0 (by omega)).symm.trans hx1372⟩))))⟩
                  · skip
                    have hq1380 : α1367 122 (x1 : Int).toNat = α 122 (x1 : Int).toNat := congrFun (hF1369.2 122 (by decide)) _
                    refine qr_iload_n 81 rfl g1360 rfl ?_
                    refine qr_aload_n 82 rfl g1358 rfl ?_
                    refine qr_get 85 rfl rfl rfl (by decide) rfl ?_
                    refine qr_iload_n 86 rfl g1359 rfl ?_
                    refine qr_iaload 87 rfl rfl (by omega) (by decide) rfl ?_
                    refine qr_topI (fun v1381 hv1381 => ?_)
                    have hs1382 : 0 ≤ v1381 ∧ v1381 ≤ 60 := by rw [hv1381]; exact hI1368.2.1 122 _ (show _ < 6 by omega)
                    refine qr_iconst 88 rfl rfl ?_
                    refine qr_isub 89 rfl rfl ?_
                    refine qr_iconst 90 rfl rfl ?_
                    refine qr_iload 92 rfl g1362 rfl ?_
                    refine qr_imul 93 rfl rfl ?_
                    refine qr_isub 94 rfl rfl ?_
                    refine qr_icmp_gt 110 97 rfl rfl rfl r2 (by omega) (fun h1383 => ?_) (fun h1383 => ?_)
                    · skip
                      refine qr_iconst 111 rfl rfl ?_
                      refine qr_istore _ 113 rfl (by decide) rfl rfl ?_
                      refine qr_bipush 115 rfl (by decide) rfl ?_
                      refine qr_iload_n 116 rfl (qm_gk g1359 (by decide) (Or.inl (by decide))) rfl ?_
                      refine qr_imul 117 rfl rfl ?_
                      refine qr_iload_n 118 rfl (qm_gk g1360 (by decide) (Or.inl (by decide))) rfl ?_
                      refine qr_iadd 119 rfl rfl ?_
                      refine qy_canE (fun v1384 hv1384 hev1384 => ?_)
                      refine qr_iconst 120 rfl rfl ?_
                      refine qr_iload 122 rfl (qm_gk g1362 (by decide) (Or.inr rfl)) rfl ?_
                      refine qr_imul 123 rfl rfl ?_
                      refine qr_iadd 124 rfl rfl ?_
                      refine qy_canE (fun v1385 hv1385 hev1385 => ?_)
                      refine qr_istore _ 126 rfl (by decide) rfl rfl ?_
                      refine qr_iload 128 rfl (qm_gk (qm_ge _ _ _) (by decide) (Or.inr rfl)) rfl ?_
                      refine qr_if_eq 170 131 rfl rfl rfl (by decide) (fun h1386 => ?_) (fun h => False.elim (by omega))
                      refine qr_iconst 171 rfl rfl ?_
                      refine qr_istore _ 173 rfl (by decide) rfl rfl ?_
                      refine qr_iload 175 rfl (qm_ge _ _ _) rfl ?_
                      refine qr_if_eq 215 178 rfl rfl rfl (by decide) (fun h1387 => ?_) (fun h => False.elim (by omega))
                      refine qr_goto 69 rfl rfl ?_
                      refine qr_iload 71 rfl (qm_ge _ _ _) rfl ?_
                      refine qr_if_eq 218 74 rfl rfl rfl (by decide) (fun h1388 => ?_) (fun h => False.elim (by omega))
                      refine qr_iload 220 rfl (qm_gk (qm_gk (qm_gk g1362 (by decide) (Or.inr rfl)) (by decide) (Or.inl (by decide))) (by decide) (Or.inr rfl)) rfl ?_
                      refine qr_retI rfl rfl (by decide) (by decide) ?_
                      have hw1389 : σ1366 86 6 = (σ1366 86 6) := rfl
                      exact ⟨_, _, rfl, hI1368, hF1369, u1363, rfl, (qrg hf1370 (by decide) (by decide)), (Or.inr (Or.inr (Or.inr (⟨by omega, (qpl_stop (fun hc => by obtain ⟨h1, h2, h3, h4⟩ := hc; omega)).symm.trans hx1372⟩))))⟩
                    · skip
                      refine qr_aload_n 98 rfl g1358 rfl ?_
                      refine qr_get 101 rfl rfl rfl (by decide) rfl ?_
                      refine qr_bipush 103 rfl (by decide) rfl ?_
                      refine qr_icmp_ge 110 106 rfl rfl rfl (by omega) (by decide) (fun h1390 => ?_) (fun h1390 => ?_)
                      · skip
                        refine qr_iconst 111 rfl rfl ?_
                        refine qr_istore _ 113 rfl (by decide) rfl rfl ?_
                        refine qr_bipush 115 rfl (by decide) rfl ?_
                        refine qr_iload_n 116 rfl (qm_gk g1359 (by decide) (Or.inl (by decide))) rfl ?_
                        refine qr_imul 117 rfl rfl ?_
                        refine qr_iload_n 118 rfl (qm_gk g1360 (by decide) (Or.inl (by decide))) rfl ?_
                        refine qr_iadd 119 rfl rfl ?_
                        refine qr_iconst 120 rfl rfl ?_
                        refine qr_iload 122 rfl (qm_gk g1362 (by decide) (Or.inr rfl)) rfl ?_
                        refine qr_imul 123 rfl rfl ?_
                        refine qr_iadd 124 rfl rfl ?_
                        refine qr_istore _ 126 rfl (by decide) rfl rfl ?_
                        refine qr_iload 128 rfl (qm_gk (qm_ge _ _ _) (by decide) (Or.inr rfl)) rfl ?_
                        refine qr_if_eq 170 131 rfl rfl rfl (by decide) (fun h1391 => ?_) (fun h => False.elim (by omega))
                        refine qr_iconst 171 rfl rfl ?_
                        refine qr_istore _ 173 rfl (by decide) rfl rfl ?_
                        refine qr_iload 175 rfl (qm_ge _ _ _) rfl ?_
                        refine qr_if_eq 215 178 rfl rfl rfl (by decide) (fun h1392 => ?_) (fun h => False.elim (by omega))
                        refine qr_goto 69 rfl rfl ?_
                        refine qr_iload 71 rfl (qm_ge _ _ _) rfl ?_
                        refine qr_if_eq 218 74 rfl rfl rfl (by decide) (fun h1393 => ?_) (fun h => False.elim (by omega))
                        refine qr_iload 220 rfl (qm_gk (qm_gk (qm_gk g1362 (by decide) (Or.inr rfl)) (by decide) (Or.inl (by decide))) (by decide) (Or.inr rfl)) rfl ?_
                        refine qr_retI rfl rfl (by decide) (by decide) ?_
                        have hw1394 : σ1366 86 6 = (σ1366 86 6) := rfl
                        exact ⟨_, _, rfl, hI1368, hF1369, u1363, rfl, (qrg hf1370 (by decide) (by decide)), (Or.inr (Or.inr (Or.inr (⟨by omega, (qpl_stop (fun hc => by obtain ⟨h1, h2, h3, h4⟩ := hc; omega)).symm.trans hx1372⟩))))⟩
                      · skip
                        refine qr_iconst 107 rfl rfl ?_
                        refine qr_goto 111 rfl rfl ?_
                        refine qr_istore _ 113 rfl (by decide) rfl rfl ?_
                        refine qr_bipush 115 rfl (by decide) rfl ?_
                        refine qr_iload_n 116 rfl (qm_gk g1359 (by decide) (Or.inl (by decide))) rfl ?_
                        refine qr_imul 117 rfl rfl ?_
                        refine qr_iload_n 118 rfl (qm_gk g1360 (by decide) (Or.inl (by decide))) rfl ?_
                        refine qr_iadd 119 rfl rfl ?_
                        refine qr_iconst 120 rfl rfl ?_
                        refine qr_iload 122 rfl (qm_gk g1362 (by decide) (Or.inr rfl)) rfl ?_
                        refine qr_imul 123 rfl rfl ?_
                        refine qr_iadd 124 rfl rfl ?_
                        refine qr_istore _ 126 rfl (by decide) rfl rfl ?_
                        refine qr_iload 128 rfl (qm_gk (qm_ge _ _ _) (by decide) (Or.inr rfl)) rfl ?_
                        refine qr_if_eq 170 131 rfl rfl rfl (by decide) (fun h => False.elim (by omega)) (fun h1395 => ?_)
                        refine qr_aload_n 132 rfl (qm_gk (qm_gk g1358 (by decide) (Or.inl (by decide))) (by decide) (Or.inl (by decide))) rfl ?_
                        refine qr_aload_n 133 rfl (qm_gk (qm_gk g1358 (by decide) (Or.inl (by decide))) (by decide) (Or.inl (by decide))) rfl ?_
                        refine qr_get 136 rfl rfl rfl (by decide) rfl ?_
                        refine qr_iload 138 rfl (qm_ge _ _ _) rfl ?_
                        refine qr_laload 139 rfl (by decide) rfl (by omega) (by decide) rfl ?_
                        refine qr_topL (fun v1396 hv1396 => ?_)
                        have hs1397 : (-9223372036854775808) ≤ v1396 ∧ v1396 ≤ 9223372036854775807 := by rw [hv1396]; exact hI1368.2.1 123 _ (show _ < 360 by omega)
                        refine qr_l2i 140 rfl rfl ?_
                        refine qy_canE (fun v1398 hv1398 hev1398 => ?_)
                        refine qr_aload_n 141 rfl (qm_gk (qm_gk g1358 (by decide) (Or.inl (by decide))) (by decide) (Or.inl (by decide))) rfl ?_
                        refine qr_get 144 rfl rfl rfl (by decide) rfl ?_
                        refine qr_iload 146 rfl (qm_ge _ _ _) rfl ?_
                        refine qr_iconst 147 rfl rfl ?_
                        refine qr_iadd 148 rfl rfl ?_
                        refine qr_laload 149 rfl (by decide) rfl (by omega) (by decide) rfl ?_
                        refine qr_topL (fun v1399 hv1399 => ?_)
                        have hs1400 : (-9223372036854775808) ≤ v1399 ∧ v1399 ≤ 9223372036854775807 := by rw [hv1399]; exact hI1368.2.1 123 _ (show _ < 360 by omega)
                        refine qr_l2i 150 rfl rfl ?_
                        refine qy_canE (fun v1401 hv1401 hev1401 => ?_)
                        refine qr_aload_n 151 rfl (qm_gk (qm_gk g1358 (by decide) (Or.inl (by decide))) (by decide) (Or.inl (by decide))) rfl ?_
                        as_aux_lemma =>
                          refine qr_get 154 rfl rfl rfl (by decide) rfl ?_
                          refine qr_iload 156 rfl (qm_ge _ _ _) rfl ?_
                          refine qr_iconst 157 rfl rfl ?_
                          refine qr_iadd 158 rfl rfl ?_
                          refine qr_laload 159 rfl (by decide) rfl (by omega) (by decide) rfl ?_
                          refine qr_topL (fun v1402 hv1402 => ?_)
                          have hs1403 : (-9223372036854775808) ≤ v1402 ∧ v1402 ≤ 9223372036854775807 := by rw [hv1402]; exact hI1368.2.1 123 _ (show _ < 360 by omega)
                          refine qr_l2i 160 rfl rfl ?_
                          refine qy_canE (fun v1404 hv1404 hev1404 => ?_)
                          refine qr_callN 163 rfl rfl rfl (sf_175_86 (d := d + 1) hI1368 hv1398 hv1401 hv1404) ?_
                          have hs1407 : 0 ≤ σ1366 86 6 ∧ σ1366 86 6 ≤ 32 := hI1368.1 86 6
                          rintro _ _ ⟨rfl, v1405, rfl, hv1405, hp1406⟩
                          show qr_W (qe L xs vb) (d + 3) qx_e177 _ (163, _, [.int (qz v1405)], qw σ1366 α1367 κ ρ, 0, 0)
                          have e1408 : v1398 = qpa (α 123) (60 * x1) (x2 + 3 * u1363) := (qna_i hev1398 (by omega)).trans (congrArg (fun t : Int => (qz t).toInt) (hv1396.trans ((congrFun (hF1369.2 123 (by decide)) _).trans (congrArg (fun j : Int => α 123 j.toNat) (by omega)))))
                          have e1409 : v1401 = qpa (α 123) (60 * x1) (x2 + 3 * u1363 + 1) := (qna_i hev1401 (by omega)).trans (congrArg (fun t : Int => (qz t).toInt) (hv1399.trans ((congrFun (hF1369.2 123 (by decide)) _).trans (congrArg (fun j : Int => α 123 j.toNat) (by omega)))))
                          have e1410 : v1404 = qpa (α 123) (60 * x1) (x2 + 3 * u1363 + 2) := (qna_i hev1404 (by omega)).trans (congrArg (fun t : Int => (qz t).toInt) (hv1402.trans ((congrFun (hF1369.2 123 (by decide)) _).trans (congrArg (fun j : Int => α 123 j.toNat) (by omega)))))
                          refine qr_if_eq 170 166 rfl rfl rfl (qrg hv1405 (by decide) (by decide)) (fun h1411 => ?_) (fun h1411 => ?_)
                          · skip
                            refine qr_iconst 171 rfl rfl ?_
                            refine qr_istore _ 173 rfl (by decide) rfl rfl ?_
                            refine qr_iload 175 rfl (qm_ge _ _ _) rfl ?_
                            refine qr_if_eq 215 178 rfl rfl rfl (by decide) (fun h1412 => ?_) (fun h => False.elim (by omega))
                            refine qr_goto 69 rfl rfl ?_
                            refine qr_iload 71 rfl (qm_ge _ _ _) rfl ?_
                            refine qr_if_eq 218 74 rfl rfl rfl (by decide) (fun h1413 => ?_) (fun h => False.elim (by omega))
                            refine qr_iload 220 rfl (qm_gk (qm_gk (qm_gk g1362 (by decide) (Or.inr rfl)) (by decide) (Or.inl (by decide))) (by decide) (Or.inr rfl)) rfl ?_
                            refine qr_retI rfl rfl (by decide) (by decide) ?_
                            have hw1414 : σ1366 86 6 = (σ1366 86 6) := rfl
                            exact ⟨_, _, rfl, hI1368, hF1369, u1363, rfl, (qrg hf1370 (by decide) (by decide)), (Or.inr (Or.inr (Or.inr (⟨by omega, (qpl_stop (fun hc => by obtain ⟨h1, h2, h3, h4⟩ := hc; unfold qfit at h4; rw [← e1408, ← e1409, ← e1410] at h4; omega)).symm.trans hx1372⟩))))⟩
                          · skip
                            refine qr_iconst 167 rfl rfl ?_
                            refine qr_goto 171 rfl rfl ?_
                            refine qr_istore _ 173 rfl (by decide) rfl rfl ?_
                            refine qr_iload 175 rfl (qm_ge _ _ _) rfl ?_
                            refine qr_if_eq 215 178 rfl rfl rfl (by decide) (fun h => False.elim (by omega)) (fun h1415 => ?_)
                            refine qr_aload_n 179 rfl (qm_gk (qm_gk (qm_gk g1358 (by decide) (Or.inl (by decide))) (by decide) (Or.inl (by decide))) (by decide) (Or.inl (by decide))) rfl ?_
                            refine qr_aload_n 180 rfl (qm_gk (qm_gk (qm_gk g1358 (by decide) (Or.inl (by decide))) (by decide) (Or.inl (by decide))) (by decide) (Or.inl (by decide))) rfl ?_
                            refine qr_get 183 rfl rfl rfl (by decide) rfl ?_
                            refine qr_iload 185 rfl (qm_gk (qm_ge _ _ _) (by decide) (Or.inl (by decide))) rfl ?_
                            refine qr_laload 186 rfl (by decide) rfl (by omega) (by decide) rfl ?_
                            refine qr_topL (fun v1416 hv1416 => ?_)
                            have hs1417 : (-9223372036854775808) ≤ v1416 ∧ v1416 ≤ 9223372036854775807 := by rw [hv1416]; exact hI1368.2.1 123 _ (show _ < 360 by omega)
                            refine qr_l2i 187 rfl rfl ?_
                            refine qy_canE (fun v1418 hv1418 hev1418 => ?_)
                            refine qr_aload_n 188 rfl (qm_gk (qm_gk (qm_gk g1358 (by decide) (Or.inl (by decide))) (by decide) (Or.inl (by decide))) (by decide) (Or.inl (by decide))) rfl ?_
                            refine qr_get 191 rfl rfl rfl (by decide) rfl ?_
                            refine qr_iload 193 rfl (qm_gk (qm_ge _ _ _) (by decide) (Or.inl (by decide))) rfl ?_
                            refine qr_iconst 194 rfl rfl ?_
                            refine qr_iadd 195 rfl rfl ?_
                            refine qr_laload 196 rfl (by decide) rfl (by omega) (by decide) rfl ?_
                            refine qr_topL (fun v1419 hv1419 => ?_)
                            have hs1420 : (-9223372036854775808) ≤ v1419 ∧ v1419 ≤ 9223372036854775807 := by rw [hv1419]; exact hI1368.2.1 123 _ (show _ < 360 by omega)
                            refine qr_l2i 197 rfl rfl ?_
                            refine qy_canE (fun v1421 hv1421 hev1421 => ?_)
                            refine qr_aload_n 198 rfl (qm_gk (qm_gk (qm_gk g1358 (by decide) (Or.inl (by decide))) (by decide) (Or.inl (by decide))) (by decide) (Or.inl (by decide))) rfl ?_
                            refine qr_get 201 rfl rfl rfl (by decide) rfl ?_
                            refine qr_iload 203 rfl (qm_gk (qm_ge _ _ _) (by decide) (Or.inl (by decide))) rfl ?_
                            refine qr_iconst 204 rfl rfl ?_
                            refine qr_iadd 205 rfl rfl ?_
                            refine qr_laload 206 rfl (by decide) rfl (by omega) (by decide) rfl ?_
                            refine qr_topL (fun v1422 hv1422 => ?_)
                            have hs1423 : (-9223372036854775808) ≤ v1422 ∧ v1422 ≤ 9223372036854775807 := by rw [hv1422]; exact hI1368.2.1 123 _ (show _ < 360 by omega)
                            refine qr_l2i 207 rfl rfl ?_
                            refine qy_canE (fun v1424 hv1424 hev1424 => ?_)
                            have e1425 : v1418 = qpa (α 123) (60 * x1) (x2 + 3 * u1363) := (qna_i hev1418 (by omega)).trans (congrArg (fun t : Int => (qz t).toInt) (hv1416.trans ((congrFun (hF1369.2 123 (by decide)) _).trans (congrArg (fun j : Int => α 123 j.toNat) (by omega)))))
                            have e1426 : v1421 = qpa (α 123) (60 * x1) (x2 + 3 * u1363 + 1) := (qna_i hev1421 (by omega)).trans (congrArg (fun t : Int => (qz t).toInt) (hv1419.trans ((congrFun (hF1369.2 123 (by decide)) _).trans (congrArg (fun j : Int => α 123 j.toNat) (by omega)))))
                            have e1427 : v1424 = qpa (α 123) (60 * x1) (x2 + 3 * u1363 + 2) := (qna_i hev1424 (by omega)).trans (congrArg (fun t : Int => (qz t).toInt) (hv1422.trans ((congrFun (hF1369.2 123 (by decide)) _).trans (congrArg (fun j : Int => α 123 j.toNat) (by omega)))))
                            have hs1428 : 0 ≤ σ1366 86 6 ∧ σ1366 86 6 ≤ 32 := hI1368.1 86 6
                            have hs1429 := e1408.trans e1425.symm
                            have hs1430 := e1409.trans e1426.symm
                            have hs1431 := e1410.trans e1427.symm
                            refine qr_callN 210 rfl rfl rfl (sf_174_86x (d := d + 0) hI1368 hv1418 hv1421 hv1424) ?_
                            rintro _ _ ⟨σ1434, α1435, rfl, hI1436, hG1437, v1432, rfl, hv1432, ha1433⟩
                            have hF1438 : qFr [(86, 6), (86, 15)] [87, 91, 92] σ α σ1434 α1435 := qFr_t hF1369 hG1437 (by decide) (by decide)
                            show qr_W (qe L xs vb) (d + 3) qx_e177 _ (210, _, [.int (qz v1432)], qw σ1434 α1435 κ ρ, 0, 0)
                            have hb1439 : (v1432 = σ1366 86 6 ∧ σ1434 86 6 = σ1366 86 6 + 1) ∧ α1435 91 = qzu (α1367 91) (v1432 : Int).toNat v1418 ∧ α1435 92 = qzu (α1367 92) (v1432 : Int).toNat v1421 := by
                              rcases ha1433 with ⟨⟨a1, a2, a3⟩, a4, a5⟩ | ⟨⟨a1, a2, a3, a4⟩, a5, a6⟩ | ⟨⟨a1, a2, a3, a4⟩, a5, a6⟩
                              · exact absurd (show ((v1418 = -1 ∨ (0 ≤ v1418 ∧ v1418 < σ1366 86 6)) ∧ 1 ≤ v1421 ∧ v1421 ≤ 99 ∧ (v1424 = 0 ∨ v1424 = 1)) by omega) a2
                              · exact absurd a3 (by omega)
                              · exact ⟨⟨a1, a4⟩, a5, a6⟩
                            refine qr_istore _ 212 rfl (by decide) rfl rfl ?_
                            refine qr_iinc _ 215 rfl (qm_gk (qm_gk (qm_gk (qm_gk g1362 (by decide) (Or.inr rfl)) (by decide) (Or.inl (by decide))) (by decide) (Or.inr rfl)) (by decide) (Or.inl (by decide))) (by decide) rfl rfl ?_
                            refine qr_goto 69 rfl rfl ?_
                            exact ih1375 _ (u1363 + 1) 1 σ1434 α1435 (by omega) (qm_gk (qm_gk (qm_gk (qm_gk (qm_gk g1358 (by decide) (Or.inl (by decide))) (by decide) (Or.inl (by decide))) (by decide) (Or.inl (by decide))) (by decide) (Or.inl (by decide))) (by decide) (Or.inl (by decide))) (qm_gk (qm_gk (qm_gk (qm_gk (qm_gk g1359 (by decide) (Or.inl (by decide))) (by decide) (Or.inl (by decide))) (by decide) (Or.inl (by decide))) (by decide) (Or.inl (by decide))) (by decide) (Or.inl (by decide))) (qm_gk (qm_gk (qm_gk (qm_gk (qm_gk g1360 (by decide) (Or.inl (by decide))) (by decide) (Or.inl (by decide))) (by decide) (Or.inl (by decide))) (by decide) (Or.inl (by decide))) (by decide) (Or.inl (by decide))) (qm_gk (qm_gk (qm_gk (qm_gk (qm_gk g1361 (by decide) (Or.inl (by decide))) (by decide) (Or.inl (by decide))) (by decide) (Or.inl (by decide))) (by decide) (Or.inl (by decide))) (by decide) (Or.inr rfl)) (qm_ge _ _ _) (qm_gk (qm_gk (qm_ge _ _ _) (by decide) (Or.inl (by decide))) (by decide) (Or.inl (by decide))) (by omega) (by decide) hI1436 hF1438 (by rw [hb1439.2.1, hb1439.2.2, hb1439.1.2, show (v1432 : Int).toNat = (σ1366 86 6 : Int).toNat by omega, e1425, e1426]; exact (qpl_go (m := (x3 - (u1363 + 1) : Int).toNat) (⟨by omega, by omega, by omega, by unfold qfit; rw [← e1408, ← e1409, ← e1410]; omega⟩) (by omega)).symm.trans hx1372) (by omega)
              exact hL1374 ((20 - 0 + 1 : Int)).toNat _ 0 1 σ α (by omega) rfl rfl rfl rfl rfl rfl (by decide) (by decide) hI hF0 (by rw [show (x3 - 0 : Int).toNat = (x3 : Int).toNat by omega]) (by omega)
        · skip
          refine qr_bipush 43 rfl (by decide) rfl ?_
          refine qr_retI rfl rfl (by decide) (by decide) ?_
          have hw1440 : σ 86 6 = (σ 86 6) := rfl
          exact ⟨_, _, rfl, hI, hF0, (-12), rfl, (by decide), (Or.inr (Or.inr (Or.inl ⟨by omega, rfl, rfl⟩)))⟩
    · skip
      refine qr_iconst 20 rfl rfl ?_
      refine qr_retI rfl rfl (by decide) (by decide) ?_
      have hw1441 : σ 86 6 = (σ 86 6) := rfl
      exact ⟨_, _, rfl, hI, hF0, (-1), rfl, (by decide), (Or.inl ⟨by omega, rfl, rfl⟩)⟩
end
section
/-! what both sides hold alike -/
def qpg (s n h : Int) : Prop := (s = 6 ∧ h = -1) ∨ (s = 5 ∧ h = n ∧ 0 ≤ n ∧ n ≤ 59) ∨ (0 ≤ s ∧ s ≤ 4 ∧ h = 60 + s)
def qR (σ α : Nat → Nat → Int) : Prop := σ 17 6 = σ 86 6 ∧ σ 27 7 = σ 86 16 ∧ σ 34 7 = σ 86 24 ∧ α 18 = α 91 ∧ α 19 = α 92 ∧ α 21 = α 93 ∧ α 46 = α 122 ∧ (∀ d : Nat, d < 6 → qpg (α 45 d) (α 47 d) (α 121 d)) ∧ (∀ d i : Nat, d < 6 → (i : Int) < α 46 d → α 48 (60 * d + i) = α 123 (60 * d + i))
def qR_S : List (Nat × Nat) := [(17, 6), (27, 7), (34, 7), (86, 6), (86, 16), (86, 24)]
def qR_R : List Nat := [18, 19, 21, 45, 46, 47, 48, 91, 92, 93, 121, 122, 123]
theorem qR_fr {S : List (Nat × Nat)} {R : List Nat} {σ α σ' α' : Nat → Nat → Int} (hG : qFr S R σ α σ' α') (hs : qR_S.all (fun x => !S.contains x) = true) (hr : qR_R.all (fun x => !R.contains x) = true) (h : qR σ α) : qR σ' α' := by
  have es : ∀ a k, (a, k) ∈ qR_S → σ' a k = σ a k := fun a k hm => hG.1 a k (fun hn => by
    have h1 := List.all_eq_true.mp hs (a, k) hm
    rw [List.contains_iff_mem.mpr hn] at h1
    exact absurd h1 (by decide))
  have er : ∀ a, a ∈ qR_R → α' a = α a := fun a hm => hG.2 a (fun hn => by
    have h1 := List.all_eq_true.mp hr a hm
    rw [List.contains_iff_mem.mpr hn] at h1
    exact absurd h1 (by decide))
  unfold qR
  rw [es 17 6 (by decide), es 86 6 (by decide), es 27 7 (by decide), es 86 16 (by decide), es 34 7 (by decide), es 86 24 (by decide), er 18 (by decide), er 19 (by decide), er 21 (by decide), er 45 (by decide), er 46 (by decide), er 47 (by decide), er 48 (by decide), er 91 (by decide), er 92 (by decide), er 93 (by decide), er 121 (by decide), er 122 (by decide), er 123 (by decide)]
  exact h

set_option maxHeartbeats 4000000 in
theorem rl_person {σ α σ1 α1 σ2 α2 : Nat → Nat → Int} {κ : Nat → Option Nat} {ρ : Nat} {x1 x2 x3 v1 v2 : Int} (hI : qI σ α κ ρ) (hR : qR σ α) (hG1 : qFr [(17, 6)] [18, 19, 20, 22] σ α σ1 α1) (hG2 : qFr [(86, 6), (86, 15)] [87, 91, 92] σ1 α1 σ2 α2) (hx : ((v1 = -1 ∧ ¬ ((x1 = -1 ∨ (0 ≤ x1 ∧ x1 < σ 17 6)) ∧ 1 ≤ x2 ∧ x2 ≤ 99 ∧ (x3 = 0 ∨ x3 = 1)) ∧ σ1 17 6 = σ 17 6) ∧ α1 18 = α 18 ∧ α1 19 = α 19) ∨ ((v1 = -3 ∧ ((x1 = -1 ∨ (0 ≤ x1 ∧ x1 < σ 17 6)) ∧ 1 ≤ x2 ∧ x2 ≤ 99 ∧ (x3 = 0 ∨ x3 = 1)) ∧ 32 ≤ σ 17 6 ∧ σ1 17 6 = σ 17 6) ∧ α1 18 = α 18 ∧ α1 19 = α 19) ∨ ((v1 = σ 17 6 ∧ ((x1 = -1 ∨ (0 ≤ x1 ∧ x1 < σ 17 6)) ∧ 1 ≤ x2 ∧ x2 ≤ 99 ∧ (x3 = 0 ∨ x3 = 1)) ∧ σ 17 6 < 32 ∧ σ1 17 6 = σ 17 6 + 1) ∧ α1 18 = qzu (α 18) (v1 : Int).toNat (x1) ∧ α1 19 = qzu (α 19) (v1 : Int).toNat (x2))) (hy : ((v2 = -1 ∧ ¬ ((x1 = -1 ∨ (0 ≤ x1 ∧ x1 < σ1 86 6)) ∧ 1 ≤ x2 ∧ x2 ≤ 99 ∧ (x3 = 0 ∨ x3 = 1)) ∧ σ2 86 6 = σ1 86 6) ∧ α2 91 = α1 91 ∧ α2 92 = α1 92) ∨ ((v2 = -3 ∧ ((x1 = -1 ∨ (0 ≤ x1 ∧ x1 < σ1 86 6)) ∧ 1 ≤ x2 ∧ x2 ≤ 99 ∧ (x3 = 0 ∨ x3 = 1)) ∧ 32 ≤ σ1 86 6 ∧ σ2 86 6 = σ1 86 6) ∧ α2 91 = α1 91 ∧ α2 92 = α1 92) ∨ ((v2 = σ1 86 6 ∧ ((x1 = -1 ∨ (0 ≤ x1 ∧ x1 < σ1 86 6)) ∧ 1 ≤ x2 ∧ x2 ≤ 99 ∧ (x3 = 0 ∨ x3 = 1)) ∧ σ1 86 6 < 32 ∧ σ2 86 6 = σ1 86 6 + 1) ∧ α2 91 = qzu (α1 91) (v2 : Int).toNat (x1) ∧ α2 92 = qzu (α1 92) (v2 : Int).toNat (x2))) : v1 = v2 ∧ qR σ2 α2 := by
  obtain ⟨r1, r2, r3, r4, r5, r6, r7, r8, r9⟩ := hR
  have d17_6 := hG2.1 17 6 (by decide)
  have c27_7 := hG1.1 27 7 (by decide)
  have d27_7 := hG2.1 27 7 (by decide)
  have c34_7 := hG1.1 34 7 (by decide)
  have d34_7 := hG2.1 34 7 (by decide)
  have c86_6 := hG1.1 86 6 (by decide)
  have c86_16 := hG1.1 86 16 (by decide)
  have d86_16 := hG2.1 86 16 (by decide)
  have c86_24 := hG1.1 86 24 (by decide)
  have d86_24 := hG2.1 86 24 (by decide)
  have d18 := hG2.2 18 (by decide)
  have d19 := hG2.2 19 (by decide)
  have c21 := hG1.2 21 (by decide)
  have d21 := hG2.2 21 (by decide)
  have c45 := hG1.2 45 (by decide)
  have d45 := hG2.2 45 (by decide)
  have c46 := hG1.2 46 (by decide)
  have d46 := hG2.2 46 (by decide)
  have c47 := hG1.2 47 (by decide)
  have d47 := hG2.2 47 (by decide)
  have c48 := hG1.2 48 (by decide)
  have d48 := hG2.2 48 (by decide)
  have c91 := hG1.2 91 (by decide)
  have c92 := hG1.2 92 (by decide)
  have c93 := hG1.2 93 (by decide)
  have d93 := hG2.2 93 (by decide)
  have c121 := hG1.2 121 (by decide)
  have d121 := hG2.2 121 (by decide)
  have c122 := hG1.2 122 (by decide)
  have d122 := hG2.2 122 (by decide)
  have c123 := hG1.2 123 (by decide)
  have d123 := hG2.2 123 (by decide)
  rcases hx with ⟨xn0, x18, x19⟩ | ⟨xn0, x18, x19⟩ | ⟨xn0, x18, x19⟩
  · rcases hy with ⟨yn0, y91, y92⟩ | ⟨yn0, y91, y92⟩ | ⟨yn0, y91, y92⟩
    · skip
      have hv : v1 = v2 := by omega
      refine ⟨hv, by omega, by omega, by omega, ?_, ?_, ?_, ?_, ?_, ?_⟩
      · exact by rw [d18, x18, y91, c91, r4]
      · exact by rw [d19, x19, y92, c92, r5]
      · exact by rw [d21, c21, d93, c93, r6]
      · exact by rw [d46, c46, d122, c122, r7]
      · exact (by rw [d45, c45, d47, c47, d121, c121]; exact r8)
      · exact (by rw [d46, c46, d48, c48, d123, c123]; exact r9)
    · exact False.elim (by omega)
    · exact False.elim (by omega)
  · rcases hy with ⟨yn0, y91, y92⟩ | ⟨yn0, y91, y92⟩ | ⟨yn0, y91, y92⟩
    · exact False.elim (by omega)
    · skip
      have hv : v1 = v2 := by omega
      refine ⟨hv, by omega, by omega, by omega, ?_, ?_, ?_, ?_, ?_, ?_⟩
      · exact by rw [d18, x18, y91, c91, r4]
      · exact by rw [d19, x19, y92, c92, r5]
      · exact by rw [d21, c21, d93, c93, r6]
      · exact by rw [d46, c46, d122, c122, r7]
      · exact (by rw [d45, c45, d47, c47, d121, c121]; exact r8)
      · exact (by rw [d46, c46, d48, c48, d123, c123]; exact r9)
    · exact False.elim (by omega)
  · rcases hy with ⟨yn0, y91, y92⟩ | ⟨yn0, y91, y92⟩ | ⟨yn0, y91, y92⟩
    · exact False.elim (by omega)
    · exact False.elim (by omega)
    · skip
      have hv : v1 = v2 := by omega
      refine ⟨hv, by omega, by omega, by omega, ?_, ?_, ?_, ?_, ?_, ?_⟩
      · exact by rw [d18, x18, y91, c91, r4, hv]
      · exact by rw [d19, x19, y92, c92, r5, hv]
      · exact by rw [d21, c21, d93, c93, r6]
      · exact by rw [d46, c46, d122, c122, r7]
      · exact (by rw [d45, c45, d47, c47, d121, c121]; exact r8)
      · exact (by rw [d46, c46, d48, c48, d123, c123]; exact r9)

set_option maxHeartbeats 4000000 in
theorem rl_feud {σ α σ1 α1 σ2 α2 : Nat → Nat → Int} {κ : Nat → Option Nat} {ρ : Nat} {x1 x2 x3 v1 v2 : Int} (hI : qI σ α κ ρ) (hR : qR σ α) (hG1 : qFr [(27, 7)] [28, 29, 30, 31, 32, 33] σ α σ1 α1) (hG2 : qFr [(86, 16)] [87, 97, 98, 99, 100, 101] σ1 α1 σ2 α2) (hx : ((v1 = -1 ∧ ¬ (0 ≤ x1 ∧ x1 / 100 < σ 17 6 ∧ x1 % 100 < σ 17 6 ∧ ¬ x1 / 100 = x1 % 100 ∧ 0 ≤ x2 ∧ x2 ≤ 2399 ∧ 0 ≤ x3 ∧ x3 ≤ 3999) ∧ σ1 27 7 = σ 27 7)) ∨ ((v1 = -3 ∧ (0 ≤ x1 ∧ x1 / 100 < σ 17 6 ∧ x1 % 100 < σ 17 6 ∧ ¬ x1 / 100 = x1 % 100 ∧ 0 ≤ x2 ∧ x2 ≤ 2399 ∧ 0 ≤ x3 ∧ x3 ≤ 3999) ∧ 40 ≤ σ 27 7 ∧ σ1 27 7 = σ 27 7)) ∨ ((v1 = σ 27 7 ∧ (0 ≤ x1 ∧ x1 / 100 < σ 17 6 ∧ x1 % 100 < σ 17 6 ∧ ¬ x1 / 100 = x1 % 100 ∧ 0 ≤ x2 ∧ x2 ≤ 2399 ∧ 0 ≤ x3 ∧ x3 ≤ 3999) ∧ σ 27 7 < 40 ∧ σ1 27 7 = σ 27 7 + 1))) (hy : ((v2 = -1 ∧ ¬ (0 ≤ x1 ∧ x1 / 100 < σ1 86 6 ∧ x1 % 100 < σ1 86 6 ∧ ¬ x1 / 100 = x1 % 100 ∧ 0 ≤ x2 ∧ x2 ≤ 2399 ∧ 0 ≤ x3 ∧ x3 ≤ 3999) ∧ σ2 86 16 = σ1 86 16)) ∨ ((v2 = -3 ∧ (0 ≤ x1 ∧ x1 / 100 < σ1 86 6 ∧ x1 % 100 < σ1 86 6 ∧ ¬ x1 / 100 = x1 % 100 ∧ 0 ≤ x2 ∧ x2 ≤ 2399 ∧ 0 ≤ x3 ∧ x3 ≤ 3999) ∧ 40 ≤ σ1 86 16 ∧ σ2 86 16 = σ1 86 16)) ∨ ((v2 = σ1 86 16 ∧ (0 ≤ x1 ∧ x1 / 100 < σ1 86 6 ∧ x1 % 100 < σ1 86 6 ∧ ¬ x1 / 100 = x1 % 100 ∧ 0 ≤ x2 ∧ x2 ≤ 2399 ∧ 0 ≤ x3 ∧ x3 ≤ 3999) ∧ σ1 86 16 < 40 ∧ σ2 86 16 = σ1 86 16 + 1))) : v1 = v2 ∧ qR σ2 α2 := by
  obtain ⟨r1, r2, r3, r4, r5, r6, r7, r8, r9⟩ := hR
  have c17_6 := hG1.1 17 6 (by decide)
  have d17_6 := hG2.1 17 6 (by decide)
  have d27_7 := hG2.1 27 7 (by decide)
  have c34_7 := hG1.1 34 7 (by decide)
  have d34_7 := hG2.1 34 7 (by decide)
  have c86_6 := hG1.1 86 6 (by decide)
  have d86_6 := hG2.1 86 6 (by decide)
  have c86_16 := hG1.1 86 16 (by decide)
  have c86_24 := hG1.1 86 24 (by decide)
  have d86_24 := hG2.1 86 24 (by decide)
  have c18 := hG1.2 18 (by decide)
  have d18 := hG2.2 18 (by decide)
  have c19 := hG1.2 19 (by decide)
  have d19 := hG2.2 19 (by decide)
  have c21 := hG1.2 21 (by decide)
  have d21 := hG2.2 21 (by decide)
  have c45 := hG1.2 45 (by decide)
  have d45 := hG2.2 45 (by decide)
  have c46 := hG1.2 46 (by decide)
  have d46 := hG2.2 46 (by decide)
  have c47 := hG1.2 47 (by decide)
  have d47 := hG2.2 47 (by decide)
  have c48 := hG1.2 48 (by decide)
  have d48 := hG2.2 48 (by decide)
  have c91 := hG1.2 91 (by decide)
  have d91 := hG2.2 91 (by decide)
  have c92 := hG1.2 92 (by decide)
  have d92 := hG2.2 92 (by decide)
  have c93 := hG1.2 93 (by decide)
  have d93 := hG2.2 93 (by decide)
  have c121 := hG1.2 121 (by decide)
  have d121 := hG2.2 121 (by decide)
  have c122 := hG1.2 122 (by decide)
  have d122 := hG2.2 122 (by decide)
  have c123 := hG1.2 123 (by decide)
  have d123 := hG2.2 123 (by decide)
  rcases hx with xn0 | xn0 | xn0
  · rcases hy with yn0 | yn0 | yn0
    · skip
      have hv : v1 = v2 := by omega
      refine ⟨hv, by omega, by omega, by omega, ?_, ?_, ?_, ?_, ?_, ?_⟩
      · exact by rw [d18, c18, d91, c91, r4]
      · exact by rw [d19, c19, d92, c92, r5]
      · exact by rw [d21, c21, d93, c93, r6]
      · exact by rw [d46, c46, d122, c122, r7]
      · exact (by rw [d45, c45, d47, c47, d121, c121]; exact r8)
      · exact (by rw [d46, c46, d48, c48, d123, c123]; exact r9)
    · exact False.elim (by omega)
    · exact False.elim (by omega)
  · rcases hy with yn0 | yn0 | yn0
    · exact False.elim (by omega)
    · skip
      have hv : v1 = v2 := by omega
      refine ⟨hv, by omega, by omega, by omega, ?_, ?_, ?_, ?_, ?_, ?_⟩
      · exact by rw [d18, c18, d91, c91, r4]
      · exact by rw [d19, c19, d92, c92, r5]
      · exact by rw [d21, c21, d93, c93, r6]
      · exact by rw [d46, c46, d122, c122, r7]
      · exact (by rw [d45, c45, d47, c47, d121, c121]; exact r8)
      · exact (by rw [d46, c46, d48, c48, d123, c123]; exact r9)
    · exact False.elim (by omega)
  · rcases hy with yn0 | yn0 | yn0
    · exact False.elim (by omega)
    · exact False.elim (by omega)
    · skip
      have hv : v1 = v2 := by omega
      refine ⟨hv, by omega, by omega, by omega, ?_, ?_, ?_, ?_, ?_, ?_⟩
      · exact by rw [d18, c18, d91, c91, r4]
      · exact by rw [d19, c19, d92, c92, r5]
      · exact by rw [d21, c21, d93, c93, r6]
      · exact by rw [d46, c46, d122, c122, r7]
      · exact (by rw [d45, c45, d47, c47, d121, c121]; exact r8)
      · exact (by rw [d46, c46, d48, c48, d123, c123]; exact r9)

set_option maxHeartbeats 4000000 in
theorem rl_peace {σ α σ1 α1 σ2 α2 : Nat → Nat → Int} {κ : Nat → Option Nat} {ρ : Nat} {x1 x2 x3 x4 v1 v2 : Int} (hI : qI σ α κ ρ) (hR : qR σ α) (hG1 : qFr [(34, 7)] [35, 36, 37, 38, 39, 40, 41] σ α σ1 α1) (hG2 : qFr [(86, 24)] [87, 102, 103, 104, 105] σ1 α1 σ2 α2) (hx : ((v1 = -1 ∧ ¬ (0 ≤ x1 ∧ x1 % 10 ≤ 5 ∧ x1 / 10 < σ 17 6 ∧ 0 ≤ x2 ∧ x2 ≤ 4294967295 ∧ 0 ≤ x3 ∧ x3 / 10000 ≤ x3 % 10000 ∧ x3 % 10000 ≤ 2399 ∧ 0 ≤ x4 ∧ x4 ≤ 240) ∧ σ1 34 7 = σ 34 7)) ∨ ((v1 = -3 ∧ (0 ≤ x1 ∧ x1 % 10 ≤ 5 ∧ x1 / 10 < σ 17 6 ∧ 0 ≤ x2 ∧ x2 ≤ 4294967295 ∧ 0 ≤ x3 ∧ x3 / 10000 ≤ x3 % 10000 ∧ x3 % 10000 ≤ 2399 ∧ 0 ≤ x4 ∧ x4 ≤ 240) ∧ 60 ≤ σ 34 7 ∧ σ1 34 7 = σ 34 7)) ∨ ((v1 = σ 34 7 ∧ (0 ≤ x1 ∧ x1 % 10 ≤ 5 ∧ x1 / 10 < σ 17 6 ∧ 0 ≤ x2 ∧ x2 ≤ 4294967295 ∧ 0 ≤ x3 ∧ x3 / 10000 ≤ x3 % 10000 ∧ x3 % 10000 ≤ 2399 ∧ 0 ≤ x4 ∧ x4 ≤ 240) ∧ σ 34 7 < 60 ∧ σ1 34 7 = σ 34 7 + 1))) (hy : ((v2 = -1 ∧ ¬ (0 ≤ x1 ∧ x1 % 10 ≤ 5 ∧ x1 / 10 < σ1 86 6 ∧ 0 ≤ x2 ∧ x2 ≤ 4294967295 ∧ 0 ≤ x3 ∧ x3 / 10000 ≤ x3 % 10000 ∧ x3 % 10000 ≤ 2399 ∧ 0 ≤ x4 ∧ x4 ≤ 240) ∧ σ2 86 24 = σ1 86 24)) ∨ ((v2 = -3 ∧ (0 ≤ x1 ∧ x1 % 10 ≤ 5 ∧ x1 / 10 < σ1 86 6 ∧ 0 ≤ x2 ∧ x2 ≤ 4294967295 ∧ 0 ≤ x3 ∧ x3 / 10000 ≤ x3 % 10000 ∧ x3 % 10000 ≤ 2399 ∧ 0 ≤ x4 ∧ x4 ≤ 240) ∧ 60 ≤ σ1 86 24 ∧ σ2 86 24 = σ1 86 24)) ∨ ((v2 = σ1 86 24 ∧ (0 ≤ x1 ∧ x1 % 10 ≤ 5 ∧ x1 / 10 < σ1 86 6 ∧ 0 ≤ x2 ∧ x2 ≤ 4294967295 ∧ 0 ≤ x3 ∧ x3 / 10000 ≤ x3 % 10000 ∧ x3 % 10000 ≤ 2399 ∧ 0 ≤ x4 ∧ x4 ≤ 240) ∧ σ1 86 24 < 60 ∧ σ2 86 24 = σ1 86 24 + 1))) : v1 = v2 ∧ qR σ2 α2 := by
  obtain ⟨r1, r2, r3, r4, r5, r6, r7, r8, r9⟩ := hR
  have c17_6 := hG1.1 17 6 (by decide)
  have d17_6 := hG2.1 17 6 (by decide)
  have c27_7 := hG1.1 27 7 (by decide)
  have d27_7 := hG2.1 27 7 (by decide)
  have d34_7 := hG2.1 34 7 (by decide)
  have c86_6 := hG1.1 86 6 (by decide)
  have d86_6 := hG2.1 86 6 (by decide)
  have c86_16 := hG1.1 86 16 (by decide)
  have d86_16 := hG2.1 86 16 (by decide)
  have c86_24 := hG1.1 86 24 (by decide)
  have c18 := hG1.2 18 (by decide)
  have d18 := hG2.2 18 (by decide)
  have c19 := hG1.2 19 (by decide)
  have d19 := hG2.2 19 (by decide)
  have c21 := hG1.2 21 (by decide)
  have d21 := hG2.2 21 (by decide)
  have c45 := hG1.2 45 (by decide)
  have d45 := hG2.2 45 (by decide)
  have c46 := hG1.2 46 (by decide)
  have d46 := hG2.2 46 (by decide)
  have c47 := hG1.2 47 (by decide)
  have d47 := hG2.2 47 (by decide)
  have c48 := hG1.2 48 (by decide)
  have d48 := hG2.2 48 (by decide)
  have c91 := hG1.2 91 (by decide)
  have d91 := hG2.2 91 (by decide)
  have c92 := hG1.2 92 (by decide)
  have d92 := hG2.2 92 (by decide)
  have c93 := hG1.2 93 (by decide)
  have d93 := hG2.2 93 (by decide)
  have c121 := hG1.2 121 (by decide)
  have d121 := hG2.2 121 (by decide)
  have c122 := hG1.2 122 (by decide)
  have d122 := hG2.2 122 (by decide)
  have c123 := hG1.2 123 (by decide)
  have d123 := hG2.2 123 (by decide)
  rcases hx with xn0 | xn0 | xn0
  · rcases hy with yn0 | yn0 | yn0
    · skip
      have hv : v1 = v2 := by omega
      refine ⟨hv, by omega, by omega, by omega, ?_, ?_, ?_, ?_, ?_, ?_⟩
      · exact by rw [d18, c18, d91, c91, r4]
      · exact by rw [d19, c19, d92, c92, r5]
      · exact by rw [d21, c21, d93, c93, r6]
      · exact by rw [d46, c46, d122, c122, r7]
      · exact (by rw [d45, c45, d47, c47, d121, c121]; exact r8)
      · exact (by rw [d46, c46, d48, c48, d123, c123]; exact r9)
    · exact False.elim (by omega)
    · exact False.elim (by omega)
  · rcases hy with yn0 | yn0 | yn0
    · exact False.elim (by omega)
    · skip
      have hv : v1 = v2 := by omega
      refine ⟨hv, by omega, by omega, by omega, ?_, ?_, ?_, ?_, ?_, ?_⟩
      · exact by rw [d18, c18, d91, c91, r4]
      · exact by rw [d19, c19, d92, c92, r5]
      · exact by rw [d21, c21, d93, c93, r6]
      · exact by rw [d46, c46, d122, c122, r7]
      · exact (by rw [d45, c45, d47, c47, d121, c121]; exact r8)
      · exact (by rw [d46, c46, d48, c48, d123, c123]; exact r9)
    · exact False.elim (by omega)
  · rcases hy with yn0 | yn0 | yn0
    · exact False.elim (by omega)
    · exact False.elim (by omega)
    · skip
      have hv : v1 = v2 := by omega
      refine ⟨hv, by omega, by omega, by omega, ?_, ?_, ?_, ?_, ?_, ?_⟩
      · exact by rw [d18, c18, d91, c91, r4]
      · exact by rw [d19, c19, d92, c92, r5]
      · exact by rw [d21, c21, d93, c93, r6]
      · exact by rw [d46, c46, d122, c122, r7]
      · exact (by rw [d45, c45, d47, c47, d121, c121]; exact r8)
      · exact (by rw [d46, c46, d48, c48, d123, c123]; exact r9)

set_option maxHeartbeats 4000000 in
theorem rl_road {σ α σ1 α1 σ2 α2 : Nat → Nat → Int} {κ : Nat → Option Nat} {ρ : Nat} {x1 x2 v1 v2 : Int} (hI : qI σ α κ ρ) (hR : qR σ α) (hG1 : qFr [] [21] σ α σ1 α1) (hG2 : qFr [] [93] σ1 α1 σ2 α2) (hx : ((v1 = -1 ∧ ¬ (0 ≤ x1 ∧ x1 < σ 17 6 ∧ 0 ≤ x2 ∧ x2 ≤ 3)) ∧ α1 21 = α 21) ∨ (((0 ≤ x1 ∧ x1 < σ 17 6 ∧ 0 ≤ x2 ∧ x2 ≤ 3) ∧ v1 = α 21 (x1 : Int).toNat) ∧ α1 21 = qzu (α 21) (x1 : Int).toNat (x2))) (hy : ((v2 = -1 ∧ ¬ (0 ≤ x1 ∧ x1 < σ1 86 6 ∧ 0 ≤ x2 ∧ x2 ≤ 3)) ∧ α2 93 = α1 93) ∨ (((0 ≤ x1 ∧ x1 < σ1 86 6 ∧ 0 ≤ x2 ∧ x2 ≤ 3) ∧ v2 = α1 93 (x1 : Int).toNat) ∧ α2 93 = qzu (α1 93) (x1 : Int).toNat (x2))) : v1 = v2 ∧ qR σ2 α2 := by
  obtain ⟨r1, r2, r3, r4, r5, r6, r7, r8, r9⟩ := hR
  have c17_6 := hG1.1 17 6 (by decide)
  have d17_6 := hG2.1 17 6 (by decide)
  have c27_7 := hG1.1 27 7 (by decide)
  have d27_7 := hG2.1 27 7 (by decide)
  have c34_7 := hG1.1 34 7 (by decide)
  have d34_7 := hG2.1 34 7 (by decide)
  have c86_6 := hG1.1 86 6 (by decide)
  have d86_6 := hG2.1 86 6 (by decide)
  have c86_16 := hG1.1 86 16 (by decide)
  have d86_16 := hG2.1 86 16 (by decide)
  have c86_24 := hG1.1 86 24 (by decide)
  have d86_24 := hG2.1 86 24 (by decide)
  have c18 := hG1.2 18 (by decide)
  have d18 := hG2.2 18 (by decide)
  have c19 := hG1.2 19 (by decide)
  have d19 := hG2.2 19 (by decide)
  have d21 := hG2.2 21 (by decide)
  have c45 := hG1.2 45 (by decide)
  have d45 := hG2.2 45 (by decide)
  have c46 := hG1.2 46 (by decide)
  have d46 := hG2.2 46 (by decide)
  have c47 := hG1.2 47 (by decide)
  have d47 := hG2.2 47 (by decide)
  have c48 := hG1.2 48 (by decide)
  have d48 := hG2.2 48 (by decide)
  have c91 := hG1.2 91 (by decide)
  have d91 := hG2.2 91 (by decide)
  have c92 := hG1.2 92 (by decide)
  have d92 := hG2.2 92 (by decide)
  have c93 := hG1.2 93 (by decide)
  have c121 := hG1.2 121 (by decide)
  have d121 := hG2.2 121 (by decide)
  have c122 := hG1.2 122 (by decide)
  have d122 := hG2.2 122 (by decide)
  have c123 := hG1.2 123 (by decide)
  have d123 := hG2.2 123 (by decide)
  rcases hx with ⟨xn0, x21⟩ | ⟨xn0, x21⟩
  · rcases hy with ⟨yn0, y93⟩ | ⟨yn0, y93⟩
    · skip
      have hv : v1 = v2 := by omega
      refine ⟨hv, by omega, by omega, by omega, ?_, ?_, ?_, ?_, ?_, ?_⟩
      · exact by rw [d18, c18, d91, c91, r4]
      · exact by rw [d19, c19, d92, c92, r5]
      · exact by rw [d21, x21, y93, c93, r6]
      · exact by rw [d46, c46, d122, c122, r7]
      · exact (by rw [d45, c45, d47, c47, d121, c121]; exact r8)
      · exact (by rw [d46, c46, d48, c48, d123, c123]; exact r9)
    · exact False.elim (by omega)
  · rcases hy with ⟨yn0, y93⟩ | ⟨yn0, y93⟩
    · exact False.elim (by omega)
    · skip
      have e93 : α 21 (x1 : Int).toNat = α 93 (x1 : Int).toNat := by rw [r6]
      rw [c93] at yn0
      have hv : v1 = v2 := by omega
      refine ⟨hv, by omega, by omega, by omega, ?_, ?_, ?_, ?_, ?_, ?_⟩
      · exact by rw [d18, c18, d91, c91, r4]
      · exact by rw [d19, c19, d92, c92, r5]
      · exact by rw [d21, x21, y93, c93, r6]
      · exact by rw [d46, c46, d122, c122, r7]
      · exact (by rw [d45, c45, d47, c47, d121, c121]; exact r8)
      · exact (by rw [d46, c46, d48, c48, d123, c123]; exact r9)

set_option maxHeartbeats 4000000 in
theorem rl_keep {σ α σ1 α1 σ2 α2 : Nat → Nat → Int} {κ : Nat → Option Nat} {ρ : Nat} {x1 x2 v1 v2 : Int} (hI : qI σ α κ ρ) (hR : qR σ α) (hG1 : qFr [] [45, 46, 47] σ α σ1 α1) (hG2 : qFr [] [121, 122] σ1 α1 σ2 α2) (hx : ((v1 = -1 ∧ ¬ (0 ≤ x1 ∧ x1 ≤ 5 ∧ (x2 = -1 ∨ (0 ≤ x2 ∧ x2 < σ 34 7)))) ∧ α1 45 = α 45 ∧ α1 46 = α 46 ∧ α1 47 = α 47) ∨ ((v1 = 1 ∧ (0 ≤ x1 ∧ x1 ≤ 5 ∧ (x2 = -1 ∨ (0 ≤ x2 ∧ x2 < σ 34 7)))) ∧ α1 45 = qzu (α 45) (x1 : Int).toNat (if x2 < 0 then 6 else 5) ∧ α1 46 = qzu (α 46) (x1 : Int).toNat (0) ∧ α1 47 = qzu (α 47) (x1 : Int).toNat (x2))) (hy : ((v2 = -1 ∧ ¬ (0 ≤ x1 ∧ x1 ≤ 5 ∧ (x2 = -1 ∨ (0 ≤ x2 ∧ x2 < σ1 86 24)))) ∧ α2 121 = α1 121 ∧ α2 122 = α1 122) ∨ ((v2 = 1 ∧ (0 ≤ x1 ∧ x1 ≤ 5 ∧ (x2 = -1 ∨ (0 ≤ x2 ∧ x2 < σ1 86 24)))) ∧ α2 121 = qzu (α1 121) (x1 : Int).toNat (x2) ∧ α2 122 = qzu (α1 122) (x1 : Int).toNat (0))) : v1 = v2 ∧ qR σ2 α2 := by
  obtain ⟨r1, r2, r3, r4, r5, r6, r7, r8, r9⟩ := hR
  have c17_6 := hG1.1 17 6 (by decide)
  have d17_6 := hG2.1 17 6 (by decide)
  have c27_7 := hG1.1 27 7 (by decide)
  have d27_7 := hG2.1 27 7 (by decide)
  have c34_7 := hG1.1 34 7 (by decide)
  have d34_7 := hG2.1 34 7 (by decide)
  have c86_6 := hG1.1 86 6 (by decide)
  have d86_6 := hG2.1 86 6 (by decide)
  have c86_16 := hG1.1 86 16 (by decide)
  have d86_16 := hG2.1 86 16 (by decide)
  have c86_24 := hG1.1 86 24 (by decide)
  have d86_24 := hG2.1 86 24 (by decide)
  have c18 := hG1.2 18 (by decide)
  have d18 := hG2.2 18 (by decide)
  have c19 := hG1.2 19 (by decide)
  have d19 := hG2.2 19 (by decide)
  have c21 := hG1.2 21 (by decide)
  have d21 := hG2.2 21 (by decide)
  have d45 := hG2.2 45 (by decide)
  have d46 := hG2.2 46 (by decide)
  have d47 := hG2.2 47 (by decide)
  have c48 := hG1.2 48 (by decide)
  have d48 := hG2.2 48 (by decide)
  have c91 := hG1.2 91 (by decide)
  have d91 := hG2.2 91 (by decide)
  have c92 := hG1.2 92 (by decide)
  have d92 := hG2.2 92 (by decide)
  have c93 := hG1.2 93 (by decide)
  have d93 := hG2.2 93 (by decide)
  have c121 := hG1.2 121 (by decide)
  have c122 := hG1.2 122 (by decide)
  have c123 := hG1.2 123 (by decide)
  have d123 := hG2.2 123 (by decide)
  have hs : 0 ≤ σ 34 7 ∧ σ 34 7 ≤ 60 := hI.1 34 7
  rcases hx with ⟨xn0, x45, x46, x47⟩ | ⟨xn0, x45, x46, x47⟩
  · rcases hy with ⟨yn0, y121, y122⟩ | ⟨yn0, y121, y122⟩
    · skip
      have hv : v1 = v2 := by omega
      refine ⟨hv, by omega, by omega, by omega, ?_, ?_, ?_, ?_, ?_, ?_⟩
      · exact by rw [d18, c18, d91, c91, r4]
      · exact by rw [d19, c19, d92, c92, r5]
      · exact by rw [d21, c21, d93, c93, r6]
      · exact by rw [d46, x46, y122, c122, r7]
      · exact (by rw [d45, x45, d47, x47, y121, c121]; exact r8)
      · exact (by rw [d46, x46, d48, c48, d123, c123]; exact r9)
    · exact False.elim (by omega)
  · rcases hy with ⟨yn0, y121, y122⟩ | ⟨yn0, y121, y122⟩
    · exact False.elim (by omega)
    · skip
      have hv : v1 = v2 := by omega
      refine ⟨hv, by omega, by omega, by omega, ?_, ?_, ?_, ?_, ?_, ?_⟩
      · exact by rw [d18, c18, d91, c91, r4]
      · exact by rw [d19, c19, d92, c92, r5]
      · exact by rw [d21, c21, d93, c93, r6]
      · exact by rw [d46, x46, y122, c122, r7]
      · intro d hd
        have h8 := r8 d hd
        rw [d45, x45, d47, x47, y121, c121]
        unfold qzu
        by_cases e : d = (x1 : Int).toNat
        · rw [if_pos e, if_pos e, if_pos e]
          unfold qpg
          by_cases e2 : x2 < 0
          · rw [if_pos e2]; omega
          · rw [if_neg e2]; omega
        · rw [if_neg e, if_neg e, if_neg e]
          exact h8
      · intro d i hd hi
        rw [d46, x46] at hi
        rw [d48, c48, d123, c123]
        unfold qzu at hi
        by_cases e : d = (x1 : Int).toNat
        · rw [if_pos e] at hi; omega
        · rw [if_neg e] at hi; exact r9 d i hd hi

set_option maxHeartbeats 4000000 in
theorem rl_row {σ α σ1 α1 σ2 α2 : Nat → Nat → Int} {κ : Nat → Option Nat} {ρ : Nat} {x1 x2 x3 v1 v2 : Int} (hI : qI σ α κ ρ) (hR : qR σ α) (hG1 : qFr [] [45, 46, 48] σ α σ1 α1) (hG2 : qFr [] [121, 122, 123] σ1 α1 σ2 α2) (hx : ((v1 = -1 ∧ ¬ (0 ≤ x1 ∧ x1 ≤ 5 ∧ 0 ≤ x2 ∧ x2 ≤ 4 ∧ x3 ≤ 60)) ∧ α1 45 = α 45 ∧ α1 46 = α 46 ∧ α1 48 = α 48) ∨ ((v1 = -14 ∧ (0 ≤ x1 ∧ x1 ≤ 5 ∧ 0 ≤ x2 ∧ x2 ≤ 4 ∧ x3 ≤ 60) ∧ x3 < 0) ∧ α1 45 = α 45 ∧ α1 46 = α 46 ∧ α1 48 = α 48) ∨ ((v1 = 1 ∧ (0 ≤ x1 ∧ x1 ≤ 5 ∧ 0 ≤ x2 ∧ x2 ≤ 4 ∧ x3 ≤ 60) ∧ 0 ≤ x3) ∧ α1 45 = qzu (α 45) (x1 : Int).toNat (x2) ∧ α1 46 = qzu (α 46) (x1 : Int).toNat (x3) ∧ α1 48 = qzfl (α 48) (x1 * 60 : Int).toNat (x3 : Int).toNat)) (hy : ((v2 = -1 ∧ ¬ (0 ≤ x1 ∧ x1 ≤ 5 ∧ 0 ≤ x2 ∧ x2 ≤ 4 ∧ x3 ≤ 60)) ∧ α2 121 = α1 121 ∧ α2 122 = α1 122 ∧ α2 123 = α1 123) ∨ ((v2 = -14 ∧ (0 ≤ x1 ∧ x1 ≤ 5 ∧ 0 ≤ x2 ∧ x2 ≤ 4 ∧ x3 ≤ 60) ∧ x3 < 0) ∧ α2 121 = α1 121 ∧ α2 122 = α1 122 ∧ α2 123 = α1 123) ∨ ((v2 = 1 ∧ (0 ≤ x1 ∧ x1 ≤ 5 ∧ 0 ≤ x2 ∧ x2 ≤ 4 ∧ x3 ≤ 60) ∧ 0 ≤ x3) ∧ α2 121 = qzu (α1 121) (x1 : Int).toNat (60 + x2) ∧ α2 122 = qzu (α1 122) (x1 : Int).toNat (x3) ∧ α2 123 = qzfl (α1 123) (60 * x1 : Int).toNat 60)) : v1 = v2 ∧ qR σ2 α2 := by
  obtain ⟨r1, r2, r3, r4, r5, r6, r7, r8, r9⟩ := hR
  have c17_6 := hG1.1 17 6 (by decide)
  have d17_6 := hG2.1 17 6 (by decide)
  have c27_7 := hG1.1 27 7 (by decide)
  have d27_7 := hG2.1 27 7 (by decide)
  have c34_7 := hG1.1 34 7 (by decide)
  have d34_7 := hG2.1 34 7 (by decide)
  have c86_6 := hG1.1 86 6 (by decide)
  have d86_6 := hG2.1 86 6 (by decide)
  have c86_16 := hG1.1 86 16 (by decide)
  have d86_16 := hG2.1 86 16 (by decide)
  have c86_24 := hG1.1 86 24 (by decide)
  have d86_24 := hG2.1 86 24 (by decide)
  have c18 := hG1.2 18 (by decide)
  have d18 := hG2.2 18 (by decide)
  have c19 := hG1.2 19 (by decide)
  have d19 := hG2.2 19 (by decide)
  have c21 := hG1.2 21 (by decide)
  have d21 := hG2.2 21 (by decide)
  have d45 := hG2.2 45 (by decide)
  have d46 := hG2.2 46 (by decide)
  have c47 := hG1.2 47 (by decide)
  have d47 := hG2.2 47 (by decide)
  have d48 := hG2.2 48 (by decide)
  have c91 := hG1.2 91 (by decide)
  have d91 := hG2.2 91 (by decide)
  have c92 := hG1.2 92 (by decide)
  have d92 := hG2.2 92 (by decide)
  have c93 := hG1.2 93 (by decide)
  have d93 := hG2.2 93 (by decide)
  have c121 := hG1.2 121 (by decide)
  have c122 := hG1.2 122 (by decide)
  have c123 := hG1.2 123 (by decide)
  rcases hx with ⟨xn0, x45, x46, x48⟩ | ⟨xn0, x45, x46, x48⟩ | ⟨xn0, x45, x46, x48⟩
  · rcases hy with ⟨yn0, y121, y122, y123⟩ | ⟨yn0, y121, y122, y123⟩ | ⟨yn0, y121, y122, y123⟩
    · skip
      have hv : v1 = v2 := by omega
      refine ⟨hv, by omega, by omega, by omega, ?_, ?_, ?_, ?_, ?_, ?_⟩
      · exact by rw [d18, c18, d91, c91, r4]
      · exact by rw [d19, c19, d92, c92, r5]
      · exact by rw [d21, c21, d93, c93, r6]
      · exact by rw [d46, x46, y122, c122, r7]
      · exact (by rw [d45, x45, d47, c47, y121, c121]; exact r8)
      · exact (by rw [d46, x46, d48, x48, y123, c123]; exact r9)
    · exact False.elim (by omega)
    · exact False.elim (by omega)
  · rcases hy with ⟨yn0, y121, y122, y123⟩ | ⟨yn0, y121, y122, y123⟩ | ⟨yn0, y121, y122, y123⟩
    · exact False.elim (by omega)
    · skip
      have hv : v1 = v2 := by omega
      refine ⟨hv, by omega, by omega, by omega, ?_, ?_, ?_, ?_, ?_, ?_⟩
      · exact by rw [d18, c18, d91, c91, r4]
      · exact by rw [d19, c19, d92, c92, r5]
      · exact by rw [d21, c21, d93, c93, r6]
      · exact by rw [d46, x46, y122, c122, r7]
      · exact (by rw [d45, x45, d47, c47, y121, c121]; exact r8)
      · exact (by rw [d46, x46, d48, x48, y123, c123]; exact r9)
    · exact False.elim (by omega)
  · rcases hy with ⟨yn0, y121, y122, y123⟩ | ⟨yn0, y121, y122, y123⟩ | ⟨yn0, y121, y122, y123⟩
    · exact False.elim (by omega)
    · exact False.elim (by omega)
    · skip
      have hv : v1 = v2 := by omega
      refine ⟨hv, by omega, by omega, by omega, ?_, ?_, ?_, ?_, ?_, ?_⟩
      · exact by rw [d18, c18, d91, c91, r4]
      · exact by rw [d19, c19, d92, c92, r5]
      · exact by rw [d21, c21, d93, c93, r6]
      · exact by rw [d46, x46, y122, c122, r7]
      · intro d hd
        have h8 := r8 d hd
        rw [d45, x45, d47, c47, y121, c121]
        unfold qzu
        by_cases e : d = (x1 : Int).toNat
        · rw [if_pos e, if_pos e]
          unfold qpg
          omega
        · rw [if_neg e, if_neg e]
          exact h8
      · intro d i hd hi
        have hl : 0 ≤ α 46 d ∧ α 46 d ≤ 60 := hI.2.1 46 d hd
        rw [d46, x46] at hi
        rw [d48, x48, y123, c123]
        unfold qzu at hi
        unfold qzfl
        by_cases e : d = (x1 : Int).toNat
        · rw [if_pos e] at hi
          rw [if_pos (by omega), if_pos (by omega)]
        · rw [if_neg e] at hi
          rw [if_neg (by omega), if_neg (by omega)]
          exact r9 d i hd hi

set_option maxHeartbeats 4000000 in
theorem rl_put {σ α σ1 α1 σ2 α2 : Nat → Nat → Int} {κ : Nat → Option Nat} {ρ : Nat} {x1 x2 x3 v1 v2 : Int} (hI : qI σ α κ ρ) (hR : qR σ α) (hG1 : qFr [] [48] σ α σ1 α1) (hG2 : qFr [] [123] σ1 α1 σ2 α2) (hx : ((v1 = -1 ∧ ¬ (0 ≤ x1 ∧ x1 ≤ 5)) ∧ α1 48 = α 48) ∨ (((0 ≤ x1 ∧ x1 ≤ 5) ∧ ¬ v1 = 0 ∧ ((v1 = -11 ∧ α 45 (x1 : Int).toNat = 6) ∨ (v1 = -12 ∧ α 45 (x1 : Int).toNat = 5) ∨ (v1 = -13 ∧ α 45 (x1 : Int).toNat ≤ 4 ∧ ¬ (0 ≤ x2 ∧ x2 < α 46 (x1 : Int).toNat)) ∨ (v1 = 0 ∧ α 45 (x1 : Int).toNat ≤ 4 ∧ 0 ≤ x2 ∧ x2 < α 46 (x1 : Int).toNat))) ∧ α1 48 = α 48) ∨ ((v1 = 1 ∧ (0 ≤ x1 ∧ x1 ≤ 5) ∧ α 45 (x1 : Int).toNat ≤ 4 ∧ 0 ≤ x2 ∧ x2 < α 46 (x1 : Int).toNat) ∧ α1 48 = qzu (α 48) (x1 * 60 + x2 : Int).toNat (qnar (α 45 (x1 : Int).toNat) x3))) (hy : ((¬ v2 = 0 ∧ ((v2 = -1 ∧ ¬ (0 ≤ x1 ∧ x1 ≤ 5)) ∨ (v2 = -11 ∧ 0 ≤ x1 ∧ x1 ≤ 5 ∧ α1 121 (x1 : Int).toNat < 0) ∨ (v2 = -12 ∧ 0 ≤ x1 ∧ x1 ≤ 5 ∧ 0 ≤ α1 121 (x1 : Int).toNat ∧ α1 121 (x1 : Int).toNat < 60) ∨ (v2 = -13 ∧ 0 ≤ x1 ∧ x1 ≤ 5 ∧ 60 ≤ α1 121 (x1 : Int).toNat ∧ ¬ (0 ≤ x2 ∧ x2 < α1 122 (x1 : Int).toNat)) ∨ (v2 = 0 ∧ 0 ≤ x1 ∧ x1 ≤ 5 ∧ 60 ≤ α1 121 (x1 : Int).toNat ∧ 0 ≤ x2 ∧ x2 < α1 122 (x1 : Int).toNat))) ∧ α2 123 = α1 123) ∨ ((v2 = 1 ∧ (0 ≤ x1 ∧ x1 ≤ 5) ∧ 60 ≤ α1 121 (x1 : Int).toNat ∧ 0 ≤ x2 ∧ x2 < α1 122 (x1 : Int).toNat) ∧ α2 123 = qzu (α1 123) (60 * x1 + x2 : Int).toNat (qnar (α1 121 (x1 : Int).toNat - 60) x3))) : v1 = v2 ∧ qR σ2 α2 := by
  obtain ⟨r1, r2, r3, r4, r5, r6, r7, r8, r9⟩ := hR
  have c17_6 := hG1.1 17 6 (by decide)
  have d17_6 := hG2.1 17 6 (by decide)
  have c27_7 := hG1.1 27 7 (by decide)
  have d27_7 := hG2.1 27 7 (by decide)
  have c34_7 := hG1.1 34 7 (by decide)
  have d34_7 := hG2.1 34 7 (by decide)
  have c86_6 := hG1.1 86 6 (by decide)
  have d86_6 := hG2.1 86 6 (by decide)
  have c86_16 := hG1.1 86 16 (by decide)
  have d86_16 := hG2.1 86 16 (by decide)
  have c86_24 := hG1.1 86 24 (by decide)
  have d86_24 := hG2.1 86 24 (by decide)
  have c18 := hG1.2 18 (by decide)
  have d18 := hG2.2 18 (by decide)
  have c19 := hG1.2 19 (by decide)
  have d19 := hG2.2 19 (by decide)
  have c21 := hG1.2 21 (by decide)
  have d21 := hG2.2 21 (by decide)
  have c45 := hG1.2 45 (by decide)
  have d45 := hG2.2 45 (by decide)
  have c46 := hG1.2 46 (by decide)
  have d46 := hG2.2 46 (by decide)
  have c47 := hG1.2 47 (by decide)
  have d47 := hG2.2 47 (by decide)
  have d48 := hG2.2 48 (by decide)
  have c91 := hG1.2 91 (by decide)
  have d91 := hG2.2 91 (by decide)
  have c92 := hG1.2 92 (by decide)
  have d92 := hG2.2 92 (by decide)
  have c93 := hG1.2 93 (by decide)
  have d93 := hG2.2 93 (by decide)
  have c121 := hG1.2 121 (by decide)
  have d121 := hG2.2 121 (by decide)
  have c122 := hG1.2 122 (by decide)
  have d122 := hG2.2 122 (by decide)
  have c123 := hG1.2 123 (by decide)
  have hb : 0 ≤ x1 ∧ x1 ≤ 5 → qpg (α 45 (x1 : Int).toNat) (α 47 (x1 : Int).toNat) (α 121 (x1 : Int).toNat) := fun h => r8 _ (by omega)
  have hl : α 46 (x1 : Int).toNat = α 122 (x1 : Int).toNat := by rw [r7]
  rw [c121, c122] at hy
  unfold qpg at hb
  rcases hx with ⟨xn0, x48⟩ | ⟨xn0, x48⟩ | ⟨xn0, x48⟩
  · rcases hy with ⟨yn0, y123⟩ | ⟨yn0, y123⟩
    · skip
      have hv : v1 = v2 := by omega
      refine ⟨hv, by omega, by omega, by omega, ?_, ?_, ?_, ?_, ?_, ?_⟩
      · exact by rw [d18, c18, d91, c91, r4]
      · exact by rw [d19, c19, d92, c92, r5]
      · exact by rw [d21, c21, d93, c93, r6]
      · exact by rw [d46, c46, d122, c122, r7]
      · exact (by rw [d45, c45, d47, c47, d121, c121]; exact r8)
      · exact (by rw [d46, c46, d48, x48, y123, c123]; exact r9)
    · exact False.elim (by omega)
  · rcases hy with ⟨yn0, y123⟩ | ⟨yn0, y123⟩
    · skip
      have hv : v1 = v2 := by omega
      refine ⟨hv, by omega, by omega, by omega, ?_, ?_, ?_, ?_, ?_, ?_⟩
      · exact by rw [d18, c18, d91, c91, r4]
      · exact by rw [d19, c19, d92, c92, r5]
      · exact by rw [d21, c21, d93, c93, r6]
      · exact by rw [d46, c46, d122, c122, r7]
      · exact (by rw [d45, c45, d47, c47, d121, c121]; exact r8)
      · exact (by rw [d46, c46, d48, x48, y123, c123]; exact r9)
    · exact False.elim (by omega)
  · rcases hy with ⟨yn0, y123⟩ | ⟨yn0, y123⟩
    · exact False.elim (by omega)
    · skip
      have hv : v1 = v2 := by omega
      refine ⟨hv, by omega, by omega, by omega, ?_, ?_, ?_, ?_, ?_, ?_⟩
      · exact by rw [d18, c18, d91, c91, r4]
      · exact by rw [d19, c19, d92, c92, r5]
      · exact by rw [d21, c21, d93, c93, r6]
      · exact by rw [d46, c46, d122, c122, r7]
      · exact (by rw [d45, c45, d47, c47, d121, c121]; exact r8)
      · intro d i hd hi
        have hl2 : 0 ≤ α 46 d ∧ α 46 d ≤ 60 := hI.2.1 46 d hd
        have hl3 : 0 ≤ α 46 (x1 : Int).toNat ∧ α 46 (x1 : Int).toNat ≤ 60 := hI.2.1 46 _ (show (x1 : Int).toNat < 6 by omega)
        rw [d46, c46] at hi
        have h9 := r9 d i hd hi
        rw [d48, x48, y123, c123, show α 121 (x1 : Int).toNat - 60 = α 45 (x1 : Int).toNat by omega]
        unfold qzu
        by_cases e : 60 * d + i = (x1 * 60 + x2 : Int).toNat
        · rw [if_pos e, if_pos (by omega)]
        · rw [if_neg e, if_neg (by omega)]
          exact h9

set_option maxHeartbeats 4000000 in
theorem rl_element {σ α : Nat → Nat → Int} {κ : Nat → Option Nat} {ρ : Nat} {x1 x2 v1 v2 : Int} (hI : qI σ α κ ρ) (hR : qR σ α) (hx : ((v1 = -9223372036854775808 ∧ ¬ (0 ≤ x1 ∧ x1 ≤ 5 ∧ α 45 (x1 : Int).toNat ≤ 4 ∧ 0 ≤ x2 ∧ x2 < α 46 (x1 : Int).toNat)) ∨ ((0 ≤ x1 ∧ x1 ≤ 5 ∧ α 45 (x1 : Int).toNat ≤ 4 ∧ 0 ≤ x2 ∧ x2 < α 46 (x1 : Int).toNat) ∧ v1 = α 48 (x1 * 60 + x2 : Int).toNat))) (hy : ((v2 = -9223372036854775808 ∧ ¬ (0 ≤ x1 ∧ x1 ≤ 5 ∧ 60 ≤ α 121 (x1 : Int).toNat ∧ 0 ≤ x2 ∧ x2 < α 122 (x1 : Int).toNat)) ∨ ((0 ≤ x1 ∧ x1 ≤ 5 ∧ 60 ≤ α 121 (x1 : Int).toNat ∧ 0 ≤ x2 ∧ x2 < α 122 (x1 : Int).toNat) ∧ v2 = α 123 (60 * x1 + x2 : Int).toNat))) : v1 = v2 := by
  obtain ⟨r1, r2, r3, r4, r5, r6, r7, r8, r9⟩ := hR
  have hb : 0 ≤ x1 ∧ x1 ≤ 5 → qpg (α 45 (x1 : Int).toNat) (α 47 (x1 : Int).toNat) (α 121 (x1 : Int).toNat) := fun h => r8 _ (by omega)
  have hl : α 46 (x1 : Int).toNat = α 122 (x1 : Int).toNat := by rw [r7]
  unfold qpg at hb
  rcases hx with ⟨h1, h2⟩ | ⟨h1, h2⟩
  · rcases hy with ⟨k1, k2⟩ | ⟨k1, k2⟩
    · rw [h1, k1]
    · exact False.elim (by omega)
  · rcases hy with ⟨k1, k2⟩ | ⟨k1, k2⟩
    · exact False.elim (by omega)
    · have h9 := r9 (x1 : Int).toNat (x2 : Int).toNat (by omega) (by omega)
      rw [h2, k2, show (x1 * 60 + x2 : Int).toNat = 60 * (x1 : Int).toNat + (x2 : Int).toNat by omega, show (60 * x1 + x2 : Int).toNat = 60 * (x1 : Int).toNat + (x2 : Int).toNat by omega]
      exact h9

set_option maxHeartbeats 4000000 in
theorem rl_shift {σ α σ1 α1 σ2 α2 : Nat → Nat → Int} {κ : Nat → Option Nat} {ρ : Nat} {x1 x2 x3 x4 x5 v1 v2 : Int} (hI : qI σ α κ ρ) (hR : qR σ α) (hG1 : qFr [] [48] σ α σ1 α1) (hG2 : qFr [] [123, 124] σ1 α1 σ2 α2) (hx : ((v1 = -1 ∧ ¬ (0 ≤ x1 ∧ x1 ≤ 5 ∧ 0 ≤ x3 ∧ x3 ≤ 5)) ∧ α1 48 = α 48) ∨ ((v1 = -11 ∧ (0 ≤ x1 ∧ x1 ≤ 5 ∧ 0 ≤ x3 ∧ x3 ≤ 5) ∧ (α 45 (x1 : Int).toNat = 6 ∨ α 45 (x3 : Int).toNat = 6)) ∧ α1 48 = α 48) ∨ ((v1 = -12 ∧ (0 ≤ x1 ∧ x1 ≤ 5 ∧ 0 ≤ x3 ∧ x3 ≤ 5) ∧ ¬ (α 45 (x1 : Int).toNat = 6 ∨ α 45 (x3 : Int).toNat = 6) ∧ ¬ (α 45 (x1 : Int).toNat < 5 ∧ α 45 (x3 : Int).toNat = α 45 (x1 : Int).toNat)) ∧ α1 48 = α 48) ∨ ((v1 = -13 ∧ (0 ≤ x1 ∧ x1 ≤ 5 ∧ 0 ≤ x3 ∧ x3 ≤ 5) ∧ ¬ (α 45 (x1 : Int).toNat = 6 ∨ α 45 (x3 : Int).toNat = 6) ∧ (α 45 (x1 : Int).toNat < 5 ∧ α 45 (x3 : Int).toNat = α 45 (x1 : Int).toNat) ∧ ¬ (0 ≤ x2 ∧ 0 ≤ x5 ∧ x5 ≤ α 46 (x1 : Int).toNat ∧ x2 ≤ α 46 (x1 : Int).toNat - x5 ∧ 0 ≤ x4 ∧ x5 ≤ α 46 (x3 : Int).toNat ∧ x4 ≤ α 46 (x3 : Int).toNat - x5)) ∧ α1 48 = α 48) ∨ ((v1 = x5 ∧ (0 ≤ x1 ∧ x1 ≤ 5 ∧ 0 ≤ x3 ∧ x3 ≤ 5) ∧ ¬ (α 45 (x1 : Int).toNat = 6 ∨ α 45 (x3 : Int).toNat = 6) ∧ (α 45 (x1 : Int).toNat < 5 ∧ α 45 (x3 : Int).toNat = α 45 (x1 : Int).toNat) ∧ (0 ≤ x2 ∧ 0 ≤ x5 ∧ x5 ≤ α 46 (x1 : Int).toNat ∧ x2 ≤ α 46 (x1 : Int).toNat - x5 ∧ 0 ≤ x4 ∧ x5 ≤ α 46 (x3 : Int).toNat ∧ x4 ≤ α 46 (x3 : Int).toNat - x5)) ∧ α1 48 = va_cpy (α 48) (α 48) (x1 * 60 + x2 : Int).toNat (x3 * 60 + x4 : Int).toNat (x5 : Int).toNat)) (hy : ((v2 = -1 ∧ ¬ (0 ≤ x1 ∧ x1 ≤ 5 ∧ 0 ≤ x3 ∧ x3 ≤ 5)) ∧ α2 123 = α1 123) ∨ ((v2 = -11 ∧ (0 ≤ x1 ∧ x1 ≤ 5 ∧ 0 ≤ x3 ∧ x3 ≤ 5) ∧ (α1 121 (x1 : Int).toNat < 0 ∨ α1 121 (x3 : Int).toNat < 0)) ∧ α2 123 = α1 123) ∨ ((v2 = -12 ∧ (0 ≤ x1 ∧ x1 ≤ 5 ∧ 0 ≤ x3 ∧ x3 ≤ 5) ∧ ¬ (α1 121 (x1 : Int).toNat < 0 ∨ α1 121 (x3 : Int).toNat < 0) ∧ ¬ (60 ≤ α1 121 (x1 : Int).toNat ∧ α1 121 (x1 : Int).toNat = α1 121 (x3 : Int).toNat)) ∧ α2 123 = α1 123) ∨ ((v2 = -13 ∧ (0 ≤ x1 ∧ x1 ≤ 5 ∧ 0 ≤ x3 ∧ x3 ≤ 5) ∧ ¬ (α1 121 (x1 : Int).toNat < 0 ∨ α1 121 (x3 : Int).toNat < 0) ∧ (60 ≤ α1 121 (x1 : Int).toNat ∧ α1 121 (x1 : Int).toNat = α1 121 (x3 : Int).toNat) ∧ ¬ (0 ≤ x2 ∧ 0 ≤ x5 ∧ x5 ≤ α1 122 (x1 : Int).toNat ∧ x2 ≤ α1 122 (x1 : Int).toNat - x5 ∧ 0 ≤ x4 ∧ x5 ≤ α1 122 (x3 : Int).toNat ∧ x4 ≤ α1 122 (x3 : Int).toNat - x5)) ∧ α2 123 = α1 123) ∨ ((v2 = x5 ∧ (0 ≤ x1 ∧ x1 ≤ 5 ∧ 0 ≤ x3 ∧ x3 ≤ 5) ∧ ¬ (α1 121 (x1 : Int).toNat < 0 ∨ α1 121 (x3 : Int).toNat < 0) ∧ (60 ≤ α1 121 (x1 : Int).toNat ∧ α1 121 (x1 : Int).toNat = α1 121 (x3 : Int).toNat) ∧ (0 ≤ x2 ∧ 0 ≤ x5 ∧ x5 ≤ α1 122 (x1 : Int).toNat ∧ x2 ≤ α1 122 (x1 : Int).toNat - x5 ∧ 0 ≤ x4 ∧ x5 ≤ α1 122 (x3 : Int).toNat ∧ x4 ≤ α1 122 (x3 : Int).toNat - x5)) ∧ α2 123 = va_cpy (α1 123) (α1 123) (60 * x1 + x2 : Int).toNat (60 * x3 + x4 : Int).toNat (x5 : Int).toNat)) : v1 = v2 ∧ qR σ2 α2 := by
  obtain ⟨r1, r2, r3, r4, r5, r6, r7, r8, r9⟩ := hR
  have c17_6 := hG1.1 17 6 (by decide)
  have d17_6 := hG2.1 17 6 (by decide)
  have c27_7 := hG1.1 27 7 (by decide)
  have d27_7 := hG2.1 27 7 (by decide)
  have c34_7 := hG1.1 34 7 (by decide)
  have d34_7 := hG2.1 34 7 (by decide)
  have c86_6 := hG1.1 86 6 (by decide)
  have d86_6 := hG2.1 86 6 (by decide)
  have c86_16 := hG1.1 86 16 (by decide)
  have d86_16 := hG2.1 86 16 (by decide)
  have c86_24 := hG1.1 86 24 (by decide)
  have d86_24 := hG2.1 86 24 (by decide)
  have c18 := hG1.2 18 (by decide)
  have d18 := hG2.2 18 (by decide)
  have c19 := hG1.2 19 (by decide)
  have d19 := hG2.2 19 (by decide)
  have c21 := hG1.2 21 (by decide)
  have d21 := hG2.2 21 (by decide)
  have c45 := hG1.2 45 (by decide)
  have d45 := hG2.2 45 (by decide)
  have c46 := hG1.2 46 (by decide)
  have d46 := hG2.2 46 (by decide)
  have c47 := hG1.2 47 (by decide)
  have d47 := hG2.2 47 (by decide)
  have d48 := hG2.2 48 (by decide)
  have c91 := hG1.2 91 (by decide)
  have d91 := hG2.2 91 (by decide)
  have c92 := hG1.2 92 (by decide)
  have d92 := hG2.2 92 (by decide)
  have c93 := hG1.2 93 (by decide)
  have d93 := hG2.2 93 (by decide)
  have c121 := hG1.2 121 (by decide)
  have d121 := hG2.2 121 (by decide)
  have c122 := hG1.2 122 (by decide)
  have d122 := hG2.2 122 (by decide)
  have c123 := hG1.2 123 (by decide)
  have hb1 : 0 ≤ x1 ∧ x1 ≤ 5 → qpg (α 45 (x1 : Int).toNat) (α 47 (x1 : Int).toNat) (α 121 (x1 : Int).toNat) := fun h => r8 _ (by omega)
  have hb3 : 0 ≤ x3 ∧ x3 ≤ 5 → qpg (α 45 (x3 : Int).toNat) (α 47 (x3 : Int).toNat) (α 121 (x3 : Int).toNat) := fun h => r8 _ (by omega)
  have hl1 : α 46 (x1 : Int).toNat = α 122 (x1 : Int).toNat := by rw [r7]
  have hl3 : α 46 (x3 : Int).toNat = α 122 (x3 : Int).toNat := by rw [r7]
  rw [c121, c122] at hy
  unfold qpg at hb1 hb3
  rcases hx with ⟨xn0, x48⟩ | ⟨xn0, x48⟩ | ⟨xn0, x48⟩ | ⟨xn0, x48⟩ | ⟨xn0, x48⟩
  · rcases hy with ⟨yn0, y123⟩ | ⟨yn0, y123⟩ | ⟨yn0, y123⟩ | ⟨yn0, y123⟩ | ⟨yn0, y123⟩
    · skip
      have hv : v1 = v2 := by omega
      refine ⟨hv, by omega, by omega, by omega, ?_, ?_, ?_, ?_, ?_, ?_⟩
      · exact by rw [d18, c18, d91, c91, r4]
      · exact by rw [d19, c19, d92, c92, r5]
      · exact by rw [d21, c21, d93, c93, r6]
      · exact by rw [d46, c46, d122, c122, r7]
      · exact (by rw [d45, c45, d47, c47, d121, c121]; exact r8)
      · exact (by rw [d46, c46, d48, x48, y123, c123]; exact r9)
    · exact False.elim (by omega)
    · exact False.elim (by omega)
    · exact False.elim (by omega)
    · exact False.elim (by omega)
  · rcases hy with ⟨yn0, y123⟩ | ⟨yn0, y123⟩ | ⟨yn0, y123⟩ | ⟨yn0, y123⟩ | ⟨yn0, y123⟩
    · exact False.elim (by omega)
    · skip
      have hv : v1 = v2 := by omega
      refine ⟨hv, by omega, by omega, by omega, ?_, ?_, ?_, ?_, ?_, ?_⟩
      · exact by rw [d18, c18, d91, c91, r4]
      · exact by rw [d19, c19, d92, c92, r5]
      · exact by rw [d21, c21, d93, c93, r6]
      · exact by rw [d46, c46, d122, c122, r7]
      · exact (by rw [d45, c45, d47, c47, d121, c121]; exact r8)
      · exact (by rw [d46, c46, d48, x48, y123, c123]; exact r9)
    · exact False.elim (by omega)
    · exact False.elim (by omega)
    · exact False.elim (by omega)
  · rcases hy with ⟨yn0, y123⟩ | ⟨yn0, y123⟩ | ⟨yn0, y123⟩ | ⟨yn0, y123⟩ | ⟨yn0, y123⟩
    · exact False.elim (by omega)
    · exact False.elim (by omega)
    · skip
      have hv : v1 = v2 := by omega
      refine ⟨hv, by omega, by omega, by omega, ?_, ?_, ?_, ?_, ?_, ?_⟩
      · exact by rw [d18, c18, d91, c91, r4]
      · exact by rw [d19, c19, d92, c92, r5]
      · exact by rw [d21, c21, d93, c93, r6]
      · exact by rw [d46, c46, d122, c122, r7]
      · exact (by rw [d45, c45, d47, c47, d121, c121]; exact r8)
      · exact (by rw [d46, c46, d48, x48, y123, c123]; exact r9)
    · exact False.elim (by omega)
    · exact False.elim (by omega)
  · rcases hy with ⟨yn0, y123⟩ | ⟨yn0, y123⟩ | ⟨yn0, y123⟩ | ⟨yn0, y123⟩ | ⟨yn0, y123⟩
    · exact False.elim (by omega)
    · exact False.elim (by omega)
    · exact False.elim (by omega)
    · skip
      have hv : v1 = v2 := by omega
      refine ⟨hv, by omega, by omega, by omega, ?_, ?_, ?_, ?_, ?_, ?_⟩
      · exact by rw [d18, c18, d91, c91, r4]
      · exact by rw [d19, c19, d92, c92, r5]
      · exact by rw [d21, c21, d93, c93, r6]
      · exact by rw [d46, c46, d122, c122, r7]
      · exact (by rw [d45, c45, d47, c47, d121, c121]; exact r8)
      · exact (by rw [d46, c46, d48, x48, y123, c123]; exact r9)
    · exact False.elim (by omega)
  · rcases hy with ⟨yn0, y123⟩ | ⟨yn0, y123⟩ | ⟨yn0, y123⟩ | ⟨yn0, y123⟩ | ⟨yn0, y123⟩
    · exact False.elim (by omega)
    · exact False.elim (by omega)
    · exact False.elim (by omega)
    · exact False.elim (by omega)
    · skip
      have hv : v1 = v2 := by omega
      refine ⟨hv, by omega, by omega, by omega, ?_, ?_, ?_, ?_, ?_, ?_⟩
      · exact by rw [d18, c18, d91, c91, r4]
      · exact by rw [d19, c19, d92, c92, r5]
      · exact by rw [d21, c21, d93, c93, r6]
      · exact by rw [d46, c46, d122, c122, r7]
      · exact (by rw [d45, c45, d47, c47, d121, c121]; exact r8)
      · intro d i hd hi
        have hl2 : 0 ≤ α 46 d ∧ α 46 d ≤ 60 := hI.2.1 46 d hd
        have hm1 : 0 ≤ α 46 (x1 : Int).toNat ∧ α 46 (x1 : Int).toNat ≤ 60 := hI.2.1 46 _ (show (x1 : Int).toNat < 6 by omega)
        have hm3 : 0 ≤ α 46 (x3 : Int).toNat ∧ α 46 (x3 : Int).toNat ≤ 60 := hI.2.1 46 _ (show (x3 : Int).toNat < 6 by omega)
        rw [d46, c46] at hi
        have h9 := r9 d i hd hi
        rw [d48, x48, y123, c123]
        unfold va_cpy
        by_cases e : (x3 * 60 + x4 : Int).toNat ≤ 60 * d + i ∧ 60 * d + i < (x3 * 60 + x4 : Int).toNat + (x5 : Int).toNat
        · have h10 := r9 (x1 : Int).toNat ((x2 : Int).toNat + (60 * d + i - (x3 * 60 + x4 : Int).toNat)) (by omega) (by omega)
          rw [if_pos e, if_pos (by omega), show (x1 * 60 + x2 : Int).toNat + (60 * d + i - (x3 * 60 + x4 : Int).toNat) = 60 * (x1 : Int).toNat + ((x2 : Int).toNat + (60 * d + i - (x3 * 60 + x4 : Int).toNat)) by omega, show (60 * x1 + x2 : Int).toNat + (60 * d + i - (60 * x3 + x4 : Int).toNat) = 60 * (x1 : Int).toNat + ((x2 : Int).toNat + (60 * d + i - (x3 * 60 + x4 : Int).toNat)) by omega]
          exact h10
        · rw [if_neg e, if_neg (by omega)]
          exact h9

set_option maxHeartbeats 4000000 in
theorem rl_people {σ α σ1 α1 σ2 α2 : Nat → Nat → Int} {κ : Nat → Option Nat} {ρ : Nat} {x1 x2 x3 v1 v2 : Int} (hI : qI σ α κ ρ) (hR : qR σ α) (hG1 : qFr [(17, 6)] [18, 19, 20, 22] σ α σ1 α1) (hG2 : qFr [(86, 6), (86, 15)] [87, 91, 92] σ1 α1 σ2 α2) (hx : ((v1 = -1 ∧ ¬ (0 ≤ x1 ∧ x1 ≤ 5 ∧ 1 ≤ x3 ∧ x3 ≤ 20) ∧ σ1 17 6 = σ 17 6) ∧ α1 18 = α 18 ∧ α1 19 = α 19) ∨ ((v1 = 0 ∧ (0 ≤ x1 ∧ x1 ≤ 5 ∧ 1 ≤ x3 ∧ x3 ≤ 20) ∧ α 45 (x1 : Int).toNat = 6 ∧ σ1 17 6 = σ 17 6) ∧ α1 18 = α 18 ∧ α1 19 = α 19) ∨ ((v1 = -12 ∧ (0 ≤ x1 ∧ x1 ≤ 5 ∧ 1 ≤ x3 ∧ x3 ≤ 20) ∧ ¬ α 45 (x1 : Int).toNat = 6 ∧ ¬ α 45 (x1 : Int).toNat = 0 ∧ σ1 17 6 = σ 17 6) ∧ α1 18 = α 18 ∧ α1 19 = α 19) ∨ ((((0 ≤ x1 ∧ x1 ≤ 5 ∧ 1 ≤ x3 ∧ x3 ≤ 20) ∧ α 45 (x1 : Int).toNat = 0) ∧ (v1, σ1 17 6, α1 18, α1 19) = qpl (α 48) (x1 * 60) (α 46 (x1 : Int).toNat) x2 (x3 : Int).toNat 0 (σ 17 6) (α 18) (α 19)))) (hy : ((v2 = -1 ∧ ¬ (0 ≤ x1 ∧ x1 ≤ 5 ∧ 1 ≤ x3 ∧ x3 ≤ 20) ∧ σ2 86 6 = σ1 86 6) ∧ α2 91 = α1 91 ∧ α2 92 = α1 92) ∨ ((v2 = 0 ∧ (0 ≤ x1 ∧ x1 ≤ 5 ∧ 1 ≤ x3 ∧ x3 ≤ 20) ∧ α1 121 (x1 : Int).toNat < 0 ∧ σ2 86 6 = σ1 86 6) ∧ α2 91 = α1 91 ∧ α2 92 = α1 92) ∨ ((v2 = -12 ∧ (0 ≤ x1 ∧ x1 ≤ 5 ∧ 1 ≤ x3 ∧ x3 ≤ 20) ∧ 0 ≤ α1 121 (x1 : Int).toNat ∧ ¬ α1 121 (x1 : Int).toNat = 60 ∧ σ2 86 6 = σ1 86 6) ∧ α2 91 = α1 91 ∧ α2 92 = α1 92) ∨ ((((0 ≤ x1 ∧ x1 ≤ 5 ∧ 1 ≤ x3 ∧ x3 ≤ 20) ∧ α1 121 (x1 : Int).toNat = 60) ∧ (v2, σ2 86 6, α2 91, α2 92) = qpl (α1 123) (60 * x1) (α1 122 (x1 : Int).toNat) x2 (x3 : Int).toNat 0 (σ1 86 6) (α1 91) (α1 92)))) : v1 = v2 ∧ qR σ2 α2 := by
  obtain ⟨r1, r2, r3, r4, r5, r6, r7, r8, r9⟩ := hR
  have d17_6 := hG2.1 17 6 (by decide)
  have c27_7 := hG1.1 27 7 (by decide)
  have d27_7 := hG2.1 27 7 (by decide)
  have c34_7 := hG1.1 34 7 (by decide)
  have d34_7 := hG2.1 34 7 (by decide)
  have c86_6 := hG1.1 86 6 (by decide)
  have c86_16 := hG1.1 86 16 (by decide)
  have d86_16 := hG2.1 86 16 (by decide)
  have c86_24 := hG1.1 86 24 (by decide)
  have d86_24 := hG2.1 86 24 (by decide)
  have d18 := hG2.2 18 (by decide)
  have d19 := hG2.2 19 (by decide)
  have c21 := hG1.2 21 (by decide)
  have d21 := hG2.2 21 (by decide)
  have c45 := hG1.2 45 (by decide)
  have d45 := hG2.2 45 (by decide)
  have c46 := hG1.2 46 (by decide)
  have d46 := hG2.2 46 (by decide)
  have c47 := hG1.2 47 (by decide)
  have d47 := hG2.2 47 (by decide)
  have c48 := hG1.2 48 (by decide)
  have d48 := hG2.2 48 (by decide)
  have c91 := hG1.2 91 (by decide)
  have c92 := hG1.2 92 (by decide)
  have c93 := hG1.2 93 (by decide)
  have d93 := hG2.2 93 (by decide)
  have c121 := hG1.2 121 (by decide)
  have d121 := hG2.2 121 (by decide)
  have c122 := hG1.2 122 (by decide)
  have d122 := hG2.2 122 (by decide)
  have c123 := hG1.2 123 (by decide)
  have d123 := hG2.2 123 (by decide)
  have hb : 0 ≤ x1 ∧ x1 ≤ 5 → qpg (α 45 (x1 : Int).toNat) (α 47 (x1 : Int).toNat) (α 121 (x1 : Int).toNat) := fun h => r8 _ (by omega)
  have hl : α 46 (x1 : Int).toNat = α 122 (x1 : Int).toNat := by rw [r7]
  rw [c121, c122, c123, c91, c92] at hy
  unfold qpg at hb
  rcases hx with ⟨xn0, x18, x19⟩ | ⟨xn0, x18, x19⟩ | ⟨xn0, x18, x19⟩ | ⟨xn0, xe⟩
  · rcases hy with ⟨yn0, y91, y92⟩ | ⟨yn0, y91, y92⟩ | ⟨yn0, y91, y92⟩ | ⟨yn0, ye⟩
    · skip
      have hv : v1 = v2 := by omega
      refine ⟨hv, by omega, by omega, by omega, ?_, ?_, ?_, ?_, ?_, ?_⟩
      · exact by rw [d18, x18, y91, r4]
      · exact by rw [d19, x19, y92, r5]
      · exact by rw [d21, c21, d93, c93, r6]
      · exact by rw [d46, c46, d122, c122, r7]
      · exact (by rw [d45, c45, d47, c47, d121, c121]; exact r8)
      · exact (by rw [d46, c46, d48, c48, d123, c123]; exact r9)
    · exact False.elim (by omega)
    · exact False.elim (by omega)
    · exact False.elim (by omega)
  · rcases hy with ⟨yn0, y91, y92⟩ | ⟨yn0, y91, y92⟩ | ⟨yn0, y91, y92⟩ | ⟨yn0, ye⟩
    · exact False.elim (by omega)
    · skip
      have hv : v1 = v2 := by omega
      refine ⟨hv, by omega, by omega, by omega, ?_, ?_, ?_, ?_, ?_, ?_⟩
      · exact by rw [d18, x18, y91, r4]
      · exact by rw [d19, x19, y92, r5]
      · exact by rw [d21, c21, d93, c93, r6]
      · exact by rw [d46, c46, d122, c122, r7]
      · exact (by rw [d45, c45, d47, c47, d121, c121]; exact r8)
      · exact (by rw [d46, c46, d48, c48, d123, c123]; exact r9)
    · exact False.elim (by omega)
    · exact False.elim (by omega)
  · rcases hy with ⟨yn0, y91, y92⟩ | ⟨yn0, y91, y92⟩ | ⟨yn0, y91, y92⟩ | ⟨yn0, ye⟩
    · exact False.elim (by omega)
    · exact False.elim (by omega)
    · skip
      have hv : v1 = v2 := by omega
      refine ⟨hv, by omega, by omega, by omega, ?_, ?_, ?_, ?_, ?_, ?_⟩
      · exact by rw [d18, x18, y91, r4]
      · exact by rw [d19, x19, y92, r5]
      · exact by rw [d21, c21, d93, c93, r6]
      · exact by rw [d46, c46, d122, c122, r7]
      · exact (by rw [d45, c45, d47, c47, d121, c121]; exact r8)
      · exact (by rw [d46, c46, d48, c48, d123, c123]; exact r9)
    · exact False.elim (by omega)
  · rcases hy with ⟨yn0, y91, y92⟩ | ⟨yn0, y91, y92⟩ | ⟨yn0, y91, y92⟩ | ⟨yn0, ye⟩
    · exact False.elim (by omega)
    · exact False.elim (by omega)
    · exact False.elim (by omega)
    · skip
      have he : qpl (α 48) (x1 * 60) (α 46 (x1 : Int).toNat) x2 (x3 : Int).toNat 0 (σ 17 6) (α 18) (α 19) = qpl (α 123) (60 * x1) (α 122 (x1 : Int).toNat) x2 (x3 : Int).toNat 0 (σ1 86 6) (α 91) (α 92) := by
        rw [r4, r5, hl, show σ 17 6 = σ1 86 6 by omega, show x1 * 60 = 60 * x1 by omega]
        refine qpl_eq (fun j h1 h2 => ?_) _ _ _ _ _
        unfold qpa
        have h9 := r9 (x1 : Int).toNat (j : Int).toNat (by omega) (by omega)
        rw [show (60 * x1 + j : Int).toNat = 60 * (x1 : Int).toNat + (j : Int).toNat by omega, h9]
      have h0 := xe.trans (he.trans ye.symm)
      have h1 := congrArg Prod.fst h0
      have h2 := congrArg (fun t => t.2.1) h0
      have h3 := congrArg (fun t => t.2.2.1) h0
      have h4 := congrArg (fun t => t.2.2.2) h0
      simp only at h1 h2 h3 h4
      refine ⟨h1, by omega, by omega, by omega, ?_, ?_, ?_, ?_, ?_, ?_⟩
      · exact (by rw [d18, h3])
      · exact (by rw [d19, h4])
      · exact (by rw [d21, c21, d93, c93, r6])
      · exact (by rw [d46, c46, d122, c122, r7])
      · exact (by rw [d45, c45, d47, c47, d121, c121]; exact r8)
      · exact (by rw [d46, c46, d48, c48, d123, c123]; exact r9)
end
