section
set_option maxHeartbeats 4000000 in
set_option maxRecDepth 20000 in
/-- OneRoof$Telling.tell -/
theorem sf_134_73 {L : Nat} {xs : Nat → Int} {vb : Bool} {d : Nat} {σ α : Nat → Nat → Int} {κ : Nat → Option Nat} {ρ : Nat} {x1 : Int} {x2 : Int} {x3 : Int} (hI : qI σ α κ ρ) (r1 : 0 ≤ x1 ∧ x1 ≤ 31) (r2 : 0 ≤ x2 ∧ x2 ≤ 31) (r3 : (-9223372036854775808) ≤ x3 ∧ x3 ≤ 9223372036854775807) (p0 : ¬ x1 = x2) : qm_T (qe L xs vb) (d + 6) 134 [.ref 73, .int (qz x1), .int (qz x2), .long (ql x3)] (qw σ α κ ρ) (fun r w' => ∃ σ' α', w' = qw σ' α' κ ρ ∧ qI σ' α' κ ρ ∧ qFr [(58, 10), (73, 2), (73, 3), (73, 5), (73, 6)] [53, 57, 59, 60, 61, 62, 63, 74, 75, 85] σ α σ' α' ∧ r = none) := by
  refine qr_start (d := d + 5) qv_e134 (Nat.le_of_ble_eq_true rfl) ?_
  show qr_W (qe L xs vb) (d + 5) qx_e134 _ (0, [(0, .ref 73), (1, .int (qz x1)), (2, .int (qz x2)), (3, .long (ql x3))], [], _, 0, 0)
  have hF0 := qFr_rf [(58, 10), (73, 2), (73, 3), (73, 5), (73, 6)] [53, 57, 59, 60, 61, 62, 63, 74, 75, 85] σ α
  refine qr_aload_n 1 rfl rfl rfl ?_
  refine qr_lload_n 2 rfl rfl rfl ?_
  refine qr_put 5 rfl (by decide) rfl (Nat.le_of_ble_eq_true rfl) (Nat.le_of_ble_eq_true rfl) (Or.inl rfl) (qr_fitL rfl _) rfl ?_
  refine qy_wS (qw_s σ 73 3 x3) rfl (fun σ1 e2 => ?_)
  have hI3 : qI σ1 α κ ρ := by rw [e2]; exact qI_s hI 73 3 rfl (show (-9223372036854775808) ≤ x3 ∧ x3 ≤ 9223372036854775807 by omega)
  have hF4 : qFr [(58, 10), (73, 2), (73, 3), (73, 5), (73, 6)] [53, 57, 59, 60, 61, 62, 63, 74, 75, 85] σ α σ1 α := by rw [e2]; exact qFr_s hF0 73 3 _ (by decide)
  refine qr_aload_n 6 rfl rfl rfl ?_
  refine qr_iconst 7 rfl rfl ?_
  refine qr_put 10 rfl (by decide) rfl (Nat.le_of_ble_eq_true rfl) (Nat.le_of_ble_eq_true rfl) (Or.inl rfl) (qr_fitI rfl _) rfl ?_
  refine qy_wS (qw_s σ1 73 2 0) rfl (fun σ5 e6 => ?_)
  have hI7 : qI σ5 α κ ρ := by rw [e6]; exact qI_s hI3 73 2 rfl (show 0 ≤ 0 ∧ 0 ≤ 31 by omega)
  have hF8 : qFr [(58, 10), (73, 2), (73, 3), (73, 5), (73, 6)] [53, 57, 59, 60, 61, 62, 63, 74, 75, 85] σ α σ5 α := by rw [e6]; exact qFr_s hF4 73 2 _ (by decide)
  refine qr_aload_n 11 rfl rfl rfl ?_
  refine qr_iconst 12 rfl rfl ?_
  refine qr_put 15 rfl (by decide) rfl (Nat.le_of_ble_eq_true rfl) (Nat.le_of_ble_eq_true rfl) (Or.inl rfl) (qr_fitI rfl _) rfl ?_
  refine qy_wS (qw_s σ5 73 5 0) rfl (fun σ9 e10 => ?_)
  have hI11 : qI σ9 α κ ρ := by rw [e10]; exact qI_s hI7 73 5 rfl (show 0 ≤ 0 ∧ 0 ≤ 60 by omega)
  have hF12 : qFr [(58, 10), (73, 2), (73, 3), (73, 5), (73, 6)] [53, 57, 59, 60, 61, 62, 63, 74, 75, 85] σ α σ9 α := by rw [e10]; exact qFr_s hF8 73 5 _ (by decide)
  refine qr_aload_n 16 rfl rfl rfl ?_
  refine qr_lconst 17 rfl rfl ?_
  refine qy_vl 0 rfl ?_
  refine qr_put 20 rfl (by decide) rfl (Nat.le_of_ble_eq_true rfl) (Nat.le_of_ble_eq_true rfl) (Or.inl rfl) (qr_fitL rfl _) rfl ?_
  refine qy_wS (qw_s σ9 73 6 0) rfl (fun σ13 e14 => ?_)
  have hI15 : qI σ13 α κ ρ := by rw [e14]; exact qI_s hI11 73 6 rfl (show (-9223372036854775808) ≤ 0 ∧ 0 ≤ 9223372036854775807 by omega)
  have hF16 : qFr [(58, 10), (73, 2), (73, 3), (73, 5), (73, 6)] [53, 57, 59, 60, 61, 62, 63, 74, 75, 85] σ α σ13 α := by rw [e14]; exact qFr_s hF12 73 6 _ (by decide)
  refine qr_aload_n 21 rfl rfl rfl ?_
  refine qr_iload_n 22 rfl rfl rfl ?_
  refine qr_iload_n 23 rfl rfl rfl ?_
  refine qr_callN 26 rfl rfl rfl (sf_135_73 (d := d + 1) hI15 r1 r2 (by omega)) ?_
  rintro _ _ ⟨σ17, α18, rfl, hI19, hG20, rfl⟩
  have hF21 : qFr [(58, 10), (73, 2), (73, 3), (73, 5), (73, 6)] [53, 57, 59, 60, 61, 62, 63, 74, 75, 85] σ α σ17 α18 := qFr_t hF16 hG20 (by decide) (by decide)
  show qr_W (qe L xs vb) (d + 5) qx_e134 _ (26, _, [], qw σ17 α18 κ ρ, 0, 0)
  refine qr_iconst 27 rfl rfl ?_
  refine qr_istore _ 29 rfl (by decide) rfl rfl ?_
  have hL620 : ∀ (n : Nat) (ls : qm_L) (u614 : Int) (σ615 α616 : Nat → Nat → Int), 31 - u614 < (n : Int) → qm_get ls 0 = some (.ref 73) → qm_get ls 5 = some (.int (qz u614)) → (1 ≤ u614 ∧ u614 ≤ 31) → qI σ615 α616 κ ρ → qFr [(58, 10), (73, 2), (73, 3), (73, 5), (73, 6)] [53, 57, 59, 60, 61, 62, 63, 74, 75, 85] σ α σ615 α616 → qr_W (qe L xs vb) (d + 5) qx_e134 (fun r w' => ∃ σ' α', w' = qw σ' α' κ ρ ∧ qI σ' α' κ ρ ∧ qFr [(58, 10), (73, 2), (73, 3), (73, 5), (73, 6)] [53, 57, 59, 60, 61, 62, 63, 74, 75, 85] σ α σ' α' ∧ r = none) (29, ls, [], qw σ615 α616 κ ρ, 0, 0) := by
    intro n
    induction n with
    | zero => intro ls u614 σ615 α616 hm g612 g613 hf619 hI617 hF618; exact False.elim (by omega)
    | succ n ih621 =>
      intro ls u614 σ615 α616 hm g612 g613 hf619 hI617 hF618
      refine qr_iload 31 rfl g613 rfl ?_
      refine qr_bipush 33 rfl (by decide) rfl ?_
      refine qr_icmp_ge 88 36 rfl rfl rfl (qrg hf619 (by decide) (by decide)) (by decide) (fun h622 => ?_) (fun h622 => ?_)
      · skip
        refine qr_aload_n 89 rfl g612 rfl ?_
        refine qr_get 92 rfl rfl rfl (by decide) rfl ?_
        refine qr_lconst 93 rfl rfl ?_
        refine qy_vl 0 rfl ?_
        refine qr_put 96 rfl (by decide) rfl (Nat.le_of_ble_eq_true rfl) (Nat.le_of_ble_eq_true rfl) (Or.inl rfl) (qr_fitL rfl _) rfl ?_
        refine qy_wS (qw_s σ615 58 10 0) rfl (fun σ623 e624 => ?_)
        have hI625 : qI σ623 α616 κ ρ := by rw [e624]; exact qI_s hI617 58 10 rfl (show (-9223372036854775808) ≤ 0 ∧ 0 ≤ 9223372036854775807 by omega)
        have hF626 : qFr [(58, 10), (73, 2), (73, 3), (73, 5), (73, 6)] [53, 57, 59, 60, 61, 62, 63, 74, 75, 85] σ α σ623 α616 := by rw [e624]; exact qFr_s hF618 58 10 _ (by decide)
        refine qr_retV rfl rfl (by decide) (by decide) ?_
        exact ⟨_, _, rfl, hI625, hF626, rfl⟩
      · skip
        refine qr_aload_n 37 rfl g612 rfl ?_
        refine qr_callN 40 rfl rfl rfl (sf_137_73 (d := d + 0) hI617 ) ?_
        rintro _ _ ⟨α629, rfl, hI630, hG631, v627, rfl, hv627, hp628⟩
        have hF632 : qFr [(58, 10), (73, 2), (73, 3), (73, 5), (73, 6)] [53, 57, 59, 60, 61, 62, 63, 74, 75, 85] σ α σ615 α629 := qFr_t hF618 hG631 (by decide) (by decide)
        show qr_W (qe L xs vb) (d + 5) qx_e134 _ (40, _, [.int (qz v627)], qw σ615 α629 κ ρ, 0, 0)
        refine qr_istore _ 42 rfl (by decide) rfl rfl ?_
        refine qr_iload 44 rfl (qm_ge _ _ _) rfl ?_
        have hJ650 : ∀ (ls : qm_L) (u643 : Int) (α645 : Nat → Nat → Int), qm_get ls 0 = some (.ref 73) → qm_get ls 5 = some (.int (qz u614)) → qm_get ls 6 = some (.int (qz u643)) → ((-1) ≤ u643 ∧ u643 ≤ 3131) → qI σ615 α645 κ ρ → qFr [(58, 10), (73, 2), (73, 3), (73, 5), (73, 6)] [53, 57, 59, 60, 61, 62, 63, 74, 75, 85] σ α σ615 α645 → (u643 = -1 ∨ (0 ≤ u643 ∧ u643 / 100 ≤ 31 ∧ u643 % 100 ≤ 31 ∧ ¬ u643 / 100 = u643 % 100)) → qr_W (qe L xs vb) (d + 5) qx_e134 (fun r w' => ∃ σ' α', w' = qw σ' α' κ ρ ∧ qI σ' α' κ ρ ∧ qFr [(58, 10), (73, 2), (73, 3), (73, 5), (73, 6)] [53, 57, 59, 60, 61, 62, 63, 74, 75, 85] σ α σ' α' ∧ r = none) (60, ls, [], qw σ615 α645 κ ρ, 0, 0) := by
          intro ls u643 α645 g640 g641 g642 hf648 hI646 hF647 hx649
          refine qr_iload 62 rfl g642 rfl ?_
          refine qr_if_ge 68 65 rfl rfl rfl (qrg hf648 (by decide) (by decide)) (fun h651 => ?_) (fun h651 => ?_)
          · skip
            refine qr_aload_n 69 rfl g640 rfl ?_
            refine qr_iload 71 rfl g642 rfl ?_
            refine qr_bipush 73 rfl (by decide) rfl ?_
            refine qr_idiv 74 rfl (by omega) (by decide) rfl ?_
            refine qr_iload 76 rfl g642 rfl ?_
            refine qr_bipush 78 rfl (by decide) rfl ?_
            refine qr_irem 79 rfl (by omega) (by decide) rfl ?_
            refine qr_callN 82 rfl rfl rfl (sf_135_73 (d := d + 1) hI646 (by omega) (by omega) (by omega)) ?_
            rintro _ _ ⟨σ652, α653, rfl, hI654, hG655, rfl⟩
            have hF656 : qFr [(58, 10), (73, 2), (73, 3), (73, 5), (73, 6)] [53, 57, 59, 60, 61, 62, 63, 74, 75, 85] σ α σ652 α653 := qFr_t hF647 hG655 (by decide) (by decide)
            show qr_W (qe L xs vb) (d + 5) qx_e134 _ (82, _, [], qw σ652 α653 κ ρ, 0, 0)
            refine qr_iinc _ 85 rfl g641 (by decide) rfl rfl ?_
            refine qr_goto 29 rfl rfl ?_
            exact ih621 _ (u614 + 1) σ652 α653 (by omega) (qm_gk g640 (by decide) (Or.inl (by decide))) (qm_ge _ _ _) (by omega) hI654 hF656
          · skip
            refine qr_goto 88 rfl rfl ?_
            refine qr_aload_n 89 rfl g640 rfl ?_
            refine qr_get 92 rfl rfl rfl (by decide) rfl ?_
            refine qr_lconst 93 rfl rfl ?_
            refine qy_vl 0 rfl ?_
            refine qr_put 96 rfl (by decide) rfl (Nat.le_of_ble_eq_true rfl) (Nat.le_of_ble_eq_true rfl) (Or.inl rfl) (qr_fitL rfl _) rfl ?_
            refine qy_wS (qw_s σ615 58 10 0) rfl (fun σ657 e658 => ?_)
            have hI659 : qI σ657 α645 κ ρ := by rw [e658]; exact qI_s hI646 58 10 rfl (show (-9223372036854775808) ≤ 0 ∧ 0 ≤ 9223372036854775807 by omega)
            have hF660 : qFr [(58, 10), (73, 2), (73, 3), (73, 5), (73, 6)] [53, 57, 59, 60, 61, 62, 63, 74, 75, 85] σ α σ657 α645 := by rw [e658]; exact qFr_s hF647 58 10 _ (by decide)
            refine qr_retV rfl rfl (by decide) (by decide) ?_
            exact ⟨_, _, rfl, hI659, hF660, rfl⟩
        refine qr_if_ge 60 47 rfl rfl rfl (qrg hv627 (by decide) (by decide)) (fun h661 => ?_) (fun h661 => ?_)
        · skip
          exact hJ650 _ v627 α629 (qm_gk g612 (by decide) (Or.inl (by decide))) (qm_gk g613 (by decide) (Or.inr rfl)) (qm_ge _ _ _) hv627 hI630 hF632 (by omega)
        · skip
          refine qr_aload_n 48 rfl (qm_gk g612 (by decide) (Or.inl (by decide))) rfl ?_
          refine qr_get 51 rfl rfl rfl (by decide) rfl ?_
          refine qr_aload_n 52 rfl (qm_gk g612 (by decide) (Or.inl (by decide))) rfl ?_
          refine qr_get 55 rfl rfl rfl (by decide) rfl ?_
          have hs662 : (-9223372036854775808) ≤ σ615 73 3 ∧ σ615 73 3 ≤ 9223372036854775807 := hI630.1 73 3
          refine qr_callN 58 rfl rfl rfl (sf_104_58 (d := d + 0) hI630 hs662) ?_
          rintro _ _ ⟨α665, rfl, hI666, hG667, v663, rfl, hv663, hp664⟩
          have hF668 : qFr [(58, 10), (73, 2), (73, 3), (73, 5), (73, 6)] [53, 57, 59, 60, 61, 62, 63, 74, 75, 85] σ α σ615 α665 := qFr_t hF632 hG667 (by decide) (by decide)
          show qr_W (qe L xs vb) (d + 5) qx_e134 _ (58, _, [.int (qz v663)], qw σ615 α665 κ ρ, 0, 0)
          refine qr_istore _ 60 rfl (by decide) rfl rfl ?_
          exact hJ650 _ v663 α665 (qm_gk (qm_gk g612 (by decide) (Or.inl (by decide))) (by decide) (Or.inl (by decide))) (qm_gk (qm_gk g613 (by decide) (Or.inr rfl)) (by decide) (Or.inr rfl)) (qm_ge _ _ _) hv663 hI666 hF668 (by omega)
  exact hL620 ((31 - 1 + 1 : Int)).toNat _ 1 σ17 α18 (by omega) rfl rfl (by decide) hI19 hF21

set_option maxHeartbeats 4000000 in
set_option maxRecDepth 20000 in
/-- OneRoof$History.told -/
theorem sf_53_76 {L : Nat} {xs : Nat → Int} {vb : Bool} {d : Nat} {σ α : Nat → Nat → Int} {κ : Nat → Option Nat} {ρ : Nat} {x1 : Int} {x2 : Int} (hI : qI σ α κ ρ) (r1 : (-2147483648) ≤ x1 ∧ x1 ≤ 2147483647) (r2 : 0 ≤ x2 ∧ x2 ≤ 1919) (p0 : (x1 = 0 → x2 ≤ 39) ∧ (x1 = 2 → x2 ≤ 31) ∧ (¬ x1 = 0 → ¬ x1 = 1 → ¬ x1 = 2 → x2 ≤ 59)) : qm_T (qe L xs vb) (d + 2) 53 [.ref 76, .int (qz x1), .int (qz x2)] (qw σ α κ ρ) (fun r w' => w' = qw σ α κ ρ ∧ ∃ v : Int, r = some (.int (qz v)) ∧ ((-2147483648) ≤ v ∧ v ≤ 2147483647)) := by
  refine qr_start (d := d + 1) qv_e53 (Nat.le_of_ble_eq_true rfl) ?_
  show qr_W (qe L xs vb) (d + 1) qx_e53 _ (0, [(0, .ref 76), (1, .int (qz x1)), (2, .int (qz x2))], [], _, 0, 0)
  refine qr_iload_n 1 rfl rfl rfl ?_
  have h1 : x1 = 0 ∨ x1 = 1 ∨ x1 = 2 ∨ (x1 < 0 ∨ 2 < x1) := by omega
  rcases h1 with h1 | h1 | h1 | h1
  · skip
    refine qr_tabIn 28 rfl r1 (by rw [h1]; decide) (by rw [h1]; rfl) rfl ?_
    refine qr_aload_n 29 rfl rfl rfl ?_
    refine qr_get 32 rfl rfl rfl (by decide) rfl ?_
    refine qr_get 35 rfl rfl rfl (by decide) rfl ?_
    refine qr_iload_n 36 rfl rfl rfl ?_
    refine qr_iaload 37 rfl rfl (by omega) (by decide) rfl ?_
    refine qr_topI (fun v3 hv3 => ?_)
    have hs4 : (-2147483648) ≤ v3 ∧ v3 ≤ 2147483647 := by rw [hv3]; exact hI.2.1 33 _ (show _ < 40 by omega)
    refine qr_retI rfl rfl (by decide) (by decide) ?_
    exact ⟨rfl, v3, rfl, hs4⟩
  · skip
    refine qr_tabIn 38 rfl r1 (by rw [h1]; decide) (by rw [h1]; rfl) rfl ?_
    refine qr_aload_n 39 rfl rfl rfl ?_
    refine qr_get 42 rfl rfl rfl (by decide) rfl ?_
    refine qr_get 45 rfl rfl rfl (by decide) rfl ?_
    refine qr_iload_n 46 rfl rfl rfl ?_
    refine qr_bipush 48 rfl (by decide) rfl ?_
    refine qr_idiv 49 rfl (qrg r2 (by decide) (by decide)) (by decide) rfl ?_
    refine qr_laload 50 rfl (by decide) rfl (by omega) (by decide) rfl ?_
    refine qr_topL (fun v5 hv5 => ?_)
    have hs6 : (-9223372036854775808) ≤ v5 ∧ v5 ≤ 9223372036854775807 := by rw [hv5]; exact hI.2.1 41 _ (show _ < 60 by omega)
    refine qr_iload_n 51 rfl rfl rfl ?_
    refine qr_bipush 53 rfl (by decide) rfl ?_
    refine qr_irem 54 rfl (qrg r2 (by decide) (by decide)) (by decide) rfl ?_
    refine qr_callN 57 rfl rfl rfl (sf_50 (d := d + 0) hI hs6 (by omega)) ?_
    rintro _ _ ⟨rfl, v7, rfl, hv7⟩
    show qr_W (qe L xs vb) (d + 1) qx_e53 _ (57, _, [.int (qz v7)], qw σ α κ ρ, 0, 0)
    refine qr_if_eq 64 60 rfl rfl rfl (qrg hv7 (by decide) (by decide)) (fun h8 => ?_) (fun h8 => ?_)
    · skip
      refine qr_iconst 65 rfl rfl ?_
      refine qr_retI rfl rfl (by decide) (by decide) ?_
      exact ⟨rfl, 0, rfl, (by decide)⟩
    · skip
      refine qr_iconst 61 rfl rfl ?_
      refine qr_goto 65 rfl rfl ?_
      refine qr_retI rfl rfl (by decide) (by decide) ?_
      exact ⟨rfl, 1, rfl, (by decide)⟩
  · skip
    refine qr_tabIn 66 rfl r1 (by rw [h1]; decide) (by rw [h1]; rfl) rfl ?_
    refine qr_aload_n 67 rfl rfl rfl ?_
    refine qr_get 70 rfl rfl rfl (by decide) rfl ?_
    refine qr_get 73 rfl rfl rfl (by decide) rfl ?_
    refine qr_iload_n 74 rfl rfl rfl ?_
    refine qr_iaload 75 rfl rfl (by omega) (by decide) rfl ?_
    refine qr_topI (fun v9 hv9 => ?_)
    have hs10 : (-2147483648) ≤ v9 ∧ v9 ≤ 2147483647 := by rw [hv9]; exact hI.2.1 20 _ (show _ < 32 by omega)
    refine qr_retI rfl rfl (by decide) (by decide) ?_
    exact ⟨rfl, v9, rfl, hs10⟩
  · skip
    refine qr_tabOut 76 rfl r1 (by omega) rfl ?_
    refine qr_aload_n 77 rfl rfl rfl ?_
    refine qr_get 80 rfl rfl rfl (by decide) rfl ?_
    refine qr_get 83 rfl rfl rfl (by decide) rfl ?_
    refine qr_iload_n 84 rfl rfl rfl ?_
    refine qr_iaload 85 rfl rfl (by omega) (by decide) rfl ?_
    refine qr_topI (fun v11 hv11 => ?_)
    have hs12 : (-2147483648) ≤ v11 ∧ v11 ≤ 2147483647 := by rw [hv11]; exact hI.2.1 35 _ (show _ < 60 by omega)
    refine qr_retI rfl rfl (by decide) (by decide) ?_
    exact ⟨rfl, v11, rfl, hs12⟩

set_option maxHeartbeats 4000000 in
set_option maxRecDepth 20000 in
/-- OneRoof$History.set -/
theorem sf_55_76 {L : Nat} {xs : Nat → Int} {vb : Bool} {d : Nat} {σ α : Nat → Nat → Int} {κ : Nat → Option Nat} {ρ : Nat} {x1 : Int} {x2 : Int} {x3 : Int} (hI : qI σ α κ ρ) (r1 : (-2147483648) ≤ x1 ∧ x1 ≤ 2147483647) (r2 : 0 ≤ x2 ∧ x2 ≤ 1919) (r3 : (-2147483648) ≤ x3 ∧ x3 ≤ 2147483647) (p0 : (x1 = 0 → x2 ≤ 39) ∧ (x1 = 2 → x2 ≤ 31) ∧ (¬ x1 = 0 → ¬ x1 = 1 → ¬ x1 = 2 → x2 ≤ 59)) : qm_T (qe L xs vb) (d + 1) 55 [.ref 76, .int (qz x1), .int (qz x2), .int (qz x3)] (qw σ α κ ρ) (fun r w' => ∃ α', w' = qw σ α' κ ρ ∧ qI σ α' κ ρ ∧ qFr [] [20, 33, 35, 41] σ α σ α' ∧ r = none) := by
  refine qr_start (d := d + 0) qv_e55 (Nat.le_of_ble_eq_true rfl) ?_
  show qr_W (qe L xs vb) (d + 0) qx_e55 _ (0, [(0, .ref 76), (1, .int (qz x1)), (2, .int (qz x2)), (3, .int (qz x3))], [], _, 0, 0)
  have hF0 := qFr_rf [] [20, 33, 35, 41] σ α
  refine qr_iload_n 1 rfl rfl rfl ?_
  have h1 : x1 = 0 ∨ x1 = 1 ∨ x1 = 2 ∨ (x1 < 0 ∨ 2 < x1) := by omega
  rcases h1 with h1 | h1 | h1 | h1
  · skip
    refine qr_tabIn 28 rfl r1 (by rw [h1]; decide) (by rw [h1]; rfl) rfl ?_
    refine qr_aload_n 29 rfl rfl rfl ?_
    refine qr_get 32 rfl rfl rfl (by decide) rfl ?_
    refine qr_get 35 rfl rfl rfl (by decide) rfl ?_
    refine qr_iload_n 36 rfl rfl rfl ?_
    refine qr_iload_n 37 rfl rfl rfl ?_
    refine qr_iastore 38 rfl (by decide) rfl (by omega) (by decide) rfl ?_
    refine qy_wA (qw_r α 33 (qzu (α 33) (x2 : Int).toNat x3)) rfl (fun α3 e4 => ?_)
    have hI5 : qI σ α3 κ ρ := by rw [e4]; exact qI_r hI 33 _ rfl (show (-2147483648) ≤ x3 ∧ x3 ≤ 2147483647 by omega)
    have hF6 : qFr [] [20, 33, 35, 41] σ α σ α3 := by rw [e4]; exact qFr_r hF0 33 _ (by decide)
    refine qr_goto 121 rfl rfl ?_
    refine qr_retV rfl rfl (by decide) (by decide) ?_
    exact ⟨_, rfl, hI5, hF6, rfl⟩
  · skip
    refine qr_tabIn 41 rfl r1 (by rw [h1]; decide) (by rw [h1]; rfl) rfl ?_
    refine qr_lconst 42 rfl rfl ?_
    refine qy_vl 1 rfl ?_
    refine qr_iload_n 43 rfl rfl rfl ?_
    refine qr_bipush 45 rfl (by decide) rfl ?_
    refine qr_irem 46 rfl (qrg r2 (by decide) (by decide)) (by decide) rfl ?_
    refine qr_lshl 47 rfl rfl ?_
    refine qy_canl (fun v7 hv7 => ?_)
    refine qr_lstore _ 49 rfl (by decide) rfl rfl ?_
    refine qr_iload_n 50 rfl rfl rfl ?_
    refine qr_iconst 51 rfl rfl ?_
    refine qr_icmp_ne 74 54 rfl rfl rfl r3 (by decide) (fun h8 => ?_) (fun h8 => ?_)
    · skip
      refine qr_aload_n 75 rfl rfl rfl ?_
      refine qr_get 78 rfl rfl rfl (by decide) rfl ?_
      refine qr_get 81 rfl rfl rfl (by decide) rfl ?_
      refine qr_iload_n 82 rfl rfl rfl ?_
      refine qr_bipush 84 rfl (by decide) rfl ?_
      refine qr_idiv 85 rfl (qrg r2 (by decide) (by decide)) (by decide) rfl ?_
      refine qr_dup2 86 rfl rfl rfl rfl ?_
      refine qr_laload 87 rfl (by decide) rfl (by omega) (by decide) rfl ?_
      refine qr_topL (fun v9 hv9 => ?_)
      have hs10 : (-9223372036854775808) ≤ v9 ∧ v9 ≤ 9223372036854775807 := by rw [hv9]; exact hI.2.1 41 _ (show _ < 60 by omega)
      refine qr_lload 89 rfl rfl rfl ?_
      refine qr_ldc2 (-1) 92 rfl (by decide) rfl ?_
      refine qr_lxor 93 rfl rfl ?_
      refine qy_canl (fun v11 hv11 => ?_)
      refine qr_land 94 rfl rfl ?_
      refine qy_canl (fun v12 hv12 => ?_)
      refine qr_lastore 95 rfl (by decide) rfl (by omega) (by decide) rfl ?_
      refine qy_wA (qw_r α 41 (qzu (α 41) ((x2 / 32) : Int).toNat v12)) rfl (fun α13 e14 => ?_)
      have hI15 : qI σ α13 κ ρ := by rw [e14]; exact qI_r hI 41 _ rfl (show (-9223372036854775808) ≤ v12 ∧ v12 ≤ 9223372036854775807 by omega)
      have hF16 : qFr [] [20, 33, 35, 41] σ α σ α13 := by rw [e14]; exact qFr_r hF0 41 _ (by decide)
      refine qr_goto 121 rfl rfl ?_
      refine qr_retV rfl rfl (by decide) (by decide) ?_
      exact ⟨_, rfl, hI15, hF16, rfl⟩
    · skip
      refine qr_aload_n 55 rfl rfl rfl ?_
      refine qr_get 58 rfl rfl rfl (by decide) rfl ?_
      refine qr_get 61 rfl rfl rfl (by decide) rfl ?_
      refine qr_iload_n 62 rfl rfl rfl ?_
      refine qr_bipush 64 rfl (by decide) rfl ?_
      refine qr_idiv 65 rfl (qrg r2 (by decide) (by decide)) (by decide) rfl ?_
      refine qr_dup2 66 rfl rfl rfl rfl ?_
      refine qr_laload 67 rfl (by decide) rfl (by omega) (by decide) rfl ?_
      refine qr_topL (fun v17 hv17 => ?_)
      have hs18 : (-9223372036854775808) ≤ v17 ∧ v17 ≤ 9223372036854775807 := by rw [hv17]; exact hI.2.1 41 _ (show _ < 60 by omega)
      refine qr_lload 69 rfl rfl rfl ?_
      refine qr_lor 70 rfl rfl ?_
      refine qy_canl (fun v19 hv19 => ?_)
      refine qr_lastore 71 rfl (by decide) rfl (by omega) (by decide) rfl ?_
      refine qy_wA (qw_r α 41 (qzu (α 41) ((x2 / 32) : Int).toNat v19)) rfl (fun α20 e21 => ?_)
      have hI22 : qI σ α20 κ ρ := by rw [e21]; exact qI_r hI 41 _ rfl (show (-9223372036854775808) ≤ v19 ∧ v19 ≤ 9223372036854775807 by omega)
      have hF23 : qFr [] [20, 33, 35, 41] σ α σ α20 := by rw [e21]; exact qFr_r hF0 41 _ (by decide)
      refine qr_goto 121 rfl rfl ?_
      refine qr_retV rfl rfl (by decide) (by decide) ?_
      exact ⟨_, rfl, hI22, hF23, rfl⟩
  · skip
    refine qr_tabIn 98 rfl r1 (by rw [h1]; decide) (by rw [h1]; rfl) rfl ?_
    refine qr_aload_n 99 rfl rfl rfl ?_
    refine qr_get 102 rfl rfl rfl (by decide) rfl ?_
    refine qr_get 105 rfl rfl rfl (by decide) rfl ?_
    refine qr_iload_n 106 rfl rfl rfl ?_
    refine qr_iload_n 107 rfl rfl rfl ?_
    refine qr_iastore 108 rfl (by decide) rfl (by omega) (by decide) rfl ?_
    refine qy_wA (qw_r α 20 (qzu (α 20) (x2 : Int).toNat x3)) rfl (fun α24 e25 => ?_)
    have hI26 : qI σ α24 κ ρ := by rw [e25]; exact qI_r hI 20 _ rfl (show (-2147483648) ≤ x3 ∧ x3 ≤ 2147483647 by omega)
    have hF27 : qFr [] [20, 33, 35, 41] σ α σ α24 := by rw [e25]; exact qFr_r hF0 20 _ (by decide)
    refine qr_goto 121 rfl rfl ?_
    refine qr_retV rfl rfl (by decide) (by decide) ?_
    exact ⟨_, rfl, hI26, hF27, rfl⟩
  · skip
    refine qr_tabOut 111 rfl r1 (by omega) rfl ?_
    refine qr_aload_n 112 rfl rfl rfl ?_
    refine qr_get 115 rfl rfl rfl (by decide) rfl ?_
    refine qr_get 118 rfl rfl rfl (by decide) rfl ?_
    refine qr_iload_n 119 rfl rfl rfl ?_
    refine qr_iload_n 120 rfl rfl rfl ?_
    refine qr_iastore 121 rfl (by decide) rfl (by omega) (by decide) rfl ?_
    refine qy_wA (qw_r α 35 (qzu (α 35) (x2 : Int).toNat x3)) rfl (fun α28 e29 => ?_)
    have hI30 : qI σ α28 κ ρ := by rw [e29]; exact qI_r hI 35 _ rfl (show (-2147483648) ≤ x3 ∧ x3 ≤ 2147483647 by omega)
    have hF31 : qFr [] [20, 33, 35, 41] σ α σ α28 := by rw [e29]; exact qFr_r hF0 35 _ (by decide)
    refine qr_retV rfl rfl (by decide) (by decide) ?_
    exact ⟨_, rfl, hI30, hF31, rfl⟩

set_option maxHeartbeats 4000000 in
set_option maxRecDepth 20000 in
/-- OneRoof$History.forgetFirst -/
theorem sf_54_76 {L : Nat} {xs : Nat → Int} {vb : Bool} {d : Nat} {σ α : Nat → Nat → Int} {κ : Nat → Option Nat} {ρ : Nat}  (hI : qI σ α κ ρ)  : qm_T (qe L xs vb) (d + 1) 54 [.ref 76] (qw σ α κ ρ) (fun r w' => ∃ σ' α', w' = qw σ' α' κ ρ ∧ qI σ' α' κ ρ ∧ qFr [(76, 7)] [77, 78, 79, 80] σ α σ' α' ∧ σ' 76 7 = 39 ∧ r = none) := by
  refine qr_start (d := d + 0) qv_e54 (Nat.le_of_ble_eq_true rfl) ?_
  show qr_W (qe L xs vb) (d + 0) qx_e54 _ (0, [(0, .ref 76)], [], _, 0, 0)
  have hF0 := qFr_rf [(76, 7)] [77, 78, 79, 80] σ α
  refine qr_aload_n 1 rfl rfl rfl ?_
  refine qr_get 4 rfl rfl rfl (by decide) rfl ?_
  refine qr_iconst 5 rfl rfl ?_
  refine qr_aload_n 6 rfl rfl rfl ?_
  refine qr_get 9 rfl rfl rfl (by decide) rfl ?_
  refine qr_iconst 10 rfl rfl ?_
  refine qr_bipush 12 rfl (by decide) rfl ?_
  refine qy_copyi 15 rfl (by decide) (by decide) rfl rfl (by omega) (by omega) (by omega) (by omega) (by omega) (by decide) (by decide) rfl ?_
  refine qy_wA (qw_r α 77 (va_cpy (α 77) (α 77) (1 : Int).toNat (0 : Int).toNat (39 : Int).toNat)) rfl (fun α1 e2 => ?_)
  have hF4 : qFr [(76, 7)] [77, 78, 79, 80] σ α σ α1 := by rw [e2]; exact qFr_r hF0 77 _ (by decide)
  refine qr_aload_n 16 rfl rfl rfl ?_
  refine qr_get 19 rfl rfl rfl (by decide) rfl ?_
  refine qr_iconst 20 rfl rfl ?_
  refine qr_aload_n 21 rfl rfl rfl ?_
  refine qr_get 24 rfl rfl rfl (by decide) rfl ?_
  refine qr_iconst 25 rfl rfl ?_
  refine qr_bipush 27 rfl (by decide) rfl ?_
  refine qy_copyi 30 rfl (by decide) (by decide) rfl rfl (by omega) (by omega) (by omega) (by omega) (by omega) (by decide) (by decide) rfl ?_
  refine qy_wA (qw_r α1 78 (va_cpy (α1 78) (α1 78) (1 : Int).toNat (0 : Int).toNat (39 : Int).toNat)) rfl (fun α5 e6 => ?_)
  have hI7 : qI σ α5 κ ρ := by rw [e6, e2]; exact qI_cpy77 hI (by omega)
  have hF8 : qFr [(76, 7)] [77, 78, 79, 80] σ α σ α5 := by rw [e6]; exact qFr_r hF4 78 _ (by decide)
  refine qr_aload_n 31 rfl rfl rfl ?_
  refine qr_get 34 rfl rfl rfl (by decide) rfl ?_
  refine qr_iconst 35 rfl rfl ?_
  refine qr_aload_n 36 rfl rfl rfl ?_
  refine qr_get 39 rfl rfl rfl (by decide) rfl ?_
  refine qr_iconst 40 rfl rfl ?_
  refine qr_bipush 42 rfl (by decide) rfl ?_
  refine qy_copyi 45 rfl (by decide) (by decide) rfl rfl (by omega) (by omega) (by omega) (by omega) (by omega) (by decide) (by decide) rfl ?_
  refine qy_wA (qw_r α5 79 (va_cpy (α5 79) (α5 79) (1 : Int).toNat (0 : Int).toNat (39 : Int).toNat)) rfl (fun α9 e10 => ?_)
  have hI11 : qI σ α9 κ ρ := by rw [e10]; exact qI_cpy hI7 79 79 rfl rfl (show _ ≤ 40 by omega)
  have hF12 : qFr [(76, 7)] [77, 78, 79, 80] σ α σ α9 := by rw [e10]; exact qFr_r hF8 79 _ (by decide)
  refine qr_aload_n 46 rfl rfl rfl ?_
  refine qr_get 49 rfl rfl rfl (by decide) rfl ?_
  refine qr_iconst 50 rfl rfl ?_
  refine qr_aload_n 51 rfl rfl rfl ?_
  refine qr_get 54 rfl rfl rfl (by decide) rfl ?_
  refine qr_iconst 55 rfl rfl ?_
  refine qr_bipush 57 rfl (by decide) rfl ?_
  refine qy_copyi 60 rfl (by decide) (by decide) rfl rfl (by omega) (by omega) (by omega) (by omega) (by omega) (by decide) (by decide) rfl ?_
  refine qy_wA (qw_r α9 80 (va_cpy (α9 80) (α9 80) (1 : Int).toNat (0 : Int).toNat (39 : Int).toNat)) rfl (fun α13 e14 => ?_)
  have hI15 : qI σ α13 κ ρ := by rw [e14]; exact qI_cpy hI11 80 80 rfl rfl (show _ ≤ 40 by omega)
  have hF16 : qFr [(76, 7)] [77, 78, 79, 80] σ α σ α13 := by rw [e14]; exact qFr_r hF12 80 _ (by decide)
  refine qr_aload_n 61 rfl rfl rfl ?_
  refine qr_bipush 63 rfl (by decide) rfl ?_
  refine qr_put 66 rfl (by decide) rfl (Nat.le_of_ble_eq_true rfl) (Nat.le_of_ble_eq_true rfl) (Or.inl rfl) (qr_fitI rfl _) rfl ?_
  refine qy_wS (qw_s σ 76 7 39) rfl (fun σ17 e18 => ?_)
  have hI19 : qI σ17 α13 κ ρ := by rw [e18]; exact qI_s hI15 76 7 rfl (show 0 ≤ 39 ∧ 39 ≤ 40 by omega)
  have hF20 : qFr [(76, 7)] [77, 78, 79, 80] σ α σ17 α13 := by rw [e18]; exact qFr_s hF16 76 7 _ (by decide)
  refine qr_retV rfl rfl (by decide) (by decide) ?_
  exact ⟨_, _, rfl, hI19, hF20, (by have hw : σ17 76 7 = 39 := (congrFun (congrFun e18 76) 7).trans rfl; omega), rfl⟩

set_option maxHeartbeats 4000000 in
set_option maxRecDepth 20000 in
/-- OneRoof$History.change -/
theorem sf_52_76 {L : Nat} {xs : Nat → Int} {vb : Bool} {d : Nat} {σ α : Nat → Nat → Int} {κ : Nat → Option Nat} {ρ : Nat} {x1 : Int} {x2 : Int} {x3 : Int} (hI : qI σ α κ ρ) (r1 : (-2147483648) ≤ x1 ∧ x1 ≤ 2147483647) (r2 : 0 ≤ x2 ∧ x2 ≤ 1919) (r3 : (-2147483648) ≤ x3 ∧ x3 ≤ 2147483647) (p0 : (x1 = 0 → x2 ≤ 39) ∧ (x1 = 2 → x2 ≤ 31) ∧ (¬ x1 = 0 → ¬ x1 = 1 → ¬ x1 = 2 → x2 ≤ 59)) : qm_T (qe L xs vb) (d + 3) 52 [.ref 76, .int (qz x1), .int (qz x2), .int (qz x3)] (qw σ α κ ρ) (fun r w' => ∃ σ' α', w' = qw σ' α' κ ρ ∧ qI σ' α' κ ρ ∧ qFr [(76, 7), (76, 8)] [20, 33, 35, 41, 77, 78, 79, 80] σ α σ' α' ∧ ∃ v : Int, r = some (.int (qz v)) ∧ ((-2147483648) ≤ v ∧ v ≤ 2147483647)) := by
  refine qr_start (d := d + 2) qv_e52 (Nat.le_of_ble_eq_true rfl) ?_
  show qr_W (qe L xs vb) (d + 2) qx_e52 _ (0, [(0, .ref 76), (1, .int (qz x1)), (2, .int (qz x2)), (3, .int (qz x3))], [], _, 0, 0)
  have hF0 := qFr_rf [(76, 7), (76, 8)] [20, 33, 35, 41, 77, 78, 79, 80] σ α
  refine qr_aload_n 1 rfl rfl rfl ?_
  refine qr_iload_n 2 rfl rfl rfl ?_
  refine qr_iload_n 3 rfl rfl rfl ?_
  refine qr_callN 6 rfl rfl rfl (sf_53_76 (d := d + 0) hI r1 r2 (by omega)) ?_
  rintro _ _ ⟨rfl, v1, rfl, hv1⟩
  show qr_W (qe L xs vb) (d + 2) qx_e52 _ (6, _, [.int (qz v1)], qw σ α κ ρ, 0, 0)
  refine qr_istore _ 8 rfl (by decide) rfl rfl ?_
  refine qr_iload 10 rfl rfl rfl ?_
  refine qr_iload_n 11 rfl rfl rfl ?_
  refine qr_icmp_ne 17 14 rfl rfl rfl hv1 r3 (fun h2 => ?_) (fun h2 => ?_)
  · skip
    refine qr_aload_n 18 rfl rfl rfl ?_
    refine qr_get 21 rfl rfl rfl (by decide) rfl ?_
    have hs3 : 0 ≤ σ 76 7 ∧ σ 76 7 ≤ 40 := hI.1 76 7
    refine qr_bipush 23 rfl (by decide) rfl ?_
    have hJ20 : ∀ (ls : qm_L) (σ15 α16 : Nat → Nat → Int), qm_get ls 0 = some (.ref 76) → qm_get ls 1 = some (.int (qz x1)) → qm_get ls 2 = some (.int (qz x2)) → qm_get ls 3 = some (.int (qz x3)) → qm_get ls 4 = some (.int (qz v1)) → qI σ15 α16 κ ρ → qFr [(76, 7), (76, 8)] [20, 33, 35, 41, 77, 78, 79, 80] σ α σ15 α16 → σ15 76 7 ≤ 39 → qr_W (qe L xs vb) (d + 2) qx_e52 (fun r w' => ∃ σ' α', w' = qw σ' α' κ ρ ∧ qI σ' α' κ ρ ∧ qFr [(76, 7), (76, 8)] [20, 33, 35, 41, 77, 78, 79, 80] σ α σ' α' ∧ ∃ v : Int, r = some (.int (qz v)) ∧ ((-2147483648) ≤ v ∧ v ≤ 2147483647)) (30, ls, [], qw σ15 α16 κ ρ, 0, 0) := by
      intro ls σ15 α16 g10 g11 g12 g13 g14 hI17 hF18 hx19
      refine qr_aload_n 31 rfl g10 rfl ?_
      refine qr_get 34 rfl rfl rfl (by decide) rfl ?_
      refine qr_aload_n 35 rfl g10 rfl ?_
      refine qr_get 38 rfl rfl rfl (by decide) rfl ?_
      have hs21 : 0 ≤ σ15 76 7 ∧ σ15 76 7 ≤ 40 := hI17.1 76 7
      refine qr_iload_n 39 rfl g11 rfl ?_
      refine qr_iastore 40 rfl (by decide) rfl (by omega) (by decide) rfl ?_
      refine qy_wA (qw_r α16 77 (qzu (α16 77) ((σ15 76 7) : Int).toNat x1)) rfl (fun α22 e23 => ?_)
      have hF25 : qFr [(76, 7), (76, 8)] [20, 33, 35, 41, 77, 78, 79, 80] σ α σ15 α22 := by rw [e23]; exact qFr_r hF18 77 _ (by decide)
      refine qr_aload_n 41 rfl g10 rfl ?_
      refine qr_get 44 rfl rfl rfl (by decide) rfl ?_
      refine qr_aload_n 45 rfl g10 rfl ?_
      refine qr_get 48 rfl rfl rfl (by decide) rfl ?_
      refine qr_iload_n 49 rfl g12 rfl ?_
      refine qr_iastore 50 rfl (by decide) rfl (by omega) (by decide) rfl ?_
      refine qy_wA (qw_r α22 78 (qzu (α22 78) ((σ15 76 7) : Int).toNat x2)) rfl (fun α26 e27 => ?_)
      have hI28 : qI σ15 α26 κ ρ := by rw [e27, e23]; exact qI_r77 hI17 _ (show 0 ≤ x2 ∧ x2 ≤ 1919 by omega) (by omega)
      have hF29 : qFr [(76, 7), (76, 8)] [20, 33, 35, 41, 77, 78, 79, 80] σ α σ15 α26 := by rw [e27]; exact qFr_r hF25 78 _ (by decide)
      refine qr_aload_n 51 rfl g10 rfl ?_
      refine qr_get 54 rfl rfl rfl (by decide) rfl ?_
      refine qr_aload_n 55 rfl g10 rfl ?_
      refine qr_get 58 rfl rfl rfl (by decide) rfl ?_
      refine qr_iload 60 rfl g14 rfl ?_
      refine qr_iastore 61 rfl (by decide) rfl (by omega) (by decide) rfl ?_
      refine qy_wA (qw_r α26 79 (qzu (α26 79) ((σ15 76 7) : Int).toNat v1)) rfl (fun α30 e31 => ?_)
      have hI32 : qI σ15 α30 κ ρ := by rw [e31]; exact qI_r hI28 79 _ rfl (show (-2147483648) ≤ v1 ∧ v1 ≤ 2147483647 by omega)
      have hF33 : qFr [(76, 7), (76, 8)] [20, 33, 35, 41, 77, 78, 79, 80] σ α σ15 α30 := by rw [e31]; exact qFr_r hF29 79 _ (by decide)
      refine qr_aload_n 62 rfl g10 rfl ?_
      refine qr_get 65 rfl rfl rfl (by decide) rfl ?_
      refine qr_aload_n 66 rfl g10 rfl ?_
      refine qr_get 69 rfl rfl rfl (by decide) rfl ?_
      refine qr_iload_n 70 rfl g13 rfl ?_
      refine qr_iastore 71 rfl (by decide) rfl (by omega) (by decide) rfl ?_
      refine qy_wA (qw_r α30 80 (qzu (α30 80) ((σ15 76 7) : Int).toNat x3)) rfl (fun α34 e35 => ?_)
      have hI36 : qI σ15 α34 κ ρ := by rw [e35]; exact qI_r hI32 80 _ rfl (show (-2147483648) ≤ x3 ∧ x3 ≤ 2147483647 by omega)
      have hF37 : qFr [(76, 7), (76, 8)] [20, 33, 35, 41, 77, 78, 79, 80] σ α σ15 α34 := by rw [e35]; exact qFr_r hF33 80 _ (by decide)
      refine qr_aload_n 72 rfl g10 rfl ?_
      refine qr_dup 73 rfl rfl rfl ?_
      refine qr_get 76 rfl rfl rfl (by decide) rfl ?_
      refine qr_iconst 77 rfl rfl ?_
      refine qr_iadd 78 rfl rfl ?_
      refine qr_put 81 rfl (by decide) rfl (Nat.le_of_ble_eq_true rfl) (Nat.le_of_ble_eq_true rfl) (Or.inl rfl) (qr_fitI rfl _) rfl ?_
      refine qy_wS (qw_s σ15 76 7 ((σ15 76 7) + 1)) rfl (fun σ38 e39 => ?_)
      have hI40 : qI σ38 α34 κ ρ := by rw [e39]; exact qI_s hI36 76 7 rfl (show 0 ≤ ((σ15 76 7) + 1) ∧ ((σ15 76 7) + 1) ≤ 40 by omega)
      have hF41 : qFr [(76, 7), (76, 8)] [20, 33, 35, 41, 77, 78, 79, 80] σ α σ38 α34 := by rw [e39]; exact qFr_s hF37 76 7 _ (by decide)
      refine qr_aload_n 82 rfl g10 rfl ?_
      refine qr_aload_n 83 rfl g10 rfl ?_
      refine qr_get 86 rfl rfl rfl (by decide) rfl ?_
      refine qy_v ((σ15 76 7) + 1) ((congrFun (congrFun e39 76) 7).trans rfl) ?_
      refine qr_put 89 rfl (by decide) rfl (Nat.le_of_ble_eq_true rfl) (Nat.le_of_ble_eq_true rfl) (Or.inl rfl) (qr_fitI rfl _) rfl ?_
      refine qy_wS (qw_s σ38 76 8 ((σ15 76 7) + 1)) rfl (fun σ42 e43 => ?_)
      have hI44 : qI σ42 α34 κ ρ := by rw [e43]; exact qI_s hI40 76 8 rfl (show 0 ≤ ((σ15 76 7) + 1) ∧ ((σ15 76 7) + 1) ≤ 40 by omega)
      have hF45 : qFr [(76, 7), (76, 8)] [20, 33, 35, 41, 77, 78, 79, 80] σ α σ42 α34 := by rw [e43]; exact qFr_s hF41 76 8 _ (by decide)
      refine qr_aload_n 90 rfl g10 rfl ?_
      refine qr_iload_n 91 rfl g11 rfl ?_
      refine qr_iload_n 92 rfl g12 rfl ?_
      refine qr_iload_n 93 rfl g13 rfl ?_
      refine qr_callN 96 rfl rfl rfl (sf_55_76 (d := d + 1) hI44 r1 r2 r3 (by omega)) ?_
      rintro _ _ ⟨α46, rfl, hI47, hG48, rfl⟩
      have hF49 : qFr [(76, 7), (76, 8)] [20, 33, 35, 41, 77, 78, 79, 80] σ α σ42 α46 := qFr_t hF45 hG48 (by decide) (by decide)
      show qr_W (qe L xs vb) (d + 2) qx_e52 _ (96, _, [], qw σ42 α46 κ ρ, 0, 0)
      refine qr_iload 98 rfl g14 rfl ?_
      refine qr_retI rfl rfl (by decide) (by decide) ?_
      exact ⟨_, _, rfl, hI47, hF49, v1, rfl, hv1⟩
    refine qr_icmp_lt 30 26 rfl rfl rfl (qrg hs3 (by decide) (by decide)) (by decide) (fun h50 => ?_) (fun h50 => ?_)
    · skip
      exact hJ20 _ σ α rfl rfl rfl rfl rfl hI hF0 (by have hw : σ 76 7 = (σ 76 7) := rfl; omega)
    · skip
      refine qr_aload_n 27 rfl rfl rfl ?_
      refine qr_callN 30 rfl rfl rfl (sf_54_76 (d := d + 1) hI ) ?_
      rintro _ _ ⟨σ52, α53, rfl, hI54, hG55, hw51, rfl⟩
      have hF56 : qFr [(76, 7), (76, 8)] [20, 33, 35, 41, 77, 78, 79, 80] σ α σ52 α53 := qFr_t hF0 hG55 (by decide) (by decide)
      show qr_W (qe L xs vb) (d + 2) qx_e52 _ (30, _, [], qw σ52 α53 κ ρ, 0, 0)
      exact hJ20 _ σ52 α53 rfl rfl rfl rfl rfl hI54 hF56 (by omega)
  · skip
    refine qr_iload 16 rfl rfl rfl ?_
    refine qr_retI rfl rfl (by decide) (by decide) ?_
    exact ⟨_, _, rfl, hI, hF0, v1, rfl, hv1⟩

set_option maxHeartbeats 4000000 in
set_option maxRecDepth 20000 in
/-- OneRoof$History.back -/
theorem sf_145_76 {L : Nat} {xs : Nat → Int} {vb : Bool} {d : Nat} {σ α : Nat → Nat → Int} {κ : Nat → Option Nat} {ρ : Nat}  (hI : qI σ α κ ρ)  : qm_T (qe L xs vb) (d + 2) 145 [.ref 76] (qw σ α κ ρ) (fun r w' => ∃ σ' α', w' = qw σ' α' κ ρ ∧ qI σ' α' κ ρ ∧ qFr [(76, 7)] [20, 33, 35, 41] σ α σ' α' ∧ ∃ v : Int, r = some (.int (qz v)) ∧ ((-2147483648) ≤ v ∧ v ≤ 2147483647)) := by
  refine qr_start (d := d + 1) qv_e145 (Nat.le_of_ble_eq_true rfl) ?_
  show qr_W (qe L xs vb) (d + 1) qx_e145 _ (0, [(0, .ref 76)], [], _, 0, 0)
  have hF0 := qFr_rf [(76, 7)] [20, 33, 35, 41] σ α
  refine qr_aload_n 1 rfl rfl rfl ?_
  refine qr_get 4 rfl rfl rfl (by decide) rfl ?_
  have hs1 : 0 ≤ σ 76 7 ∧ σ 76 7 ≤ 40 := hI.1 76 7
  refine qr_if_gt 10 7 rfl rfl rfl (qrg hs1 (by decide) (by decide)) (fun h2 => ?_) (fun h2 => ?_)
  · skip
    refine qr_aload_n 11 rfl rfl rfl ?_
    refine qr_dup 12 rfl rfl rfl ?_
    refine qr_get 15 rfl rfl rfl (by decide) rfl ?_
    refine qr_iconst 16 rfl rfl ?_
    refine qr_isub 17 rfl rfl ?_
    refine qr_put 20 rfl (by decide) rfl (Nat.le_of_ble_eq_true rfl) (Nat.le_of_ble_eq_true rfl) (Or.inl rfl) (qr_fitI rfl _) rfl ?_
    refine qy_wS (qw_s σ 76 7 ((σ 76 7) - 1)) rfl (fun σ3 e4 => ?_)
    have hI5 : qI σ3 α κ ρ := by rw [e4]; exact qI_s hI 76 7 rfl (show 0 ≤ ((σ 76 7) - 1) ∧ ((σ 76 7) - 1) ≤ 40 by omega)
    have hF6 : qFr [(76, 7)] [20, 33, 35, 41] σ α σ3 α := by rw [e4]; exact qFr_s hF0 76 7 _ (by decide)
    refine qr_aload_n 21 rfl rfl rfl ?_
    refine qr_aload_n 22 rfl rfl rfl ?_
    refine qr_get 25 rfl rfl rfl (by decide) rfl ?_
    refine qr_aload_n 26 rfl rfl rfl ?_
    refine qr_get 29 rfl rfl rfl (by decide) rfl ?_
    refine qy_v ((σ 76 7) - 1) ((congrFun (congrFun e4 76) 7).trans rfl) ?_
    refine qr_iaload 30 rfl rfl (by omega) (by decide) rfl ?_
    refine qr_topI (fun v7 hv7 => ?_)
    have hs8 : (-2147483648) ≤ v7 ∧ v7 ≤ 2147483647 := by rw [hv7]; exact hI5.2.1 77 _ (show _ < 40 by omega)
    refine qr_aload_n 31 rfl rfl rfl ?_
    refine qr_get 34 rfl rfl rfl (by decide) rfl ?_
    refine qr_aload_n 35 rfl rfl rfl ?_
    refine qr_get 38 rfl rfl rfl (by decide) rfl ?_
    refine qy_v ((σ 76 7) - 1) ((congrFun (congrFun e4 76) 7).trans rfl) ?_
    refine qr_iaload 39 rfl rfl (by omega) (by decide) rfl ?_
    refine qr_topI (fun v9 hv9 => ?_)
    have hs10 : 0 ≤ v9 ∧ v9 ≤ 1919 := by rw [hv9]; exact hI5.2.1 78 _ (show _ < 40 by omega)
    have hs11 := hI5.2.2.2.2.2.1 (((σ 76 7) - 1) : Int).toNat (by omega)
    refine qr_aload_n 40 rfl rfl rfl ?_
    refine qr_get 43 rfl rfl rfl (by decide) rfl ?_
    refine qr_aload_n 44 rfl rfl rfl ?_
    refine qr_get 47 rfl rfl rfl (by decide) rfl ?_
    refine qy_v ((σ 76 7) - 1) ((congrFun (congrFun e4 76) 7).trans rfl) ?_
    refine qr_iaload 48 rfl rfl (by omega) (by decide) rfl ?_
    refine qr_topI (fun v12 hv12 => ?_)
    have hs13 : (-2147483648) ≤ v12 ∧ v12 ≤ 2147483647 := by rw [hv12]; exact hI5.2.1 79 _ (show _ < 40 by omega)
    refine qr_callN 51 rfl rfl rfl (sf_55_76 (d := d + 0) hI5 hs8 hs10 hs13 (by omega)) ?_
    rintro _ _ ⟨α14, rfl, hI15, hG16, rfl⟩
    have hF17 : qFr [(76, 7)] [20, 33, 35, 41] σ α σ3 α14 := qFr_t hF6 hG16 (by decide) (by decide)
    show qr_W (qe L xs vb) (d + 1) qx_e145 _ (51, _, [], qw σ3 α14 κ ρ, 0, 0)
    refine qr_aload_n 52 rfl rfl rfl ?_
    refine qr_get 55 rfl rfl rfl (by decide) rfl ?_
    refine qy_v ((σ 76 7) - 1) ((congrFun (congrFun e4 76) 7).trans rfl) ?_
    refine qr_retI rfl rfl (by decide) (by decide) ?_
    exact ⟨_, _, rfl, hI15, hF17, ((σ 76 7) - 1), rfl, (by omega)⟩
  · skip
    refine qr_bipush 9 rfl (by decide) rfl ?_
    refine qr_retI rfl rfl (by decide) (by decide) ?_
    exact ⟨_, _, rfl, hI, hF0, (-5), rfl, (by decide)⟩

set_option maxHeartbeats 4000000 in
set_option maxRecDepth 20000 in
/-- OneRoof$History.again -/
theorem sf_147_76 {L : Nat} {xs : Nat → Int} {vb : Bool} {d : Nat} {σ α : Nat → Nat → Int} {κ : Nat → Option Nat} {ρ : Nat}  (hI : qI σ α κ ρ)  : qm_T (qe L xs vb) (d + 2) 147 [.ref 76] (qw σ α κ ρ) (fun r w' => ∃ σ' α', w' = qw σ' α' κ ρ ∧ qI σ' α' κ ρ ∧ qFr [(76, 7)] [20, 33, 35, 41] σ α σ' α' ∧ ∃ v : Int, r = some (.int (qz v)) ∧ ((-2147483648) ≤ v ∧ v ≤ 2147483647)) := by
  refine qr_start (d := d + 1) qv_e147 (Nat.le_of_ble_eq_true rfl) ?_
  show qr_W (qe L xs vb) (d + 1) qx_e147 _ (0, [(0, .ref 76)], [], _, 0, 0)
  have hF0 := qFr_rf [(76, 7)] [20, 33, 35, 41] σ α
  refine qr_aload_n 1 rfl rfl rfl ?_
  refine qr_get 4 rfl rfl rfl (by decide) rfl ?_
  have hs1 : 0 ≤ σ 76 7 ∧ σ 76 7 ≤ 40 := hI.1 76 7
  refine qr_aload_n 5 rfl rfl rfl ?_
  refine qr_get 8 rfl rfl rfl (by decide) rfl ?_
  have hs2 : 0 ≤ σ 76 8 ∧ σ 76 8 ≤ 40 := hI.1 76 8
  refine qr_icmp_ge 20 11 rfl rfl rfl (qrg hs1 (by decide) (by decide)) (qrg hs2 (by decide) (by decide)) (fun h3 => ?_) (fun h3 => ?_)
  · skip
    refine qr_bipush 22 rfl (by decide) rfl ?_
    refine qr_retI rfl rfl (by decide) (by decide) ?_
    exact ⟨_, _, rfl, hI, hF0, (-5), rfl, (by decide)⟩
  · skip
    refine qr_aload_n 12 rfl rfl rfl ?_
    refine qr_get 15 rfl rfl rfl (by decide) rfl ?_
    refine qr_bipush 17 rfl (by decide) rfl ?_
    refine qr_icmp_lt 23 20 rfl rfl rfl (qrg hs1 (by decide) (by decide)) (by decide) (fun h4 => ?_) (fun h => False.elim (by omega))
    refine qr_aload_n 24 rfl rfl rfl ?_
    refine qr_aload_n 25 rfl rfl rfl ?_
    refine qr_get 28 rfl rfl rfl (by decide) rfl ?_
    refine qr_aload_n 29 rfl rfl rfl ?_
    refine qr_get 32 rfl rfl rfl (by decide) rfl ?_
    refine qr_iaload 33 rfl rfl (by omega) (by decide) rfl ?_
    refine qr_topI (fun v5 hv5 => ?_)
    have hs6 : (-2147483648) ≤ v5 ∧ v5 ≤ 2147483647 := by rw [hv5]; exact hI.2.1 77 _ (show _ < 40 by omega)
    refine qr_aload_n 34 rfl rfl rfl ?_
    refine qr_get 37 rfl rfl rfl (by decide) rfl ?_
    refine qr_aload_n 38 rfl rfl rfl ?_
    refine qr_get 41 rfl rfl rfl (by decide) rfl ?_
    refine qr_iaload 42 rfl rfl (by omega) (by decide) rfl ?_
    refine qr_topI (fun v7 hv7 => ?_)
    have hs8 : 0 ≤ v7 ∧ v7 ≤ 1919 := by rw [hv7]; exact hI.2.1 78 _ (show _ < 40 by omega)
    have hs9 := hI.2.2.2.2.2.1 ((σ 76 7) : Int).toNat (by omega)
    refine qr_aload_n 43 rfl rfl rfl ?_
    refine qr_get 46 rfl rfl rfl (by decide) rfl ?_
    refine qr_aload_n 47 rfl rfl rfl ?_
    refine qr_get 50 rfl rfl rfl (by decide) rfl ?_
    refine qr_iaload 51 rfl rfl (by omega) (by decide) rfl ?_
    refine qr_topI (fun v10 hv10 => ?_)
    have hs11 : (-2147483648) ≤ v10 ∧ v10 ≤ 2147483647 := by rw [hv10]; exact hI.2.1 80 _ (show _ < 40 by omega)
    refine qr_callN 54 rfl rfl rfl (sf_55_76 (d := d + 0) hI hs6 hs8 hs11 (by omega)) ?_
    rintro _ _ ⟨α12, rfl, hI13, hG14, rfl⟩
    have hF15 : qFr [(76, 7)] [20, 33, 35, 41] σ α σ α12 := qFr_t hF0 hG14 (by decide) (by decide)
    show qr_W (qe L xs vb) (d + 1) qx_e147 _ (54, _, [], qw σ α12 κ ρ, 0, 0)
    refine qr_aload_n 55 rfl rfl rfl ?_
    refine qr_dup 56 rfl rfl rfl ?_
    refine qr_get 59 rfl rfl rfl (by decide) rfl ?_
    refine qr_iconst 60 rfl rfl ?_
    refine qr_iadd 61 rfl rfl ?_
    refine qr_put 64 rfl (by decide) rfl (Nat.le_of_ble_eq_true rfl) (Nat.le_of_ble_eq_true rfl) (Or.inl rfl) (qr_fitI rfl _) rfl ?_
    refine qy_wS (qw_s σ 76 7 ((σ 76 7) + 1)) rfl (fun σ16 e17 => ?_)
    have hI18 : qI σ16 α12 κ ρ := by rw [e17]; exact qI_s hI13 76 7 rfl (show 0 ≤ ((σ 76 7) + 1) ∧ ((σ 76 7) + 1) ≤ 40 by omega)
    have hF19 : qFr [(76, 7)] [20, 33, 35, 41] σ α σ16 α12 := by rw [e17]; exact qFr_s hF15 76 7 _ (by decide)
    refine qr_aload_n 65 rfl rfl rfl ?_
    refine qr_get 68 rfl rfl rfl (by decide) rfl ?_
    refine qy_v (σ 76 8) ((congrFun (congrFun e17 76) 8).trans rfl) ?_
    refine qr_aload_n 69 rfl rfl rfl ?_
    refine qr_get 72 rfl rfl rfl (by decide) rfl ?_
    refine qy_v ((σ 76 7) + 1) ((congrFun (congrFun e17 76) 7).trans rfl) ?_
    refine qr_isub 73 rfl rfl ?_
    refine qr_retI rfl rfl (by decide) (by decide) ?_
    exact ⟨_, _, rfl, hI18, hF19, ((σ 76 8) - ((σ 76 7) + 1)), rfl, (by omega)⟩

set_option maxHeartbeats 4000000 in
set_option maxRecDepth 20000 in
/-- OneRoof.sword -/
theorem sf_51_16 {L : Nat} {xs : Nat → Int} {vb : Bool} {d : Nat} {σ α : Nat → Nat → Int} {κ : Nat → Option Nat} {ρ : Nat} {x1 : Int} {x2 : Int} (hI : qI σ α κ ρ) (r1 : (-2147483648) ≤ x1 ∧ x1 ≤ 2147483647) (r2 : (-2147483648) ≤ x2 ∧ x2 ≤ 2147483647) : qm_T (qe L xs vb) (d + 4) 51 [.ref 16, .int (qz x1), .int (qz x2)] (qw σ α κ ρ) (fun r w' => ∃ σ' α', w' = qw σ' α' κ ρ ∧ qI σ' α' κ ρ ∧ qFr [(76, 7), (76, 8)] [20, 33, 35, 41, 77, 78, 79, 80] σ α σ' α' ∧ ∃ v : Int, r = some (.int (qz v)) ∧ ((-2147483648) ≤ v ∧ v ≤ 2147483647)) := by
  refine qr_start (d := d + 3) qv_e51 (Nat.le_of_ble_eq_true rfl) ?_
  show qr_W (qe L xs vb) (d + 3) qx_e51 _ (0, [(0, .ref 16), (1, .int (qz x1)), (2, .int (qz x2))], [], _, 0, 0)
  have hF0 := qFr_rf [(76, 7), (76, 8)] [20, 33, 35, 41, 77, 78, 79, 80] σ α
  refine qr_aload_n 1 rfl rfl rfl ?_
  refine qr_get 4 rfl rfl rfl (by decide) rfl ?_
  refine qr_iload_n 5 rfl rfl rfl ?_
  refine qr_callN 8 rfl rfl rfl (sf_40_17 (d := d + 2) hI r1) ?_
  have hs3 : 0 ≤ σ 17 6 ∧ σ 17 6 ≤ 32 := hI.1 17 6
  rintro _ _ ⟨rfl, v1, rfl, hv1, hp2⟩
  show qr_W (qe L xs vb) (d + 3) qx_e51 _ (8, _, [.int (qz v1)], qw σ α κ ρ, 0, 0)
  refine qr_if_eq 18 11 rfl rfl rfl (qrg hv1 (by decide) (by decide)) (fun h4 => ?_) (fun h4 => ?_)
  · skip
    refine qr_iconst 19 rfl rfl ?_
    refine qr_retI rfl rfl (by decide) (by decide) ?_
    exact ⟨_, _, rfl, hI, hF0, (-1), rfl, (by decide)⟩
  · skip
    refine qr_iload_n 12 rfl rfl rfl ?_
    refine qr_callN 15 rfl rfl rfl (sf_41 (d := d + 2) hI r2) ?_
    rintro _ _ ⟨rfl, v5, rfl, hv5, hp6⟩
    show qr_W (qe L xs vb) (d + 3) qx_e51 _ (15, _, [.int (qz v5)], qw σ α κ ρ, 0, 0)
    refine qr_if_ne 20 18 rfl rfl rfl (qrg hv5 (by decide) (by decide)) (fun h7 => ?_) (fun h7 => ?_)
    · skip
      refine qr_aload_n 21 rfl rfl rfl ?_
      refine qr_get 24 rfl rfl rfl (by decide) rfl ?_
      refine qr_iconst 25 rfl rfl ?_
      refine qr_iload_n 26 rfl rfl rfl ?_
      refine qr_iload_n 27 rfl rfl rfl ?_
      refine qr_callN 30 rfl rfl rfl (sf_52_76 (d := d + 0) hI (by decide) (by omega) r2 (by omega)) ?_
      rintro _ _ ⟨σ9, α10, rfl, hI11, hG12, v8, rfl, hv8⟩
      have hF13 : qFr [(76, 7), (76, 8)] [20, 33, 35, 41, 77, 78, 79, 80] σ α σ9 α10 := qFr_t hF0 hG12 (by decide) (by decide)
      show qr_W (qe L xs vb) (d + 3) qx_e51 _ (30, _, [.int (qz v8)], qw σ9 α10 κ ρ, 0, 0)
      refine qr_retI rfl rfl (by decide) (by decide) ?_
      exact ⟨_, _, rfl, hI11, hF13, v8, rfl, hv8⟩
    · skip
      refine qr_iconst 19 rfl rfl ?_
      refine qr_retI rfl rfl (by decide) (by decide) ?_
      exact ⟨_, _, rfl, hI, hF0, (-1), rfl, (by decide)⟩

set_option maxHeartbeats 4000000 in
set_option maxRecDepth 20000 in
/-- OneRoof.pay -/
theorem sf_64_16 {L : Nat} {xs : Nat → Int} {vb : Bool} {d : Nat} {σ α : Nat → Nat → Int} {κ : Nat → Option Nat} {ρ : Nat} {x1 : Int} {x2 : Int} (hI : qI σ α κ ρ) (r1 : (-2147483648) ≤ x1 ∧ x1 ≤ 2147483647) (r2 : (-2147483648) ≤ x2 ∧ x2 ≤ 2147483647) : qm_T (qe L xs vb) (d + 4) 64 [.ref 16, .int (qz x1), .int (qz x2)] (qw σ α κ ρ) (fun r w' => ∃ σ' α', w' = qw σ' α' κ ρ ∧ qI σ' α' κ ρ ∧ qFr [(76, 7), (76, 8)] [20, 33, 35, 41, 77, 78, 79, 80] σ α σ' α' ∧ ∃ v : Int, r = some (.int (qz v)) ∧ ((-2147483648) ≤ v ∧ v ≤ 2147483647)) := by
  refine qr_start (d := d + 3) qv_e64 (Nat.le_of_ble_eq_true rfl) ?_
  show qr_W (qe L xs vb) (d + 3) qx_e64 _ (0, [(0, .ref 16), (1, .int (qz x1)), (2, .int (qz x2))], [], _, 0, 0)
  have hF0 := qFr_rf [(76, 7), (76, 8)] [20, 33, 35, 41, 77, 78, 79, 80] σ α
  refine qr_iload_n 1 rfl rfl rfl ?_
  refine qr_if_lt 26 4 rfl rfl rfl r1 (fun h1 => ?_) (fun h1 => ?_)
  · skip
    refine qr_iconst 27 rfl rfl ?_
    refine qr_retI rfl rfl (by decide) (by decide) ?_
    exact ⟨_, _, rfl, hI, hF0, (-1), rfl, (by decide)⟩
  · skip
    refine qr_iload_n 5 rfl rfl rfl ?_
    refine qr_aload_n 6 rfl rfl rfl ?_
    refine qr_get 9 rfl rfl rfl (by decide) rfl ?_
    refine qr_get 12 rfl rfl rfl (by decide) rfl ?_
    have hs2 : 0 ≤ σ 27 7 ∧ σ 27 7 ≤ 40 := hI.1 27 7
    refine qr_icmp_ge 26 15 rfl rfl rfl r1 (qrg hs2 (by decide) (by decide)) (fun h3 => ?_) (fun h3 => ?_)
    · skip
      refine qr_iconst 27 rfl rfl ?_
      refine qr_retI rfl rfl (by decide) (by decide) ?_
      exact ⟨_, _, rfl, hI, hF0, (-1), rfl, (by decide)⟩
    · skip
      refine qr_iload_n 16 rfl rfl rfl ?_
      refine qr_if_lt 26 19 rfl rfl rfl r2 (fun h4 => ?_) (fun h4 => ?_)
      · skip
        refine qr_iconst 27 rfl rfl ?_
        refine qr_retI rfl rfl (by decide) (by decide) ?_
        exact ⟨_, _, rfl, hI, hF0, (-1), rfl, (by decide)⟩
      · skip
        refine qr_iload_n 20 rfl rfl rfl ?_
        refine qr_sipush 23 rfl (by decide) rfl ?_
        refine qr_icmp_le 28 26 rfl rfl rfl r2 (by decide) (fun h5 => ?_) (fun h5 => ?_)
        · skip
          refine qr_aload_n 29 rfl rfl rfl ?_
          refine qr_get 32 rfl rfl rfl (by decide) rfl ?_
          refine qr_iconst 33 rfl rfl ?_
          refine qr_iload_n 34 rfl rfl rfl ?_
          refine qr_iload_n 35 rfl rfl rfl ?_
          refine qr_callN 38 rfl rfl rfl (sf_52_76 (d := d + 0) hI (by decide) (by omega) r2 (by omega)) ?_
          rintro _ _ ⟨σ7, α8, rfl, hI9, hG10, v6, rfl, hv6⟩
          have hF11 : qFr [(76, 7), (76, 8)] [20, 33, 35, 41, 77, 78, 79, 80] σ α σ7 α8 := qFr_t hF0 hG10 (by decide) (by decide)
          show qr_W (qe L xs vb) (d + 3) qx_e64 _ (38, _, [.int (qz v6)], qw σ7 α8 κ ρ, 0, 0)
          refine qr_retI rfl rfl (by decide) (by decide) ?_
          exact ⟨_, _, rfl, hI9, hF11, v6, rfl, hv6⟩
        · skip
          refine qr_iconst 27 rfl rfl ?_
          refine qr_retI rfl rfl (by decide) (by decide) ?_
          exact ⟨_, _, rfl, hI, hF0, (-1), rfl, (by decide)⟩

set_option maxHeartbeats 4000000 in
set_option maxRecDepth 20000 in
/-- OneRoof.cover -/
theorem sf_75_16 {L : Nat} {xs : Nat → Int} {vb : Bool} {d : Nat} {σ α : Nat → Nat → Int} {κ : Nat → Option Nat} {ρ : Nat} {x1 : Int} {x2 : Int} {x3 : Int} (hI : qI σ α κ ρ) (r1 : (-2147483648) ≤ x1 ∧ x1 ≤ 2147483647) (r2 : (-2147483648) ≤ x2 ∧ x2 ≤ 2147483647) (r3 : (-2147483648) ≤ x3 ∧ x3 ≤ 2147483647) : qm_T (qe L xs vb) (d + 4) 75 [.ref 16, .int (qz x1), .int (qz x2), .int (qz x3)] (qw σ α κ ρ) (fun r w' => ∃ σ' α', w' = qw σ' α' κ ρ ∧ qI σ' α' κ ρ ∧ qFr [(76, 7), (76, 8)] [20, 33, 35, 41, 77, 78, 79, 80] σ α σ' α' ∧ ∃ v : Int, r = some (.int (qz v)) ∧ ((-2147483648) ≤ v ∧ v ≤ 2147483647)) := by
  refine qr_start (d := d + 3) qv_e75 (Nat.le_of_ble_eq_true rfl) ?_
  show qr_W (qe L xs vb) (d + 3) qx_e75 _ (0, [(0, .ref 16), (1, .int (qz x1)), (2, .int (qz x2)), (3, .int (qz x3))], [], _, 0, 0)
  have hF0 := qFr_rf [(76, 7), (76, 8)] [20, 33, 35, 41, 77, 78, 79, 80] σ α
  refine qr_aload_n 1 rfl rfl rfl ?_
  refine qr_get 4 rfl rfl rfl (by decide) rfl ?_
  refine qr_iload_n 5 rfl rfl rfl ?_
  refine qr_callN 8 rfl rfl rfl (sf_73_34 (d := d + 2) hI r1) ?_
  have hs3 : 0 ≤ σ 34 7 ∧ σ 34 7 ≤ 60 := hI.1 34 7
  rintro _ _ ⟨rfl, v1, rfl, hv1, hp2⟩
  show qr_W (qe L xs vb) (d + 3) qx_e75 _ (8, _, [.int (qz v1)], qw σ α κ ρ, 0, 0)
  refine qr_if_eq 29 11 rfl rfl rfl (qrg hv1 (by decide) (by decide)) (fun h4 => ?_) (fun h4 => ?_)
  · skip
    refine qr_iconst 30 rfl rfl ?_
    refine qr_retI rfl rfl (by decide) (by decide) ?_
    exact ⟨_, _, rfl, hI, hF0, (-1), rfl, (by decide)⟩
  · skip
    refine qr_aload_n 12 rfl rfl rfl ?_
    refine qr_get 15 rfl rfl rfl (by decide) rfl ?_
    refine qr_iload_n 16 rfl rfl rfl ?_
    refine qr_callN 19 rfl rfl rfl (sf_40_17 (d := d + 2) hI r2) ?_
    have hs7 : 0 ≤ σ 17 6 ∧ σ 17 6 ≤ 32 := hI.1 17 6
    rintro _ _ ⟨rfl, v5, rfl, hv5, hp6⟩
    show qr_W (qe L xs vb) (d + 3) qx_e75 _ (19, _, [.int (qz v5)], qw σ α κ ρ, 0, 0)
    refine qr_if_eq 29 22 rfl rfl rfl (qrg hv5 (by decide) (by decide)) (fun h8 => ?_) (fun h8 => ?_)
    · skip
      refine qr_iconst 30 rfl rfl ?_
      refine qr_retI rfl rfl (by decide) (by decide) ?_
      exact ⟨_, _, rfl, hI, hF0, (-1), rfl, (by decide)⟩
    · skip
      refine qr_iload_n 23 rfl rfl rfl ?_
      refine qr_callN 26 rfl rfl rfl (sf_41 (d := d + 2) hI r3) ?_
      rintro _ _ ⟨rfl, v9, rfl, hv9, hp10⟩
      show qr_W (qe L xs vb) (d + 3) qx_e75 _ (26, _, [.int (qz v9)], qw σ α κ ρ, 0, 0)
      refine qr_if_ne 31 29 rfl rfl rfl (qrg hv9 (by decide) (by decide)) (fun h11 => ?_) (fun h11 => ?_)
      · skip
        refine qr_aload_n 32 rfl rfl rfl ?_
        refine qr_get 35 rfl rfl rfl (by decide) rfl ?_
        refine qr_iconst 36 rfl rfl ?_
        refine qr_iload_n 37 rfl rfl rfl ?_
        refine qr_bipush 39 rfl (by decide) rfl ?_
        refine qr_imul 40 rfl rfl ?_
        refine qr_iload_n 41 rfl rfl rfl ?_
        refine qr_iadd 42 rfl rfl ?_
        refine qr_iload_n 43 rfl rfl rfl ?_
        refine qr_callN 46 rfl rfl rfl (sf_52_76 (d := d + 0) hI (by decide) (by omega) r3 (by omega)) ?_
        rintro _ _ ⟨σ13, α14, rfl, hI15, hG16, v12, rfl, hv12⟩
        have hF17 : qFr [(76, 7), (76, 8)] [20, 33, 35, 41, 77, 78, 79, 80] σ α σ13 α14 := qFr_t hF0 hG16 (by decide) (by decide)
        show qr_W (qe L xs vb) (d + 3) qx_e75 _ (46, _, [.int (qz v12)], qw σ13 α14 κ ρ, 0, 0)
        refine qr_retI rfl rfl (by decide) (by decide) ?_
        exact ⟨_, _, rfl, hI15, hF17, v12, rfl, hv12⟩
      · skip
        refine qr_iconst 30 rfl rfl ?_
        refine qr_retI rfl rfl (by decide) (by decide) ?_
        exact ⟨_, _, rfl, hI, hF0, (-1), rfl, (by decide)⟩

set_option maxHeartbeats 4000000 in
set_option maxRecDepth 20000 in
/-- OneRoof.undo -/
theorem sf_144_16 {L : Nat} {xs : Nat → Int} {vb : Bool} {d : Nat} {σ α : Nat → Nat → Int} {κ : Nat → Option Nat} {ρ : Nat}  (hI : qI σ α κ ρ)  : qm_T (qe L xs vb) (d + 3) 144 [.ref 16] (qw σ α κ ρ) (fun r w' => ∃ σ' α', w' = qw σ' α' κ ρ ∧ qI σ' α' κ ρ ∧ qFr [(76, 7)] [20, 33, 35, 41] σ α σ' α' ∧ ∃ v : Int, r = some (.int (qz v)) ∧ ((-2147483648) ≤ v ∧ v ≤ 2147483647)) := by
  refine qr_start (d := d + 2) qv_e144 (Nat.le_of_ble_eq_true rfl) ?_
  show qr_W (qe L xs vb) (d + 2) qx_e144 _ (0, [(0, .ref 16)], [], _, 0, 0)
  have hF0 := qFr_rf [(76, 7)] [20, 33, 35, 41] σ α
  refine qr_aload_n 1 rfl rfl rfl ?_
  refine qr_get 4 rfl rfl rfl (by decide) rfl ?_
  refine qr_callN 7 rfl rfl rfl (sf_145_76 (d := d + 0) hI ) ?_
  rintro _ _ ⟨σ2, α3, rfl, hI4, hG5, v1, rfl, hv1⟩
  have hF6 : qFr [(76, 7)] [20, 33, 35, 41] σ α σ2 α3 := qFr_t hF0 hG5 (by decide) (by decide)
  show qr_W (qe L xs vb) (d + 2) qx_e144 _ (7, _, [.int (qz v1)], qw σ2 α3 κ ρ, 0, 0)
  refine qr_retI rfl rfl (by decide) (by decide) ?_
  exact ⟨_, _, rfl, hI4, hF6, v1, rfl, hv1⟩

set_option maxHeartbeats 4000000 in
set_option maxRecDepth 20000 in
/-- OneRoof.redo -/
theorem sf_146_16 {L : Nat} {xs : Nat → Int} {vb : Bool} {d : Nat} {σ α : Nat → Nat → Int} {κ : Nat → Option Nat} {ρ : Nat}  (hI : qI σ α κ ρ)  : qm_T (qe L xs vb) (d + 3) 146 [.ref 16] (qw σ α κ ρ) (fun r w' => ∃ σ' α', w' = qw σ' α' κ ρ ∧ qI σ' α' κ ρ ∧ qFr [(76, 7)] [20, 33, 35, 41] σ α σ' α' ∧ ∃ v : Int, r = some (.int (qz v)) ∧ ((-2147483648) ≤ v ∧ v ≤ 2147483647)) := by
  refine qr_start (d := d + 2) qv_e146 (Nat.le_of_ble_eq_true rfl) ?_
  show qr_W (qe L xs vb) (d + 2) qx_e146 _ (0, [(0, .ref 16)], [], _, 0, 0)
  have hF0 := qFr_rf [(76, 7)] [20, 33, 35, 41] σ α
  refine qr_aload_n 1 rfl rfl rfl ?_
  refine qr_get 4 rfl rfl rfl (by decide) rfl ?_
  refine qr_callN 7 rfl rfl rfl (sf_147_76 (d := d + 0) hI ) ?_
  rintro _ _ ⟨σ2, α3, rfl, hI4, hG5, v1, rfl, hv1⟩
  have hF6 : qFr [(76, 7)] [20, 33, 35, 41] σ α σ2 α3 := qFr_t hF0 hG5 (by decide) (by decide)
  show qr_W (qe L xs vb) (d + 2) qx_e146 _ (7, _, [.int (qz v1)], qw σ2 α3 κ ρ, 0, 0)
  refine qr_retI rfl rfl (by decide) (by decide) ?_
  exact ⟨_, _, rfl, hI4, hF6, v1, rfl, hv1⟩

set_option maxHeartbeats 4000000 in
set_option maxRecDepth 20000 in
/-- OneRoof.blow -/
theorem sf_138_16 {L : Nat} {xs : Nat → Int} {vb : Bool} {d : Nat} {σ α : Nat → Nat → Int} {κ : Nat → Option Nat} {ρ : Nat} {x1 : Int} (hI : qI σ α κ ρ) (r1 : (-2147483648) ≤ x1 ∧ x1 ≤ 2147483647) : qm_T (qe L xs vb) (d + 1) 138 [.ref 16, .int (qz x1)] (qw σ α κ ρ) (fun r w' => w' = qw σ α κ ρ ∧ ∃ v : Int, r = some (.int (qz v)) ∧ ((-2147483648) ≤ v ∧ v ≤ 2147483647)) := by
  refine qr_start (d := d + 0) qv_e138 (Nat.le_of_ble_eq_true rfl) ?_
  show qr_W (qe L xs vb) (d + 0) qx_e138 _ (0, [(0, .ref 16), (1, .int (qz x1))], [], _, 0, 0)
  refine qr_iload_n 1 rfl rfl rfl ?_
  refine qr_if_lt 15 4 rfl rfl rfl r1 (fun h1 => ?_) (fun h1 => ?_)
  · skip
    refine qr_iconst 16 rfl rfl ?_
    refine qr_retI rfl rfl (by decide) (by decide) ?_
    exact ⟨rfl, (-1), rfl, (by decide)⟩
  · skip
    refine qr_iload_n 5 rfl rfl rfl ?_
    refine qr_aload_n 6 rfl rfl rfl ?_
    refine qr_get 9 rfl rfl rfl (by decide) rfl ?_
    refine qr_get 12 rfl rfl rfl (by decide) rfl ?_
    have hs2 : 0 ≤ σ 70 2 ∧ σ 70 2 ≤ 31 := hI.1 70 2
    refine qr_icmp_lt 17 15 rfl rfl rfl r1 (qrg hs2 (by decide) (by decide)) (fun h3 => ?_) (fun h3 => ?_)
    · skip
      refine qr_aload_n 18 rfl rfl rfl ?_
      refine qr_get 21 rfl rfl rfl (by decide) rfl ?_
      refine qr_get 24 rfl rfl rfl (by decide) rfl ?_
      refine qr_iload_n 25 rfl rfl rfl ?_
      refine qr_iaload 26 rfl rfl (by omega) (by decide) rfl ?_
      refine qr_topI (fun v4 hv4 => ?_)
      have hs5 : 0 ≤ v4 ∧ v4 ≤ 3131 := by rw [hv4]; exact hI.2.1 71 _ (show _ < 31 by omega)
      have hs6 : v4 % 100 ≤ 31 := by rw [hv4]; exact hI.2.2.2.2.1 71 (Or.inl rfl) _ (by omega)
      refine qr_retI rfl rfl (by decide) (by decide) ?_
      exact ⟨rfl, v4, rfl, (qrg hs5 (by decide) (by decide))⟩
    · skip
      refine qr_iconst 16 rfl rfl ?_
      refine qr_retI rfl rfl (by decide) (by decide) ?_
      exact ⟨rfl, (-1), rfl, (by decide)⟩

set_option maxHeartbeats 4000000 in
set_option maxRecDepth 20000 in
/-- OneRoof.alive -/
theorem sf_139_16 {L : Nat} {xs : Nat → Int} {vb : Bool} {d : Nat} {σ α : Nat → Nat → Int} {κ : Nat → Option Nat} {ρ : Nat}  (hI : qI σ α κ ρ)  : qm_T (qe L xs vb) (d + 1) 139 [.ref 16] (qw σ α κ ρ) (fun r w' => w' = qw σ α κ ρ ∧ ∃ v : Int, r = some (.long (ql v)) ∧ ((-9223372036854775808) ≤ v ∧ v ≤ 9223372036854775807)) := by
  refine qr_start (d := d + 0) qv_e139 (Nat.le_of_ble_eq_true rfl) ?_
  show qr_W (qe L xs vb) (d + 0) qx_e139 _ (0, [(0, .ref 16)], [], _, 0, 0)
  refine qr_aload_n 1 rfl rfl rfl ?_
  refine qr_get 4 rfl rfl rfl (by decide) rfl ?_
  refine qr_get 7 rfl rfl rfl (by decide) rfl ?_
  have hs1 : 0 ≤ σ 70 2 ∧ σ 70 2 ≤ 31 := hI.1 70 2
  refine qr_if_ne 16 10 rfl rfl rfl (qrg hs1 (by decide) (by decide)) (fun h2 => ?_) (fun h2 => ?_)
  · skip
    refine qr_aload_n 17 rfl rfl rfl ?_
    refine qr_get 20 rfl rfl rfl (by decide) rfl ?_
    refine qr_get 23 rfl rfl rfl (by decide) rfl ?_
    have hs3 : (-9223372036854775808) ≤ σ 70 3 ∧ σ 70 3 ≤ 9223372036854775807 := hI.1 70 3
    refine qr_retL rfl rfl (by decide) (by decide) ?_
    exact ⟨rfl, (σ 70 3), rfl, hs3⟩
  · skip
    refine qr_ldc2 (-1) 13 rfl (by decide) rfl ?_
    refine qr_goto 23 rfl rfl ?_
    refine qr_retL rfl rfl (by decide) (by decide) ?_
    exact ⟨rfl, (-1), rfl, (by decide)⟩

set_option maxHeartbeats 4000000 in
set_option maxRecDepth 20000 in
/-- OneRoof.trace -/
theorem sf_154_16 {L : Nat} {xs : Nat → Int} {vb : Bool} {d : Nat} {σ α : Nat → Nat → Int} {κ : Nat → Option Nat} {ρ : Nat} {x1 : Int} (hI : qI σ α κ ρ) (r1 : (-2147483648) ≤ x1 ∧ x1 ≤ 2147483647) : qm_T (qe L xs vb) (d + 1) 154 [.ref 16, .int (qz x1)] (qw σ α κ ρ) (fun r w' => w' = qw σ α κ ρ ∧ ∃ v : Int, r = some (.int (qz v)) ∧ ((-2147483648) ≤ v ∧ v ≤ 2147483647)) := by
  refine qr_start (d := d + 0) qv_e154 (Nat.le_of_ble_eq_true rfl) ?_
  show qr_W (qe L xs vb) (d + 0) qx_e154 _ (0, [(0, .ref 16), (1, .int (qz x1))], [], _, 0, 0)
  refine qr_iload_n 1 rfl rfl rfl ?_
  refine qr_if_lt 27 4 rfl rfl rfl r1 (fun h1 => ?_) (fun h1 => ?_)
  · skip
    refine qr_iconst 28 rfl rfl ?_
    refine qr_retI rfl rfl (by decide) (by decide) ?_
    exact ⟨rfl, (-1), rfl, (by decide)⟩
  · skip
    refine qr_iload_n 5 rfl rfl rfl ?_
    refine qr_aload_n 6 rfl rfl rfl ?_
    refine qr_get 9 rfl rfl rfl (by decide) rfl ?_
    refine qr_get 12 rfl rfl rfl (by decide) rfl ?_
    have hs2 : (-2147483648) ≤ σ 42 1 ∧ σ 42 1 ≤ 2147483647 := hI.1 42 1
    refine qr_icmp_ge 27 15 rfl rfl rfl r1 hs2 (fun h3 => ?_) (fun h3 => ?_)
    · skip
      refine qr_iconst 28 rfl rfl ?_
      refine qr_retI rfl rfl (by decide) (by decide) ?_
      exact ⟨rfl, (-1), rfl, (by decide)⟩
    · skip
      refine qr_iload_n 16 rfl rfl rfl ?_
      refine qr_aload_n 17 rfl rfl rfl ?_
      refine qr_get 20 rfl rfl rfl (by decide) rfl ?_
      refine qr_get 23 rfl rfl rfl (by decide) rfl ?_
      refine qr_alen 24 rfl rfl (by first | exact Or.inl (by decide) | exact Or.inr (Or.inl rfl) | exact Or.inr (Or.inr (Or.inl rfl)) | exact Or.inr (Or.inr (Or.inr (Or.inl rfl)))) rfl ?_
      refine qy_v 24 rfl ?_
      refine qr_icmp_lt 29 27 rfl rfl rfl r1 (by decide) (fun h4 => ?_) (fun h4 => ?_)
      · skip
        refine qr_aload_n 30 rfl rfl rfl ?_
        refine qr_get 33 rfl rfl rfl (by decide) rfl ?_
        refine qr_get 36 rfl rfl rfl (by decide) rfl ?_
        refine qr_iload_n 37 rfl rfl rfl ?_
        refine qr_iaload 38 rfl rfl (by omega) (by decide) rfl ?_
        refine qr_topI (fun v5 hv5 => ?_)
        have hs6 : (-2147483648) ≤ v5 ∧ v5 ≤ 2147483647 := by rw [hv5]; exact hI.2.1 43 _ (show _ < 24 by omega)
        refine qr_retI rfl rfl (by decide) (by decide) ?_
        exact ⟨rfl, v5, rfl, hs6⟩
      · skip
        refine qr_iconst 28 rfl rfl ?_
        refine qr_retI rfl rfl (by decide) (by decide) ?_
        exact ⟨rfl, (-1), rfl, (by decide)⟩

set_option maxHeartbeats 4000000 in
set_option maxRecDepth 20000 in
/-- OneRoof.must -/
theorem sf_87_16 {L : Nat} {xs : Nat → Int} {vb : Bool} {d : Nat} {σ α : Nat → Nat → Int} {κ : Nat → Option Nat} {ρ : Nat} {x1 : Int} {x2 : Int} {x3 : Int} (hI : qI σ α κ ρ) (r1 : (-2147483648) ≤ x1 ∧ x1 ≤ 2147483647) (r2 : (-9223372036854775808) ≤ x2 ∧ x2 ≤ 9223372036854775807) (r3 : (-2147483648) ≤ x3 ∧ x3 ≤ 2147483647) : qm_T (qe L xs vb) (d + 5) 87 [.ref 16, .int (qz x1), .long (ql x2), .int (qz x3)] (qw σ α κ ρ) (fun r w' => ∃ σ' α', w' = qw σ' α' κ ρ ∧ qI σ' α' κ ρ ∧ qFr [(58, 11), (58, 12)] [53, 57, 59, 60, 61, 62, 63, 85] σ α σ' α' ∧ ∃ v : Int, r = some (.int (qz v)) ∧ ((-2147483648) ≤ v ∧ v ≤ 2147483647)) := by
  refine qr_start (d := d + 4) qv_e87 (Nat.le_of_ble_eq_true rfl) ?_
  show qr_W (qe L xs vb) (d + 4) qx_e87 _ (0, [(0, .ref 16), (1, .int (qz x1)), (2, .long (ql x2)), (4, .int (qz x3))], [], _, 0, 0)
  have hF0 := qFr_rf [(58, 11), (58, 12)] [53, 57, 59, 60, 61, 62, 63, 85] σ α
  refine qr_aload_n 1 rfl rfl rfl ?_
  refine qr_get 4 rfl rfl rfl (by decide) rfl ?_
  refine qr_iload_n 5 rfl rfl rfl ?_
  refine qr_callN 8 rfl rfl rfl (sf_61_17 (d := d + 2) hI r1) ?_
  have hs3 : 0 ≤ σ 17 6 ∧ σ 17 6 ≤ 32 := hI.1 17 6
  rintro _ _ ⟨rfl, v1, rfl, hv1, hp2⟩
  show qr_W (qe L xs vb) (d + 4) qx_e87 _ (8, _, [.int (qz v1)], qw σ α κ ρ, 0, 0)
  refine qr_if_eq 30 11 rfl rfl rfl (qrg hv1 (by decide) (by decide)) (fun h4 => ?_) (fun h4 => ?_)
  · skip
    refine qr_ldc (-2000000000) 32 rfl (by decide) rfl ?_
    refine qr_retI rfl rfl (by decide) (by decide) ?_
    exact ⟨_, _, rfl, hI, hF0, (-2000000000), rfl, (by decide)⟩
  · skip
    refine qr_aload_n 12 rfl rfl rfl ?_
    refine qr_get 15 rfl rfl rfl (by decide) rfl ?_
    refine qr_lload_n 16 rfl rfl rfl ?_
    refine qr_callN 19 rfl rfl rfl (sf_88_17 (d := d + 3) hI r2) ?_
    rintro _ _ ⟨rfl, v5, rfl, hv5⟩
    show qr_W (qe L xs vb) (d + 4) qx_e87 _ (19, _, [.int (qz v5)], qw σ α κ ρ, 0, 0)
    refine qr_if_eq 30 22 rfl rfl rfl (qrg hv5 (by decide) (by decide)) (fun h6 => ?_) (fun h6 => ?_)
    · skip
      refine qr_ldc (-2000000000) 32 rfl (by decide) rfl ?_
      refine qr_retI rfl rfl (by decide) (by decide) ?_
      exact ⟨_, _, rfl, hI, hF0, (-2000000000), rfl, (by decide)⟩
    · skip
      refine qr_iload 24 rfl rfl rfl ?_
      refine qr_callN 27 rfl rfl rfl (sf_62 (d := d + 3) hI r3) ?_
      rintro _ _ ⟨rfl, v7, rfl, hv7, hp8⟩
      show qr_W (qe L xs vb) (d + 4) qx_e87 _ (27, _, [.int (qz v7)], qw σ α κ ρ, 0, 0)
      refine qr_if_ne 33 30 rfl rfl rfl (qrg hv7 (by decide) (by decide)) (fun h9 => ?_) (fun h9 => ?_)
      · skip
        refine qr_lload_n 34 rfl rfl rfl ?_
        refine qr_aload_n 35 rfl rfl rfl ?_
        refine qr_get 38 rfl rfl rfl (by decide) rfl ?_
        refine qr_get 41 rfl rfl rfl (by decide) rfl ?_
        have hs10 : (-9223372036854775808) ≤ σ 17 5 ∧ σ 17 5 ≤ 9223372036854775807 := hI.1 17 5
        refine qr_ldc2 (-1) 44 rfl (by decide) rfl ?_
        refine qr_lxor 45 rfl rfl ?_
        refine qy_canl (fun v11 hv11 => ?_)
        refine qr_land 46 rfl rfl ?_
        refine qy_canl (fun v12 hv12 => ?_)
        refine qr_lstore _ 48 rfl (by decide) rfl rfl ?_
        refine qr_lload 50 rfl rfl rfl ?_
        refine qr_iload_n 51 rfl rfl rfl ?_
        refine qr_bipush 53 rfl (by decide) rfl ?_
        refine qr_idiv 54 rfl (by omega) (by decide) rfl ?_
        refine qr_callN 57 rfl rfl rfl (sf_50 (d := d + 3) hI hv12 (by omega)) ?_
        rintro _ _ ⟨rfl, v13, rfl, hv13⟩
        show qr_W (qe L xs vb) (d + 4) qx_e87 _ (57, _, [.int (qz v13)], qw σ α κ ρ, 0, 0)
        refine qr_if_eq 72 60 rfl rfl rfl (qrg hv13 (by decide) (by decide)) (fun h14 => ?_) (fun h14 => ?_)
        · skip
          refine qr_ldc (-2000000000) 74 rfl (by decide) rfl ?_
          refine qr_retI rfl rfl (by decide) (by decide) ?_
          exact ⟨_, _, rfl, hI, hF0, (-2000000000), rfl, (by decide)⟩
        · skip
          refine qr_lload 62 rfl rfl rfl ?_
          refine qr_iload_n 63 rfl rfl rfl ?_
          refine qr_bipush 65 rfl (by decide) rfl ?_
          refine qr_irem 66 rfl (by omega) (by decide) rfl ?_
          refine qr_callN 69 rfl rfl rfl (sf_50 (d := d + 3) hI hv12 (by omega)) ?_
          rintro _ _ ⟨rfl, v15, rfl, hv15⟩
          show qr_W (qe L xs vb) (d + 4) qx_e87 _ (69, _, [.int (qz v15)], qw σ α κ ρ, 0, 0)
          refine qr_if_ne 75 72 rfl rfl rfl (qrg hv15 (by decide) (by decide)) (fun h16 => ?_) (fun h16 => ?_)
          · skip
            refine qr_aload_n 76 rfl rfl rfl ?_
            refine qr_get 79 rfl rfl rfl (by decide) rfl ?_
            refine qr_iload 81 rfl rfl rfl ?_
            refine qr_callN 84 rfl rfl rfl (sf_89_58 (d := d + 3) hI r3) ?_
            rintro _ _ ⟨σ17, rfl, hI18, hG19, rfl⟩
            have hF20 : qFr [(58, 11), (58, 12)] [53, 57, 59, 60, 61, 62, 63, 85] σ α σ17 α := qFr_t hF0 hG19 (by decide) (by decide)
            show qr_W (qe L xs vb) (d + 4) qx_e87 _ (84, _, [], qw σ17 α κ ρ, 0, 0)
            refine qr_aload_n 85 rfl rfl rfl ?_
            refine qr_get 88 rfl rfl rfl (by decide) rfl ?_
            refine qr_iconst 89 rfl rfl ?_
            refine qr_iload_n 90 rfl rfl rfl ?_
            refine qr_bipush 92 rfl (by decide) rfl ?_
            refine qr_idiv 93 rfl (by omega) (by decide) rfl ?_
            refine qr_iload_n 94 rfl rfl rfl ?_
            refine qr_bipush 96 rfl (by decide) rfl ?_
            refine qr_irem 97 rfl (by omega) (by decide) rfl ?_
            refine qr_iconst 98 rfl rfl ?_
            refine qr_lload 100 rfl rfl rfl ?_
            refine qr_callN 103 rfl rfl rfl (sf_90_58 (d := d + 0) hI18 (by decide) (by omega) (by omega) (by decide) hv12 (by omega)) ?_
            rintro _ _ ⟨α22, rfl, hI23, hG24, v21, rfl, hv21⟩
            have hF25 : qFr [(58, 11), (58, 12)] [53, 57, 59, 60, 61, 62, 63, 85] σ α σ17 α22 := qFr_t hF20 hG24 (by decide) (by decide)
            show qr_W (qe L xs vb) (d + 4) qx_e87 _ (103, _, [.int (qz v21)], qw σ17 α22 κ ρ, 0, 0)
            refine qr_retI rfl rfl (by decide) (by decide) ?_
            exact ⟨_, _, rfl, hI23, hF25, v21, rfl, hv21⟩
          · skip
            refine qr_ldc (-2000000000) 74 rfl (by decide) rfl ?_
            refine qr_retI rfl rfl (by decide) (by decide) ?_
            exact ⟨_, _, rfl, hI, hF0, (-2000000000), rfl, (by decide)⟩
      · skip
        refine qr_ldc (-2000000000) 32 rfl (by decide) rfl ?_
        refine qr_retI rfl rfl (by decide) (by decide) ?_
        exact ⟨_, _, rfl, hI, hF0, (-2000000000), rfl, (by decide)⟩

set_option maxHeartbeats 4000000 in
set_option maxRecDepth 20000 in
/-- OneRoof.together -/
theorem sf_99_16 {L : Nat} {xs : Nat → Int} {vb : Bool} {d : Nat} {σ α : Nat → Nat → Int} {κ : Nat → Option Nat} {ρ : Nat} {x1 : Int} {x2 : Int} {x3 : Int} (hI : qI σ α κ ρ) (r1 : (-9223372036854775808) ≤ x1 ∧ x1 ≤ 9223372036854775807) (r2 : (-2147483648) ≤ x2 ∧ x2 ≤ 2147483647) (r3 : (-2147483648) ≤ x3 ∧ x3 ≤ 2147483647) : qm_T (qe L xs vb) (d + 6) 99 [.ref 16, .long (ql x1), .int (qz x2), .int (qz x3)] (qw σ α κ ρ) (fun r w' => ∃ σ' α', w' = qw σ' α' κ ρ ∧ qI σ' α' κ ρ ∧ qFr [(58, 11), (58, 12)] [53, 57, 59, 60, 61, 62, 63, 85] σ α σ' α' ∧ ∃ v : Int, r = some (.int (qz v)) ∧ ((-2147483648) ≤ v ∧ v ≤ 2147483647)) := by
  refine qr_start (d := d + 5) qv_e99 (Nat.le_of_ble_eq_true rfl) ?_
  show qr_W (qe L xs vb) (d + 5) qx_e99 _ (0, [(0, .ref 16), (1, .long (ql x1)), (3, .int (qz x2)), (4, .int (qz x3))], [], _, 0, 0)
  have hF0 := qFr_rf [(58, 11), (58, 12)] [53, 57, 59, 60, 61, 62, 63, 85] σ α
  refine qr_aload_n 1 rfl rfl rfl ?_
  refine qr_get 4 rfl rfl rfl (by decide) rfl ?_
  refine qr_lload_n 5 rfl rfl rfl ?_
  refine qr_callN 8 rfl rfl rfl (sf_88_17 (d := d + 4) hI r1) ?_
  rintro _ _ ⟨rfl, v1, rfl, hv1⟩
  show qr_W (qe L xs vb) (d + 5) qx_e99 _ (8, _, [.int (qz v1)], qw σ α κ ρ, 0, 0)
  refine qr_if_eq 29 11 rfl rfl rfl (qrg hv1 (by decide) (by decide)) (fun h2 => ?_) (fun h2 => ?_)
  · skip
    refine qr_iconst 30 rfl rfl ?_
    refine qr_retI rfl rfl (by decide) (by decide) ?_
    exact ⟨_, _, rfl, hI, hF0, (-1), rfl, (by decide)⟩
  · skip
    refine qr_iload_n 12 rfl rfl rfl ?_
    refine qr_callN 15 rfl rfl rfl (sf_100 (d := d + 2) hI r2) ?_
    rintro _ _ ⟨rfl, v3, rfl, hv3, hp4⟩
    show qr_W (qe L xs vb) (d + 5) qx_e99 _ (15, _, [.int (qz v3)], qw σ α κ ρ, 0, 0)
    refine qr_if_eq 29 18 rfl rfl rfl (qrg hv3 (by decide) (by decide)) (fun h5 => ?_) (fun h5 => ?_)
    · skip
      refine qr_iconst 30 rfl rfl ?_
      refine qr_retI rfl rfl (by decide) (by decide) ?_
      exact ⟨_, _, rfl, hI, hF0, (-1), rfl, (by decide)⟩
    · skip
      refine qr_iload 20 rfl rfl rfl ?_
      refine qr_if_lt 29 23 rfl rfl rfl r3 (fun h6 => ?_) (fun h6 => ?_)
      · skip
        refine qr_iconst 30 rfl rfl ?_
        refine qr_retI rfl rfl (by decide) (by decide) ?_
        exact ⟨_, _, rfl, hI, hF0, (-1), rfl, (by decide)⟩
      · skip
        refine qr_iload 25 rfl rfl rfl ?_
        refine qr_iconst 26 rfl rfl ?_
        refine qr_icmp_le 31 29 rfl rfl rfl r3 (by decide) (fun h7 => ?_) (fun h7 => ?_)
        · skip
          refine qr_lload_n 32 rfl rfl rfl ?_
          refine qr_aload_n 33 rfl rfl rfl ?_
          refine qr_get 36 rfl rfl rfl (by decide) rfl ?_
          refine qr_get 39 rfl rfl rfl (by decide) rfl ?_
          have hs8 : (-9223372036854775808) ≤ σ 17 5 ∧ σ 17 5 ≤ 9223372036854775807 := hI.1 17 5
          refine qr_ldc2 (-1) 42 rfl (by decide) rfl ?_
          refine qr_lxor 43 rfl rfl ?_
          refine qy_canl (fun v9 hv9 => ?_)
          refine qr_land 44 rfl rfl ?_
          refine qy_canl (fun v10 hv10 => ?_)
          refine qr_lstore _ 46 rfl (by decide) rfl rfl ?_
          refine qr_iload_n 47 rfl rfl rfl ?_
          refine qr_sipush 50 rfl (by decide) rfl ?_
          refine qr_idiv 51 rfl (by omega) (by decide) rfl ?_
          refine qr_istore _ 53 rfl (by decide) rfl rfl ?_
          refine qr_iload_n 54 rfl rfl rfl ?_
          refine qr_sipush 57 rfl (by decide) rfl ?_
          refine qr_irem 58 rfl (by omega) (by decide) rfl ?_
          refine qr_istore _ 60 rfl (by decide) rfl rfl ?_
          refine qr_iload 62 rfl rfl rfl ?_
          refine qr_istore _ 64 rfl (by decide) rfl rfl ?_
          have hL337 : ∀ (n : Nat) (ls : qm_L) (u329 : Int) (σ330 α331 : Nat → Nat → Int), 10000 - u329 < (n : Int) → qm_get ls 0 = some (.ref 16) → qm_get ls 4 = some (.int (qz x3)) → qm_get ls 5 = some (.long (ql v10)) → qm_get ls 7 = some (.int (qz (x2 / 10000))) → qm_get ls 8 = some (.int (qz (x2 % 10000))) → qm_get ls 9 = some (.int (qz u329)) → (0 ≤ u329 ∧ u329 ≤ 10000) → qI σ330 α331 κ ρ → qFr [(58, 11), (58, 12)] [53, 57, 59, 60, 61, 62, 63, 85] σ α σ330 α331 → σ330 17 5 = (σ 17 5) → (x2 / 10000) ≤ u329 → qr_W (qe L xs vb) (d + 5) qx_e99 (fun r w' => ∃ σ' α', w' = qw σ' α' κ ρ ∧ qI σ' α' κ ρ ∧ qFr [(58, 11), (58, 12)] [53, 57, 59, 60, 61, 62, 63, 85] σ α σ' α' ∧ ∃ v : Int, r = some (.int (qz v)) ∧ ((-2147483648) ≤ v ∧ v ≤ 2147483647)) (64, ls, [], qw σ330 α331 κ ρ, 0, 0) := by
            intro n
            induction n with
            | zero => intro ls u329 σ330 α331 hm g323 g324 g325 g326 g327 g328 hf335 hI332 hF333 hk334 hx336; exact False.elim (by omega)
            | succ n ih338 =>
              intro ls u329 σ330 α331 hm g323 g324 g325 g326 g327 g328 hf335 hI332 hF333 hk334 hx336
              refine qr_iload 66 rfl g328 rfl ?_
              refine qr_iload 68 rfl g327 rfl ?_
              refine qr_icmp_gt 154 71 rfl rfl rfl (qrg hf335 (by decide) (by decide)) (by omega) (fun h339 => ?_) (fun h339 => ?_)
              · skip
                refine qr_bipush 156 rfl (by decide) rfl ?_
                refine qr_retI rfl rfl (by decide) (by decide) ?_
                exact ⟨_, _, rfl, hI332, hF333, (-2), rfl, (by decide)⟩
              · skip
                refine qr_iload 73 rfl g328 rfl ?_
                refine qr_iload 75 rfl g326 rfl ?_
                refine qr_icmp_le 93 78 rfl rfl rfl (qrg hf335 (by decide) (by decide)) (by omega) (fun h340 => ?_) (fun h340 => ?_)
                · skip
                  refine qr_aload_n 94 rfl g323 rfl ?_
                  refine qr_get 97 rfl rfl rfl (by decide) rfl ?_
                  refine qr_iload 99 rfl g328 rfl ?_
                  refine qr_callN 102 rfl rfl rfl (sf_89_58 (d := d + 4) hI332 (qrg hf335 (by decide) (by decide))) ?_
                  rintro _ _ ⟨σ341, rfl, hI342, hG343, rfl⟩
                  have hF344 : qFr [(58, 11), (58, 12)] [53, 57, 59, 60, 61, 62, 63, 85] σ α σ341 α331 := qFr_t hF333 hG343 (by decide) (by decide)
                  show qr_W (qe L xs vb) (d + 5) qx_e99 _ (102, _, [], qw σ341 α331 κ ρ, 0, 0)
                  refine qr_aload_n 103 rfl g323 rfl ?_
                  refine qr_get 106 rfl rfl rfl (by decide) rfl ?_
                  refine qr_lload 108 rfl g325 rfl ?_
                  refine qr_callN 111 rfl rfl rfl (sf_104_58 (d := d + 0) hI342 hv10) ?_
                  rintro _ _ ⟨α347, rfl, hI348, hG349, v345, rfl, hv345, hp346⟩
                  have hF350 : qFr [(58, 11), (58, 12)] [53, 57, 59, 60, 61, 62, 63, 85] σ α σ341 α347 := qFr_t hF344 hG349 (by decide) (by decide)
                  show qr_W (qe L xs vb) (d + 5) qx_e99 _ (111, _, [.int (qz v345)], qw σ341 α347 κ ρ, 0, 0)
                  refine qr_istore _ 113 rfl (by decide) rfl rfl ?_
                  refine qr_iload 115 rfl (qm_ge _ _ _) rfl ?_
                  refine qr_if_lt 148 118 rfl rfl rfl (qrg hv345 (by decide) (by decide)) (fun h351 => ?_) (fun h351 => ?_)
                  · skip
                    refine qr_iinc _ 151 rfl (qm_gk g328 (by decide) (Or.inr rfl)) (by decide) rfl rfl ?_
                    refine qr_goto 64 rfl rfl ?_
                    exact ih338 _ (u329 + 1) σ341 α347 (by omega) (qm_gk (qm_gk g323 (by decide) (Or.inl (by decide))) (by decide) (Or.inl (by decide))) (qm_gk (qm_gk g324 (by decide) (Or.inl (by decide))) (by decide) (Or.inl (by decide))) (qm_gk (qm_gk g325 (by decide) (Or.inl (by decide))) (by decide) (Or.inl (by decide))) (qm_gk (qm_gk g326 (by decide) (Or.inl (by decide))) (by decide) (Or.inl (by decide))) (qm_gk (qm_gk g327 (by decide) (Or.inl (by decide))) (by decide) (Or.inr rfl)) (qm_ge _ _ _) (by omega) hI348 hF350 ((hG343.1 17 5 (by decide)).trans ((hk334).trans rfl)) (by omega)
                  · skip
                    refine qr_iload 120 rfl (qm_gk g324 (by decide) (Or.inl (by decide))) rfl ?_
                    refine qr_if_ne 128 123 rfl rfl rfl r3 (fun h352 => ?_) (fun h352 => ?_)
                    · skip
                      refine qr_iload 130 rfl (qm_gk g324 (by decide) (Or.inl (by decide))) rfl ?_
                      refine qr_iconst 131 rfl rfl ?_
                      refine qr_icmp_ne 142 134 rfl rfl rfl r3 (by decide) (fun h353 => ?_) (fun h353 => ?_)
                      · skip
                        refine qr_iload 144 rfl (qm_ge _ _ _) rfl ?_
                        refine qr_bipush 146 rfl (by decide) rfl ?_
                        refine qr_irem 147 rfl (by omega) (by decide) rfl ?_
                        refine qr_retI rfl rfl (by decide) (by decide) ?_
                        exact ⟨_, _, rfl, hI348, hF350, (v345 % 100), rfl, (by omega)⟩
                      · skip
                        refine qr_iload 136 rfl (qm_ge _ _ _) rfl ?_
                        refine qr_bipush 138 rfl (by decide) rfl ?_
                        refine qr_idiv 139 rfl (by omega) (by decide) rfl ?_
                        refine qr_goto 147 rfl rfl ?_
                        refine qr_retI rfl rfl (by decide) (by decide) ?_
                        exact ⟨_, _, rfl, hI348, hF350, (v345 / 100), rfl, (by omega)⟩
                    · skip
                      refine qr_iload 125 rfl (qm_gk g328 (by decide) (Or.inr rfl)) rfl ?_
                      refine qr_goto 147 rfl rfl ?_
                      refine qr_retI rfl rfl (by decide) (by decide) ?_
                      exact ⟨_, _, rfl, hI348, hF350, u329, rfl, (qrg hf335 (by decide) (by decide))⟩
                · skip
                  refine qr_aload_n 79 rfl g323 rfl ?_
                  refine qr_get 82 rfl rfl rfl (by decide) rfl ?_
                  refine qr_iload 84 rfl g328 rfl ?_
                  refine qr_callN 87 rfl rfl rfl (sf_101_58 (d := d + 3) hI332 (qrg hf335 (by decide) (by decide))) ?_
                  rintro _ _ ⟨rfl, v354, rfl, hv354⟩
                  show qr_W (qe L xs vb) (d + 5) qx_e99 _ (87, _, [.int (qz v354)], qw σ330 α331 κ ρ, 0, 0)
                  refine qr_if_ne 93 90 rfl rfl rfl (qrg hv354 (by decide) (by decide)) (fun h355 => ?_) (fun h355 => ?_)
                  · skip
                    refine qr_aload_n 94 rfl g323 rfl ?_
                    refine qr_get 97 rfl rfl rfl (by decide) rfl ?_
                    refine qr_iload 99 rfl g328 rfl ?_
                    refine qr_callN 102 rfl rfl rfl (sf_89_58 (d := d + 4) hI332 (qrg hf335 (by decide) (by decide))) ?_
                    rintro _ _ ⟨σ356, rfl, hI357, hG358, rfl⟩
                    have hF359 : qFr [(58, 11), (58, 12)] [53, 57, 59, 60, 61, 62, 63, 85] σ α σ356 α331 := qFr_t hF333 hG358 (by decide) (by decide)
                    show qr_W (qe L xs vb) (d + 5) qx_e99 _ (102, _, [], qw σ356 α331 κ ρ, 0, 0)
                    refine qr_aload_n 103 rfl g323 rfl ?_
                    refine qr_get 106 rfl rfl rfl (by decide) rfl ?_
                    refine qr_lload 108 rfl g325 rfl ?_
                    refine qr_callN 111 rfl rfl rfl (sf_104_58 (d := d + 0) hI357 hv10) ?_
                    rintro _ _ ⟨α362, rfl, hI363, hG364, v360, rfl, hv360, hp361⟩
                    have hF365 : qFr [(58, 11), (58, 12)] [53, 57, 59, 60, 61, 62, 63, 85] σ α σ356 α362 := qFr_t hF359 hG364 (by decide) (by decide)
                    show qr_W (qe L xs vb) (d + 5) qx_e99 _ (111, _, [.int (qz v360)], qw σ356 α362 κ ρ, 0, 0)
                    refine qr_istore _ 113 rfl (by decide) rfl rfl ?_
                    refine qr_iload 115 rfl (qm_ge _ _ _) rfl ?_
                    refine qr_if_lt 148 118 rfl rfl rfl (qrg hv360 (by decide) (by decide)) (fun h366 => ?_) (fun h366 => ?_)
                    · skip
                      refine qr_iinc _ 151 rfl (qm_gk g328 (by decide) (Or.inr rfl)) (by decide) rfl rfl ?_
                      refine qr_goto 64 rfl rfl ?_
                      exact ih338 _ (u329 + 1) σ356 α362 (by omega) (qm_gk (qm_gk g323 (by decide) (Or.inl (by decide))) (by decide) (Or.inl (by decide))) (qm_gk (qm_gk g324 (by decide) (Or.inl (by decide))) (by decide) (Or.inl (by decide))) (qm_gk (qm_gk g325 (by decide) (Or.inl (by decide))) (by decide) (Or.inl (by decide))) (qm_gk (qm_gk g326 (by decide) (Or.inl (by decide))) (by decide) (Or.inl (by decide))) (qm_gk (qm_gk g327 (by decide) (Or.inl (by decide))) (by decide) (Or.inr rfl)) (qm_ge _ _ _) (by omega) hI363 hF365 ((hG358.1 17 5 (by decide)).trans ((hk334).trans rfl)) (by omega)
                    · skip
                      refine qr_iload 120 rfl (qm_gk g324 (by decide) (Or.inl (by decide))) rfl ?_
                      refine qr_if_ne 128 123 rfl rfl rfl r3 (fun h367 => ?_) (fun h367 => ?_)
                      · skip
                        refine qr_iload 130 rfl (qm_gk g324 (by decide) (Or.inl (by decide))) rfl ?_
                        refine qr_iconst 131 rfl rfl ?_
                        refine qr_icmp_ne 142 134 rfl rfl rfl r3 (by decide) (fun h368 => ?_) (fun h368 => ?_)
                        · skip
                          refine qr_iload 144 rfl (qm_ge _ _ _) rfl ?_
                          refine qr_bipush 146 rfl (by decide) rfl ?_
                          refine qr_irem 147 rfl (by omega) (by decide) rfl ?_
                          refine qr_retI rfl rfl (by decide) (by decide) ?_
                          exact ⟨_, _, rfl, hI363, hF365, (v360 % 100), rfl, (by omega)⟩
                        · skip
                          refine qr_iload 136 rfl (qm_ge _ _ _) rfl ?_
                          refine qr_bipush 138 rfl (by decide) rfl ?_
                          refine qr_idiv 139 rfl (by omega) (by decide) rfl ?_
                          refine qr_goto 147 rfl rfl ?_
                          refine qr_retI rfl rfl (by decide) (by decide) ?_
                          exact ⟨_, _, rfl, hI363, hF365, (v360 / 100), rfl, (by omega)⟩
                      · skip
                        refine qr_iload 125 rfl (qm_gk g328 (by decide) (Or.inr rfl)) rfl ?_
                        refine qr_goto 147 rfl rfl ?_
                        refine qr_retI rfl rfl (by decide) (by decide) ?_
                        exact ⟨_, _, rfl, hI363, hF365, u329, rfl, (qrg hf335 (by decide) (by decide))⟩
                  · skip
                    refine qr_goto 148 rfl rfl ?_
                    refine qr_iinc _ 151 rfl g328 (by decide) rfl rfl ?_
                    refine qr_goto 64 rfl rfl ?_
                    exact ih338 _ (u329 + 1) σ330 α331 (by omega) (qm_gk g323 (by decide) (Or.inl (by decide))) (qm_gk g324 (by decide) (Or.inl (by decide))) (qm_gk g325 (by decide) (Or.inl (by decide))) (qm_gk g326 (by decide) (Or.inl (by decide))) (qm_gk g327 (by decide) (Or.inr rfl)) (qm_ge _ _ _) (by omega) hI332 hF333 ((hk334).trans rfl) (by omega)
          exact hL337 ((10000 - (x2 / 10000) + 1 : Int)).toNat _ (x2 / 10000) σ α (by omega) rfl rfl rfl rfl rfl rfl (by omega) hI hF0 (rfl) (by omega)
        · skip
          refine qr_iconst 30 rfl rfl ?_
          refine qr_retI rfl rfl (by decide) (by decide) ?_
          exact ⟨_, _, rfl, hI, hF0, (-1), rfl, (by decide)⟩

set_option maxHeartbeats 4000000 in
set_option maxRecDepth 20000 in
/-- OneRoof.bars -/
theorem sf_105_16 {L : Nat} {xs : Nat → Int} {vb : Bool} {d : Nat} {σ α : Nat → Nat → Int} {κ : Nat → Option Nat} {ρ : Nat} {x1 : Int} {x2 : Int} (hI : qI σ α κ ρ) (r1 : (-2147483648) ≤ x1 ∧ x1 ≤ 2147483647) (r2 : (-2147483648) ≤ x2 ∧ x2 ≤ 2147483647) : qm_T (qe L xs vb) (d + 7) 105 [.ref 16, .int (qz x1), .int (qz x2)] (qw σ α κ ρ) (fun r w' => ∃ σ' α', w' = qw σ' α' κ ρ ∧ qI σ' α' κ ρ ∧ qFr [(58, 11), (58, 12)] [53, 57, 59, 60, 61, 62, 63, 85] σ α σ' α' ∧ ∃ v : Int, r = some (.int (qz v)) ∧ ((-2147483648) ≤ v ∧ v ≤ 2147483647)) := by
  refine qr_start (d := d + 6) qv_e105 (Nat.le_of_ble_eq_true rfl) ?_
  show qr_W (qe L xs vb) (d + 6) qx_e105 _ (0, [(0, .ref 16), (1, .int (qz x1)), (2, .int (qz x2))], [], _, 0, 0)
  have hF0 := qFr_rf [(58, 11), (58, 12)] [53, 57, 59, 60, 61, 62, 63, 85] σ α
  refine qr_aload_n 1 rfl rfl rfl ?_
  refine qr_get 4 rfl rfl rfl (by decide) rfl ?_
  refine qr_iload_n 5 rfl rfl rfl ?_
  refine qr_callN 8 rfl rfl rfl (sf_61_17 (d := d + 4) hI r1) ?_
  have hs3 : 0 ≤ σ 17 6 ∧ σ 17 6 ≤ 32 := hI.1 17 6
  rintro _ _ ⟨rfl, v1, rfl, hv1, hp2⟩
  show qr_W (qe L xs vb) (d + 6) qx_e105 _ (8, _, [.int (qz v1)], qw σ α κ ρ, 0, 0)
  refine qr_if_eq 18 11 rfl rfl rfl (qrg hv1 (by decide) (by decide)) (fun h4 => ?_) (fun h4 => ?_)
  · skip
    refine qr_iconst 19 rfl rfl ?_
    refine qr_retI rfl rfl (by decide) (by decide) ?_
    exact ⟨_, _, rfl, hI, hF0, (-1), rfl, (by decide)⟩
  · skip
    refine qr_iload_n 12 rfl rfl rfl ?_
    refine qr_callN 15 rfl rfl rfl (sf_100 (d := d + 3) hI r2) ?_
    rintro _ _ ⟨rfl, v5, rfl, hv5, hp6⟩
    show qr_W (qe L xs vb) (d + 6) qx_e105 _ (15, _, [.int (qz v5)], qw σ α κ ρ, 0, 0)
    refine qr_if_ne 20 18 rfl rfl rfl (qrg hv5 (by decide) (by decide)) (fun h7 => ?_) (fun h7 => ?_)
    · skip
      refine qr_aload_n 21 rfl rfl rfl ?_
      refine qr_get 24 rfl rfl rfl (by decide) rfl ?_
      refine qr_iload_n 25 rfl rfl rfl ?_
      refine qr_bipush 27 rfl (by decide) rfl ?_
      refine qr_idiv 28 rfl (by omega) (by decide) rfl ?_
      refine qr_iload_n 29 rfl rfl rfl ?_
      refine qr_bipush 31 rfl (by decide) rfl ?_
      refine qr_irem 32 rfl (by omega) (by decide) rfl ?_
      refine qr_iload_n 33 rfl rfl rfl ?_
      refine qr_sipush 36 rfl (by decide) rfl ?_
      refine qr_idiv 37 rfl (by omega) (by decide) rfl ?_
      refine qr_iload_n 38 rfl rfl rfl ?_
      refine qr_sipush 41 rfl (by decide) rfl ?_
      refine qr_irem 42 rfl (by omega) (by decide) rfl ?_
      refine qr_callN 45 rfl rfl rfl (sf_106_58 (d := d + 0) hI (by omega) (by omega) (by omega) (by omega) (by omega)) ?_
      rintro _ _ ⟨σ9, α10, rfl, hI11, hG12, v8, rfl, hv8⟩
      have hF13 : qFr [(58, 11), (58, 12)] [53, 57, 59, 60, 61, 62, 63, 85] σ α σ9 α10 := qFr_t hF0 hG12 (by decide) (by decide)
      show qr_W (qe L xs vb) (d + 6) qx_e105 _ (45, _, [.int (qz v8)], qw σ9 α10 κ ρ, 0, 0)
      refine qr_if_eq 52 48 rfl rfl rfl (qrg hv8 (by decide) (by decide)) (fun h14 => ?_) (fun h14 => ?_)
      · skip
        refine qr_iconst 53 rfl rfl ?_
        refine qr_retI rfl rfl (by decide) (by decide) ?_
        exact ⟨_, _, rfl, hI11, hF13, 0, rfl, (by decide)⟩
      · skip
        refine qr_iconst 49 rfl rfl ?_
        refine qr_goto 53 rfl rfl ?_
        refine qr_retI rfl rfl (by decide) (by decide) ?_
        exact ⟨_, _, rfl, hI11, hF13, 1, rfl, (by decide)⟩
    · skip
      refine qr_iconst 19 rfl rfl ?_
      refine qr_retI rfl rfl (by decide) (by decide) ?_
      exact ⟨_, _, rfl, hI, hF0, (-1), rfl, (by decide)⟩

set_option maxHeartbeats 4000000 in
set_option maxRecDepth 20000 in
/-- OneRoof.strike -/
theorem sf_133_16 {L : Nat} {xs : Nat → Int} {vb : Bool} {d : Nat} {σ α : Nat → Nat → Int} {κ : Nat → Option Nat} {ρ : Nat} {x1 : Int} {x2 : Int} {x3 : Int} {x4 : Int} (hI : qI σ α κ ρ) (r1 : (-2147483648) ≤ x1 ∧ x1 ≤ 2147483647) (r2 : (-9223372036854775808) ≤ x2 ∧ x2 ≤ 9223372036854775807) (r3 : (-2147483648) ≤ x3 ∧ x3 ≤ 2147483647) (r4 : (-2147483648) ≤ x4 ∧ x4 ≤ 2147483647) : qm_T (qe L xs vb) (d + 7) 133 [.ref 16, .int (qz x1), .long (ql x2), .int (qz x3), .int (qz x4)] (qw σ α κ ρ) (fun r w' => ∃ σ' α', w' = qw σ' α' κ ρ ∧ qI σ' α' κ ρ ∧ qFr [(17, 5), (58, 10), (58, 11), (58, 12), (70, 2), (70, 3), (70, 5), (70, 6), (76, 7), (76, 8)] [20, 33, 35, 41, 53, 57, 59, 60, 61, 62, 63, 71, 72, 77, 78, 79, 80, 85] σ α σ' α' ∧ ∃ v : Int, r = some (.int (qz v)) ∧ ((-2147483648) ≤ v ∧ v ≤ 2147483647)) := by
  refine qr_start (d := d + 6) qv_e133 (Nat.le_of_ble_eq_true rfl) ?_
  show qr_W (qe L xs vb) (d + 6) qx_e133 _ (0, [(0, .ref 16), (1, .int (qz x1)), (2, .long (ql x2)), (4, .int (qz x3)), (5, .int (qz x4))], [], _, 0, 0)
  have hF0 := qFr_rf [(17, 5), (58, 10), (58, 11), (58, 12), (70, 2), (70, 3), (70, 5), (70, 6), (76, 7), (76, 8)] [20, 33, 35, 41, 53, 57, 59, 60, 61, 62, 63, 71, 72, 77, 78, 79, 80, 85] σ α
  refine qr_aload_n 1 rfl rfl rfl ?_
  refine qr_get 4 rfl rfl rfl (by decide) rfl ?_
  refine qr_iload_n 5 rfl rfl rfl ?_
  refine qr_callN 8 rfl rfl rfl (sf_61_17 (d := d + 4) hI r1) ?_
  have hs3 : 0 ≤ σ 17 6 ∧ σ 17 6 ≤ 32 := hI.1 17 6
  rintro _ _ ⟨rfl, v1, rfl, hv1, hp2⟩
  show qr_W (qe L xs vb) (d + 6) qx_e133 _ (8, _, [.int (qz v1)], qw σ α κ ρ, 0, 0)
  refine qr_if_eq 38 11 rfl rfl rfl (qrg hv1 (by decide) (by decide)) (fun h4 => ?_) (fun h4 => ?_)
  · skip
    refine qr_iconst 39 rfl rfl ?_
    refine qr_retI rfl rfl (by decide) (by decide) ?_
    exact ⟨_, _, rfl, hI, hF0, (-1), rfl, (by decide)⟩
  · skip
    refine qr_aload_n 12 rfl rfl rfl ?_
    refine qr_get 15 rfl rfl rfl (by decide) rfl ?_
    refine qr_lload_n 16 rfl rfl rfl ?_
    refine qr_callN 19 rfl rfl rfl (sf_88_17 (d := d + 5) hI r2) ?_
    rintro _ _ ⟨rfl, v5, rfl, hv5⟩
    show qr_W (qe L xs vb) (d + 6) qx_e133 _ (19, _, [.int (qz v5)], qw σ α κ ρ, 0, 0)
    refine qr_if_eq 38 22 rfl rfl rfl (qrg hv5 (by decide) (by decide)) (fun h6 => ?_) (fun h6 => ?_)
    · skip
      refine qr_iconst 39 rfl rfl ?_
      refine qr_retI rfl rfl (by decide) (by decide) ?_
      exact ⟨_, _, rfl, hI, hF0, (-1), rfl, (by decide)⟩
    · skip
      refine qr_iload 24 rfl rfl rfl ?_
      refine qr_callN 27 rfl rfl rfl (sf_62 (d := d + 5) hI r3) ?_
      rintro _ _ ⟨rfl, v7, rfl, hv7, hp8⟩
      show qr_W (qe L xs vb) (d + 6) qx_e133 _ (27, _, [.int (qz v7)], qw σ α κ ρ, 0, 0)
      refine qr_if_eq 38 30 rfl rfl rfl (qrg hv7 (by decide) (by decide)) (fun h9 => ?_) (fun h9 => ?_)
      · skip
        refine qr_iconst 39 rfl rfl ?_
        refine qr_retI rfl rfl (by decide) (by decide) ?_
        exact ⟨_, _, rfl, hI, hF0, (-1), rfl, (by decide)⟩
      · skip
        refine qr_iload 32 rfl rfl rfl ?_
        refine qr_callN 35 rfl rfl rfl (sf_41 (d := d + 5) hI r4) ?_
        rintro _ _ ⟨rfl, v10, rfl, hv10, hp11⟩
        show qr_W (qe L xs vb) (d + 6) qx_e133 _ (35, _, [.int (qz v10)], qw σ α κ ρ, 0, 0)
        refine qr_if_ne 40 38 rfl rfl rfl (qrg hv10 (by decide) (by decide)) (fun h12 => ?_) (fun h12 => ?_)
        · skip
          refine qr_lload_n 41 rfl rfl rfl ?_
          refine qr_aload_n 42 rfl rfl rfl ?_
          refine qr_get 45 rfl rfl rfl (by decide) rfl ?_
          refine qr_get 48 rfl rfl rfl (by decide) rfl ?_
          have hs13 : (-9223372036854775808) ≤ σ 17 5 ∧ σ 17 5 ≤ 9223372036854775807 := hI.1 17 5
          refine qr_ldc2 (-1) 51 rfl (by decide) rfl ?_
          refine qr_lxor 52 rfl rfl ?_
          refine qy_canl (fun v14 hv14 => ?_)
          refine qr_land 53 rfl rfl ?_
          refine qy_canl (fun v15 hv15 => ?_)
          refine qr_lstore _ 55 rfl (by decide) rfl rfl ?_
          refine qr_lload 57 rfl rfl rfl ?_
          refine qr_iload_n 58 rfl rfl rfl ?_
          refine qr_bipush 60 rfl (by decide) rfl ?_
          refine qr_idiv 61 rfl (by omega) (by decide) rfl ?_
          refine qr_callN 64 rfl rfl rfl (sf_50 (d := d + 5) hI hv15 (by omega)) ?_
          rintro _ _ ⟨rfl, v16, rfl, hv16⟩
          show qr_W (qe L xs vb) (d + 6) qx_e133 _ (64, _, [.int (qz v16)], qw σ α κ ρ, 0, 0)
          refine qr_if_eq 79 67 rfl rfl rfl (qrg hv16 (by decide) (by decide)) (fun h17 => ?_) (fun h17 => ?_)
          · skip
            refine qr_iconst 80 rfl rfl ?_
            refine qr_retI rfl rfl (by decide) (by decide) ?_
            exact ⟨_, _, rfl, hI, hF0, (-1), rfl, (by decide)⟩
          · skip
            refine qr_lload 69 rfl rfl rfl ?_
            refine qr_iload_n 70 rfl rfl rfl ?_
            refine qr_bipush 72 rfl (by decide) rfl ?_
            refine qr_irem 73 rfl (by omega) (by decide) rfl ?_
            refine qr_callN 76 rfl rfl rfl (sf_50 (d := d + 5) hI hv15 (by omega)) ?_
            rintro _ _ ⟨rfl, v18, rfl, hv18⟩
            show qr_W (qe L xs vb) (d + 6) qx_e133 _ (76, _, [.int (qz v18)], qw σ α κ ρ, 0, 0)
            refine qr_if_ne 81 79 rfl rfl rfl (qrg hv18 (by decide) (by decide)) (fun h19 => ?_) (fun h19 => ?_)
            · skip
              refine qr_aload_n 82 rfl rfl rfl ?_
              refine qr_get 85 rfl rfl rfl (by decide) rfl ?_
              refine qr_iload 87 rfl rfl rfl ?_
              refine qr_callN 90 rfl rfl rfl (sf_89_58 (d := d + 5) hI r3) ?_
              rintro _ _ ⟨σ20, rfl, hI21, hG22, rfl⟩
              have hF23 : qFr [(17, 5), (58, 10), (58, 11), (58, 12), (70, 2), (70, 3), (70, 5), (70, 6), (76, 7), (76, 8)] [20, 33, 35, 41, 53, 57, 59, 60, 61, 62, 63, 71, 72, 77, 78, 79, 80, 85] σ α σ20 α := qFr_t hF0 hG22 (by decide) (by decide)
              show qr_W (qe L xs vb) (d + 6) qx_e133 _ (90, _, [], qw σ20 α κ ρ, 0, 0)
              refine qr_aload_n 91 rfl rfl rfl ?_
              refine qr_get 94 rfl rfl rfl (by decide) rfl ?_
              refine qr_iload_n 95 rfl rfl rfl ?_
              refine qr_bipush 97 rfl (by decide) rfl ?_
              refine qr_idiv 98 rfl (by omega) (by decide) rfl ?_
              refine qr_iload_n 99 rfl rfl rfl ?_
              refine qr_bipush 101 rfl (by decide) rfl ?_
              refine qr_irem 102 rfl (by omega) (by decide) rfl ?_
              refine qr_lload 104 rfl rfl rfl ?_
              refine qr_callN 107 rfl rfl rfl (sf_134_70 (d := d + 0) hI21 (by omega) (by omega) hv15 (by omega)) ?_
              rintro _ _ ⟨σ24, α25, rfl, hI26, hG27, rfl⟩
              have hF28 : qFr [(17, 5), (58, 10), (58, 11), (58, 12), (70, 2), (70, 3), (70, 5), (70, 6), (76, 7), (76, 8)] [20, 33, 35, 41, 53, 57, 59, 60, 61, 62, 63, 71, 72, 77, 78, 79, 80, 85] σ α σ24 α25 := qFr_t hF23 hG27 (by decide) (by decide)
              show qr_W (qe L xs vb) (d + 6) qx_e133 _ (107, _, [], qw σ24 α25 κ ρ, 0, 0)
              as_aux_lemma =>
                refine qr_iload 109 rfl rfl rfl ?_
                refine qr_iconst 110 rfl rfl ?_
                refine qr_icmp_ne 181 113 rfl rfl rfl r4 (by decide) (fun h29 => ?_) (fun h29 => ?_)
                · skip
                  refine qr_aload_n 182 rfl rfl rfl ?_
                  refine qr_get 185 rfl rfl rfl (by decide) rfl ?_
                  refine qr_get 188 rfl rfl rfl (by decide) rfl ?_
                  have hs30 : 0 ≤ σ24 70 2 ∧ σ24 70 2 ≤ 31 := hI26.1 70 2
                  refine qr_retI rfl rfl (by decide) (by decide) ?_
                  exact ⟨_, _, rfl, hI26, hF28, (σ24 70 2), rfl, (qrg hs30 (by decide) (by decide))⟩
                · skip
                  refine qr_aload_n 114 rfl rfl rfl ?_
                  refine qr_get 117 rfl rfl rfl (by decide) rfl ?_
                  refine qr_dup 118 rfl rfl rfl ?_
                  refine qr_get 121 rfl rfl rfl (by decide) rfl ?_
                  refine qy_vl (σ 17 5) ((hG27.1 17 5 (by decide)).trans ((hG22.1 17 5 (by decide)).trans rfl)) ?_
                  refine qr_lload 123 rfl rfl rfl ?_
                  refine qr_aload_n 124 rfl rfl rfl ?_
                  refine qr_get 127 rfl rfl rfl (by decide) rfl ?_
                  refine qr_get 130 rfl rfl rfl (by decide) rfl ?_
                  have hs31 : (-9223372036854775808) ≤ σ24 70 3 ∧ σ24 70 3 ≤ 9223372036854775807 := hI26.1 70 3
                  refine qr_ldc2 (-1) 133 rfl (by decide) rfl ?_
                  refine qr_lxor 134 rfl rfl ?_
                  refine qy_canl (fun v32 hv32 => ?_)
                  refine qr_land 135 rfl rfl ?_
                  refine qy_canl (fun v33 hv33 => ?_)
                  refine qr_lor 136 rfl rfl ?_
                  refine qy_canl (fun v34 hv34 => ?_)
                  refine qr_put 139 rfl (by decide) rfl (Nat.le_of_ble_eq_true rfl) (Nat.le_of_ble_eq_true rfl) (Or.inl rfl) (qr_fitL rfl _) rfl ?_
                  refine qy_wS (qw_s σ24 17 5 v34) rfl (fun σ35 e36 => ?_)
                  have hI37 : qI σ35 α25 κ ρ := by rw [e36]; exact qI_s hI26 17 5 rfl (show (-9223372036854775808) ≤ v34 ∧ v34 ≤ 9223372036854775807 by omega)
                  have hF38 : qFr [(17, 5), (58, 10), (58, 11), (58, 12), (70, 2), (70, 3), (70, 5), (70, 6), (76, 7), (76, 8)] [20, 33, 35, 41, 53, 57, 59, 60, 61, 62, 63, 71, 72, 77, 78, 79, 80, 85] σ α σ35 α25 := by rw [e36]; exact qFr_s hF28 17 5 _ (by decide)
                  refine qr_iconst 140 rfl rfl ?_
                  refine qr_istore _ 142 rfl (by decide) rfl rfl ?_
                  have hL433 : ∀ (n : Nat) (ls : qm_L) (u425 : Int) (σ426 α427 : Nat → Nat → Int), 60 - u425 < (n : Int) → qm_get ls 0 = some (.ref 16) → qm_get ls 8 = some (.int (qz u425)) → (0 ≤ u425 ∧ u425 ≤ 60) → qI σ426 α427 κ ρ → qFr [(17, 5), (58, 10), (58, 11), (58, 12), (70, 2), (70, 3), (70, 5), (70, 6), (76, 7), (76, 8)] [20, 33, 35, 41, 53, 57, 59, 60, 61, 62, 63, 71, 72, 77, 78, 79, 80, 85] σ α σ426 α427 → σ426 17 5 = v34 → σ426 70 3 = (σ24 70 3) → qr_W (qe L xs vb) (d + 6) qx_e133 (fun r w' => ∃ σ' α', w' = qw σ' α' κ ρ ∧ qI σ' α' κ ρ ∧ qFr [(17, 5), (58, 10), (58, 11), (58, 12), (70, 2), (70, 3), (70, 5), (70, 6), (76, 7), (76, 8)] [20, 33, 35, 41, 53, 57, 59, 60, 61, 62, 63, 71, 72, 77, 78, 79, 80, 85] σ α σ' α' ∧ ∃ v : Int, r = some (.int (qz v)) ∧ ((-2147483648) ≤ v ∧ v ≤ 2147483647)) (142, ls, [], qw σ426 α427 κ ρ, 0, 0) := by
                    intro n
                    induction n with
                    | zero => intro ls u425 σ426 α427 hm g423 g424 hf432 hI428 hF429 hk430 hk431; exact False.elim (by omega)
                    | succ n ih434 =>
                      intro ls u425 σ426 α427 hm g423 g424 hf432 hI428 hF429 hk430 hk431
                      refine qr_iload 144 rfl g424 rfl ?_
                      refine qr_aload_n 145 rfl g423 rfl ?_
                      refine qr_get 148 rfl rfl rfl (by decide) rfl ?_
                      refine qr_get 151 rfl rfl rfl (by decide) rfl ?_
                      have hs435 : 0 ≤ σ426 70 5 ∧ σ426 70 5 ≤ 60 := hI428.1 70 5
                      refine qr_icmp_ge 181 154 rfl rfl rfl (qrg hf432 (by decide) (by decide)) (qrg hs435 (by decide) (by decide)) (fun h436 => ?_) (fun h436 => ?_)
                      · skip
                        refine qr_aload_n 182 rfl g423 rfl ?_
                        refine qr_get 185 rfl rfl rfl (by decide) rfl ?_
                        refine qr_get 188 rfl rfl rfl (by decide) rfl ?_
                        have hs437 : 0 ≤ σ426 70 2 ∧ σ426 70 2 ≤ 31 := hI428.1 70 2
                        refine qr_retI rfl rfl (by decide) (by decide) ?_
                        exact ⟨_, _, rfl, hI428, hF429, (σ426 70 2), rfl, (qrg hs437 (by decide) (by decide))⟩
                      · skip
                        refine qr_aload_n 155 rfl g423 rfl ?_
                        refine qr_get 158 rfl rfl rfl (by decide) rfl ?_
                        refine qr_iconst 159 rfl rfl ?_
                        refine qr_aload_n 160 rfl g423 rfl ?_
                        refine qr_get 163 rfl rfl rfl (by decide) rfl ?_
                        refine qr_get 166 rfl rfl rfl (by decide) rfl ?_
                        refine qr_iload 168 rfl g424 rfl ?_
                        refine qr_iaload 169 rfl rfl (by omega) (by decide) rfl ?_
                        refine qr_topI (fun v438 hv438 => ?_)
                        have hs439 : 0 ≤ v438 ∧ v438 ≤ 59 := by rw [hv438]; exact hI428.2.1 72 _ (show _ < 60 by omega)
                        refine qr_bipush 171 rfl (by decide) rfl ?_
                        refine qr_callN 174 rfl rfl rfl (sf_52_76 (d := d + 3) hI428 (by decide) (qrg hs439 (by decide) (by decide)) (by decide) (by omega)) ?_
                        rintro _ _ ⟨σ441, α442, rfl, hI443, hG444, v440, rfl, hv440⟩
                        have hF445 : qFr [(17, 5), (58, 10), (58, 11), (58, 12), (70, 2), (70, 3), (70, 5), (70, 6), (76, 7), (76, 8)] [20, 33, 35, 41, 53, 57, 59, 60, 61, 62, 63, 71, 72, 77, 78, 79, 80, 85] σ α σ441 α442 := qFr_t hF429 hG444 (by decide) (by decide)
                        show qr_W (qe L xs vb) (d + 6) qx_e133 _ (174, _, [.int (qz v440)], qw σ441 α442 κ ρ, 0, 0)
                        refine qr_pop 175 rfl rfl rfl ?_
                        refine qr_iinc _ 178 rfl g424 (by decide) rfl rfl ?_
                        refine qr_goto 142 rfl rfl ?_
                        exact ih434 _ (u425 + 1) σ441 α442 (by omega) (qm_gk g423 (by decide) (Or.inl (by decide))) (qm_ge _ _ _) (by omega) hI443 hF445 ((hG444.1 17 5 (by decide)).trans ((hk430).trans rfl)) ((hG444.1 70 3 (by decide)).trans ((hk431).trans rfl))
                  exact hL433 ((60 - 0 + 1 : Int)).toNat _ 0 σ35 α25 (by omega) rfl rfl (by decide) hI37 hF38 ((congrFun (congrFun e36 17) 5).trans rfl) ((congrFun (congrFun e36 70) 3).trans rfl)
            · skip
              refine qr_iconst 80 rfl rfl ?_
              refine qr_retI rfl rfl (by decide) (by decide) ?_
              exact ⟨_, _, rfl, hI, hF0, (-1), rfl, (by decide)⟩
        · skip
          refine qr_iconst 39 rfl rfl ?_
          refine qr_retI rfl rfl (by decide) (by decide) ?_
          exact ⟨_, _, rfl, hI, hF0, (-1), rfl, (by decide)⟩

set_option maxHeartbeats 4000000 in
set_option maxRecDepth 20000 in
/-- OneRoof.worst -/
theorem sf_140_16 {L : Nat} {xs : Nat → Int} {vb : Bool} {d : Nat} {σ α : Nat → Nat → Int} {κ : Nat → Option Nat} {ρ : Nat} {x1 : Int} {x2 : Int} (hI : qI σ α κ ρ) (r1 : (-9223372036854775808) ≤ x1 ∧ x1 ≤ 9223372036854775807) (r2 : (-2147483648) ≤ x2 ∧ x2 ≤ 2147483647) : qm_T (qe L xs vb) (d + 7) 140 [.ref 16, .long (ql x1), .int (qz x2)] (qw σ α κ ρ) (fun r w' => ∃ σ' α', w' = qw σ' α' κ ρ ∧ qI σ' α' κ ρ ∧ qFr [(58, 10), (58, 11), (58, 12), (73, 2), (73, 3), (73, 5), (73, 6)] [53, 57, 59, 60, 61, 62, 63, 74, 75, 85] σ α σ' α' ∧ ∃ v : Int, r = some (.int (qz v)) ∧ ((-2147483648) ≤ v ∧ v ≤ 2147483647)) := by
  refine qr_start (d := d + 6) qv_e140 (Nat.le_of_ble_eq_true rfl) ?_
  show qr_W (qe L xs vb) (d + 6) qx_e140 _ (0, [(0, .ref 16), (1, .long (ql x1)), (3, .int (qz x2))], [], _, 0, 0)
  have hF0 := qFr_rf [(58, 10), (58, 11), (58, 12), (73, 2), (73, 3), (73, 5), (73, 6)] [53, 57, 59, 60, 61, 62, 63, 74, 75, 85] σ α
  refine qr_aload_n 1 rfl rfl rfl ?_
  refine qr_get 4 rfl rfl rfl (by decide) rfl ?_
  refine qr_lload_n 5 rfl rfl rfl ?_
  refine qr_callN 8 rfl rfl rfl (sf_88_17 (d := d + 5) hI r1) ?_
  rintro _ _ ⟨rfl, v1, rfl, hv1⟩
  show qr_W (qe L xs vb) (d + 6) qx_e140 _ (8, _, [.int (qz v1)], qw σ α κ ρ, 0, 0)
  refine qr_if_eq 18 11 rfl rfl rfl (qrg hv1 (by decide) (by decide)) (fun h2 => ?_) (fun h2 => ?_)
  · skip
    refine qr_iconst 19 rfl rfl ?_
    refine qr_retI rfl rfl (by decide) (by decide) ?_
    exact ⟨_, _, rfl, hI, hF0, (-1), rfl, (by decide)⟩
  · skip
    refine qr_iload_n 12 rfl rfl rfl ?_
    refine qr_callN 15 rfl rfl rfl (sf_62 (d := d + 5) hI r2) ?_
    rintro _ _ ⟨rfl, v3, rfl, hv3, hp4⟩
    show qr_W (qe L xs vb) (d + 6) qx_e140 _ (15, _, [.int (qz v3)], qw σ α κ ρ, 0, 0)
    refine qr_if_ne 20 18 rfl rfl rfl (qrg hv3 (by decide) (by decide)) (fun h5 => ?_) (fun h5 => ?_)
    · skip
      refine qr_lload_n 21 rfl rfl rfl ?_
      refine qr_aload_n 22 rfl rfl rfl ?_
      refine qr_get 25 rfl rfl rfl (by decide) rfl ?_
      refine qr_get 28 rfl rfl rfl (by decide) rfl ?_
      have hs6 : (-9223372036854775808) ≤ σ 17 5 ∧ σ 17 5 ≤ 9223372036854775807 := hI.1 17 5
      refine qr_ldc2 (-1) 31 rfl (by decide) rfl ?_
      refine qr_lxor 32 rfl rfl ?_
      refine qy_canl (fun v7 hv7 => ?_)
      refine qr_land 33 rfl rfl ?_
      refine qy_canl (fun v8 hv8 => ?_)
      refine qr_lstore _ 35 rfl (by decide) rfl rfl ?_
      refine qr_aload_n 36 rfl rfl rfl ?_
      refine qr_get 39 rfl rfl rfl (by decide) rfl ?_
      refine qr_iload_n 40 rfl rfl rfl ?_
      refine qr_callN 43 rfl rfl rfl (sf_89_58 (d := d + 5) hI r2) ?_
      rintro _ _ ⟨σ9, rfl, hI10, hG11, rfl⟩
      have hF12 : qFr [(58, 10), (58, 11), (58, 12), (73, 2), (73, 3), (73, 5), (73, 6)] [53, 57, 59, 60, 61, 62, 63, 74, 75, 85] σ α σ9 α := qFr_t hF0 hG11 (by decide) (by decide)
      show qr_W (qe L xs vb) (d + 6) qx_e140 _ (43, _, [], qw σ9 α κ ρ, 0, 0)
      refine qr_bipush 45 rfl (by decide) rfl ?_
      refine qr_istore _ 47 rfl (by decide) rfl rfl ?_
      refine qr_bipush 49 rfl (by decide) rfl ?_
      refine qr_istore _ 51 rfl (by decide) rfl rfl ?_
      refine qr_iconst 52 rfl rfl ?_
      refine qr_istore _ 54 rfl (by decide) rfl rfl ?_
      have hL3949 : ∀ (n : Nat) (ls : qm_L) (u3936 u3938 u3940 : Int) (σ3941 α3942 : Nat → Nat → Int), 32 - u3940 < (n : Int) → qm_get ls 0 = some (.ref 16) → qm_get ls 4 = some (.long (ql v8)) → qm_get ls 6 = some (.int (qz u3936)) → qm_get ls 7 = some (.int (qz u3938)) → qm_get ls 8 = some (.int (qz u3940)) → ((-2) ≤ u3936 ∧ u3936 ≤ 3131) → (2 ≤ u3938 ∧ u3938 ≤ 2147483647) → (0 ≤ u3940 ∧ u3940 ≤ 32) → qI σ3941 α3942 κ ρ → qFr [(58, 10), (58, 11), (58, 12), (73, 2), (73, 3), (73, 5), (73, 6)] [53, 57, 59, 60, 61, 62, 63, 74, 75, 85] σ α σ3941 α3942 → σ3941 17 5 = (σ 17 5) → qr_W (qe L xs vb) (d + 6) qx_e140 (fun r w' => ∃ σ' α', w' = qw σ' α' κ ρ ∧ qI σ' α' κ ρ ∧ qFr [(58, 10), (58, 11), (58, 12), (73, 2), (73, 3), (73, 5), (73, 6)] [53, 57, 59, 60, 61, 62, 63, 74, 75, 85] σ α σ' α' ∧ ∃ v : Int, r = some (.int (qz v)) ∧ ((-2147483648) ≤ v ∧ v ≤ 2147483647)) (54, ls, [], qw σ3941 α3942 κ ρ, 0, 0) := by
        intro n
        induction n with
        | zero => intro ls u3936 u3938 u3940 σ3941 α3942 hm g3933 g3934 g3935 g3937 g3939 hf3946 hf3947 hf3948 hI3943 hF3944 hk3945; exact False.elim (by omega)
        | succ n ih3950 =>
          intro ls u3936 u3938 u3940 σ3941 α3942 hm g3933 g3934 g3935 g3937 g3939 hf3946 hf3947 hf3948 hI3943 hF3944 hk3945
          refine qr_iload 56 rfl g3939 rfl ?_
          refine qr_aload_n 57 rfl g3933 rfl ?_
          refine qr_get 60 rfl rfl rfl (by decide) rfl ?_
          refine qr_get 63 rfl rfl rfl (by decide) rfl ?_
          have hs3951 : 0 ≤ σ3941 17 6 ∧ σ3941 17 6 ≤ 32 := hI3943.1 17 6
          refine qr_icmp_ge 185 66 rfl rfl rfl (qrg hf3948 (by decide) (by decide)) (qrg hs3951 (by decide) (by decide)) (fun h3952 => ?_) (fun h3952 => ?_)
          · skip
            refine qr_iload 187 rfl g3935 rfl ?_
            refine qr_retI rfl rfl (by decide) (by decide) ?_
            exact ⟨_, _, rfl, hI3943, hF3944, u3936, rfl, (qrg hf3946 (by decide) (by decide))⟩
          · skip
            refine qr_iconst 67 rfl rfl ?_
            refine qr_istore _ 69 rfl (by decide) rfl rfl ?_
            have hL4211 : ∀ (n : Nat) (ls : qm_L) (u4196 u4198 u4201 : Int) (σ4202 α4203 : Nat → Nat → Int), 32 - u4201 < (n : Int) → qm_get ls 0 = some (.ref 16) → qm_get ls 4 = some (.long (ql v8)) → qm_get ls 6 = some (.int (qz u4196)) → qm_get ls 7 = some (.int (qz u4198)) → qm_get ls 8 = some (.int (qz u3940)) → qm_get ls 9 = some (.int (qz u4201)) → ((-2) ≤ u4196 ∧ u4196 ≤ 3131) → (2 ≤ u4198 ∧ u4198 ≤ 2147483647) → (0 ≤ u4201 ∧ u4201 ≤ 32) → qI σ4202 α4203 κ ρ → qFr [(58, 10), (58, 11), (58, 12), (73, 2), (73, 3), (73, 5), (73, 6)] [53, 57, 59, 60, 61, 62, 63, 74, 75, 85] σ α σ4202 α4203 → σ4202 17 5 = (σ 17 5) → σ4202 17 6 = (σ3941 17 6) → qr_W (qe L xs vb) (d + 6) qx_e140 (fun r w' => ∃ σ' α', w' = qw σ' α' κ ρ ∧ qI σ' α' κ ρ ∧ qFr [(58, 10), (58, 11), (58, 12), (73, 2), (73, 3), (73, 5), (73, 6)] [53, 57, 59, 60, 61, 62, 63, 74, 75, 85] σ α σ' α' ∧ ∃ v : Int, r = some (.int (qz v)) ∧ ((-2147483648) ≤ v ∧ v ≤ 2147483647)) (69, ls, [], qw σ4202 α4203 κ ρ, 0, 0) := by
              intro n
              induction n with
              | zero => intro ls u4196 u4198 u4201 σ4202 α4203 hm g4193 g4194 g4195 g4197 g4199 g4200 hf4208 hf4209 hf4210 hI4204 hF4205 hk4206 hk4207; exact False.elim (by omega)
              | succ n ih4212 =>
                intro ls u4196 u4198 u4201 σ4202 α4203 hm g4193 g4194 g4195 g4197 g4199 g4200 hf4208 hf4209 hf4210 hI4204 hF4205 hk4206 hk4207
                refine qr_iload 71 rfl g4200 rfl ?_
                refine qr_aload_n 72 rfl g4193 rfl ?_
                refine qr_get 75 rfl rfl rfl (by decide) rfl ?_
                refine qr_get 78 rfl rfl rfl (by decide) rfl ?_
                refine qy_v (σ3941 17 6) ((hk4207).trans rfl) ?_
                refine qr_icmp_ge 179 81 rfl rfl rfl (qrg hf4210 (by decide) (by decide)) (qrg hs3951 (by decide) (by decide)) (fun h4213 => ?_) (fun h4213 => ?_)
                · skip
                  refine qr_iinc _ 182 rfl g4199 (by decide) rfl rfl ?_
                  refine qr_goto 54 rfl rfl ?_
                  exact ih3950 _ u4196 u4198 (u3940 + 1) σ4202 α4203 (by omega) (qm_gk g4193 (by decide) (Or.inl (by decide))) (qm_gk g4194 (by decide) (Or.inl (by decide))) (qm_gk g4195 (by decide) (Or.inl (by decide))) (qm_gk g4197 (by decide) (Or.inr rfl)) (qm_ge _ _ _) hf4208 hf4209 (by omega) hI4204 hF4205 ((hk4206).trans rfl)
                · skip
                  refine qr_iload 83 rfl g4199 rfl ?_
                  refine qr_iload 85 rfl g4200 rfl ?_
                  refine qr_icmp_eq 173 88 rfl rfl rfl (qrg hf3948 (by decide) (by decide)) (qrg hf4210 (by decide) (by decide)) (fun h4214 => ?_) (fun h4214 => ?_)
                  · skip
                    refine qr_iinc _ 176 rfl g4200 (by decide) rfl rfl ?_
                    refine qr_goto 69 rfl rfl ?_
                    exact ih4212 _ u4196 u4198 (u4201 + 1) σ4202 α4203 (by omega) (qm_gk g4193 (by decide) (Or.inl (by decide))) (qm_gk g4194 (by decide) (Or.inl (by decide))) (qm_gk g4195 (by decide) (Or.inl (by decide))) (qm_gk g4197 (by decide) (Or.inl (by decide))) (qm_gk g4199 (by decide) (Or.inr rfl)) (qm_ge _ _ _) hf4208 hf4209 (by omega) hI4204 hF4205 ((hk4206).trans rfl) ((hk4207).trans rfl)
                  · skip
                    refine qr_lload 90 rfl g4194 rfl ?_
                    refine qr_iload 92 rfl g4199 rfl ?_
                    refine qr_callN 95 rfl rfl rfl (sf_50 (d := d + 5) hI4204 hv8 (qrg hf3948 (by decide) (by decide))) ?_
                    rintro _ _ ⟨rfl, v4215, rfl, hv4215⟩
                    show qr_W (qe L xs vb) (d + 6) qx_e140 _ (95, _, [.int (qz v4215)], qw σ4202 α4203 κ ρ, 0, 0)
                    refine qr_if_eq 173 98 rfl rfl rfl (qrg hv4215 (by decide) (by decide)) (fun h4216 => ?_) (fun h4216 => ?_)
                    · skip
                      refine qr_iinc _ 176 rfl g4200 (by decide) rfl rfl ?_
                      refine qr_goto 69 rfl rfl ?_
                      exact ih4212 _ u4196 u4198 (u4201 + 1) σ4202 α4203 (by omega) (qm_gk g4193 (by decide) (Or.inl (by decide))) (qm_gk g4194 (by decide) (Or.inl (by decide))) (qm_gk g4195 (by decide) (Or.inl (by decide))) (qm_gk g4197 (by decide) (Or.inl (by decide))) (qm_gk g4199 (by decide) (Or.inr rfl)) (qm_ge _ _ _) hf4208 hf4209 (by omega) hI4204 hF4205 ((hk4206).trans rfl) ((hk4207).trans rfl)
                    · skip
                      refine qr_lload 100 rfl g4194 rfl ?_
                      refine qr_iload 102 rfl g4200 rfl ?_
                      refine qr_callN 105 rfl rfl rfl (sf_50 (d := d + 5) hI4204 hv8 (qrg hf4210 (by decide) (by decide))) ?_
                      rintro _ _ ⟨rfl, v4217, rfl, hv4217⟩
                      show qr_W (qe L xs vb) (d + 6) qx_e140 _ (105, _, [.int (qz v4217)], qw σ4202 α4203 κ ρ, 0, 0)
                      refine qr_if_ne 111 108 rfl rfl rfl (qrg hv4217 (by decide) (by decide)) (fun h4218 => ?_) (fun h4218 => ?_)
                      · skip
                        refine qr_aload_n 112 rfl g4193 rfl ?_
                        refine qr_get 115 rfl rfl rfl (by decide) rfl ?_
                        refine qr_iload 117 rfl g4199 rfl ?_
                        refine qr_iload 119 rfl g4200 rfl ?_
                        refine qr_lload 121 rfl g4194 rfl ?_
                        refine qr_callN 124 rfl rfl rfl (sf_134_73 (d := d + 0) hI4204 (by omega) (by omega) hv8 (by omega)) ?_
                        rintro _ _ ⟨σ4219, α4220, rfl, hI4221, hG4222, rfl⟩
                        have hF4223 : qFr [(58, 10), (58, 11), (58, 12), (73, 2), (73, 3), (73, 5), (73, 6)] [53, 57, 59, 60, 61, 62, 63, 74, 75, 85] σ α σ4219 α4220 := qFr_t hF4205 hG4222 (by decide) (by decide)
                        show qr_W (qe L xs vb) (d + 6) qx_e140 _ (124, _, [], qw σ4219 α4220 κ ρ, 0, 0)
                        refine qr_aload_n 125 rfl g4193 rfl ?_
                        refine qr_get 128 rfl rfl rfl (by decide) rfl ?_
                        refine qr_get 131 rfl rfl rfl (by decide) rfl ?_
                        have hs4224 : (-9223372036854775808) ≤ σ4219 73 3 ∧ σ4219 73 3 ≤ 9223372036854775807 := hI4221.1 73 3
                        refine qr_callN 134 rfl rfl rfl (sf_74 (d := d + 5) hI4221 hs4224) ?_
                        rintro _ _ ⟨rfl, v4225, rfl, hv4225⟩
                        show qr_W (qe L xs vb) (d + 6) qx_e140 _ (134, _, [.int (qz v4225)], qw σ4219 α4220 κ ρ, 0, 0)
                        refine qr_iload 136 rfl g4197 rfl ?_
                        refine qr_icmp_lt 142 139 rfl rfl rfl hv4225 (qrg hf4209 (by decide) (by decide)) (fun h4226 => ?_) (fun h4226 => ?_)
                        · skip
                          refine qr_aload_n 143 rfl g4193 rfl ?_
                          refine qr_get 146 rfl rfl rfl (by decide) rfl ?_
                          refine qr_get 149 rfl rfl rfl (by decide) rfl ?_
                          refine qr_callN 152 rfl rfl rfl (sf_74 (d := d + 5) hI4221 hs4224) ?_
                          rintro _ _ ⟨rfl, v4227, rfl, hv4227⟩
                          show qr_W (qe L xs vb) (d + 6) qx_e140 _ (152, _, [.int (qz v4227)], qw σ4219 α4220 κ ρ, 0, 0)
                          refine qr_istore _ 154 rfl (by decide) rfl rfl ?_
                          refine qr_bipush 156 rfl (by decide) rfl ?_
                          refine qr_iload 158 rfl (qm_gk g4199 (by decide) (Or.inl (by decide))) rfl ?_
                          refine qr_imul 159 rfl rfl ?_
                          refine qr_iload 161 rfl (qm_gk g4200 (by decide) (Or.inl (by decide))) rfl ?_
                          refine qr_iadd 162 rfl rfl ?_
                          refine qr_istore _ 164 rfl (by decide) rfl rfl ?_
                          refine qr_iload 166 rfl (qm_gk (qm_ge _ _ _) (by decide) (Or.inl (by decide))) rfl ?_
                          refine qr_iconst 167 rfl rfl ?_
                          refine qr_icmp_gt 173 170 rfl rfl rfl hv4227 (by decide) (fun h4228 => ?_) (fun h4228 => ?_)
                          · skip
                            refine qr_iinc _ 176 rfl (qm_gk (qm_gk g4200 (by decide) (Or.inl (by decide))) (by decide) (Or.inl (by decide))) (by decide) rfl rfl ?_
                            refine qr_goto 69 rfl rfl ?_
                            exact ih4212 _ ((100 * u3940) + u4201) v4227 (u4201 + 1) σ4219 α4220 (by omega) (qm_gk (qm_gk (qm_gk g4193 (by decide) (Or.inl (by decide))) (by decide) (Or.inl (by decide))) (by decide) (Or.inl (by decide))) (qm_gk (qm_gk (qm_gk g4194 (by decide) (Or.inl (by decide))) (by decide) (Or.inl (by decide))) (by decide) (Or.inl (by decide))) (qm_gk (qm_ge _ _ _) (by decide) (Or.inl (by decide))) (qm_gk (qm_gk (qm_ge _ _ _) (by decide) (Or.inl (by decide))) (by decide) (Or.inl (by decide))) (qm_gk (qm_gk (qm_gk g4199 (by decide) (Or.inl (by decide))) (by decide) (Or.inl (by decide))) (by decide) (Or.inr rfl)) (qm_ge _ _ _) (by omega) (by omega) (by omega) hI4221 hF4223 ((hG4222.1 17 5 (by decide)).trans ((hk4206).trans rfl)) ((hG4222.1 17 6 (by decide)).trans ((hk4207).trans rfl))
                          · skip
                            refine qr_iload 172 rfl (qm_ge _ _ _) rfl ?_
                            refine qr_retI rfl rfl (by decide) (by decide) ?_
                            exact ⟨_, _, rfl, hI4221, hF4223, ((100 * u3940) + u4201), rfl, (by omega)⟩
                        · skip
                          refine qr_goto 173 rfl rfl ?_
                          refine qr_iinc _ 176 rfl g4200 (by decide) rfl rfl ?_
                          refine qr_goto 69 rfl rfl ?_
                          exact ih4212 _ u4196 u4198 (u4201 + 1) σ4219 α4220 (by omega) (qm_gk g4193 (by decide) (Or.inl (by decide))) (qm_gk g4194 (by decide) (Or.inl (by decide))) (qm_gk g4195 (by decide) (Or.inl (by decide))) (qm_gk g4197 (by decide) (Or.inl (by decide))) (qm_gk g4199 (by decide) (Or.inr rfl)) (qm_ge _ _ _) hf4208 hf4209 (by omega) hI4221 hF4223 ((hG4222.1 17 5 (by decide)).trans ((hk4206).trans rfl)) ((hG4222.1 17 6 (by decide)).trans ((hk4207).trans rfl))
                      · skip
                        refine qr_goto 173 rfl rfl ?_
                        refine qr_iinc _ 176 rfl g4200 (by decide) rfl rfl ?_
                        refine qr_goto 69 rfl rfl ?_
                        exact ih4212 _ u4196 u4198 (u4201 + 1) σ4202 α4203 (by omega) (qm_gk g4193 (by decide) (Or.inl (by decide))) (qm_gk g4194 (by decide) (Or.inl (by decide))) (qm_gk g4195 (by decide) (Or.inl (by decide))) (qm_gk g4197 (by decide) (Or.inl (by decide))) (qm_gk g4199 (by decide) (Or.inr rfl)) (qm_ge _ _ _) hf4208 hf4209 (by omega) hI4204 hF4205 ((hk4206).trans rfl) ((hk4207).trans rfl)
            exact hL4211 ((32 - 0 + 1 : Int)).toNat _ u3936 u3938 0 σ3941 α3942 (by omega) (qm_gk g3933 (by decide) (Or.inl (by decide))) (qm_gk g3934 (by decide) (Or.inl (by decide))) (qm_gk g3935 (by decide) (Or.inl (by decide))) (qm_gk g3937 (by decide) (Or.inl (by decide))) (qm_gk g3939 (by decide) (Or.inr rfl)) (qm_ge _ _ _) hf3946 hf3947 (by decide) hI3943 hF3944 ((hk3945).trans rfl) (rfl)
      exact hL3949 ((32 - 0 + 1 : Int)).toNat _ (-2) 33 0 σ9 α (by omega) rfl rfl rfl rfl rfl (by decide) (by decide) (by decide) hI10 hF12 ((hG11.1 17 5 (by decide)).trans rfl)
    · skip
      refine qr_iconst 19 rfl rfl ?_
      refine qr_retI rfl rfl (by decide) (by decide) ?_
      exact ⟨_, _, rfl, hI, hF0, (-1), rfl, (by decide)⟩

set_option maxHeartbeats 4000000 in
set_option maxRecDepth 20000 in
/-- OneRoof.wed -/
theorem sf_141_16 {L : Nat} {xs : Nat → Int} {vb : Bool} {d : Nat} {σ α : Nat → Nat → Int} {κ : Nat → Option Nat} {ρ : Nat} {x1 : Int} {x2 : Int} {x3 : Int} (hI : qI σ α κ ρ) (r1 : (-2147483648) ≤ x1 ∧ x1 ≤ 2147483647) (r2 : (-2147483648) ≤ x2 ∧ x2 ≤ 2147483647) (r3 : (-2147483648) ≤ x3 ∧ x3 ≤ 2147483647) : qm_T (qe L xs vb) (d + 4) 141 [.ref 16, .int (qz x1), .int (qz x2), .int (qz x3)] (qw σ α κ ρ) (fun r w' => ∃ σ' α', w' = qw σ' α' κ ρ ∧ qI σ' α' κ ρ ∧ qFr [(25, 1)] [26] σ α σ' α' ∧ ∃ v : Int, r = some (.int (qz v)) ∧ ((-2147483648) ≤ v ∧ v ≤ 2147483647)) := by
  refine qr_start (d := d + 3) qv_e141 (Nat.le_of_ble_eq_true rfl) ?_
  show qr_W (qe L xs vb) (d + 3) qx_e141 _ (0, [(0, .ref 16), (1, .int (qz x1)), (2, .int (qz x2)), (3, .int (qz x3))], [], _, 0, 0)
  have hF0 := qFr_rf [(25, 1)] [26] σ α
  refine qr_aload_n 1 rfl rfl rfl ?_
  refine qr_get 4 rfl rfl rfl (by decide) rfl ?_
  refine qr_iload_n 5 rfl rfl rfl ?_
  refine qr_callN 8 rfl rfl rfl (sf_61_17 (d := d + 1) hI r1) ?_
  have hs3 : 0 ≤ σ 17 6 ∧ σ 17 6 ≤ 32 := hI.1 17 6
  rintro _ _ ⟨rfl, v1, rfl, hv1, hp2⟩
  show qr_W (qe L xs vb) (d + 3) qx_e141 _ (8, _, [.int (qz v1)], qw σ α κ ρ, 0, 0)
  refine qr_if_eq 25 11 rfl rfl rfl (qrg hv1 (by decide) (by decide)) (fun h4 => ?_) (fun h4 => ?_)
  · skip
    refine qr_iconst 26 rfl rfl ?_
    refine qr_retI rfl rfl (by decide) (by decide) ?_
    exact ⟨_, _, rfl, hI, hF0, (-1), rfl, (by decide)⟩
  · skip
    refine qr_iload_n 12 rfl rfl rfl ?_
    refine qr_callN 15 rfl rfl rfl (sf_62 (d := d + 2) hI r2) ?_
    rintro _ _ ⟨rfl, v5, rfl, hv5, hp6⟩
    show qr_W (qe L xs vb) (d + 3) qx_e141 _ (15, _, [.int (qz v5)], qw σ α κ ρ, 0, 0)
    refine qr_if_eq 25 18 rfl rfl rfl (qrg hv5 (by decide) (by decide)) (fun h7 => ?_) (fun h7 => ?_)
    · skip
      refine qr_iconst 26 rfl rfl ?_
      refine qr_retI rfl rfl (by decide) (by decide) ?_
      exact ⟨_, _, rfl, hI, hF0, (-1), rfl, (by decide)⟩
    · skip
      refine qr_iload_n 19 rfl rfl rfl ?_
      refine qr_callN 22 rfl rfl rfl (sf_41 (d := d + 2) hI r3) ?_
      rintro _ _ ⟨rfl, v8, rfl, hv8, hp9⟩
      show qr_W (qe L xs vb) (d + 3) qx_e141 _ (22, _, [.int (qz v8)], qw σ α κ ρ, 0, 0)
      refine qr_if_ne 27 25 rfl rfl rfl (qrg hv8 (by decide) (by decide)) (fun h10 => ?_) (fun h10 => ?_)
      · skip
        refine qr_iload_n 28 rfl rfl rfl ?_
        refine qr_bipush 30 rfl (by decide) rfl ?_
        refine qr_idiv 31 rfl (by omega) (by decide) rfl ?_
        refine qr_istore _ 33 rfl (by decide) rfl rfl ?_
        refine qr_iload_n 34 rfl rfl rfl ?_
        refine qr_bipush 36 rfl (by decide) rfl ?_
        refine qr_irem 37 rfl (by omega) (by decide) rfl ?_
        refine qr_istore _ 39 rfl (by decide) rfl rfl ?_
        refine qr_aload_n 40 rfl rfl rfl ?_
        refine qr_get 43 rfl rfl rfl (by decide) rfl ?_
        refine qr_iload 45 rfl rfl rfl ?_
        refine qr_iload 47 rfl rfl rfl ?_
        refine qr_callN 50 rfl rfl rfl (sf_57_23 (d := d + 2) hI (by omega) (by omega)) ?_
        rintro _ _ ⟨rfl, v11, rfl, hv11⟩
        show qr_W (qe L xs vb) (d + 3) qx_e141 _ (50, _, [.int (qz v11)], qw σ α κ ρ, 0, 0)
        refine qr_iconst 51 rfl rfl ?_
        refine qr_icmp_ne 56 54 rfl rfl rfl (qrg hv11 (by decide) (by decide)) (by decide) (fun h12 => ?_) (fun h12 => ?_)
        · skip
          refine qr_aload_n 57 rfl rfl rfl ?_
          refine qr_get 60 rfl rfl rfl (by decide) rfl ?_
          refine qr_iload_n 61 rfl rfl rfl ?_
          refine qr_aload_n 62 rfl rfl rfl ?_
          refine qr_get 65 rfl rfl rfl (by decide) rfl ?_
          refine qr_aload_n 66 rfl rfl rfl ?_
          refine qr_get 69 rfl rfl rfl (by decide) rfl ?_
          refine qr_get 72 rfl rfl rfl (by decide) rfl ?_
          have hs13 : 0 ≤ σ 17 6 ∧ σ 17 6 ≤ 32 := hI.1 17 6
          refine qr_callN 75 rfl rfl rfl (sf_142_27_23 (d := d + 0) hI r2 hs13) ?_
          rintro _ _ ⟨rfl, v14, rfl, hv14⟩
          show qr_W (qe L xs vb) (d + 3) qx_e141 _ (75, _, [.int (qz v14)], qw σ α κ ρ, 0, 0)
          refine qr_istore _ 77 rfl (by decide) rfl rfl ?_
          refine qr_iload_n 78 rfl rfl rfl ?_
          refine qr_iconst 79 rfl rfl ?_
          refine qr_icmp_ne 85 82 rfl rfl rfl r3 (by decide) (fun h15 => ?_) (fun h15 => ?_)
          · skip
            refine qr_aload_n 86 rfl rfl rfl ?_
            refine qr_get 89 rfl rfl rfl (by decide) rfl ?_
            refine qr_aload_n 90 rfl rfl rfl ?_
            refine qr_get 93 rfl rfl rfl (by decide) rfl ?_
            refine qr_callN 96 rfl rfl rfl (sf_143_25_23 (d := d + 2) hI ) ?_
            rintro _ _ ⟨σ16, α17, rfl, hI18, hG19, rfl⟩
            have hF20 : qFr [(25, 1)] [26] σ α σ16 α17 := qFr_t hF0 hG19 (by decide) (by decide)
            show qr_W (qe L xs vb) (d + 3) qx_e141 _ (96, _, [], qw σ16 α17 κ ρ, 0, 0)
            refine qr_aload_n 97 rfl rfl rfl ?_
            refine qr_get 100 rfl rfl rfl (by decide) rfl ?_
            refine qr_iload 102 rfl rfl rfl ?_
            refine qr_iload 104 rfl rfl rfl ?_
            refine qr_aload_n 105 rfl rfl rfl ?_
            refine qr_get 108 rfl rfl rfl (by decide) rfl ?_
            as_aux_lemma =>
              refine qr_get 111 rfl rfl rfl (by decide) rfl ?_
              refine qy_v (σ 17 6) ((hG19.1 17 6 (by decide)).trans rfl) ?_
              refine qr_callN 114 rfl rfl rfl (sf_58_25 (d := d + 1) hI18 (by omega) (by omega) hs13) ?_
              rintro _ _ ⟨σ21, α22, rfl, hI23, hG24, rfl⟩
              have hF25 : qFr [(25, 1)] [26] σ α σ21 α22 := qFr_t hF20 hG24 (by decide) (by decide)
              show qr_W (qe L xs vb) (d + 3) qx_e141 _ (114, _, [], qw σ21 α22 κ ρ, 0, 0)
              refine qr_aload_n 115 rfl rfl rfl ?_
              refine qr_get 118 rfl rfl rfl (by decide) rfl ?_
              refine qr_iload_n 119 rfl rfl rfl ?_
              refine qr_aload_n 120 rfl rfl rfl ?_
              refine qr_get 123 rfl rfl rfl (by decide) rfl ?_
              refine qr_aload_n 124 rfl rfl rfl ?_
              refine qr_get 127 rfl rfl rfl (by decide) rfl ?_
              refine qr_get 130 rfl rfl rfl (by decide) rfl ?_
              refine qy_v (σ 17 6) ((hG24.1 17 6 (by decide)).trans ((hG19.1 17 6 (by decide)).trans rfl)) ?_
              refine qr_callN 133 rfl rfl rfl (sf_142_27_25 (d := d + 0) hI23 r2 hs13) ?_
              rintro _ _ ⟨rfl, v26, rfl, hv26⟩
              show qr_W (qe L xs vb) (d + 3) qx_e141 _ (133, _, [.int (qz v26)], qw σ21 α22 κ ρ, 0, 0)
              refine qr_iload 135 rfl rfl rfl ?_
              refine qr_isub 136 rfl rfl ?_
              refine qy_can (fun v27 hv27 => ?_)
              refine qr_retI rfl rfl (by decide) (by decide) ?_
              exact ⟨_, _, rfl, hI23, hF25, v27, rfl, hv27⟩
          · skip
            refine qr_iload 84 rfl rfl rfl ?_
            refine qr_retI rfl rfl (by decide) (by decide) ?_
            exact ⟨_, _, rfl, hI, hF0, v14, rfl, hv14⟩
        · skip
          refine qr_iconst 55 rfl rfl ?_
          refine qr_retI rfl rfl (by decide) (by decide) ?_
          exact ⟨_, _, rfl, hI, hF0, (-1), rfl, (by decide)⟩
      · skip
        refine qr_iconst 26 rfl rfl ?_
        refine qr_retI rfl rfl (by decide) (by decide) ?_
        exact ⟨_, _, rfl, hI, hF0, (-1), rfl, (by decide)⟩

set_option maxHeartbeats 4000000 in
set_option maxRecDepth 20000 in
/-- OneRoof.taken -/
theorem sf_167_16 {L : Nat} {xs : Nat → Int} {vb : Bool} {d : Nat} {σ α : Nat → Nat → Int} {κ : Nat → Option Nat} {ρ : Nat} {x1 : Int} {x2 : Int} (hI : qI σ α κ ρ) (r1 : (-2147483648) ≤ x1 ∧ x1 ≤ 2147483647) (r2 : (-2147483648) ≤ x2 ∧ x2 ≤ 2147483647) : qm_T (qe L xs vb) (d + 2) 167 [.ref 16, .int (qz x1), .int (qz x2)] (qw σ α κ ρ) (fun r w' => w' = qw σ α κ ρ ∧ ∃ v : Int, r = some (.int (qz v)) ∧ ((-2147483648) ≤ v ∧ v ≤ 2147483647)) := by
  refine qr_start (d := d + 1) qv_e167 (Nat.le_of_ble_eq_true rfl) ?_
  show qr_W (qe L xs vb) (d + 1) qx_e167 _ (0, [(0, .ref 16), (1, .int (qz x1)), (2, .int (qz x2))], [], _, 0, 0)
  refine qr_aload_n 1 rfl rfl rfl ?_
  refine qr_get 4 rfl rfl rfl (by decide) rfl ?_
  refine qr_iload_n 5 rfl rfl rfl ?_
  refine qr_callN 8 rfl rfl rfl (sf_44_44 (d := d + 0) hI r1) ?_
  rintro _ _ ⟨rfl, v1, rfl, hv1, hp2⟩
  show qr_W (qe L xs vb) (d + 1) qx_e167 _ (8, _, [.int (qz v1)], qw σ α κ ρ, 0, 0)
  refine qr_if_eq 21 11 rfl rfl rfl (qrg hv1 (by decide) (by decide)) (fun h3 => ?_) (fun h3 => ?_)
  · skip
    refine qr_iconst 22 rfl rfl ?_
    refine qr_retI rfl rfl (by decide) (by decide) ?_
    exact ⟨rfl, (-1), rfl, (by decide)⟩
  · skip
    refine qr_iload_n 12 rfl rfl rfl ?_
    refine qr_if_lt 21 15 rfl rfl rfl r2 (fun h4 => ?_) (fun h4 => ?_)
    · skip
      refine qr_iconst 22 rfl rfl ?_
      refine qr_retI rfl rfl (by decide) (by decide) ?_
      exact ⟨rfl, (-1), rfl, (by decide)⟩
    · skip
      refine qr_iload_n 16 rfl rfl rfl ?_
      refine qr_bipush 18 rfl (by decide) rfl ?_
      refine qr_icmp_le 23 21 rfl rfl rfl r2 (by decide) (fun h5 => ?_) (fun h5 => ?_)
      · skip
        refine qr_aload_n 24 rfl rfl rfl ?_
        refine qr_get 27 rfl rfl rfl (by decide) rfl ?_
        refine qr_iload_n 28 rfl rfl rfl ?_
        refine qr_callN 31 rfl rfl rfl (sf_45_44 (d := d + 0) hI (by omega)) ?_
        rintro _ _ ⟨rfl, v6, rfl, hv6⟩
        show qr_W (qe L xs vb) (d + 1) qx_e167 _ (31, _, [.int (qz v6)], qw σ α κ ρ, 0, 0)
        refine qr_if_eq 37 34 rfl rfl rfl (qrg hv6 (by decide) (by decide)) (fun h7 => ?_) (fun h7 => ?_)
        · skip
          refine qr_aload_n 38 rfl rfl rfl ?_
          refine qr_get 41 rfl rfl rfl (by decide) rfl ?_
          refine qr_iload_n 42 rfl rfl rfl ?_
          refine qr_callN 45 rfl rfl rfl (sf_168_44 (d := d + 0) hI (by omega)) ?_
          rintro _ _ ⟨rfl, v8, rfl, hv8⟩
          show qr_W (qe L xs vb) (d + 1) qx_e167 _ (45, _, [.int (qz v8)], qw σ α κ ρ, 0, 0)
          refine qr_istore_n _ 46 rfl (by decide) rfl rfl ?_
          refine qr_aload_n 47 rfl rfl rfl ?_
          refine qr_get 50 rfl rfl rfl (by decide) rfl ?_
          refine qr_iload_n 51 rfl rfl rfl ?_
          refine qr_callN 54 rfl rfl rfl (sf_73_34 (d := d + 0) hI (qrg hv8 (by decide) (by decide))) ?_
          have hs11 : 0 ≤ σ 34 7 ∧ σ 34 7 ≤ 60 := hI.1 34 7
          rintro _ _ ⟨rfl, v9, rfl, hv9, hp10⟩
          show qr_W (qe L xs vb) (d + 1) qx_e167 _ (54, _, [.int (qz v9)], qw σ α κ ρ, 0, 0)
          refine qr_if_eq 73 57 rfl rfl rfl (qrg hv9 (by decide) (by decide)) (fun h12 => ?_) (fun h12 => ?_)
          · skip
            refine qr_bipush 75 rfl (by decide) rfl ?_
            refine qr_retI rfl rfl (by decide) (by decide) ?_
            exact ⟨rfl, (-12), rfl, (by decide)⟩
          · skip
            refine qr_aload_n 58 rfl rfl rfl ?_
            refine qr_get 61 rfl rfl rfl (by decide) rfl ?_
            refine qr_get 64 rfl rfl rfl (by decide) rfl ?_
            refine qr_iload_n 65 rfl rfl rfl ?_
            refine qr_iaload 66 rfl rfl (by omega) (by decide) rfl ?_
            refine qr_topI (fun v13 hv13 => ?_)
            have hs14 : (-2147483648) ≤ v13 ∧ v13 ≤ 2147483647 := by rw [hv13]; exact hI.2.1 35 _ (show _ < 60 from qrgt hv8 (by decide) (by decide))
            refine qr_iload_n 67 rfl rfl rfl ?_
            refine qr_callN 70 rfl rfl rfl (sf_169 (d := d + 0) hI hs14 r2) ?_
            rintro _ _ ⟨rfl, v15, rfl, hv15⟩
            show qr_W (qe L xs vb) (d + 1) qx_e167 _ (70, _, [.int (qz v15)], qw σ α κ ρ, 0, 0)
            refine qr_if_ne 76 73 rfl rfl rfl (qrg hv15 (by decide) (by decide)) (fun h16 => ?_) (fun h16 => ?_)
            · skip
              refine qr_aload_n 77 rfl rfl rfl ?_
              refine qr_get 80 rfl rfl rfl (by decide) rfl ?_
              refine qr_get 83 rfl rfl rfl (by decide) rfl ?_
              refine qr_iload_n 84 rfl rfl rfl ?_
              refine qr_iaload 85 rfl rfl (by omega) (by decide) rfl ?_
              refine qr_topI (fun v17 hv17 => ?_)
              have hs18 : (-2147483648) ≤ v17 ∧ v17 ≤ 2147483647 := by rw [hv17]; exact hI.2.1 35 _ (show _ < 60 from qrgt hv8 (by decide) (by decide))
              refine qr_retI rfl rfl (by decide) (by decide) ?_
              exact ⟨rfl, v17, rfl, hs18⟩
            · skip
              refine qr_bipush 75 rfl (by decide) rfl ?_
              refine qr_retI rfl rfl (by decide) (by decide) ?_
              exact ⟨rfl, (-12), rfl, (by decide)⟩
        · skip
          refine qr_bipush 36 rfl (by decide) rfl ?_
          refine qr_retI rfl rfl (by decide) (by decide) ?_
          exact ⟨rfl, (-11), rfl, (by decide)⟩
      · skip
        refine qr_iconst 22 rfl rfl ?_
        refine qr_retI rfl rfl (by decide) (by decide) ?_
        exact ⟨rfl, (-1), rfl, (by decide)⟩

set_option maxHeartbeats 4000000 in
set_option maxRecDepth 20000 in
/-- OneRoof.count -/
theorem sf_170_16 {L : Nat} {xs : Nat → Int} {vb : Bool} {d : Nat} {σ α : Nat → Nat → Int} {κ : Nat → Option Nat} {ρ : Nat} {x1 : Int} (hI : qI σ α κ ρ) (r1 : (-2147483648) ≤ x1 ∧ x1 ≤ 2147483647) : qm_T (qe L xs vb) (d + 2) 170 [.ref 16, .int (qz x1)] (qw σ α κ ρ) (fun r w' => w' = qw σ α κ ρ ∧ ∃ v : Int, r = some (.int (qz v)) ∧ ((-2147483648) ≤ v ∧ v ≤ 2147483647)) := by
  refine qr_start (d := d + 1) qv_e170 (Nat.le_of_ble_eq_true rfl) ?_
  show qr_W (qe L xs vb) (d + 1) qx_e170 _ (0, [(0, .ref 16), (1, .int (qz x1))], [], _, 0, 0)
  refine qr_iload_n 1 rfl rfl rfl ?_
  have h1 : x1 = 0 ∨ x1 = 1 ∨ x1 = 2 ∨ x1 = 3 ∨ x1 = 4 ∨ x1 = 5 ∨ x1 = 6 ∨ x1 = 7 ∨ (x1 < 0 ∨ 7 < x1) := by omega
  rcases h1 with h1 | h1 | h1 | h1 | h1 | h1 | h1 | h1 | h1
  · skip
    refine qr_tabIn 48 rfl r1 (by rw [h1]; decide) (by rw [h1]; rfl) rfl ?_
    refine qr_aload_n 49 rfl rfl rfl ?_
    refine qr_get 52 rfl rfl rfl (by decide) rfl ?_
    refine qr_get 55 rfl rfl rfl (by decide) rfl ?_
    have hs3 : 0 ≤ σ 17 6 ∧ σ 17 6 ≤ 32 := hI.1 17 6
    refine qr_retI rfl rfl (by decide) (by decide) ?_
    exact ⟨rfl, (σ 17 6), rfl, (qrg hs3 (by decide) (by decide))⟩
  · skip
    refine qr_tabIn 56 rfl r1 (by rw [h1]; decide) (by rw [h1]; rfl) rfl ?_
    refine qr_aload_n 57 rfl rfl rfl ?_
    refine qr_get 60 rfl rfl rfl (by decide) rfl ?_
    refine qr_get 63 rfl rfl rfl (by decide) rfl ?_
    have hs4 : (-2147483648) ≤ σ 23 1 ∧ σ 23 1 ≤ 2147483647 := hI.1 23 1
    refine qr_retI rfl rfl (by decide) (by decide) ?_
    exact ⟨rfl, (σ 23 1), rfl, hs4⟩
  · skip
    refine qr_tabIn 64 rfl r1 (by rw [h1]; decide) (by rw [h1]; rfl) rfl ?_
    refine qr_aload_n 65 rfl rfl rfl ?_
    refine qr_get 68 rfl rfl rfl (by decide) rfl ?_
    refine qr_get 71 rfl rfl rfl (by decide) rfl ?_
    have hs5 : 0 ≤ σ 27 7 ∧ σ 27 7 ≤ 40 := hI.1 27 7
    refine qr_retI rfl rfl (by decide) (by decide) ?_
    exact ⟨rfl, (σ 27 7), rfl, (qrg hs5 (by decide) (by decide))⟩
  · skip
    refine qr_tabIn 72 rfl r1 (by rw [h1]; decide) (by rw [h1]; rfl) rfl ?_
    refine qr_aload_n 73 rfl rfl rfl ?_
    refine qr_get 76 rfl rfl rfl (by decide) rfl ?_
    refine qr_get 79 rfl rfl rfl (by decide) rfl ?_
    have hs6 : 0 ≤ σ 34 7 ∧ σ 34 7 ≤ 60 := hI.1 34 7
    refine qr_retI rfl rfl (by decide) (by decide) ?_
    exact ⟨rfl, (σ 34 7), rfl, (qrg hs6 (by decide) (by decide))⟩
  · skip
    refine qr_tabIn 80 rfl r1 (by rw [h1]; decide) (by rw [h1]; rfl) rfl ?_
    refine qr_aload_n 81 rfl rfl rfl ?_
    refine qr_get 84 rfl rfl rfl (by decide) rfl ?_
    have hs7 : 0 ≤ σ 16 15 ∧ σ 16 15 ≤ 120 := hI.1 16 15
    refine qr_retI rfl rfl (by decide) (by decide) ?_
    exact ⟨rfl, (σ 16 15), rfl, (qrg hs7 (by decide) (by decide))⟩
  · skip
    refine qr_tabIn 85 rfl r1 (by rw [h1]; decide) (by rw [h1]; rfl) rfl ?_
    refine qr_aload_n 86 rfl rfl rfl ?_
    refine qr_get 89 rfl rfl rfl (by decide) rfl ?_
    refine qr_get 92 rfl rfl rfl (by decide) rfl ?_
    have hs8 : 0 ≤ σ 76 7 ∧ σ 76 7 ≤ 40 := hI.1 76 7
    refine qr_retI rfl rfl (by decide) (by decide) ?_
    exact ⟨rfl, (σ 76 7), rfl, (qrg hs8 (by decide) (by decide))⟩
  · skip
    refine qr_tabIn 93 rfl r1 (by rw [h1]; decide) (by rw [h1]; rfl) rfl ?_
    refine qr_aload_n 94 rfl rfl rfl ?_
    refine qr_get 97 rfl rfl rfl (by decide) rfl ?_
    refine qr_get 100 rfl rfl rfl (by decide) rfl ?_
    have hs9 : (-9223372036854775808) ≤ σ 17 5 ∧ σ 17 5 ≤ 9223372036854775807 := hI.1 17 5
    refine qr_callN 103 rfl rfl rfl (sf_74 (d := d + 0) hI hs9) ?_
    rintro _ _ ⟨rfl, v10, rfl, hv10⟩
    show qr_W (qe L xs vb) (d + 1) qx_e170 _ (103, _, [.int (qz v10)], qw σ α κ ρ, 0, 0)
    refine qr_retI rfl rfl (by decide) (by decide) ?_
    exact ⟨rfl, v10, rfl, hv10⟩
  · skip
    refine qr_tabIn 104 rfl r1 (by rw [h1]; decide) (by rw [h1]; rfl) rfl ?_
    refine qr_aload_n 105 rfl rfl rfl ?_
    refine qr_get 108 rfl rfl rfl (by decide) rfl ?_
    refine qr_get 111 rfl rfl rfl (by decide) rfl ?_
    have hs11 : (-2147483648) ≤ σ 42 1 ∧ σ 42 1 ≤ 2147483647 := hI.1 42 1
    refine qr_retI rfl rfl (by decide) (by decide) ?_
    exact ⟨rfl, (σ 42 1), rfl, hs11⟩
  · skip
    refine qr_tabOut 112 rfl r1 (by omega) rfl ?_
    refine qr_iconst 113 rfl rfl ?_
    refine qr_retI rfl rfl (by decide) (by decide) ?_
    exact ⟨rfl, (-1), rfl, (by decide)⟩
end
section
set_option maxHeartbeats 4000000 in
set_option maxRecDepth 20000 in
/-- OneRoofModel.within -/
theorem sf_176 {L : Nat} {xs : Nat → Int} {vb : Bool} {d : Nat} {σ α : Nat → Nat → Int} {κ : Nat → Option Nat} {ρ : Nat} {x0 : Int} {x1 : Int} {x2 : Int} (hI : qI σ α κ ρ) (r0 : (-9223372036854775808) ≤ x0 ∧ x0 ≤ 9223372036854775807) (r1 : (-9223372036854775808) ≤ x1 ∧ x1 ≤ 9223372036854775807) (r2 : (-9223372036854775808) ≤ x2 ∧ x2 ≤ 9223372036854775807) : qm_T (qe L xs vb) (d + 1) 176 [.long (ql x0), .long (ql x1), .long (ql x2)] (qw σ α κ ρ) (fun r w' => w' = qw σ α κ ρ ∧ ∃ v : Int, r = some (.int (qz v)) ∧ (0 ≤ v ∧ v ≤ 1) ∧ ((v = 1 ∧ x1 ≤ x0 ∧ x0 ≤ x2) ∨ (v = 0 ∧ ¬ (x1 ≤ x0 ∧ x0 ≤ x2)))) := by
  refine qr_start (d := d + 0) qv_e176 (Nat.le_of_ble_eq_true rfl) ?_
  show qr_W (qe L xs vb) (d + 0) qx_e176 _ (0, [(0, .long (ql x0)), (2, .long (ql x1)), (4, .long (ql x2))], [], _, 0, 0)
  refine qr_lload_n 1 rfl rfl rfl ?_
  refine qr_lload_n 2 rfl rfl rfl ?_
  refine qr_lc_lt 17 6 rfl rfl rfl rfl r0 r1 (fun h1 => ?_) (fun h1 => ?_)
  · skip
    refine qr_iconst 18 rfl rfl ?_
    refine qr_retZ rfl rfl (Or.inl rfl) (by decide) (by decide) ?_
    exact ⟨rfl, 0, rfl, (by decide), by omega⟩
  · skip
    refine qr_lload_n 7 rfl rfl rfl ?_
    refine qr_lload 9 rfl rfl rfl ?_
    refine qr_lc_gt 17 13 rfl rfl rfl rfl r0 r2 (fun h2 => ?_) (fun h2 => ?_)
    · skip
      refine qr_iconst 18 rfl rfl ?_
      refine qr_retZ rfl rfl (Or.inl rfl) (by decide) (by decide) ?_
      exact ⟨rfl, 0, rfl, (by decide), by omega⟩
    · skip
      refine qr_iconst 14 rfl rfl ?_
      refine qr_goto 18 rfl rfl ?_
      refine qr_retZ rfl rfl (Or.inr rfl) (by decide) (by decide) ?_
      exact ⟨rfl, 1, rfl, (by decide), by omega⟩

set_option maxHeartbeats 4000000 in
set_option maxRecDepth 20000 in
/-- OneRoofModel.isHour -/
theorem sf_192 {L : Nat} {xs : Nat → Int} {vb : Bool} {d : Nat} {σ α : Nat → Nat → Int} {κ : Nat → Option Nat} {ρ : Nat} {x0 : Int} (hI : qI σ α κ ρ) (r0 : (-2147483648) ≤ x0 ∧ x0 ≤ 2147483647) : qm_T (qe L xs vb) (d + 2) 192 [.int (qz x0)] (qw σ α κ ρ) (fun r w' => w' = qw σ α κ ρ ∧ ∃ v : Int, r = some (.int (qz v)) ∧ (0 ≤ v ∧ v ≤ 1) ∧ ((v = 1 ∧ 0 ≤ x0 ∧ x0 ≤ 2399) ∨ (v = 0 ∧ ¬ (0 ≤ x0 ∧ x0 ≤ 2399)))) := by
  refine qr_start (d := d + 1) qv_e192 (Nat.le_of_ble_eq_true rfl) ?_
  show qr_W (qe L xs vb) (d + 1) qx_e192 _ (0, [(0, .int (qz x0))], [], _, 0, 0)
  refine qr_iload_n 1 rfl rfl rfl ?_
  refine qr_i2l 2 rfl r0 rfl ?_
  refine qr_lconst 3 rfl rfl ?_
  refine qy_vl 0 rfl ?_
  refine qr_ldc2 2399 6 rfl (by decide) rfl ?_
  refine qr_callN 9 rfl rfl rfl (sf_176 (d := d + 0) hI (qrg r0 (by decide) (by decide)) (by decide) (by decide)) ?_
  rintro _ _ ⟨rfl, v1, rfl, hv1, hp2⟩
  show qr_W (qe L xs vb) (d + 1) qx_e192 _ (9, _, [.int (qz v1)], qw σ α κ ρ, 0, 0)
  refine qr_retZ rfl rfl (by omega) (by decide) (by decide) ?_
  exact ⟨rfl, v1, rfl, hv1, by omega⟩

set_option maxHeartbeats 4000000 in
set_option maxRecDepth 20000 in
/-- OneRoofModel.isShelf -/
theorem sf_178 {L : Nat} {xs : Nat → Int} {vb : Bool} {d : Nat} {σ α : Nat → Nat → Int} {κ : Nat → Option Nat} {ρ : Nat} {x0 : Int} (hI : qI σ α κ ρ) (r0 : (-2147483648) ≤ x0 ∧ x0 ≤ 2147483647) : qm_T (qe L xs vb) (d + 2) 178 [.int (qz x0)] (qw σ α κ ρ) (fun r w' => w' = qw σ α κ ρ ∧ ∃ v : Int, r = some (.int (qz v)) ∧ (0 ≤ v ∧ v ≤ 1) ∧ ((v = 1 ∧ 0 ≤ x0 ∧ x0 ≤ 5) ∨ (v = 0 ∧ ¬ (0 ≤ x0 ∧ x0 ≤ 5)))) := by
  refine qr_start (d := d + 1) qv_e178 (Nat.le_of_ble_eq_true rfl) ?_
  show qr_W (qe L xs vb) (d + 1) qx_e178 _ (0, [(0, .int (qz x0))], [], _, 0, 0)
  refine qr_iload_n 1 rfl rfl rfl ?_
  refine qr_i2l 2 rfl r0 rfl ?_
  refine qr_lconst 3 rfl rfl ?_
  refine qy_vl 0 rfl ?_
  refine qr_ldc2 5 6 rfl (by decide) rfl ?_
  refine qr_callN 9 rfl rfl rfl (sf_176 (d := d + 0) hI (qrg r0 (by decide) (by decide)) (by decide) (by decide)) ?_
  rintro _ _ ⟨rfl, v1, rfl, hv1, hp2⟩
  show qr_W (qe L xs vb) (d + 1) qx_e178 _ (9, _, [.int (qz v1)], qw σ α κ ρ, 0, 0)
  refine qr_retZ rfl rfl (by omega) (by decide) (by decide) ?_
  exact ⟨rfl, v1, rfl, hv1, by omega⟩

set_option maxHeartbeats 4000000 in
set_option maxRecDepth 20000 in
/-- OneRoofModel.isSpan -/
theorem sf_230 {L : Nat} {xs : Nat → Int} {vb : Bool} {d : Nat} {σ α : Nat → Nat → Int} {κ : Nat → Option Nat} {ρ : Nat} {x0 : Int} (hI : qI σ α κ ρ) (r0 : (-2147483648) ≤ x0 ∧ x0 ≤ 2147483647) : qm_T (qe L xs vb) (d + 3) 230 [.int (qz x0)] (qw σ α κ ρ) (fun r w' => w' = qw σ α κ ρ ∧ ∃ v : Int, r = some (.int (qz v)) ∧ (0 ≤ v ∧ v ≤ 1) ∧ ((v = 1 ∧ 0 ≤ x0 ∧ x0 / 10000 ≤ x0 % 10000 ∧ x0 % 10000 ≤ 2399 ∧ x0 % 10000 - x0 / 10000 < 48) ∨ (v = 0 ∧ ¬ (0 ≤ x0 ∧ x0 / 10000 ≤ x0 % 10000 ∧ x0 % 10000 ≤ 2399 ∧ x0 % 10000 - x0 / 10000 < 48)))) := by
  refine qr_start (d := d + 2) qv_e230 (Nat.le_of_ble_eq_true rfl) ?_
  show qr_W (qe L xs vb) (d + 2) qx_e230 _ (0, [(0, .int (qz x0))], [], _, 0, 0)
  refine qr_iload_n 1 rfl rfl rfl ?_
  refine qr_if_lt 59 4 rfl rfl rfl r0 (fun h1 => ?_) (fun h1 => ?_)
  · skip
    refine qr_iconst 60 rfl rfl ?_
    refine qr_retZ rfl rfl (Or.inl rfl) (by decide) (by decide) ?_
    exact ⟨rfl, 0, rfl, (by decide), by omega⟩
  · skip
    refine qr_iload_n 5 rfl rfl rfl ?_
    refine qr_sipush 8 rfl (by decide) rfl ?_
    refine qr_idiv 9 rfl (by omega) (by decide) rfl ?_
    refine qr_callN 12 rfl rfl rfl (sf_192 (d := d + 0) hI (by omega)) ?_
    rintro _ _ ⟨rfl, v2, rfl, hv2, hp3⟩
    show qr_W (qe L xs vb) (d + 2) qx_e230 _ (12, _, [.int (qz v2)], qw σ α κ ρ, 0, 0)
    refine qr_if_eq 59 15 rfl rfl rfl (qrg hv2 (by decide) (by decide)) (fun h4 => ?_) (fun h4 => ?_)
    · skip
      refine qr_iconst 60 rfl rfl ?_
      refine qr_retZ rfl rfl (Or.inl rfl) (by decide) (by decide) ?_
      exact ⟨rfl, 0, rfl, (by decide), by omega⟩
    · skip
      refine qr_iload_n 16 rfl rfl rfl ?_
      refine qr_sipush 19 rfl (by decide) rfl ?_
      refine qr_irem 20 rfl (by omega) (by decide) rfl ?_
      refine qr_callN 23 rfl rfl rfl (sf_192 (d := d + 0) hI (by omega)) ?_
      rintro _ _ ⟨rfl, v5, rfl, hv5, hp6⟩
      show qr_W (qe L xs vb) (d + 2) qx_e230 _ (23, _, [.int (qz v5)], qw σ α κ ρ, 0, 0)
      refine qr_if_eq 59 26 rfl rfl rfl (qrg hv5 (by decide) (by decide)) (fun h7 => ?_) (fun h7 => ?_)
      · skip
        refine qr_iconst 60 rfl rfl ?_
        refine qr_retZ rfl rfl (Or.inl rfl) (by decide) (by decide) ?_
        exact ⟨rfl, 0, rfl, (by decide), by omega⟩
      · skip
        refine qr_iload_n 27 rfl rfl rfl ?_
        refine qr_sipush 30 rfl (by decide) rfl ?_
        refine qr_idiv 31 rfl (by omega) (by decide) rfl ?_
        refine qr_iload_n 32 rfl rfl rfl ?_
        refine qr_sipush 35 rfl (by decide) rfl ?_
        refine qr_irem 36 rfl (by omega) (by decide) rfl ?_
        refine qr_icmp_gt 59 39 rfl rfl rfl (by omega) (by omega) (fun h8 => ?_) (fun h8 => ?_)
        · skip
          refine qr_iconst 60 rfl rfl ?_
          refine qr_retZ rfl rfl (Or.inl rfl) (by decide) (by decide) ?_
          exact ⟨rfl, 0, rfl, (by decide), by omega⟩
        · skip
          refine qr_iload_n 40 rfl rfl rfl ?_
          refine qr_sipush 43 rfl (by decide) rfl ?_
          refine qr_irem 44 rfl (by omega) (by decide) rfl ?_
          refine qr_iload_n 45 rfl rfl rfl ?_
          refine qr_sipush 48 rfl (by decide) rfl ?_
          refine qr_idiv 49 rfl (by omega) (by decide) rfl ?_
          refine qr_isub 50 rfl rfl ?_
          refine qr_bipush 52 rfl (by decide) rfl ?_
          refine qr_icmp_ge 59 55 rfl rfl rfl (by omega) (by decide) (fun h9 => ?_) (fun h9 => ?_)
          · skip
            refine qr_iconst 60 rfl rfl ?_
            refine qr_retZ rfl rfl (Or.inl rfl) (by decide) (by decide) ?_
            exact ⟨rfl, 0, rfl, (by decide), by omega⟩
          · skip
            refine qr_iconst 56 rfl rfl ?_
            refine qr_goto 60 rfl rfl ?_
            refine qr_retZ rfl rfl (Or.inr rfl) (by decide) (by decide) ?_
            exact ⟨rfl, 1, rfl, (by decide), by omega⟩

set_option maxHeartbeats 4000000 in
set_option maxRecDepth 20000 in
/-- OneRoofModel.isPerson -/
theorem sf_180_86 {L : Nat} {xs : Nat → Int} {vb : Bool} {d : Nat} {σ α : Nat → Nat → Int} {κ : Nat → Option Nat} {ρ : Nat} {x1 : Int} (hI : qI σ α κ ρ) (r1 : (-2147483648) ≤ x1 ∧ x1 ≤ 2147483647) : qm_T (qe L xs vb) (d + 2) 180 [.ref 86, .int (qz x1)] (qw σ α κ ρ) (fun r w' => w' = qw σ α κ ρ ∧ ∃ v : Int, r = some (.int (qz v)) ∧ (0 ≤ v ∧ v ≤ 1) ∧ (σ 86 6 ≤ 32 ∧ ((v = 1 ∧ 0 ≤ x1 ∧ x1 < σ 86 6) ∨ (v = 0 ∧ ¬ (0 ≤ x1 ∧ x1 < σ 86 6))))) := by
  refine qr_start (d := d + 1) qv_e180 (Nat.le_of_ble_eq_true rfl) ?_
  show qr_W (qe L xs vb) (d + 1) qx_e180 _ (0, [(0, .ref 86), (1, .int (qz x1))], [], _, 0, 0)
  have hz86_6 : 0 ≤ σ 86 6 ∧ σ 86 6 ≤ 32 := hI.1 86 6
  refine qr_iload_n 1 rfl rfl rfl ?_
  refine qr_i2l 2 rfl r1 rfl ?_
  refine qr_lconst 3 rfl rfl ?_
  refine qy_vl 0 rfl ?_
  refine qr_aload_n 4 rfl rfl rfl ?_
  refine qr_get 7 rfl rfl rfl (by decide) rfl ?_
  refine qr_iconst 8 rfl rfl ?_
  refine qr_isub 9 rfl rfl ?_
  refine qr_i2l 10 rfl (by omega) rfl ?_
  refine qr_callN 13 rfl rfl rfl (sf_176 (d := d + 0) hI (qrg r1 (by decide) (by decide)) (by decide) (by omega)) ?_
  rintro _ _ ⟨rfl, v1, rfl, hv1, hp2⟩
  show qr_W (qe L xs vb) (d + 1) qx_e180 _ (13, _, [.int (qz v1)], qw σ α κ ρ, 0, 0)
  refine qr_retZ rfl rfl (by omega) (by decide) (by decide) ?_
  exact ⟨rfl, v1, rfl, hv1, by omega⟩

set_option maxHeartbeats 4000000 in
set_option maxRecDepth 20000 in
/-- OneRoofModel.isPeace -/
theorem sf_200_86 {L : Nat} {xs : Nat → Int} {vb : Bool} {d : Nat} {σ α : Nat → Nat → Int} {κ : Nat → Option Nat} {ρ : Nat} {x1 : Int} (hI : qI σ α κ ρ) (r1 : (-2147483648) ≤ x1 ∧ x1 ≤ 2147483647) : qm_T (qe L xs vb) (d + 2) 200 [.ref 86, .int (qz x1)] (qw σ α κ ρ) (fun r w' => w' = qw σ α κ ρ ∧ ∃ v : Int, r = some (.int (qz v)) ∧ (0 ≤ v ∧ v ≤ 1) ∧ (σ 86 24 ≤ 60 ∧ ((v = 1 ∧ 0 ≤ x1 ∧ x1 < σ 86 24) ∨ (v = 0 ∧ ¬ (0 ≤ x1 ∧ x1 < σ 86 24))))) := by
  refine qr_start (d := d + 1) qv_e200 (Nat.le_of_ble_eq_true rfl) ?_
  show qr_W (qe L xs vb) (d + 1) qx_e200 _ (0, [(0, .ref 86), (1, .int (qz x1))], [], _, 0, 0)
  have hz86_24 : 0 ≤ σ 86 24 ∧ σ 86 24 ≤ 60 := hI.1 86 24
  refine qr_iload_n 1 rfl rfl rfl ?_
  refine qr_i2l 2 rfl r1 rfl ?_
  refine qr_lconst 3 rfl rfl ?_
  refine qy_vl 0 rfl ?_
  refine qr_aload_n 4 rfl rfl rfl ?_
  refine qr_get 7 rfl rfl rfl (by decide) rfl ?_
  refine qr_iconst 8 rfl rfl ?_
  refine qr_isub 9 rfl rfl ?_
  refine qr_i2l 10 rfl (by omega) rfl ?_
  refine qr_callN 13 rfl rfl rfl (sf_176 (d := d + 0) hI (qrg r1 (by decide) (by decide)) (by decide) (by omega)) ?_
  rintro _ _ ⟨rfl, v1, rfl, hv1, hp2⟩
  show qr_W (qe L xs vb) (d + 1) qx_e200 _ (13, _, [.int (qz v1)], qw σ α κ ρ, 0, 0)
  refine qr_retZ rfl rfl (by omega) (by decide) (by decide) ?_
  exact ⟨rfl, v1, rfl, hv1, by omega⟩

set_option maxHeartbeats 4000000 in
set_option maxRecDepth 20000 in
/-- OneRoofModel.arePair -/
theorem sf_191_86 {L : Nat} {xs : Nat → Int} {vb : Bool} {d : Nat} {σ α : Nat → Nat → Int} {κ : Nat → Option Nat} {ρ : Nat} {x1 : Int} (hI : qI σ α κ ρ) (r1 : (-2147483648) ≤ x1 ∧ x1 ≤ 2147483647) : qm_T (qe L xs vb) (d + 3) 191 [.ref 86, .int (qz x1)] (qw σ α κ ρ) (fun r w' => w' = qw σ α κ ρ ∧ ∃ v : Int, r = some (.int (qz v)) ∧ (0 ≤ v ∧ v ≤ 1) ∧ (σ 86 6 ≤ 32 ∧ ((v = 1 ∧ 0 ≤ x1 ∧ x1 / 100 < σ 86 6 ∧ x1 % 100 < σ 86 6 ∧ ¬ x1 / 100 = x1 % 100) ∨ (v = 0 ∧ ¬ (0 ≤ x1 ∧ x1 / 100 < σ 86 6 ∧ x1 % 100 < σ 86 6 ∧ ¬ x1 / 100 = x1 % 100))))) := by
  refine qr_start (d := d + 2) qv_e191 (Nat.le_of_ble_eq_true rfl) ?_
  show qr_W (qe L xs vb) (d + 2) qx_e191 _ (0, [(0, .ref 86), (1, .int (qz x1))], [], _, 0, 0)
  have hz86_6 : 0 ≤ σ 86 6 ∧ σ 86 6 ≤ 32 := hI.1 86 6
  refine qr_iload_n 1 rfl rfl rfl ?_
  refine qr_if_lt 41 4 rfl rfl rfl r1 (fun h1 => ?_) (fun h1 => ?_)
  · skip
    refine qr_iconst 42 rfl rfl ?_
    refine qr_retZ rfl rfl (Or.inl rfl) (by decide) (by decide) ?_
    exact ⟨rfl, 0, rfl, (by decide), by omega⟩
  · skip
    refine qr_aload_n 5 rfl rfl rfl ?_
    refine qr_iload_n 6 rfl rfl rfl ?_
    refine qr_bipush 8 rfl (by decide) rfl ?_
    refine qr_idiv 9 rfl (by omega) (by decide) rfl ?_
    refine qr_callN 12 rfl rfl rfl (sf_180_86 (d := d + 0) hI (by omega)) ?_
    have hs4 : 0 ≤ σ 86 6 ∧ σ 86 6 ≤ 32 := hI.1 86 6
    rintro _ _ ⟨rfl, v2, rfl, hv2, hp3⟩
    show qr_W (qe L xs vb) (d + 2) qx_e191 _ (12, _, [.int (qz v2)], qw σ α κ ρ, 0, 0)
    refine qr_if_eq 41 15 rfl rfl rfl (qrg hv2 (by decide) (by decide)) (fun h5 => ?_) (fun h5 => ?_)
    · skip
      refine qr_iconst 42 rfl rfl ?_
      refine qr_retZ rfl rfl (Or.inl rfl) (by decide) (by decide) ?_
      exact ⟨rfl, 0, rfl, (by decide), by omega⟩
    · skip
      refine qr_aload_n 16 rfl rfl rfl ?_
      refine qr_iload_n 17 rfl rfl rfl ?_
      refine qr_bipush 19 rfl (by decide) rfl ?_
      refine qr_irem 20 rfl (by omega) (by decide) rfl ?_
      refine qr_callN 23 rfl rfl rfl (sf_180_86 (d := d + 0) hI (by omega)) ?_
      have hs8 : 0 ≤ σ 86 6 ∧ σ 86 6 ≤ 32 := hI.1 86 6
      rintro _ _ ⟨rfl, v6, rfl, hv6, hp7⟩
      show qr_W (qe L xs vb) (d + 2) qx_e191 _ (23, _, [.int (qz v6)], qw σ α κ ρ, 0, 0)
      refine qr_if_eq 41 26 rfl rfl rfl (qrg hv6 (by decide) (by decide)) (fun h9 => ?_) (fun h9 => ?_)
      · skip
        refine qr_iconst 42 rfl rfl ?_
        refine qr_retZ rfl rfl (Or.inl rfl) (by decide) (by decide) ?_
        exact ⟨rfl, 0, rfl, (by decide), by omega⟩
      · skip
        refine qr_iload_n 27 rfl rfl rfl ?_
        refine qr_bipush 29 rfl (by decide) rfl ?_
        refine qr_idiv 30 rfl (by omega) (by decide) rfl ?_
        refine qr_iload_n 31 rfl rfl rfl ?_
        refine qr_bipush 33 rfl (by decide) rfl ?_
        refine qr_irem 34 rfl (by omega) (by decide) rfl ?_
        refine qr_icmp_eq 41 37 rfl rfl rfl (by omega) (by omega) (fun h10 => ?_) (fun h10 => ?_)
        · skip
          refine qr_iconst 42 rfl rfl ?_
          refine qr_retZ rfl rfl (Or.inl rfl) (by decide) (by decide) ?_
          exact ⟨rfl, 0, rfl, (by decide), by omega⟩
        · skip
          refine qr_iconst 38 rfl rfl ?_
          refine qr_goto 42 rfl rfl ?_
          refine qr_retZ rfl rfl (Or.inr rfl) (by decide) (by decide) ?_
          exact ⟨rfl, 1, rfl, (by decide), by omega⟩

set_option maxHeartbeats 4000000 in
set_option maxRecDepth 20000 in
/-- OneRoofModel.isOne -/
theorem sf_175_86 {L : Nat} {xs : Nat → Int} {vb : Bool} {d : Nat} {σ α : Nat → Nat → Int} {κ : Nat → Option Nat} {ρ : Nat} {x1 : Int} {x2 : Int} {x3 : Int} (hI : qI σ α κ ρ) (r1 : (-2147483648) ≤ x1 ∧ x1 ≤ 2147483647) (r2 : (-2147483648) ≤ x2 ∧ x2 ≤ 2147483647) (r3 : (-2147483648) ≤ x3 ∧ x3 ≤ 2147483647) : qm_T (qe L xs vb) (d + 2) 175 [.ref 86, .int (qz x1), .int (qz x2), .int (qz x3)] (qw σ α κ ρ) (fun r w' => w' = qw σ α κ ρ ∧ ∃ v : Int, r = some (.int (qz v)) ∧ (0 ≤ v ∧ v ≤ 1) ∧ (σ 86 6 ≤ 32 ∧ ((v = 1 ∧ -1 ≤ x1 ∧ x1 < σ 86 6 ∧ 1 ≤ x2 ∧ x2 ≤ 99 ∧ 0 ≤ x3 ∧ x3 ≤ 1) ∨ (v = 0 ∧ ¬ (-1 ≤ x1 ∧ x1 < σ 86 6 ∧ 1 ≤ x2 ∧ x2 ≤ 99 ∧ 0 ≤ x3 ∧ x3 ≤ 1))))) := by
  refine qr_start (d := d + 1) qv_e175 (Nat.le_of_ble_eq_true rfl) ?_
  show qr_W (qe L xs vb) (d + 1) qx_e175 _ (0, [(0, .ref 86), (1, .int (qz x1)), (2, .int (qz x2)), (3, .int (qz x3))], [], _, 0, 0)
  have hz86_6 : 0 ≤ σ 86 6 ∧ σ 86 6 ≤ 32 := hI.1 86 6
  refine qr_iload_n 1 rfl rfl rfl ?_
  refine qr_i2l 2 rfl r1 rfl ?_
  refine qr_ldc2 (-1) 5 rfl (by decide) rfl ?_
  refine qr_aload_n 6 rfl rfl rfl ?_
  refine qr_get 9 rfl rfl rfl (by decide) rfl ?_
  refine qr_iconst 10 rfl rfl ?_
  refine qr_isub 11 rfl rfl ?_
  refine qr_i2l 12 rfl (by omega) rfl ?_
  refine qr_callN 15 rfl rfl rfl (sf_176 (d := d + 0) hI (qrg r1 (by decide) (by decide)) (by decide) (by omega)) ?_
  rintro _ _ ⟨rfl, v1, rfl, hv1, hp2⟩
  show qr_W (qe L xs vb) (d + 1) qx_e175 _ (15, _, [.int (qz v1)], qw σ α κ ρ, 0, 0)
  refine qr_if_eq 44 18 rfl rfl rfl (qrg hv1 (by decide) (by decide)) (fun h3 => ?_) (fun h3 => ?_)
  · skip
    refine qr_iconst 45 rfl rfl ?_
    refine qr_retZ rfl rfl (Or.inl rfl) (by decide) (by decide) ?_
    exact ⟨rfl, 0, rfl, (by decide), by omega⟩
  · skip
    refine qr_iload_n 19 rfl rfl rfl ?_
    refine qr_i2l 20 rfl r2 rfl ?_
    refine qr_lconst 21 rfl rfl ?_
    refine qy_vl 1 rfl ?_
    refine qr_ldc2 99 24 rfl (by decide) rfl ?_
    refine qr_callN 27 rfl rfl rfl (sf_176 (d := d + 0) hI (qrg r2 (by decide) (by decide)) (by decide) (by decide)) ?_
    rintro _ _ ⟨rfl, v4, rfl, hv4, hp5⟩
    show qr_W (qe L xs vb) (d + 1) qx_e175 _ (27, _, [.int (qz v4)], qw σ α κ ρ, 0, 0)
    refine qr_if_eq 44 30 rfl rfl rfl (qrg hv4 (by decide) (by decide)) (fun h6 => ?_) (fun h6 => ?_)
    · skip
      refine qr_iconst 45 rfl rfl ?_
      refine qr_retZ rfl rfl (Or.inl rfl) (by decide) (by decide) ?_
      exact ⟨rfl, 0, rfl, (by decide), by omega⟩
    · skip
      refine qr_iload_n 31 rfl rfl rfl ?_
      refine qr_i2l 32 rfl r3 rfl ?_
      refine qr_lconst 33 rfl rfl ?_
      refine qy_vl 0 rfl ?_
      refine qr_lconst 34 rfl rfl ?_
      refine qy_vl 1 rfl ?_
      refine qr_callN 37 rfl rfl rfl (sf_176 (d := d + 0) hI (qrg r3 (by decide) (by decide)) (by decide) (by decide)) ?_
      rintro _ _ ⟨rfl, v7, rfl, hv7, hp8⟩
      show qr_W (qe L xs vb) (d + 1) qx_e175 _ (37, _, [.int (qz v7)], qw σ α κ ρ, 0, 0)
      refine qr_if_eq 44 40 rfl rfl rfl (qrg hv7 (by decide) (by decide)) (fun h9 => ?_) (fun h9 => ?_)
      · skip
        refine qr_iconst 45 rfl rfl ?_
        refine qr_retZ rfl rfl (Or.inl rfl) (by decide) (by decide) ?_
        exact ⟨rfl, 0, rfl, (by decide), by omega⟩
      · skip
        refine qr_iconst 41 rfl rfl ?_
        refine qr_goto 45 rfl rfl ?_
        refine qr_retZ rfl rfl (Or.inr rfl) (by decide) (by decide) ?_
        exact ⟨rfl, 1, rfl, (by decide), by omega⟩

set_option maxHeartbeats 4000000 in
set_option maxRecDepth 20000 in
/-- OneRoofModel.isDead -/
theorem sf_181_86 {L : Nat} {xs : Nat → Int} {vb : Bool} {d : Nat} {σ α : Nat → Nat → Int} {κ : Nat → Option Nat} {ρ : Nat} {x1 : Int} (hI : qI σ α κ ρ) (r1 : (-2147483648) ≤ x1 ∧ x1 ≤ 2147483647) : qm_T (qe L xs vb) (d + 1) 181 [.ref 86, .int (qz x1)] (qw σ α κ ρ) (fun r w' => w' = qw σ α κ ρ ∧ ∃ v : Int, r = some (.int (qz v)) ∧ (0 ≤ v ∧ v ≤ 1)) := by
  refine qr_start (d := d + 0) qv_e181 (Nat.le_of_ble_eq_true rfl) ?_
  show qr_W (qe L xs vb) (d + 0) qx_e181 _ (0, [(0, .ref 86), (1, .int (qz x1))], [], _, 0, 0)
  refine qr_aload_n 1 rfl rfl rfl ?_
  refine qr_get 4 rfl rfl rfl (by decide) rfl ?_
  have hs1 : (-9223372036854775808) ≤ σ 86 10 ∧ σ 86 10 ≤ 9223372036854775807 := hI.1 86 10
  refine qr_iload_n 5 rfl rfl rfl ?_
  refine qr_lshr 6 rfl rfl ?_
  refine qy_canl (fun v2 hv2 => ?_)
  refine qr_lconst 7 rfl rfl ?_
  refine qy_vl 1 rfl ?_
  refine qr_land 8 rfl rfl ?_
  refine qy_canl (fun v3 hv3 => ?_)
  refine qr_lconst 9 rfl rfl ?_
  refine qy_vl 1 rfl ?_
  refine qr_lc_ne 17 13 rfl rfl rfl rfl hv3 (by decide) (fun h4 => ?_) (fun h4 => ?_)
  · skip
    refine qr_iconst 18 rfl rfl ?_
    refine qr_retZ rfl rfl (Or.inl rfl) (by decide) (by decide) ?_
    exact ⟨rfl, 0, rfl, (by decide)⟩
  · skip
    refine qr_iconst 14 rfl rfl ?_
    refine qr_goto 18 rfl rfl ?_
    refine qr_retZ rfl rfl (Or.inr rfl) (by decide) (by decide) ?_
    exact ⟨rfl, 1, rfl, (by decide)⟩

set_option maxHeartbeats 4000000 in
set_option maxRecDepth 20000 in
/-- OneRoofModel.of -/
theorem sf_179_86 {L : Nat} {xs : Nat → Int} {vb : Bool} {d : Nat} {σ α : Nat → Nat → Int} {κ : Nat → Option Nat} {ρ : Nat} {x1 : Int} {x2 : Int} (hI : qI σ α κ ρ) (r1 : (-2147483648) ≤ x1 ∧ x1 ≤ 2147483647) (r2 : (-2147483648) ≤ x2 ∧ x2 ≤ 2147483647) : qm_T (qe L xs vb) (d + 3) 179 [.ref 86, .int (qz x1), .int (qz x2)] (qw σ α κ ρ) (fun r w' => w' = qw σ α κ ρ ∧ ∃ v : Int, r = some (.int (qz v)) ∧ ((-2147483648) ≤ v ∧ v ≤ 2147483647)) := by
  refine qr_start (d := d + 2) qv_e179 (Nat.le_of_ble_eq_true rfl) ?_
  show qr_W (qe L xs vb) (d + 2) qx_e179 _ (0, [(0, .ref 86), (1, .int (qz x1)), (2, .int (qz x2))], [], _, 0, 0)
  refine qr_aload_n 1 rfl rfl rfl ?_
  refine qr_iload_n 2 rfl rfl rfl ?_
  refine qr_callN 5 rfl rfl rfl (sf_180_86 (d := d + 0) hI r1) ?_
  have hs3 : 0 ≤ σ 86 6 ∧ σ 86 6 ≤ 32 := hI.1 86 6
  rintro _ _ ⟨rfl, v1, rfl, hv1, hp2⟩
  show qr_W (qe L xs vb) (d + 2) qx_e179 _ (5, _, [.int (qz v1)], qw σ α κ ρ, 0, 0)
  refine qr_if_ne 10 8 rfl rfl rfl (qrg hv1 (by decide) (by decide)) (fun h4 => ?_) (fun h4 => ?_)
  · skip
    refine qr_iload_n 11 rfl rfl rfl ?_
    have h5 : x2 = 0 ∨ x2 = 1 ∨ x2 = 2 ∨ x2 = 3 ∨ (x2 < 0 ∨ 3 < x2) := by omega
    rcases h5 with h5 | h5 | h5 | h5 | h5
    · skip
      refine qr_tabIn 40 rfl r2 (by rw [h5]; decide) (by rw [h5]; rfl) rfl ?_
      refine qr_aload_n 41 rfl rfl rfl ?_
      refine qr_get 44 rfl rfl rfl (by decide) rfl ?_
      refine qr_iload_n 45 rfl rfl rfl ?_
      refine qr_iaload 46 rfl rfl (by omega) (by decide) rfl ?_
      refine qr_topI (fun v7 hv7 => ?_)
      have hs8 : (-1) ≤ v7 ∧ v7 ≤ 31 := by rw [hv7]; exact hI.2.1 91 _ (show _ < 32 by omega)
      have hs9 := hI.2.2.2.2.2.2.1 (x1 : Int).toNat (by omega)
      refine qr_retI rfl rfl (by decide) (by decide) ?_
      exact ⟨rfl, v7, rfl, (qrg hs8 (by decide) (by decide))⟩
    · skip
      refine qr_tabIn 47 rfl r2 (by rw [h5]; decide) (by rw [h5]; rfl) rfl ?_
      refine qr_aload_n 48 rfl rfl rfl ?_
      refine qr_get 51 rfl rfl rfl (by decide) rfl ?_
      refine qr_iload_n 52 rfl rfl rfl ?_
      refine qr_iaload 53 rfl rfl (by omega) (by decide) rfl ?_
      refine qr_topI (fun v10 hv10 => ?_)
      have hs11 : (-2147483648) ≤ v10 ∧ v10 ≤ 2147483647 := by rw [hv10]; exact hI.2.1 92 _ (show _ < 32 by omega)
      refine qr_retI rfl rfl (by decide) (by decide) ?_
      exact ⟨rfl, v10, rfl, hs11⟩
    · skip
      refine qr_tabIn 54 rfl r2 (by rw [h5]; decide) (by rw [h5]; rfl) rfl ?_
      refine qr_aload_n 55 rfl rfl rfl ?_
      refine qr_get 58 rfl rfl rfl (by decide) rfl ?_
      refine qr_iconst 59 rfl rfl ?_
      refine qr_iload_n 60 rfl rfl rfl ?_
      refine qr_iadd 61 rfl rfl ?_
      refine qr_iaload 62 rfl rfl (by omega) (by decide) rfl ?_
      refine qr_topI (fun v12 hv12 => ?_)
      have hs13 : (-2147483648) ≤ v12 ∧ v12 ≤ 2147483647 := by rw [hv12]; exact hI.2.1 87 _ (show _ < 252 by omega)
      refine qr_retI rfl rfl (by decide) (by decide) ?_
      exact ⟨rfl, v12, rfl, hs13⟩
    · skip
      refine qr_tabIn 63 rfl r2 (by rw [h5]; decide) (by rw [h5]; rfl) rfl ?_
      refine qr_aload_n 64 rfl rfl rfl ?_
      refine qr_iload_n 65 rfl rfl rfl ?_
      refine qr_callN 68 rfl rfl rfl (sf_181_86 (d := d + 1) hI r1) ?_
      rintro _ _ ⟨rfl, v14, rfl, hv14⟩
      show qr_W (qe L xs vb) (d + 2) qx_e179 _ (68, _, [.int (qz v14)], qw σ α κ ρ, 0, 0)
      refine qr_if_eq 75 71 rfl rfl rfl (qrg hv14 (by decide) (by decide)) (fun h15 => ?_) (fun h15 => ?_)
      · skip
        refine qr_iconst 76 rfl rfl ?_
        refine qr_retI rfl rfl (by decide) (by decide) ?_
        exact ⟨rfl, 0, rfl, (by decide)⟩
      · skip
        refine qr_iconst 72 rfl rfl ?_
        refine qr_goto 76 rfl rfl ?_
        refine qr_retI rfl rfl (by decide) (by decide) ?_
        exact ⟨rfl, 1, rfl, (by decide)⟩
    · skip
      refine qr_tabOut 77 rfl r2 (by omega) rfl ?_
      refine qr_iconst 78 rfl rfl ?_
      refine qr_retI rfl rfl (by decide) (by decide) ?_
      exact ⟨rfl, (-1), rfl, (by decide)⟩
  · skip
    refine qr_iconst 9 rfl rfl ?_
    refine qr_retI rfl rfl (by decide) (by decide) ?_
    exact ⟨rfl, (-1), rfl, (by decide)⟩

set_option maxHeartbeats 4000000 in
set_option maxRecDepth 20000 in
/-- OneRoofModel.becomes -/
theorem sf_183_86 {L : Nat} {xs : Nat → Int} {vb : Bool} {d : Nat} {σ α : Nat → Nat → Int} {κ : Nat → Option Nat} {ρ : Nat} {x1 : Int} {x2 : Int} (hI : qI σ α κ ρ) (r1 : 0 ≤ x1 ∧ x1 ≤ 251) (r2 : (-2147483648) ≤ x2 ∧ x2 ≤ 2147483647) : qm_T (qe L xs vb) (d + 1) 183 [.ref 86, .int (qz x1), .int (qz x2)] (qw σ α κ ρ) (fun r w' => ∃ σ' α', w' = qw σ' α' κ ρ ∧ qI σ' α' κ ρ ∧ qFr [(86, 4), (86, 5)] [87, 88, 89, 90] σ α σ' α' ∧ ∃ v : Int, r = some (.int (qz v)) ∧ ((-2147483648) ≤ v ∧ v ≤ 2147483647)) := by
  refine qr_start (d := d + 0) qv_e183 (Nat.le_of_ble_eq_true rfl) ?_
  show qr_W (qe L xs vb) (d + 0) qx_e183 _ (0, [(0, .ref 86), (1, .int (qz x1)), (2, .int (qz x2))], [], _, 0, 0)
  have hF0 := qFr_rf [(86, 4), (86, 5)] [87, 88, 89, 90] σ α
  refine qr_aload_n 1 rfl rfl rfl ?_
  refine qr_get 4 rfl rfl rfl (by decide) rfl ?_
  refine qr_iload_n 5 rfl rfl rfl ?_
  refine qr_iaload 6 rfl rfl (qrgi r1 (by decide) (by decide)) (by decide) rfl ?_
  refine qr_topI (fun v1 hv1 => ?_)
  have hs2 : (-2147483648) ≤ v1 ∧ v1 ≤ 2147483647 := by rw [hv1]; exact hI.2.1 87 _ (show _ < 252 from qrgt r1 (by decide) (by decide))
  refine qr_istore_n _ 7 rfl (by decide) rfl rfl ?_
  refine qr_iload_n 8 rfl rfl rfl ?_
  refine qr_iload_n 9 rfl rfl rfl ?_
  refine qr_icmp_ne 14 12 rfl rfl rfl hs2 r2 (fun h3 => ?_) (fun h3 => ?_)
  · skip
    refine qr_aload_n 15 rfl rfl rfl ?_
    refine qr_get 18 rfl rfl rfl (by decide) rfl ?_
    have hs4 : 0 ≤ σ 86 5 ∧ σ 86 5 ≤ 40 := hI.1 86 5
    refine qr_bipush 20 rfl (by decide) rfl ?_
    have hJ564 : ∀ (ls : qm_L) (σ559 α560 : Nat → Nat → Int), qm_get ls 0 = some (.ref 86) → qm_get ls 1 = some (.int (qz x1)) → qm_get ls 2 = some (.int (qz x2)) → qm_get ls 3 = some (.int (qz v1)) → qI σ559 α560 κ ρ → qFr [(86, 4), (86, 5)] [87, 88, 89, 90] σ α σ559 α560 → σ559 86 5 ≤ 39 → qr_W (qe L xs vb) (d + 0) qx_e183 (fun r w' => ∃ σ' α', w' = qw σ' α' κ ρ ∧ qI σ' α' κ ρ ∧ qFr [(86, 4), (86, 5)] [87, 88, 89, 90] σ α σ' α' ∧ ∃ v : Int, r = some (.int (qz v)) ∧ ((-2147483648) ≤ v ∧ v ≤ 2147483647)) (97, ls, [], qw σ559 α560 κ ρ, 0, 0) := by
      intro ls σ559 α560 g555 g556 g557 g558 hI561 hF562 hx563
      refine qr_aload_n 98 rfl g555 rfl ?_
      refine qr_get 101 rfl rfl rfl (by decide) rfl ?_
      refine qr_aload_n 102 rfl g555 rfl ?_
      refine qr_get 105 rfl rfl rfl (by decide) rfl ?_
      have hs565 : 0 ≤ σ559 86 5 ∧ σ559 86 5 ≤ 40 := hI561.1 86 5
      refine qr_iload_n 106 rfl g556 rfl ?_
      refine qr_iastore 107 rfl (by decide) rfl (by omega) (by decide) rfl ?_
      refine qy_wA (qw_r α560 88 (qzu (α560 88) ((σ559 86 5) : Int).toNat x1)) rfl (fun α566 e567 => ?_)
      have hI568 : qI σ559 α566 κ ρ := by rw [e567]; exact qI_r hI561 88 _ rfl (show 0 ≤ x1 ∧ x1 ≤ 251 by omega)
      have hF569 : qFr [(86, 4), (86, 5)] [87, 88, 89, 90] σ α σ559 α566 := by rw [e567]; exact qFr_r hF562 88 _ (by decide)
      refine qr_aload_n 108 rfl g555 rfl ?_
      refine qr_get 111 rfl rfl rfl (by decide) rfl ?_
      refine qr_aload_n 112 rfl g555 rfl ?_
      refine qr_get 115 rfl rfl rfl (by decide) rfl ?_
      refine qr_iload_n 116 rfl g558 rfl ?_
      refine qr_iastore 117 rfl (by decide) rfl (by omega) (by decide) rfl ?_
      refine qy_wA (qw_r α566 89 (qzu (α566 89) ((σ559 86 5) : Int).toNat v1)) rfl (fun α570 e571 => ?_)
      have hI572 : qI σ559 α570 κ ρ := by rw [e571]; exact qI_r hI568 89 _ rfl (show (-2147483648) ≤ v1 ∧ v1 ≤ 2147483647 by omega)
      have hF573 : qFr [(86, 4), (86, 5)] [87, 88, 89, 90] σ α σ559 α570 := by rw [e571]; exact qFr_r hF569 89 _ (by decide)
      refine qr_aload_n 118 rfl g555 rfl ?_
      refine qr_get 121 rfl rfl rfl (by decide) rfl ?_
      refine qr_aload_n 122 rfl g555 rfl ?_
      refine qr_get 125 rfl rfl rfl (by decide) rfl ?_
      refine qr_iload_n 126 rfl g557 rfl ?_
      refine qr_iastore 127 rfl (by decide) rfl (by omega) (by decide) rfl ?_
      refine qy_wA (qw_r α570 90 (qzu (α570 90) ((σ559 86 5) : Int).toNat x2)) rfl (fun α574 e575 => ?_)
      have hI576 : qI σ559 α574 κ ρ := by rw [e575]; exact qI_r hI572 90 _ rfl (show (-2147483648) ≤ x2 ∧ x2 ≤ 2147483647 by omega)
      have hF577 : qFr [(86, 4), (86, 5)] [87, 88, 89, 90] σ α σ559 α574 := by rw [e575]; exact qFr_r hF573 90 _ (by decide)
      refine qr_aload_n 128 rfl g555 rfl ?_
      refine qr_dup 129 rfl rfl rfl ?_
      refine qr_get 132 rfl rfl rfl (by decide) rfl ?_
      refine qr_iconst 133 rfl rfl ?_
      refine qr_iadd 134 rfl rfl ?_
      refine qr_put 137 rfl (by decide) rfl (Nat.le_of_ble_eq_true rfl) (Nat.le_of_ble_eq_true rfl) (Or.inl rfl) (qr_fitI rfl _) rfl ?_
      refine qy_wS (qw_s σ559 86 5 ((σ559 86 5) + 1)) rfl (fun σ578 e579 => ?_)
      have hF581 : qFr [(86, 4), (86, 5)] [87, 88, 89, 90] σ α σ578 α574 := by rw [e579]; exact qFr_s hF577 86 5 _ (by decide)
      refine qr_aload_n 138 rfl g555 rfl ?_
      refine qr_aload_n 139 rfl g555 rfl ?_
      refine qr_get 142 rfl rfl rfl (by decide) rfl ?_
      refine qy_v ((σ559 86 5) + 1) ((congrFun (congrFun e579 86) 5).trans rfl) ?_
      refine qr_put 145 rfl (by decide) rfl (Nat.le_of_ble_eq_true rfl) (Nat.le_of_ble_eq_true rfl) (Or.inl rfl) (qr_fitI rfl _) rfl ?_
      refine qy_wS (qw_s σ578 86 4 ((σ559 86 5) + 1)) rfl (fun σ582 e583 => ?_)
      have hI584 : qI σ582 α574 κ ρ := by rw [e583, e579]; exact qI_s54 hI576 (by omega)
      have hF585 : qFr [(86, 4), (86, 5)] [87, 88, 89, 90] σ α σ582 α574 := by rw [e583]; exact qFr_s hF581 86 4 _ (by decide)
      refine qr_aload_n 146 rfl g555 rfl ?_
      refine qr_get 149 rfl rfl rfl (by decide) rfl ?_
      refine qr_iload_n 150 rfl g556 rfl ?_
      refine qr_iload_n 151 rfl g557 rfl ?_
      refine qr_iastore 152 rfl (by decide) rfl (qrgi r1 (by decide) (by decide)) (by decide) rfl ?_
      refine qy_wA (qw_r α574 87 (qzu (α574 87) (x1 : Int).toNat x2)) rfl (fun α586 e587 => ?_)
      have hI588 : qI σ582 α586 κ ρ := by rw [e587]; exact qI_r hI584 87 _ rfl (show (-2147483648) ≤ x2 ∧ x2 ≤ 2147483647 by omega)
      have hF589 : qFr [(86, 4), (86, 5)] [87, 88, 89, 90] σ α σ582 α586 := by rw [e587]; exact qFr_r hF585 87 _ (by decide)
      refine qr_iload_n 153 rfl g558 rfl ?_
      refine qr_retI rfl rfl (by decide) (by decide) ?_
      exact ⟨_, _, rfl, hI588, hF589, v1, rfl, hs2⟩
    refine qr_icmp_ne 97 23 rfl rfl rfl (qrg hs4 (by decide) (by decide)) (by decide) (fun h590 => ?_) (fun h590 => ?_)
    · skip
      exact hJ564 _ σ α rfl rfl rfl rfl hI hF0 (by have hw : σ 86 5 = (σ 86 5) := rfl; omega)
    · skip
      refine qr_iconst 24 rfl rfl ?_
      refine qr_istore _ 26 rfl (by decide) rfl rfl ?_
      have hL1108 : ∀ (n : Nat) (ls : qm_L) (u1102 : Int) (α1104 : Nat → Nat → Int), 40 - u1102 < (n : Int) → qm_get ls 0 = some (.ref 86) → qm_get ls 1 = some (.int (qz x1)) → qm_get ls 2 = some (.int (qz x2)) → qm_get ls 3 = some (.int (qz v1)) → qm_get ls 4 = some (.int (qz u1102)) → (1 ≤ u1102 ∧ u1102 ≤ 40) → qI σ α1104 κ ρ → qFr [(86, 4), (86, 5)] [87, 88, 89, 90] σ α σ α1104 → qr_W (qe L xs vb) (d + 0) qx_e183 (fun r w' => ∃ σ' α', w' = qw σ' α' κ ρ ∧ qI σ' α' κ ρ ∧ qFr [(86, 4), (86, 5)] [87, 88, 89, 90] σ α σ' α' ∧ ∃ v : Int, r = some (.int (qz v)) ∧ ((-2147483648) ≤ v ∧ v ≤ 2147483647)) (26, ls, [], qw σ α1104 κ ρ, 0, 0) := by
        intro n
        induction n with
        | zero => intro ls u1102 α1104 hm g1097 g1098 g1099 g1100 g1101 hf1107 hI1105 hF1106; exact False.elim (by omega)
        | succ n ih1109 =>
          intro ls u1102 α1104 hm g1097 g1098 g1099 g1100 g1101 hf1107 hI1105 hF1106
          refine qr_iload 28 rfl g1101 rfl ?_
          refine qr_bipush 30 rfl (by decide) rfl ?_
          refine qr_icmp_ge 87 33 rfl rfl rfl (qrg hf1107 (by decide) (by decide)) (by decide) (fun h1128 => ?_) (fun h1128 => ?_)
          · skip
            refine qr_aload_n 88 rfl g1097 rfl ?_
            refine qr_dup 89 rfl rfl rfl ?_
            refine qr_get 92 rfl rfl rfl (by decide) rfl ?_
            refine qr_iconst 93 rfl rfl ?_
            refine qr_isub 94 rfl rfl ?_
            refine qr_put 97 rfl (by decide) rfl (Nat.le_of_ble_eq_true rfl) (Nat.le_of_ble_eq_true rfl) (Or.inl rfl) (qr_fitI rfl _) rfl ?_
            refine qy_wS (qw_s σ 86 5 ((σ 86 5) - 1)) rfl (fun σ1129 e1130 => ?_)
            have hI1131 : qI σ1129 α1104 κ ρ := by rw [e1130]; exact qI_s5 hI1105 (by omega) (by have hw2 := hI1105.2.2.2.2.2.2.2.1; have hw3 : σ 86 5 = (σ 86 5) := rfl; omega)
            have hF1132 : qFr [(86, 4), (86, 5)] [87, 88, 89, 90] σ α σ1129 α1104 := by rw [e1130]; exact qFr_s hF1106 86 5 _ (by decide)
            exact hJ564 _ σ1129 α1104 g1097 g1098 g1099 g1100 hI1131 hF1132 (by have hw : σ1129 86 5 = ((σ 86 5) - 1) := (congrFun (congrFun e1130 86) 5).trans rfl; omega)
          · skip
            refine qr_aload_n 34 rfl g1097 rfl ?_
            refine qr_get 37 rfl rfl rfl (by decide) rfl ?_
            refine qr_iload 39 rfl g1101 rfl ?_
            refine qr_iconst 40 rfl rfl ?_
            refine qr_isub 41 rfl rfl ?_
            refine qr_aload_n 42 rfl g1097 rfl ?_
            refine qr_get 45 rfl rfl rfl (by decide) rfl ?_
            refine qr_iload 47 rfl g1101 rfl ?_
            refine qr_iaload 48 rfl rfl (by omega) (by decide) rfl ?_
            refine qr_topI (fun v1133 hv1133 => ?_)
            have hs1134 : 0 ≤ v1133 ∧ v1133 ≤ 251 := by rw [hv1133]; exact hI1105.2.1 88 _ (show _ < 40 by omega)
            refine qr_iastore 49 rfl (by decide) rfl (by omega) (by decide) rfl ?_
            refine qy_wA (qw_r α1104 88 (qzu (α1104 88) ((u1102 - 1) : Int).toNat v1133)) rfl (fun α1135 e1136 => ?_)
            have hI1137 : qI σ α1135 κ ρ := by rw [e1136]; exact qI_r hI1105 88 _ rfl (show 0 ≤ v1133 ∧ v1133 ≤ 251 by omega)
            have hF1138 : qFr [(86, 4), (86, 5)] [87, 88, 89, 90] σ α σ α1135 := by rw [e1136]; exact qFr_r hF1106 88 _ (by decide)
            refine qr_aload_n 50 rfl g1097 rfl ?_
            refine qr_get 53 rfl rfl rfl (by decide) rfl ?_
            refine qr_iload 55 rfl g1101 rfl ?_
            refine qr_iconst 56 rfl rfl ?_
            refine qr_isub 57 rfl rfl ?_
            refine qr_aload_n 58 rfl g1097 rfl ?_
            refine qr_get 61 rfl rfl rfl (by decide) rfl ?_
            refine qr_iload 63 rfl g1101 rfl ?_
            refine qr_iaload 64 rfl rfl (by omega) (by decide) rfl ?_
            refine qr_topI (fun v1139 hv1139 => ?_)
            have hs1140 : (-2147483648) ≤ v1139 ∧ v1139 ≤ 2147483647 := by rw [hv1139]; exact hI1137.2.1 89 _ (show _ < 40 by omega)
            refine qr_iastore 65 rfl (by decide) rfl (by omega) (by decide) rfl ?_
            refine qy_wA (qw_r α1135 89 (qzu (α1135 89) ((u1102 - 1) : Int).toNat v1139)) rfl (fun α1141 e1142 => ?_)
            have hI1143 : qI σ α1141 κ ρ := by rw [e1142]; exact qI_r hI1137 89 _ rfl (show (-2147483648) ≤ v1139 ∧ v1139 ≤ 2147483647 by omega)
            have hF1144 : qFr [(86, 4), (86, 5)] [87, 88, 89, 90] σ α σ α1141 := by rw [e1142]; exact qFr_r hF1138 89 _ (by decide)
            refine qr_aload_n 66 rfl g1097 rfl ?_
            refine qr_get 69 rfl rfl rfl (by decide) rfl ?_
            refine qr_iload 71 rfl g1101 rfl ?_
            refine qr_iconst 72 rfl rfl ?_
            refine qr_isub 73 rfl rfl ?_
            refine qr_aload_n 74 rfl g1097 rfl ?_
            refine qr_get 77 rfl rfl rfl (by decide) rfl ?_
            refine qr_iload 79 rfl g1101 rfl ?_
            refine qr_iaload 80 rfl rfl (by omega) (by decide) rfl ?_
            refine qr_topI (fun v1145 hv1145 => ?_)
            have hs1146 : (-2147483648) ≤ v1145 ∧ v1145 ≤ 2147483647 := by rw [hv1145]; exact hI1143.2.1 90 _ (show _ < 40 by omega)
            refine qr_iastore 81 rfl (by decide) rfl (by omega) (by decide) rfl ?_
            refine qy_wA (qw_r α1141 90 (qzu (α1141 90) ((u1102 - 1) : Int).toNat v1145)) rfl (fun α1147 e1148 => ?_)
            have hI1149 : qI σ α1147 κ ρ := by rw [e1148]; exact qI_r hI1143 90 _ rfl (show (-2147483648) ≤ v1145 ∧ v1145 ≤ 2147483647 by omega)
            have hF1150 : qFr [(86, 4), (86, 5)] [87, 88, 89, 90] σ α σ α1147 := by rw [e1148]; exact qFr_r hF1144 90 _ (by decide)
            refine qr_iinc _ 84 rfl g1101 (by decide) rfl rfl ?_
            refine qr_goto 26 rfl rfl ?_
            exact ih1109 _ (u1102 + 1) α1147 (by omega) (qm_gk g1097 (by decide) (Or.inl (by decide))) (qm_gk g1098 (by decide) (Or.inl (by decide))) (qm_gk g1099 (by decide) (Or.inl (by decide))) (qm_gk g1100 (by decide) (Or.inr rfl)) (qm_ge _ _ _) (by omega) hI1149 hF1150
      exact hL1108 ((40 - 1 + 1 : Int)).toNat _ 1 α (by omega) rfl rfl rfl rfl rfl (by decide) hI hF0
  · skip
    refine qr_iload_n 13 rfl rfl rfl ?_
    refine qr_retI rfl rfl (by decide) (by decide) ?_
    exact ⟨_, _, rfl, hI, hF0, v1, rfl, hs2⟩

set_option maxHeartbeats 4000000 in
set_option maxRecDepth 20000 in
/-- OneRoofModel.sword -/
theorem sf_182_86 {L : Nat} {xs : Nat → Int} {vb : Bool} {d : Nat} {σ α : Nat → Nat → Int} {κ : Nat → Option Nat} {ρ : Nat} {x1 : Int} {x2 : Int} (hI : qI σ α κ ρ) (r1 : (-2147483648) ≤ x1 ∧ x1 ≤ 2147483647) (r2 : (-2147483648) ≤ x2 ∧ x2 ≤ 2147483647) : qm_T (qe L xs vb) (d + 3) 182 [.ref 86, .int (qz x1), .int (qz x2)] (qw σ α κ ρ) (fun r w' => ∃ σ' α', w' = qw σ' α' κ ρ ∧ qI σ' α' κ ρ ∧ qFr [(86, 4), (86, 5)] [87, 88, 89, 90] σ α σ' α' ∧ ∃ v : Int, r = some (.int (qz v)) ∧ ((-2147483648) ≤ v ∧ v ≤ 2147483647)) := by
  refine qr_start (d := d + 2) qv_e182 (Nat.le_of_ble_eq_true rfl) ?_
  show qr_W (qe L xs vb) (d + 2) qx_e182 _ (0, [(0, .ref 86), (1, .int (qz x1)), (2, .int (qz x2))], [], _, 0, 0)
  have hF0 := qFr_rf [(86, 4), (86, 5)] [87, 88, 89, 90] σ α
  refine qr_aload_n 1 rfl rfl rfl ?_
  refine qr_iload_n 2 rfl rfl rfl ?_
  refine qr_callN 5 rfl rfl rfl (sf_180_86 (d := d + 0) hI r1) ?_
  have hs3 : 0 ≤ σ 86 6 ∧ σ 86 6 ≤ 32 := hI.1 86 6
  rintro _ _ ⟨rfl, v1, rfl, hv1, hp2⟩
  show qr_W (qe L xs vb) (d + 2) qx_e182 _ (5, _, [.int (qz v1)], qw σ α κ ρ, 0, 0)
  refine qr_if_eq 29 8 rfl rfl rfl (qrg hv1 (by decide) (by decide)) (fun h4 => ?_) (fun h4 => ?_)
  · skip
    refine qr_iconst 30 rfl rfl ?_
    refine qr_retI rfl rfl (by decide) (by decide) ?_
    exact ⟨_, _, rfl, hI, hF0, (-1), rfl, (by decide)⟩
  · skip
    refine qr_iload_n 9 rfl rfl rfl ?_
    refine qr_i2l 10 rfl r2 rfl ?_
    refine qr_lconst 11 rfl rfl ?_
    refine qy_vl 0 rfl ?_
    refine qr_lconst 12 rfl rfl ?_
    refine qy_vl 1 rfl ?_
    refine qr_callN 15 rfl rfl rfl (sf_176 (d := d + 1) hI (qrg r2 (by decide) (by decide)) (by decide) (by decide)) ?_
    rintro _ _ ⟨rfl, v5, rfl, hv5, hp6⟩
    show qr_W (qe L xs vb) (d + 2) qx_e182 _ (15, _, [.int (qz v5)], qw σ α κ ρ, 0, 0)
    refine qr_if_eq 29 18 rfl rfl rfl (qrg hv5 (by decide) (by decide)) (fun h7 => ?_) (fun h7 => ?_)
    · skip
      refine qr_iconst 30 rfl rfl ?_
      refine qr_retI rfl rfl (by decide) (by decide) ?_
      exact ⟨_, _, rfl, hI, hF0, (-1), rfl, (by decide)⟩
    · skip
      refine qr_aload_n 19 rfl rfl rfl ?_
      refine qr_iconst 20 rfl rfl ?_
      refine qr_iload_n 21 rfl rfl rfl ?_
      refine qr_iadd 22 rfl rfl ?_
      refine qr_iload_n 23 rfl rfl rfl ?_
      refine qr_callN 26 rfl rfl rfl (sf_183_86 (d := d + 1) hI (by omega) r2) ?_
      rintro _ _ ⟨σ9, α10, rfl, hI11, hG12, v8, rfl, hv8⟩
      have hF13 : qFr [(86, 4), (86, 5)] [87, 88, 89, 90] σ α σ9 α10 := qFr_t hF0 hG12 (by decide) (by decide)
      show qr_W (qe L xs vb) (d + 2) qx_e182 _ (26, _, [.int (qz v8)], qw σ9 α10 κ ρ, 0, 0)
      refine qr_goto 30 rfl rfl ?_
      refine qr_retI rfl rfl (by decide) (by decide) ?_
      exact ⟨_, _, rfl, hI11, hF13, v8, rfl, hv8⟩

set_option maxHeartbeats 4000000 in
set_option maxRecDepth 20000 in
/-- OneRoofModel.undo -/
theorem sf_172_86 {L : Nat} {xs : Nat → Int} {vb : Bool} {d : Nat} {σ α : Nat → Nat → Int} {κ : Nat → Option Nat} {ρ : Nat}  (hI : qI σ α κ ρ)  : qm_T (qe L xs vb) (d + 1) 172 [.ref 86] (qw σ α κ ρ) (fun r w' => ∃ σ' α', w' = qw σ' α' κ ρ ∧ qI σ' α' κ ρ ∧ qFr [(86, 5)] [87] σ α σ' α' ∧ ∃ v : Int, r = some (.int (qz v)) ∧ ((-2147483648) ≤ v ∧ v ≤ 2147483647)) := by
  refine qr_start (d := d + 0) qv_e172 (Nat.le_of_ble_eq_true rfl) ?_
  show qr_W (qe L xs vb) (d + 0) qx_e172 _ (0, [(0, .ref 86)], [], _, 0, 0)
  have hF0 := qFr_rf [(86, 5)] [87] σ α
  refine qr_aload_n 1 rfl rfl rfl ?_
  refine qr_get 4 rfl rfl rfl (by decide) rfl ?_
  have hs1 : 0 ≤ σ 86 5 ∧ σ 86 5 ≤ 40 := hI.1 86 5
  refine qr_if_ne 10 7 rfl rfl rfl (qrg hs1 (by decide) (by decide)) (fun h2 => ?_) (fun h2 => ?_)
  · skip
    refine qr_aload_n 11 rfl rfl rfl ?_
    refine qr_dup 12 rfl rfl rfl ?_
    refine qr_get 15 rfl rfl rfl (by decide) rfl ?_
    refine qr_iconst 16 rfl rfl ?_
    refine qr_isub 17 rfl rfl ?_
    refine qr_put 20 rfl (by decide) rfl (Nat.le_of_ble_eq_true rfl) (Nat.le_of_ble_eq_true rfl) (Or.inl rfl) (qr_fitI rfl _) rfl ?_
    refine qy_wS (qw_s σ 86 5 ((σ 86 5) - 1)) rfl (fun σ3 e4 => ?_)
    have hI5 : qI σ3 α κ ρ := by rw [e4]; exact qI_s5 hI (by omega) (by have hw2 := hI.2.2.2.2.2.2.2.1; have hw3 : σ 86 5 = (σ 86 5) := rfl; omega)
    have hF6 : qFr [(86, 5)] [87] σ α σ3 α := by rw [e4]; exact qFr_s hF0 86 5 _ (by decide)
    refine qr_aload_n 21 rfl rfl rfl ?_
    refine qr_get 24 rfl rfl rfl (by decide) rfl ?_
    refine qr_aload_n 25 rfl rfl rfl ?_
    refine qr_get 28 rfl rfl rfl (by decide) rfl ?_
    refine qr_aload_n 29 rfl rfl rfl ?_
    refine qr_get 32 rfl rfl rfl (by decide) rfl ?_
    refine qy_v ((σ 86 5) - 1) ((congrFun (congrFun e4 86) 5).trans rfl) ?_
    refine qr_iaload 33 rfl rfl (by omega) (by decide) rfl ?_
    refine qr_topI (fun v7 hv7 => ?_)
    have hs8 : 0 ≤ v7 ∧ v7 ≤ 251 := by rw [hv7]; exact hI5.2.1 88 _ (show _ < 40 by omega)
    refine qr_aload_n 34 rfl rfl rfl ?_
    refine qr_get 37 rfl rfl rfl (by decide) rfl ?_
    refine qr_aload_n 38 rfl rfl rfl ?_
    refine qr_get 41 rfl rfl rfl (by decide) rfl ?_
    refine qy_v ((σ 86 5) - 1) ((congrFun (congrFun e4 86) 5).trans rfl) ?_
    refine qr_iaload 42 rfl rfl (by omega) (by decide) rfl ?_
    refine qr_topI (fun v9 hv9 => ?_)
    have hs10 : (-2147483648) ≤ v9 ∧ v9 ≤ 2147483647 := by rw [hv9]; exact hI5.2.1 89 _ (show _ < 40 by omega)
    refine qr_iastore 43 rfl (by decide) rfl (qrgi hs8 (by decide) (by decide)) (by decide) rfl ?_
    refine qy_wA (qw_r α 87 (qzu (α 87) (v7 : Int).toNat v9)) rfl (fun α11 e12 => ?_)
    have hI13 : qI σ3 α11 κ ρ := by rw [e12]; exact qI_r hI5 87 _ rfl (show (-2147483648) ≤ v9 ∧ v9 ≤ 2147483647 by omega)
    have hF14 : qFr [(86, 5)] [87] σ α σ3 α11 := by rw [e12]; exact qFr_r hF6 87 _ (by decide)
    refine qr_aload_n 44 rfl rfl rfl ?_
    refine qr_get 47 rfl rfl rfl (by decide) rfl ?_
    refine qy_v ((σ 86 5) - 1) ((congrFun (congrFun e4 86) 5).trans rfl) ?_
    refine qr_retI rfl rfl (by decide) (by decide) ?_
    exact ⟨_, _, rfl, hI13, hF14, ((σ 86 5) - 1), rfl, (by omega)⟩
  · skip
    refine qr_bipush 9 rfl (by decide) rfl ?_
    refine qr_retI rfl rfl (by decide) (by decide) ?_
    exact ⟨_, _, rfl, hI, hF0, (-5), rfl, (by decide)⟩

set_option maxHeartbeats 4000000 in
set_option maxRecDepth 20000 in
/-- OneRoofModel.redo -/
theorem sf_173_86 {L : Nat} {xs : Nat → Int} {vb : Bool} {d : Nat} {σ α : Nat → Nat → Int} {κ : Nat → Option Nat} {ρ : Nat}  (hI : qI σ α κ ρ)  : qm_T (qe L xs vb) (d + 1) 173 [.ref 86] (qw σ α κ ρ) (fun r w' => ∃ σ' α', w' = qw σ' α' κ ρ ∧ qI σ' α' κ ρ ∧ qFr [(86, 5)] [87] σ α σ' α' ∧ ∃ v : Int, r = some (.int (qz v)) ∧ ((-2147483648) ≤ v ∧ v ≤ 2147483647)) := by
  refine qr_start (d := d + 0) qv_e173 (Nat.le_of_ble_eq_true rfl) ?_
  show qr_W (qe L xs vb) (d + 0) qx_e173 _ (0, [(0, .ref 86)], [], _, 0, 0)
  have hF0 := qFr_rf [(86, 5)] [87] σ α
  refine qr_aload_n 1 rfl rfl rfl ?_
  refine qr_get 4 rfl rfl rfl (by decide) rfl ?_
  have hs1 : 0 ≤ σ 86 5 ∧ σ 86 5 ≤ 40 := hI.1 86 5
  have hx54 := hI.2.2.2.2.2.2.2.1
  refine qr_aload_n 5 rfl rfl rfl ?_
  refine qr_get 8 rfl rfl rfl (by decide) rfl ?_
  have hs2 : 0 ≤ σ 86 4 ∧ σ 86 4 ≤ 40 := hI.1 86 4
  refine qr_icmp_ne 14 11 rfl rfl rfl (qrg hs1 (by decide) (by decide)) (qrg hs2 (by decide) (by decide)) (fun h3 => ?_) (fun h3 => ?_)
  · skip
    refine qr_aload_n 15 rfl rfl rfl ?_
    refine qr_get 18 rfl rfl rfl (by decide) rfl ?_
    refine qr_aload_n 19 rfl rfl rfl ?_
    refine qr_get 22 rfl rfl rfl (by decide) rfl ?_
    refine qr_aload_n 23 rfl rfl rfl ?_
    refine qr_get 26 rfl rfl rfl (by decide) rfl ?_
    refine qr_iaload 27 rfl rfl (by omega) (by decide) rfl ?_
    refine qr_topI (fun v4 hv4 => ?_)
    have hs5 : 0 ≤ v4 ∧ v4 ≤ 251 := by rw [hv4]; exact hI.2.1 88 _ (show _ < 40 by omega)
    refine qr_aload_n 28 rfl rfl rfl ?_
    refine qr_get 31 rfl rfl rfl (by decide) rfl ?_
    refine qr_aload_n 32 rfl rfl rfl ?_
    refine qr_get 35 rfl rfl rfl (by decide) rfl ?_
    refine qr_iaload 36 rfl rfl (by omega) (by decide) rfl ?_
    refine qr_topI (fun v6 hv6 => ?_)
    have hs7 : (-2147483648) ≤ v6 ∧ v6 ≤ 2147483647 := by rw [hv6]; exact hI.2.1 90 _ (show _ < 40 by omega)
    refine qr_iastore 37 rfl (by decide) rfl (qrgi hs5 (by decide) (by decide)) (by decide) rfl ?_
    refine qy_wA (qw_r α 87 (qzu (α 87) (v4 : Int).toNat v6)) rfl (fun α8 e9 => ?_)
    have hI10 : qI σ α8 κ ρ := by rw [e9]; exact qI_r hI 87 _ rfl (show (-2147483648) ≤ v6 ∧ v6 ≤ 2147483647 by omega)
    have hF11 : qFr [(86, 5)] [87] σ α σ α8 := by rw [e9]; exact qFr_r hF0 87 _ (by decide)
    refine qr_aload_n 38 rfl rfl rfl ?_
    refine qr_dup 39 rfl rfl rfl ?_
    refine qr_get 42 rfl rfl rfl (by decide) rfl ?_
    refine qr_iconst 43 rfl rfl ?_
    refine qr_iadd 44 rfl rfl ?_
    refine qr_put 47 rfl (by decide) rfl (Nat.le_of_ble_eq_true rfl) (Nat.le_of_ble_eq_true rfl) (Or.inl rfl) (qr_fitI rfl _) rfl ?_
    refine qy_wS (qw_s σ 86 5 ((σ 86 5) + 1)) rfl (fun σ12 e13 => ?_)
    have hI14 : qI σ12 α8 κ ρ := by rw [e13]; exact qI_s5 hI10 (by omega) (by have hw : σ 86 4 = (σ 86 4) := rfl; have hw2 := hI10.2.2.2.2.2.2.2.1; have hw3 : σ 86 5 = (σ 86 5) := rfl; omega)
    have hF15 : qFr [(86, 5)] [87] σ α σ12 α8 := by rw [e13]; exact qFr_s hF11 86 5 _ (by decide)
    refine qr_aload_n 48 rfl rfl rfl ?_
    refine qr_get 51 rfl rfl rfl (by decide) rfl ?_
    refine qy_v (σ 86 4) ((congrFun (congrFun e13 86) 4).trans rfl) ?_
    refine qr_aload_n 52 rfl rfl rfl ?_
    refine qr_get 55 rfl rfl rfl (by decide) rfl ?_
    refine qy_v ((σ 86 5) + 1) ((congrFun (congrFun e13 86) 5).trans rfl) ?_
    refine qr_isub 56 rfl rfl ?_
    refine qr_retI rfl rfl (by decide) (by decide) ?_
    exact ⟨_, _, rfl, hI14, hF15, ((σ 86 4) - ((σ 86 5) + 1)), rfl, (by omega)⟩
  · skip
    refine qr_bipush 13 rfl (by decide) rfl ?_
    refine qr_retI rfl rfl (by decide) (by decide) ?_
    exact ⟨_, _, rfl, hI, hF0, (-5), rfl, (by decide)⟩

set_option maxHeartbeats 4000000 in
set_option maxRecDepth 20000 in
/-- OneRoofModel.areKin -/
theorem sf_185_86 {L : Nat} {xs : Nat → Int} {vb : Bool} {d : Nat} {σ α : Nat → Nat → Int} {κ : Nat → Option Nat} {ρ : Nat} {x1 : Int} {x2 : Int} (hI : qI σ α κ ρ) (r1 : (-2147483648) ≤ x1 ∧ x1 ≤ 2147483647) (r2 : (-2147483648) ≤ x2 ∧ x2 ≤ 2147483647) : qm_T (qe L xs vb) (d + 1) 185 [.ref 86, .int (qz x1), .int (qz x2)] (qw σ α κ ρ) (fun r w' => w' = qw σ α κ ρ ∧ ∃ v : Int, r = some (.int (qz v)) ∧ (0 ≤ v ∧ v ≤ 1)) := by
  refine qr_start (d := d + 0) qv_e185 (Nat.le_of_ble_eq_true rfl) ?_
  show qr_W (qe L xs vb) (d + 0) qx_e185 _ (0, [(0, .ref 86), (1, .int (qz x1)), (2, .int (qz x2))], [], _, 0, 0)
  refine qr_iconst 1 rfl rfl ?_
  refine qr_istore_n _ 2 rfl (by decide) rfl rfl ?_
  have hL432 : ∀ (n : Nat) (ls : qm_L) (u430 : Int), 61 - u430 < (n : Int) → qm_get ls 0 = some (.ref 86) → qm_get ls 1 = some (.int (qz x1)) → qm_get ls 2 = some (.int (qz x2)) → qm_get ls 3 = some (.int (qz u430)) → (0 ≤ u430 ∧ u430 ≤ 61) → qr_W (qe L xs vb) (d + 0) qx_e185 (fun r w' => w' = qw σ α κ ρ ∧ ∃ v : Int, r = some (.int (qz v)) ∧ (0 ≤ v ∧ v ≤ 1)) (2, ls, [], qw σ α κ ρ, 0, 0) := by
    intro n
    induction n with
    | zero => intro ls u430 hm g426 g427 g428 g429 hf431; exact False.elim (by omega)
    | succ n ih433 =>
      intro ls u430 hm g426 g427 g428 g429 hf431
      refine qr_iload_n 3 rfl g429 rfl ?_
      refine qr_aload_n 4 rfl g426 rfl ?_
      refine qr_get 7 rfl rfl rfl (by decide) rfl ?_
      have hs434 : 0 ≤ σ 86 11 ∧ σ 86 11 ≤ 61 := hI.1 86 11
      refine qr_icmp_ge 58 10 rfl rfl rfl (qrg hf431 (by decide) (by decide)) (qrg hs434 (by decide) (by decide)) (fun h435 => ?_) (fun h435 => ?_)
      · skip
        refine qr_iconst 59 rfl rfl ?_
        refine qr_retZ rfl rfl (Or.inl rfl) (by decide) (by decide) ?_
        exact ⟨rfl, 0, rfl, (by decide)⟩
      · skip
        refine qr_aload_n 11 rfl g426 rfl ?_
        refine qr_get 14 rfl rfl rfl (by decide) rfl ?_
        refine qr_iload_n 15 rfl g429 rfl ?_
        refine qr_iaload 16 rfl rfl (by omega) (by decide) rfl ?_
        refine qr_topI (fun v436 hv436 => ?_)
        have hs437 : 0 ≤ v436 ∧ v436 ≤ 31 := by rw [hv436]; exact hI.2.1 94 _ (show _ < 61 by omega)
        refine qr_iload_n 17 rfl g427 rfl ?_
        refine qr_icmp_ne 30 20 rfl rfl rfl (qrg hs437 (by decide) (by decide)) r1 (fun h438 => ?_) (fun h438 => ?_)
        · skip
          refine qr_aload_n 31 rfl g426 rfl ?_
          refine qr_get 34 rfl rfl rfl (by decide) rfl ?_
          refine qr_iload_n 35 rfl g429 rfl ?_
          refine qr_iaload 36 rfl rfl (by omega) (by decide) rfl ?_
          refine qr_topI (fun v439 hv439 => ?_)
          have hs440 : 0 ≤ v439 ∧ v439 ≤ 31 := by rw [hv439]; exact hI.2.1 94 _ (show _ < 61 by omega)
          refine qr_iload_n 37 rfl g428 rfl ?_
          refine qr_icmp_ne 52 40 rfl rfl rfl (qrg hs440 (by decide) (by decide)) r2 (fun h441 => ?_) (fun h441 => ?_)
          · skip
            refine qr_iinc _ 55 rfl g429 (by decide) rfl rfl ?_
            refine qr_goto 2 rfl rfl ?_
            exact ih433 _ (u430 + 1) (by omega) (qm_gk g426 (by decide) (Or.inl (by decide))) (qm_gk g427 (by decide) (Or.inl (by decide))) (qm_gk g428 (by decide) (Or.inr rfl)) (qm_ge _ _ _) (by omega)
          · skip
            refine qr_aload_n 41 rfl g426 rfl ?_
            refine qr_get 44 rfl rfl rfl (by decide) rfl ?_
            refine qr_iload_n 45 rfl g429 rfl ?_
            refine qr_iaload 46 rfl rfl (by omega) (by decide) rfl ?_
            refine qr_topI (fun v442 hv442 => ?_)
            have hs443 : 0 ≤ v442 ∧ v442 ≤ 31 := by rw [hv442]; exact hI.2.1 95 _ (show _ < 61 by omega)
            refine qr_iload_n 47 rfl g427 rfl ?_
            refine qr_icmp_ne 52 50 rfl rfl rfl (qrg hs443 (by decide) (by decide)) r1 (fun h444 => ?_) (fun h444 => ?_)
            · skip
              refine qr_iinc _ 55 rfl g429 (by decide) rfl rfl ?_
              refine qr_goto 2 rfl rfl ?_
              exact ih433 _ (u430 + 1) (by omega) (qm_gk g426 (by decide) (Or.inl (by decide))) (qm_gk g427 (by decide) (Or.inl (by decide))) (qm_gk g428 (by decide) (Or.inr rfl)) (qm_ge _ _ _) (by omega)
            · skip
              refine qr_iconst 51 rfl rfl ?_
              refine qr_retZ rfl rfl (Or.inr rfl) (by decide) (by decide) ?_
              exact ⟨rfl, 1, rfl, (by decide)⟩
        · skip
          refine qr_aload_n 21 rfl g426 rfl ?_
          refine qr_get 24 rfl rfl rfl (by decide) rfl ?_
          refine qr_iload_n 25 rfl g429 rfl ?_
          refine qr_iaload 26 rfl rfl (by omega) (by decide) rfl ?_
          refine qr_topI (fun v445 hv445 => ?_)
          have hs446 : 0 ≤ v445 ∧ v445 ≤ 31 := by rw [hv445]; exact hI.2.1 95 _ (show _ < 61 by omega)
          refine qr_iload_n 27 rfl g428 rfl ?_
          refine qr_icmp_eq 50 30 rfl rfl rfl (qrg hs446 (by decide) (by decide)) r2 (fun h447 => ?_) (fun h447 => ?_)
          · skip
            refine qr_iconst 51 rfl rfl ?_
            refine qr_retZ rfl rfl (Or.inr rfl) (by decide) (by decide) ?_
            exact ⟨rfl, 1, rfl, (by decide)⟩
          · skip
            refine qr_aload_n 31 rfl g426 rfl ?_
            refine qr_get 34 rfl rfl rfl (by decide) rfl ?_
            refine qr_iload_n 35 rfl g429 rfl ?_
            refine qr_iaload 36 rfl rfl (by omega) (by decide) rfl ?_
            refine qr_topI (fun v448 hv448 => ?_)
            have hs449 : 0 ≤ v448 ∧ v448 ≤ 31 := by rw [hv448]; exact hI.2.1 94 _ (show _ < 61 by omega)
            refine qr_iload_n 37 rfl g428 rfl ?_
            refine qr_icmp_ne 52 40 rfl rfl rfl (qrg hs449 (by decide) (by decide)) r2 (fun h450 => ?_) (fun h450 => ?_)
            · skip
              refine qr_iinc _ 55 rfl g429 (by decide) rfl rfl ?_
              refine qr_goto 2 rfl rfl ?_
              exact ih433 _ (u430 + 1) (by omega) (qm_gk g426 (by decide) (Or.inl (by decide))) (qm_gk g427 (by decide) (Or.inl (by decide))) (qm_gk g428 (by decide) (Or.inr rfl)) (qm_ge _ _ _) (by omega)
            · skip
              refine qr_aload_n 41 rfl g426 rfl ?_
              refine qr_get 44 rfl rfl rfl (by decide) rfl ?_
              refine qr_iload_n 45 rfl g429 rfl ?_
              refine qr_iaload 46 rfl rfl (by omega) (by decide) rfl ?_
              refine qr_topI (fun v451 hv451 => ?_)
              have hs452 : 0 ≤ v451 ∧ v451 ≤ 31 := by rw [hv451]; exact hI.2.1 95 _ (show _ < 61 by omega)
              refine qr_iload_n 47 rfl g427 rfl ?_
              refine qr_icmp_ne 52 50 rfl rfl rfl (qrg hs452 (by decide) (by decide)) r1 (fun h453 => ?_) (fun h453 => ?_)
              · skip
                refine qr_iinc _ 55 rfl g429 (by decide) rfl rfl ?_
                refine qr_goto 2 rfl rfl ?_
                exact ih433 _ (u430 + 1) (by omega) (qm_gk g426 (by decide) (Or.inl (by decide))) (qm_gk g427 (by decide) (Or.inl (by decide))) (qm_gk g428 (by decide) (Or.inr rfl)) (qm_ge _ _ _) (by omega)
              · skip
                refine qr_iconst 51 rfl rfl ?_
                refine qr_retZ rfl rfl (Or.inr rfl) (by decide) (by decide) ?_
                exact ⟨rfl, 1, rfl, (by decide)⟩
  exact hL432 ((61 - 0 + 1 : Int)).toNat _ 0 (by omega) rfl rfl rfl rfl (by decide)

set_option maxHeartbeats 4000000 in
set_option maxRecDepth 20000 in
/-- OneRoofModel.kin -/
theorem sf_184_86 {L : Nat} {xs : Nat → Int} {vb : Bool} {d : Nat} {σ α : Nat → Nat → Int} {κ : Nat → Option Nat} {ρ : Nat} {x1 : Int} {x2 : Int} (hI : qI σ α κ ρ) (r1 : (-2147483648) ≤ x1 ∧ x1 ≤ 2147483647) (r2 : (-2147483648) ≤ x2 ∧ x2 ≤ 2147483647) (p0 : σ 86 11 ≤ 60) : qm_T (qe L xs vb) (d + 3) 184 [.ref 86, .int (qz x1), .int (qz x2)] (qw σ α κ ρ) (fun r w' => ∃ σ' α', w' = qw σ' α' κ ρ ∧ qI σ' α' κ ρ ∧ qFr [(86, 11), (86, 15)] [94, 95] σ α σ' α' ∧ σ' 86 11 ≤ 60 ∧ ∃ v : Int, r = some (.int (qz v)) ∧ ((-2147483648) ≤ v ∧ v ≤ 2147483647)) := by
  refine qr_start (d := d + 2) qv_e184 (Nat.le_of_ble_eq_true rfl) ?_
  show qr_W (qe L xs vb) (d + 2) qx_e184 _ (0, [(0, .ref 86), (1, .int (qz x1)), (2, .int (qz x2))], [], _, 0, 0)
  have hF0 := qFr_rf [(86, 11), (86, 15)] [94, 95] σ α
  have hz86_11 : 0 ≤ σ 86 11 ∧ σ 86 11 ≤ 61 := hI.1 86 11
  have hz86_6 : 0 ≤ σ 86 6 ∧ σ 86 6 ≤ 32 := hI.1 86 6
  refine qr_aload_n 1 rfl rfl rfl ?_
  refine qr_iload_n 2 rfl rfl rfl ?_
  refine qr_callN 5 rfl rfl rfl (sf_180_86 (d := d + 0) hI r1) ?_
  have hs3 : 0 ≤ σ 86 6 ∧ σ 86 6 ≤ 32 := hI.1 86 6
  rintro _ _ ⟨rfl, v1, rfl, hv1, hp2⟩
  show qr_W (qe L xs vb) (d + 2) qx_e184 _ (5, _, [.int (qz v1)], qw σ α κ ρ, 0, 0)
  refine qr_if_eq 30 8 rfl rfl rfl (qrg hv1 (by decide) (by decide)) (fun h4 => ?_) (fun h4 => ?_)
  · skip
    refine qr_iconst 31 rfl rfl ?_
    refine qr_retI rfl rfl (by decide) (by decide) ?_
    exact ⟨_, _, rfl, hI, hF0, (by have hw : σ 86 11 = (σ 86 11) := rfl; omega), (-1), rfl, (by decide)⟩
  · skip
    refine qr_aload_n 9 rfl rfl rfl ?_
    refine qr_iload_n 10 rfl rfl rfl ?_
    refine qr_callN 13 rfl rfl rfl (sf_180_86 (d := d + 0) hI r2) ?_
    have hs7 : 0 ≤ σ 86 6 ∧ σ 86 6 ≤ 32 := hI.1 86 6
    rintro _ _ ⟨rfl, v5, rfl, hv5, hp6⟩
    show qr_W (qe L xs vb) (d + 2) qx_e184 _ (13, _, [.int (qz v5)], qw σ α κ ρ, 0, 0)
    refine qr_if_eq 30 16 rfl rfl rfl (qrg hv5 (by decide) (by decide)) (fun h8 => ?_) (fun h8 => ?_)
    · skip
      refine qr_iconst 31 rfl rfl ?_
      refine qr_retI rfl rfl (by decide) (by decide) ?_
      exact ⟨_, _, rfl, hI, hF0, (by have hw : σ 86 11 = (σ 86 11) := rfl; omega), (-1), rfl, (by decide)⟩
    · skip
      refine qr_iload_n 17 rfl rfl rfl ?_
      refine qr_iload_n 18 rfl rfl rfl ?_
      refine qr_icmp_eq 30 21 rfl rfl rfl r1 r2 (fun h9 => ?_) (fun h9 => ?_)
      · skip
        refine qr_iconst 31 rfl rfl ?_
        refine qr_retI rfl rfl (by decide) (by decide) ?_
        exact ⟨_, _, rfl, hI, hF0, (by have hw : σ 86 11 = (σ 86 11) := rfl; omega), (-1), rfl, (by decide)⟩
      · skip
        refine qr_aload_n 22 rfl rfl rfl ?_
        refine qr_iload_n 23 rfl rfl rfl ?_
        refine qr_iload_n 24 rfl rfl rfl ?_
        refine qr_callN 27 rfl rfl rfl (sf_185_86 (d := d + 1) hI r1 r2) ?_
        rintro _ _ ⟨rfl, v10, rfl, hv10⟩
        show qr_W (qe L xs vb) (d + 2) qx_e184 _ (27, _, [.int (qz v10)], qw σ α κ ρ, 0, 0)
        refine qr_if_eq 32 30 rfl rfl rfl (qrg hv10 (by decide) (by decide)) (fun h11 => ?_) (fun h11 => ?_)
        · skip
          refine qr_aload_n 33 rfl rfl rfl ?_
          refine qr_get 36 rfl rfl rfl (by decide) rfl ?_
          refine qr_bipush 38 rfl (by decide) rfl ?_
          refine qr_icmp_ne 44 41 rfl rfl rfl (qrg hz86_11 (by decide) (by decide)) (by decide) (fun h12 => ?_) (fun h12 => ?_)
          · skip
            refine qr_aload_n 45 rfl rfl rfl ?_
            refine qr_get 48 rfl rfl rfl (by decide) rfl ?_
            refine qr_aload_n 49 rfl rfl rfl ?_
            refine qr_get 52 rfl rfl rfl (by decide) rfl ?_
            refine qr_iload_n 53 rfl rfl rfl ?_
            refine qr_iastore 54 rfl (by decide) rfl (by omega) (by decide) rfl ?_
            refine qy_wA (qw_r α 94 (qzu (α 94) ((σ 86 11) : Int).toNat x1)) rfl (fun α13 e14 => ?_)
            have hI15 : qI σ α13 κ ρ := by rw [e14]; exact qI_r94 hI _ (show 0 ≤ x1 ∧ x1 ≤ 31 by omega) (by omega)
            have hF16 : qFr [(86, 11), (86, 15)] [94, 95] σ α σ α13 := by rw [e14]; exact qFr_r hF0 94 _ (by decide)
            refine qr_aload_n 55 rfl rfl rfl ?_
            refine qr_get 58 rfl rfl rfl (by decide) rfl ?_
            refine qr_aload_n 59 rfl rfl rfl ?_
            refine qr_get 62 rfl rfl rfl (by decide) rfl ?_
            refine qr_iload_n 63 rfl rfl rfl ?_
            refine qr_iastore 64 rfl (by decide) rfl (by omega) (by decide) rfl ?_
            refine qy_wA (qw_r α13 95 (qzu (α13 95) ((σ 86 11) : Int).toNat x2)) rfl (fun α17 e18 => ?_)
            have hI19 : qI σ α17 κ ρ := by rw [e18]; exact qI_r95 hI15 _ (show 0 ≤ x2 ∧ x2 ≤ 31 by omega) (by omega)
            have hF20 : qFr [(86, 11), (86, 15)] [94, 95] σ α σ α17 := by rw [e18]; exact qFr_r hF16 95 _ (by decide)
            refine qr_aload_n 65 rfl rfl rfl ?_
            refine qr_iconst 66 rfl rfl ?_
            refine qr_put 69 rfl (by decide) rfl (Nat.le_of_ble_eq_true rfl) (Nat.le_of_ble_eq_true rfl) (Or.inl rfl) (qr_fitZ rfl (Or.inl rfl)) rfl ?_
            refine qy_wS (qw_s σ 86 15 0) rfl (fun σ21 e22 => ?_)
            have hI23 : qI σ21 α17 κ ρ := by rw [e22]; exact qI_s15z hI19
            have hF24 : qFr [(86, 11), (86, 15)] [94, 95] σ α σ21 α17 := by rw [e22]; exact qFr_s hF20 86 15 _ (by decide)
            refine qr_aload_n 70 rfl rfl rfl ?_
            refine qr_dup 71 rfl rfl rfl ?_
            refine qr_get 74 rfl rfl rfl (by decide) rfl ?_
            refine qy_v (σ 86 11) ((congrFun (congrFun e22 86) 11).trans rfl) ?_
            refine qr_iconst 75 rfl rfl ?_
            refine qr_iadd 76 rfl rfl ?_
            refine qr_put 79 rfl (by decide) rfl (Nat.le_of_ble_eq_true rfl) (Nat.le_of_ble_eq_true rfl) (Or.inl rfl) (qr_fitI rfl _) rfl ?_
            refine qy_wS (qw_s σ21 86 11 ((σ 86 11) + 1)) rfl (fun σ25 e26 => ?_)
            have hI27 : qI σ25 α17 κ ρ := by rw [e26]; exact qI_s11 hI23 (by omega) (by have hw : σ21 86 15 = 0 := (congrFun (congrFun e22 86) 15).trans rfl; omega) (qE_new hI23 (p := x1) (q := x2) (k := (σ 86 11 : Int).toNat) (by have hw : σ21 86 11 = σ 86 11 := (congrFun (congrFun e22 86) 11).trans rfl; omega) (by rw [e18, qw_r_ne (by decide), e14, qw_r_eq]; unfold qzu; rw [if_pos rfl]) (by rw [e18, qw_r_eq]; unfold qzu; rw [if_pos rfl]) (by have hw : σ21 86 6 = σ 86 6 := (congrFun (congrFun e22 86) 6).trans rfl; omega) (by have hw : σ21 86 6 = σ 86 6 := (congrFun (congrFun e22 86) 6).trans rfl; omega))
            have hF28 : qFr [(86, 11), (86, 15)] [94, 95] σ α σ25 α17 := by rw [e26]; exact qFr_s hF24 86 11 _ (by decide)
            refine qr_aload_n 80 rfl rfl rfl ?_
            refine qr_get 83 rfl rfl rfl (by decide) rfl ?_
            refine qy_v ((σ 86 11) + 1) ((congrFun (congrFun e26 86) 11).trans rfl) ?_
            refine qr_retI rfl rfl (by decide) (by decide) ?_
            exact ⟨_, _, rfl, hI27, hF28, (by have hw : σ25 86 11 = ((σ 86 11) + 1) := (congrFun (congrFun e26 86) 11).trans rfl; omega), ((σ 86 11) + 1), rfl, (by omega)⟩
          · skip
            refine qr_bipush 43 rfl (by decide) rfl ?_
            refine qr_retI rfl rfl (by decide) (by decide) ?_
            exact ⟨_, _, rfl, hI, hF0, (by have hw : σ 86 11 = (σ 86 11) := rfl; omega), (-3), rfl, (by decide)⟩
        · skip
          refine qr_iconst 31 rfl rfl ?_
          refine qr_retI rfl rfl (by decide) (by decide) ?_
          exact ⟨_, _, rfl, hI, hF0, (by have hw : σ 86 11 = (σ 86 11) := rfl; omega), (-1), rfl, (by decide)⟩

set_option maxHeartbeats 4000000 in
set_option maxRecDepth 20000 in
/-- OneRoofModel.pay -/
theorem sf_193_86 {L : Nat} {xs : Nat → Int} {vb : Bool} {d : Nat} {σ α : Nat → Nat → Int} {κ : Nat → Option Nat} {ρ : Nat} {x1 : Int} {x2 : Int} (hI : qI σ α κ ρ) (r1 : (-2147483648) ≤ x1 ∧ x1 ≤ 2147483647) (r2 : (-2147483648) ≤ x2 ∧ x2 ≤ 2147483647) : qm_T (qe L xs vb) (d + 2) 193 [.ref 86, .int (qz x1), .int (qz x2)] (qw σ α κ ρ) (fun r w' => ∃ σ' α', w' = qw σ' α' κ ρ ∧ qI σ' α' κ ρ ∧ qFr [(86, 4), (86, 5)] [87, 88, 89, 90] σ α σ' α' ∧ ∃ v : Int, r = some (.int (qz v)) ∧ ((-2147483648) ≤ v ∧ v ≤ 2147483647)) := by
  refine qr_start (d := d + 1) qv_e193 (Nat.le_of_ble_eq_true rfl) ?_
  show qr_W (qe L xs vb) (d + 1) qx_e193 _ (0, [(0, .ref 86), (1, .int (qz x1)), (2, .int (qz x2))], [], _, 0, 0)
  have hF0 := qFr_rf [(86, 4), (86, 5)] [87, 88, 89, 90] σ α
  refine qr_iload_n 1 rfl rfl rfl ?_
  refine qr_i2l 2 rfl r1 rfl ?_
  refine qr_lconst 3 rfl rfl ?_
  refine qy_vl 0 rfl ?_
  refine qr_aload_n 4 rfl rfl rfl ?_
  refine qr_get 7 rfl rfl rfl (by decide) rfl ?_
  have hs1 : 0 ≤ σ 86 16 ∧ σ 86 16 ≤ 40 := hI.1 86 16
  refine qr_iconst 8 rfl rfl ?_
  refine qr_isub 9 rfl rfl ?_
  refine qr_i2l 10 rfl (by omega) rfl ?_
  refine qr_callN 13 rfl rfl rfl (sf_176 (d := d + 0) hI (qrg r1 (by decide) (by decide)) (by decide) (by omega)) ?_
  rintro _ _ ⟨rfl, v2, rfl, hv2, hp3⟩
  show qr_W (qe L xs vb) (d + 1) qx_e193 _ (13, _, [.int (qz v2)], qw σ α κ ρ, 0, 0)
  refine qr_if_eq 40 16 rfl rfl rfl (qrg hv2 (by decide) (by decide)) (fun h4 => ?_) (fun h4 => ?_)
  · skip
    refine qr_iconst 41 rfl rfl ?_
    refine qr_retI rfl rfl (by decide) (by decide) ?_
    exact ⟨_, _, rfl, hI, hF0, (-1), rfl, (by decide)⟩
  · skip
    refine qr_iload_n 17 rfl rfl rfl ?_
    refine qr_i2l 18 rfl r2 rfl ?_
    refine qr_lconst 19 rfl rfl ?_
    refine qy_vl 0 rfl ?_
    refine qr_ldc2 2400 22 rfl (by decide) rfl ?_
    refine qr_callN 25 rfl rfl rfl (sf_176 (d := d + 0) hI (qrg r2 (by decide) (by decide)) (by decide) (by decide)) ?_
    rintro _ _ ⟨rfl, v5, rfl, hv5, hp6⟩
    show qr_W (qe L xs vb) (d + 1) qx_e193 _ (25, _, [.int (qz v5)], qw σ α κ ρ, 0, 0)
    refine qr_if_eq 40 28 rfl rfl rfl (qrg hv5 (by decide) (by decide)) (fun h7 => ?_) (fun h7 => ?_)
    · skip
      refine qr_iconst 41 rfl rfl ?_
      refine qr_retI rfl rfl (by decide) (by decide) ?_
      exact ⟨_, _, rfl, hI, hF0, (-1), rfl, (by decide)⟩
    · skip
      refine qr_aload_n 29 rfl rfl rfl ?_
      refine qr_bipush 31 rfl (by decide) rfl ?_
      refine qr_iload_n 32 rfl rfl rfl ?_
      refine qr_iadd 33 rfl rfl ?_
      refine qr_iload_n 34 rfl rfl rfl ?_
      refine qr_callN 37 rfl rfl rfl (sf_183_86 (d := d + 0) hI (by omega) r2) ?_
      rintro _ _ ⟨σ9, α10, rfl, hI11, hG12, v8, rfl, hv8⟩
      have hF13 : qFr [(86, 4), (86, 5)] [87, 88, 89, 90] σ α σ9 α10 := qFr_t hF0 hG12 (by decide) (by decide)
      show qr_W (qe L xs vb) (d + 1) qx_e193 _ (37, _, [.int (qz v8)], qw σ9 α10 κ ρ, 0, 0)
      refine qr_goto 41 rfl rfl ?_
      refine qr_retI rfl rfl (by decide) (by decide) ?_
      exact ⟨_, _, rfl, hI11, hF13, v8, rfl, hv8⟩

set_option maxHeartbeats 4000000 in
set_option maxRecDepth 20000 in
/-- OneRoofModel.isOpen -/
theorem sf_196_86 {L : Nat} {xs : Nat → Int} {vb : Bool} {d : Nat} {σ α : Nat → Nat → Int} {κ : Nat → Option Nat} {ρ : Nat} {x1 : Int} {x2 : Int} (hI : qI σ α κ ρ) (r1 : 0 ≤ x1 ∧ x1 ≤ 39) (r2 : (-2147483648) ≤ x2 ∧ x2 ≤ 2147483647) : qm_T (qe L xs vb) (d + 1) 196 [.ref 86, .int (qz x1), .int (qz x2)] (qw σ α κ ρ) (fun r w' => w' = qw σ α κ ρ ∧ ∃ v : Int, r = some (.int (qz v)) ∧ (0 ≤ v ∧ v ≤ 1)) := by
  refine qr_start (d := d + 0) qv_e196 (Nat.le_of_ble_eq_true rfl) ?_
  show qr_W (qe L xs vb) (d + 0) qx_e196 _ (0, [(0, .ref 86), (1, .int (qz x1)), (2, .int (qz x2))], [], _, 0, 0)
  refine qr_aload_n 1 rfl rfl rfl ?_
  refine qr_get 4 rfl rfl rfl (by decide) rfl ?_
  refine qr_iload_n 5 rfl rfl rfl ?_
  refine qr_iaload 6 rfl rfl (qrgi r1 (by decide) (by decide)) (by decide) rfl ?_
  refine qr_topI (fun v1 hv1 => ?_)
  have hs2 : (-2147483648) ≤ v1 ∧ v1 ≤ 2147483647 := by rw [hv1]; exact hI.2.1 99 _ (show _ < 40 from qrgt r1 (by decide) (by decide))
  refine qr_iload_n 7 rfl rfl rfl ?_
  refine qr_icmp_gt 55 10 rfl rfl rfl hs2 r2 (fun h3 => ?_) (fun h3 => ?_)
  · skip
    refine qr_iconst 56 rfl rfl ?_
    refine qr_retZ rfl rfl (Or.inl rfl) (by decide) (by decide) ?_
    exact ⟨rfl, 0, rfl, (by decide)⟩
  · skip
    refine qr_aload_n 11 rfl rfl rfl ?_
    refine qr_get 14 rfl rfl rfl (by decide) rfl ?_
    refine qr_bipush 16 rfl (by decide) rfl ?_
    refine qr_iload_n 17 rfl rfl rfl ?_
    refine qr_iadd 18 rfl rfl ?_
    refine qr_iaload 19 rfl rfl (by omega) (by decide) rfl ?_
    refine qr_topI (fun v4 hv4 => ?_)
    have hs5 : (-2147483648) ≤ v4 ∧ v4 ≤ 2147483647 := by rw [hv4]; exact hI.2.1 87 _ (show _ < 252 by omega)
    refine qr_sipush 22 rfl (by decide) rfl ?_
    refine qr_icmp_eq 38 25 rfl rfl rfl hs5 (by decide) (fun h6 => ?_) (fun h6 => ?_)
    · skip
      refine qr_aload_n 39 rfl rfl rfl ?_
      refine qr_get 42 rfl rfl rfl (by decide) rfl ?_
      have hs7 : (-9223372036854775808) ≤ σ 86 22 ∧ σ 86 22 ≤ 9223372036854775807 := hI.1 86 22
      refine qr_iload_n 43 rfl rfl rfl ?_
      refine qr_lshr 44 rfl rfl ?_
      refine qy_canl (fun v8 hv8 => ?_)
      refine qr_lconst 45 rfl rfl ?_
      refine qy_vl 1 rfl ?_
      refine qr_land 46 rfl rfl ?_
      refine qy_canl (fun v9 hv9 => ?_)
      refine qr_lconst 47 rfl rfl ?_
      refine qy_vl 0 rfl ?_
      refine qr_lc_ne 55 51 rfl rfl rfl rfl hv9 (by decide) (fun h10 => ?_) (fun h10 => ?_)
      · skip
        refine qr_iconst 56 rfl rfl ?_
        refine qr_retZ rfl rfl (Or.inl rfl) (by decide) (by decide) ?_
        exact ⟨rfl, 0, rfl, (by decide)⟩
      · skip
        refine qr_iconst 52 rfl rfl ?_
        refine qr_goto 56 rfl rfl ?_
        refine qr_retZ rfl rfl (Or.inr rfl) (by decide) (by decide) ?_
        exact ⟨rfl, 1, rfl, (by decide)⟩
    · skip
      refine qr_iload_n 26 rfl rfl rfl ?_
      refine qr_aload_n 27 rfl rfl rfl ?_
      refine qr_get 30 rfl rfl rfl (by decide) rfl ?_
      refine qr_bipush 32 rfl (by decide) rfl ?_
      refine qr_iload_n 33 rfl rfl rfl ?_
      refine qr_iadd 34 rfl rfl ?_
      refine qr_iaload 35 rfl rfl (by omega) (by decide) rfl ?_
      refine qr_topI (fun v11 hv11 => ?_)
      have hs12 : (-2147483648) ≤ v11 ∧ v11 ≤ 2147483647 := by rw [hv11]; exact hI.2.1 87 _ (show _ < 252 by omega)
      refine qr_icmp_ge 55 38 rfl rfl rfl r2 hs12 (fun h13 => ?_) (fun h13 => ?_)
      · skip
        refine qr_iconst 56 rfl rfl ?_
        refine qr_retZ rfl rfl (Or.inl rfl) (by decide) (by decide) ?_
        exact ⟨rfl, 0, rfl, (by decide)⟩
      · skip
        refine qr_aload_n 39 rfl rfl rfl ?_
        refine qr_get 42 rfl rfl rfl (by decide) rfl ?_
        have hs14 : (-9223372036854775808) ≤ σ 86 22 ∧ σ 86 22 ≤ 9223372036854775807 := hI.1 86 22
        refine qr_iload_n 43 rfl rfl rfl ?_
        refine qr_lshr 44 rfl rfl ?_
        refine qy_canl (fun v15 hv15 => ?_)
        refine qr_lconst 45 rfl rfl ?_
        refine qy_vl 1 rfl ?_
        refine qr_land 46 rfl rfl ?_
        refine qy_canl (fun v16 hv16 => ?_)
        refine qr_lconst 47 rfl rfl ?_
        refine qy_vl 0 rfl ?_
        refine qr_lc_ne 55 51 rfl rfl rfl rfl hv16 (by decide) (fun h17 => ?_) (fun h17 => ?_)
        · skip
          refine qr_iconst 56 rfl rfl ?_
          refine qr_retZ rfl rfl (Or.inl rfl) (by decide) (by decide) ?_
          exact ⟨rfl, 0, rfl, (by decide)⟩
        · skip
          refine qr_iconst 52 rfl rfl ?_
          refine qr_goto 56 rfl rfl ?_
          refine qr_retZ rfl rfl (Or.inr rfl) (by decide) (by decide) ?_
          exact ⟨rfl, 1, rfl, (by decide)⟩

set_option maxHeartbeats 4000000 in
set_option maxRecDepth 20000 in
/-- OneRoofModel.kindOf -/
theorem sf_201_86 {L : Nat} {xs : Nat → Int} {vb : Bool} {d : Nat} {σ α : Nat → Nat → Int} {κ : Nat → Option Nat} {ρ : Nat} {x1 : Int} (hI : qI σ α κ ρ) (r1 : 0 ≤ x1 ∧ x1 ≤ 59) : qm_T (qe L xs vb) (d + 1) 201 [.ref 86, .int (qz x1)] (qw σ α κ ρ) (fun r w' => w' = qw σ α κ ρ ∧ ∃ v : Int, r = some (.int (qz v)) ∧ ((-2147483648) ≤ v ∧ v ≤ 2147483647)) := by
  refine qr_start (d := d + 0) qv_e201 (Nat.le_of_ble_eq_true rfl) ?_
  show qr_W (qe L xs vb) (d + 0) qx_e201 _ (0, [(0, .ref 86), (1, .int (qz x1))], [], _, 0, 0)
  refine qr_aload_n 1 rfl rfl rfl ?_
  refine qr_get 4 rfl rfl rfl (by decide) rfl ?_
  refine qr_sipush 7 rfl (by decide) rfl ?_
  refine qr_iload_n 8 rfl rfl rfl ?_
  refine qr_iadd 9 rfl rfl ?_
  refine qr_iaload 10 rfl rfl (by omega) (by decide) rfl ?_
  refine qr_topI (fun v1 hv1 => ?_)
  have hs2 : (-2147483648) ≤ v1 ∧ v1 ≤ 2147483647 := by rw [hv1]; exact hI.2.1 87 _ (show _ < 252 by omega)
  refine qr_retI rfl rfl (by decide) (by decide) ?_
  exact ⟨rfl, v1, rfl, hs2⟩

set_option maxHeartbeats 4000000 in
set_option maxRecDepth 20000 in
/-- OneRoofModel.covers -/
theorem sf_202_86 {L : Nat} {xs : Nat → Int} {vb : Bool} {d : Nat} {σ α : Nat → Nat → Int} {κ : Nat → Option Nat} {ρ : Nat} {x1 : Int} {x2 : Int} (hI : qI σ α κ ρ) (r1 : 0 ≤ x1 ∧ x1 ≤ 59) (r2 : 0 ≤ x2 ∧ x2 ≤ 31) : qm_T (qe L xs vb) (d + 1) 202 [.ref 86, .int (qz x1), .int (qz x2)] (qw σ α κ ρ) (fun r w' => w' = qw σ α κ ρ ∧ ∃ v : Int, r = some (.int (qz v)) ∧ (0 ≤ v ∧ v ≤ 1)) := by
  refine qr_start (d := d + 0) qv_e202 (Nat.le_of_ble_eq_true rfl) ?_
  show qr_W (qe L xs vb) (d + 0) qx_e202 _ (0, [(0, .ref 86), (1, .int (qz x1)), (2, .int (qz x2))], [], _, 0, 0)
  refine qr_aload_n 1 rfl rfl rfl ?_
  refine qr_get 4 rfl rfl rfl (by decide) rfl ?_
  refine qr_bipush 6 rfl (by decide) rfl ?_
  refine qr_iconst 7 rfl rfl ?_
  refine qr_iload_n 8 rfl rfl rfl ?_
  refine qr_imul 9 rfl rfl ?_
  refine qr_iadd 10 rfl rfl ?_
  refine qr_iload_n 11 rfl rfl rfl ?_
  refine qr_bipush 13 rfl (by decide) rfl ?_
  refine qr_idiv 14 rfl (qrg r2 (by decide) (by decide)) (by decide) rfl ?_
  refine qr_iadd 15 rfl rfl ?_
  refine qr_iaload 16 rfl rfl (by omega) (by decide) rfl ?_
  refine qr_topI (fun v1 hv1 => ?_)
  have hs2 : (-2147483648) ≤ v1 ∧ v1 ≤ 2147483647 := by rw [hv1]; exact hI.2.1 87 _ (show _ < 252 by omega)
  refine qr_iload_n 17 rfl rfl rfl ?_
  refine qr_bipush 19 rfl (by decide) rfl ?_
  refine qr_irem 20 rfl (qrg r2 (by decide) (by decide)) (by decide) rfl ?_
  refine qr_ishr 21 rfl rfl ?_
  refine qy_can (fun v3 hv3 => ?_)
  refine qr_iconst 22 rfl rfl ?_
  refine qr_iand 23 rfl rfl ?_
  refine qy_andr (by omega) (fun v4 hv4 => ?_)
  refine qr_iconst 24 rfl rfl ?_
  refine qr_icmp_ne 31 27 rfl rfl rfl (by omega) (by decide) (fun h5 => ?_) (fun h5 => ?_)
  · skip
    refine qr_iconst 32 rfl rfl ?_
    refine qr_retZ rfl rfl (Or.inl rfl) (by decide) (by decide) ?_
    exact ⟨rfl, 0, rfl, (by decide)⟩
  · skip
    refine qr_iconst 28 rfl rfl ?_
    refine qr_goto 32 rfl rfl ?_
    refine qr_retZ rfl rfl (Or.inr rfl) (by decide) (by decide) ?_
    exact ⟨rfl, 1, rfl, (by decide)⟩

set_option maxHeartbeats 4000000 in
set_option maxRecDepth 20000 in
/-- OneRoofModel.ofPeace -/
theorem sf_199_86 {L : Nat} {xs : Nat → Int} {vb : Bool} {d : Nat} {σ α : Nat → Nat → Int} {κ : Nat → Option Nat} {ρ : Nat} {x1 : Int} {x2 : Int} (hI : qI σ α κ ρ) (r1 : (-2147483648) ≤ x1 ∧ x1 ≤ 2147483647) (r2 : (-2147483648) ≤ x2 ∧ x2 ≤ 2147483647) : qm_T (qe L xs vb) (d + 3) 199 [.ref 86, .int (qz x1), .int (qz x2)] (qw σ α κ ρ) (fun r w' => w' = qw σ α κ ρ ∧ ∃ v : Int, r = some (.int (qz v)) ∧ ((-2147483648) ≤ v ∧ v ≤ 2147483647)) := by
  refine qr_start (d := d + 2) qv_e199 (Nat.le_of_ble_eq_true rfl) ?_
  show qr_W (qe L xs vb) (d + 2) qx_e199 _ (0, [(0, .ref 86), (1, .int (qz x1)), (2, .int (qz x2))], [], _, 0, 0)
  refine qr_aload_n 1 rfl rfl rfl ?_
  refine qr_iload_n 2 rfl rfl rfl ?_
  refine qr_callN 5 rfl rfl rfl (sf_200_86 (d := d + 0) hI r1) ?_
  have hs3 : 0 ≤ σ 86 24 ∧ σ 86 24 ≤ 60 := hI.1 86 24
  rintro _ _ ⟨rfl, v1, rfl, hv1, hp2⟩
  show qr_W (qe L xs vb) (d + 2) qx_e199 _ (5, _, [.int (qz v1)], qw σ α κ ρ, 0, 0)
  refine qr_if_ne 10 8 rfl rfl rfl (qrg hv1 (by decide) (by decide)) (fun h4 => ?_) (fun h4 => ?_)
  · skip
    refine qr_iload_n 11 rfl rfl rfl ?_
    have h5 : x2 = 0 ∨ x2 = 1 ∨ x2 = 2 ∨ x2 = 3 ∨ x2 = 4 ∨ x2 = 5 ∨ (x2 < 0 ∨ 5 < x2) := by omega
    rcases h5 with h5 | h5 | h5 | h5 | h5 | h5 | h5
    · skip
      refine qr_tabIn 48 rfl r2 (by rw [h5]; decide) (by rw [h5]; rfl) rfl ?_
      refine qr_aload_n 49 rfl rfl rfl ?_
      refine qr_iload_n 50 rfl rfl rfl ?_
      refine qr_callN 53 rfl rfl rfl (sf_201_86 (d := d + 1) hI (by omega)) ?_
      rintro _ _ ⟨rfl, v7, rfl, hv7⟩
      show qr_W (qe L xs vb) (d + 2) qx_e199 _ (53, _, [.int (qz v7)], qw σ α κ ρ, 0, 0)
      refine qr_retI rfl rfl (by decide) (by decide) ?_
      exact ⟨rfl, v7, rfl, hv7⟩
    · skip
      refine qr_tabIn 54 rfl r2 (by rw [h5]; decide) (by rw [h5]; rfl) rfl ?_
      refine qr_aload_n 55 rfl rfl rfl ?_
      refine qr_get 58 rfl rfl rfl (by decide) rfl ?_
      refine qr_iload_n 59 rfl rfl rfl ?_
      refine qr_iaload 60 rfl rfl (by omega) (by decide) rfl ?_
      refine qr_topI (fun v8 hv8 => ?_)
      have hs9 : 0 ≤ v8 ∧ v8 ≤ 31 := by rw [hv8]; exact hI.2.1 102 _ (show _ < 60 by omega)
      refine qr_retI rfl rfl (by decide) (by decide) ?_
      exact ⟨rfl, v8, rfl, (qrg hs9 (by decide) (by decide))⟩
    · skip
      refine qr_tabIn 61 rfl r2 (by rw [h5]; decide) (by rw [h5]; rfl) rfl ?_
      refine qr_aload_n 62 rfl rfl rfl ?_
      refine qr_get 65 rfl rfl rfl (by decide) rfl ?_
      refine qr_iload_n 66 rfl rfl rfl ?_
      refine qr_iaload 67 rfl rfl (by omega) (by decide) rfl ?_
      refine qr_topI (fun v10 hv10 => ?_)
      have hs11 : (-2147483648) ≤ v10 ∧ v10 ≤ 2147483647 := by rw [hv10]; exact hI.2.1 103 _ (show _ < 60 by omega)
      refine qr_retI rfl rfl (by decide) (by decide) ?_
      exact ⟨rfl, v10, rfl, hs11⟩
    · skip
      refine qr_tabIn 68 rfl r2 (by rw [h5]; decide) (by rw [h5]; rfl) rfl ?_
      refine qr_aload_n 69 rfl rfl rfl ?_
      refine qr_get 72 rfl rfl rfl (by decide) rfl ?_
      refine qr_iload_n 73 rfl rfl rfl ?_
      refine qr_iaload 74 rfl rfl (by omega) (by decide) rfl ?_
      refine qr_topI (fun v12 hv12 => ?_)
      have hs13 : (-2147483648) ≤ v12 ∧ v12 ≤ 2147483647 := by rw [hv12]; exact hI.2.1 104 _ (show _ < 60 by omega)
      refine qr_retI rfl rfl (by decide) (by decide) ?_
      exact ⟨rfl, v12, rfl, hs13⟩
    · skip
      refine qr_tabIn 75 rfl r2 (by rw [h5]; decide) (by rw [h5]; rfl) rfl ?_
      refine qr_aload_n 76 rfl rfl rfl ?_
      refine qr_get 79 rfl rfl rfl (by decide) rfl ?_
      refine qr_iload_n 80 rfl rfl rfl ?_
      refine qr_iaload 81 rfl rfl (by omega) (by decide) rfl ?_
      refine qr_topI (fun v14 hv14 => ?_)
      have hs15 : (-2147483648) ≤ v14 ∧ v14 ≤ 2147483647 := by rw [hv14]; exact hI.2.1 105 _ (show _ < 60 by omega)
      refine qr_retI rfl rfl (by decide) (by decide) ?_
      exact ⟨rfl, v14, rfl, hs15⟩
    · skip
      refine qr_tabIn 82 rfl r2 (by rw [h5]; decide) (by rw [h5]; rfl) rfl ?_
      refine qr_iconst 83 rfl rfl ?_
      refine qr_istore_n _ 84 rfl (by decide) rfl rfl ?_
      refine qr_iconst 85 rfl rfl ?_
      refine qr_istore _ 87 rfl (by decide) rfl rfl ?_
      have hL479 : ∀ (n : Nat) (ls : qm_L) (u474 u476 : Int), 32 - u476 < (n : Int) → qm_get ls 0 = some (.ref 86) → qm_get ls 1 = some (.int (qz x1)) → qm_get ls 3 = some (.int (qz u474)) → qm_get ls 4 = some (.int (qz u476)) → ((-2147483648) ≤ u474 ∧ u474 ≤ 2147483647) → (0 ≤ u476 ∧ u476 ≤ 32) → qr_W (qe L xs vb) (d + 2) qx_e199 (fun r w' => w' = qw σ α κ ρ ∧ ∃ v : Int, r = some (.int (qz v)) ∧ ((-2147483648) ≤ v ∧ v ≤ 2147483647)) (87, ls, [], qw σ α κ ρ, 0, 0) := by
        intro n
        induction n with
        | zero => intro ls u474 u476 hm g471 g472 g473 g475 hf477 hf478; exact False.elim (by omega)
        | succ n ih480 =>
          intro ls u474 u476 hm g471 g472 g473 g475 hf477 hf478
          refine qr_iload 89 rfl g475 rfl ?_
          refine qr_bipush 91 rfl (by decide) rfl ?_
          refine qr_icmp_ge 118 94 rfl rfl rfl (qrg hf478 (by decide) (by decide)) (by decide) (fun h481 => ?_) (fun h481 => ?_)
          · skip
            refine qr_iload_n 119 rfl g473 rfl ?_
            refine qr_retI rfl rfl (by decide) (by decide) ?_
            exact ⟨rfl, u474, rfl, hf477⟩
          · skip
            refine qr_iload_n 95 rfl g473 rfl ?_
            refine qr_aload_n 96 rfl g471 rfl ?_
            refine qr_iload_n 97 rfl g472 rfl ?_
            refine qr_iload 99 rfl g475 rfl ?_
            refine qr_callN 102 rfl rfl rfl (sf_202_86 (d := d + 1) hI (by omega) (by omega)) ?_
            rintro _ _ ⟨rfl, v482, rfl, hv482⟩
            show qr_W (qe L xs vb) (d + 2) qx_e199 _ (102, _, [.int (qz v482), .int (qz u474)], qw σ α κ ρ, 0, 0)
            have hJ488 : ∀ (ls : qm_L) (u486 : Int), qm_get ls 0 = some (.ref 86) → qm_get ls 1 = some (.int (qz x1)) → qm_get ls 4 = some (.int (qz u476)) → (0 ≤ u486 ∧ u486 ≤ 1) → qr_W (qe L xs vb) (d + 2) qx_e199 (fun r w' => w' = qw σ α κ ρ ∧ ∃ v : Int, r = some (.int (qz v)) ∧ ((-2147483648) ≤ v ∧ v ≤ 2147483647)) (110, ls, [.int (qz u486), .int (qz u474)], qw σ α κ ρ, 0, 0) := by
              intro ls u486 g483 g484 g485 hf487
              refine qr_iadd 111 rfl rfl ?_
              refine qy_can (fun v489 hv489 => ?_)
              refine qr_istore_n _ 112 rfl (by decide) rfl rfl ?_
              refine qr_iinc _ 115 rfl (qm_gk g485 (by decide) (Or.inl (by decide))) (by decide) rfl rfl ?_
              refine qr_goto 87 rfl rfl ?_
              exact ih480 _ v489 (u476 + 1) (by omega) (qm_gk (qm_gk g483 (by decide) (Or.inl (by decide))) (by decide) (Or.inl (by decide))) (qm_gk (qm_gk g484 (by decide) (Or.inl (by decide))) (by decide) (Or.inl (by decide))) (qm_gk (qm_ge _ _ _) (by decide) (Or.inr rfl)) (qm_ge _ _ _) hv489 (by omega)
            refine qr_if_eq 109 105 rfl rfl rfl (qrg hv482 (by decide) (by decide)) (fun h490 => ?_) (fun h490 => ?_)
            · skip
              refine qr_iconst 110 rfl rfl ?_
              exact hJ488 _ 0 g471 g472 g475 (by decide)
            · skip
              refine qr_iconst 106 rfl rfl ?_
              refine qr_goto 110 rfl rfl ?_
              exact hJ488 _ 1 g471 g472 g475 (by decide)
      exact hL479 ((32 - 0 + 1 : Int)).toNat _ 0 0 (by omega) rfl rfl rfl rfl (by decide) (by decide)
    · skip
      refine qr_tabOut 120 rfl r2 (by omega) rfl ?_
      refine qr_iconst 121 rfl rfl ?_
      refine qr_retI rfl rfl (by decide) (by decide) ?_
      exact ⟨rfl, (-1), rfl, (by decide)⟩
  · skip
    refine qr_iconst 9 rfl rfl ?_
    refine qr_retI rfl rfl (by decide) (by decide) ?_
    exact ⟨rfl, (-1), rfl, (by decide)⟩

set_option maxHeartbeats 4000000 in
set_option maxRecDepth 20000 in
/-- OneRoofModel.cover -/
theorem sf_203_86 {L : Nat} {xs : Nat → Int} {vb : Bool} {d : Nat} {σ α : Nat → Nat → Int} {κ : Nat → Option Nat} {ρ : Nat} {x1 : Int} {x2 : Int} {x3 : Int} (hI : qI σ α κ ρ) (r1 : (-2147483648) ≤ x1 ∧ x1 ≤ 2147483647) (r2 : (-2147483648) ≤ x2 ∧ x2 ≤ 2147483647) (r3 : (-2147483648) ≤ x3 ∧ x3 ≤ 2147483647) : qm_T (qe L xs vb) (d + 3) 203 [.ref 86, .int (qz x1), .int (qz x2), .int (qz x3)] (qw σ α κ ρ) (fun r w' => ∃ σ' α', w' = qw σ' α' κ ρ ∧ qI σ' α' κ ρ ∧ qFr [(86, 4), (86, 5)] [87, 88, 89, 90] σ α σ' α' ∧ ∃ v : Int, r = some (.int (qz v)) ∧ ((-2147483648) ≤ v ∧ v ≤ 2147483647)) := by
  refine qr_start (d := d + 2) qv_e203 (Nat.le_of_ble_eq_true rfl) ?_
  show qr_W (qe L xs vb) (d + 2) qx_e203 _ (0, [(0, .ref 86), (1, .int (qz x1)), (2, .int (qz x2)), (3, .int (qz x3))], [], _, 0, 0)
  have hF0 := qFr_rf [(86, 4), (86, 5)] [87, 88, 89, 90] σ α
  refine qr_aload_n 1 rfl rfl rfl ?_
  refine qr_iload_n 2 rfl rfl rfl ?_
  refine qr_callN 5 rfl rfl rfl (sf_200_86 (d := d + 0) hI r1) ?_
  have hs3 : 0 ≤ σ 86 24 ∧ σ 86 24 ≤ 60 := hI.1 86 24
  rintro _ _ ⟨rfl, v1, rfl, hv1, hp2⟩
  show qr_W (qe L xs vb) (d + 2) qx_e203 _ (5, _, [.int (qz v1)], qw σ α κ ρ, 0, 0)
  refine qr_if_eq 26 8 rfl rfl rfl (qrg hv1 (by decide) (by decide)) (fun h4 => ?_) (fun h4 => ?_)
  · skip
    refine qr_iconst 27 rfl rfl ?_
    refine qr_retI rfl rfl (by decide) (by decide) ?_
    exact ⟨_, _, rfl, hI, hF0, (-1), rfl, (by decide)⟩
  · skip
    refine qr_aload_n 9 rfl rfl rfl ?_
    refine qr_iload_n 10 rfl rfl rfl ?_
    refine qr_callN 13 rfl rfl rfl (sf_180_86 (d := d + 0) hI r2) ?_
    have hs7 : 0 ≤ σ 86 6 ∧ σ 86 6 ≤ 32 := hI.1 86 6
    rintro _ _ ⟨rfl, v5, rfl, hv5, hp6⟩
    show qr_W (qe L xs vb) (d + 2) qx_e203 _ (13, _, [.int (qz v5)], qw σ α κ ρ, 0, 0)
    refine qr_if_eq 26 16 rfl rfl rfl (qrg hv5 (by decide) (by decide)) (fun h8 => ?_) (fun h8 => ?_)
    · skip
      refine qr_iconst 27 rfl rfl ?_
      refine qr_retI rfl rfl (by decide) (by decide) ?_
      exact ⟨_, _, rfl, hI, hF0, (-1), rfl, (by decide)⟩
    · skip
      refine qr_iload_n 17 rfl rfl rfl ?_
      refine qr_i2l 18 rfl r3 rfl ?_
      refine qr_lconst 19 rfl rfl ?_
      refine qy_vl 0 rfl ?_
      refine qr_lconst 20 rfl rfl ?_
      refine qy_vl 1 rfl ?_
      refine qr_callN 23 rfl rfl rfl (sf_176 (d := d + 1) hI (qrg r3 (by decide) (by decide)) (by decide) (by decide)) ?_
      rintro _ _ ⟨rfl, v9, rfl, hv9, hp10⟩
      show qr_W (qe L xs vb) (d + 2) qx_e203 _ (23, _, [.int (qz v9)], qw σ α κ ρ, 0, 0)
      refine qr_if_ne 28 26 rfl rfl rfl (qrg hv9 (by decide) (by decide)) (fun h11 => ?_) (fun h11 => ?_)
      · skip
        refine qr_aload_n 29 rfl rfl rfl ?_
        refine qr_iload_n 30 rfl rfl rfl ?_
        refine qr_iload_n 31 rfl rfl rfl ?_
        refine qr_callN 34 rfl rfl rfl (sf_202_86 (d := d + 1) hI (by omega) (by omega)) ?_
        rintro _ _ ⟨rfl, v12, rfl, hv12⟩
        show qr_W (qe L xs vb) (d + 2) qx_e203 _ (34, _, [.int (qz v12)], qw σ α κ ρ, 0, 0)
        have hJ19 : ∀ (ls : qm_L) (u17 : Int), qm_get ls 0 = some (.ref 86) → qm_get ls 1 = some (.int (qz x1)) → qm_get ls 2 = some (.int (qz x2)) → qm_get ls 3 = some (.int (qz x3)) → (0 ≤ u17 ∧ u17 ≤ 1) → qr_W (qe L xs vb) (d + 2) qx_e203 (fun r w' => ∃ σ' α', w' = qw σ' α' κ ρ ∧ qI σ' α' κ ρ ∧ qFr [(86, 4), (86, 5)] [87, 88, 89, 90] σ α σ' α' ∧ ∃ v : Int, r = some (.int (qz v)) ∧ ((-2147483648) ≤ v ∧ v ≤ 2147483647)) (42, ls, [.int (qz u17)], qw σ α κ ρ, 0, 0) := by
          intro ls u17 g13 g14 g15 g16 hf18
          refine qr_istore _ 44 rfl (by decide) rfl rfl ?_
          refine qr_bipush 46 rfl (by decide) rfl ?_
          refine qr_iconst 47 rfl rfl ?_
          refine qr_iload_n 48 rfl (qm_gk g14 (by decide) (Or.inl (by decide))) rfl ?_
          refine qr_imul 49 rfl rfl ?_
          refine qr_iadd 50 rfl rfl ?_
          refine qr_iload_n 51 rfl (qm_gk g15 (by decide) (Or.inl (by decide))) rfl ?_
          refine qr_bipush 53 rfl (by decide) rfl ?_
          refine qr_idiv 54 rfl (by omega) (by decide) rfl ?_
          refine qr_iadd 55 rfl rfl ?_
          refine qr_istore _ 57 rfl (by decide) rfl rfl ?_
          refine qr_iload_n 58 rfl (qm_gk (qm_gk g16 (by decide) (Or.inr rfl)) (by decide) (Or.inl (by decide))) rfl ?_
          refine qr_iconst 59 rfl rfl ?_
          have hJ34 : ∀ (ls : qm_L) (u32 : Int), qm_get ls 0 = some (.ref 86) → qm_get ls 4 = some (.int (qz u17)) → qm_get ls 5 = some (.int (qz ((72 + (2 * x1)) + (x2 / 16)))) → ((-2147483648) ≤ u32 ∧ u32 ≤ 2147483647) → qr_W (qe L xs vb) (d + 2) qx_e203 (fun r w' => ∃ σ' α', w' = qw σ' α' κ ρ ∧ qI σ' α' κ ρ ∧ qFr [(86, 4), (86, 5)] [87, 88, 89, 90] σ α σ' α' ∧ ∃ v : Int, r = some (.int (qz v)) ∧ ((-2147483648) ≤ v ∧ v ≤ 2147483647)) (95, ls, [.int (qz u32)], qw σ α κ ρ, 0, 0) := by
            intro ls u32 g29 g30 g31 hf33
            refine qr_istore _ 97 rfl (by decide) rfl rfl ?_
            refine qr_aload_n 98 rfl (qm_gk g29 (by decide) (Or.inl (by decide))) rfl ?_
            refine qr_iload 100 rfl (qm_gk g31 (by decide) (Or.inr rfl)) rfl ?_
            refine qr_iload 102 rfl (qm_ge _ _ _) rfl ?_
            refine qr_callN 105 rfl rfl rfl (sf_183_86 (d := d + 1) hI (by omega) hf33) ?_
            rintro _ _ ⟨σ36, α37, rfl, hI38, hG39, v35, rfl, hv35⟩
            have hF40 : qFr [(86, 4), (86, 5)] [87, 88, 89, 90] σ α σ36 α37 := qFr_t hF0 hG39 (by decide) (by decide)
            show qr_W (qe L xs vb) (d + 2) qx_e203 _ (105, _, [.int (qz v35)], qw σ36 α37 κ ρ, 0, 0)
            refine qr_istore _ 107 rfl (by decide) rfl rfl ?_
            refine qr_iload 109 rfl (qm_gk (qm_gk g30 (by decide) (Or.inl (by decide))) (by decide) (Or.inl (by decide))) rfl ?_
            refine qr_retI rfl rfl (by decide) (by decide) ?_
            exact ⟨_, _, rfl, hI38, hF40, u17, rfl, (qrg hf18 (by decide) (by decide))⟩
          refine qr_icmp_ne 79 62 rfl rfl rfl r3 (by decide) (fun h41 => ?_) (fun h41 => ?_)
          · skip
            refine qr_aload_n 80 rfl (qm_gk (qm_gk g13 (by decide) (Or.inl (by decide))) (by decide) (Or.inl (by decide))) rfl ?_
            refine qr_get 83 rfl rfl rfl (by decide) rfl ?_
            refine qr_iload 85 rfl (qm_ge _ _ _) rfl ?_
            refine qr_iaload 86 rfl rfl (by omega) (by decide) rfl ?_
            refine qr_topI (fun v42 hv42 => ?_)
            have hs43 : (-2147483648) ≤ v42 ∧ v42 ≤ 2147483647 := by rw [hv42]; exact hI.2.1 87 _ (show _ < 252 by omega)
            refine qr_iconst 87 rfl rfl ?_
            refine qr_iload_n 88 rfl (qm_gk (qm_gk g15 (by decide) (Or.inl (by decide))) (by decide) (Or.inl (by decide))) rfl ?_
            refine qr_bipush 90 rfl (by decide) rfl ?_
            refine qr_irem 91 rfl (by omega) (by decide) rfl ?_
            refine qr_ishl 92 rfl rfl ?_
            refine qy_can (fun v44 hv44 => ?_)
            refine qr_iconst 93 rfl rfl ?_
            refine qr_ixor 94 rfl rfl ?_
            refine qy_can (fun v45 hv45 => ?_)
            refine qr_iand 95 rfl rfl ?_
            refine qy_can (fun v46 hv46 => ?_)
            exact hJ34 _ v46 (qm_gk (qm_gk g13 (by decide) (Or.inl (by decide))) (by decide) (Or.inl (by decide))) (qm_gk (qm_ge _ _ _) (by decide) (Or.inr rfl)) (qm_ge _ _ _) hv46
          · skip
            refine qr_aload_n 63 rfl (qm_gk (qm_gk g13 (by decide) (Or.inl (by decide))) (by decide) (Or.inl (by decide))) rfl ?_
            refine qr_get 66 rfl rfl rfl (by decide) rfl ?_
            refine qr_iload 68 rfl (qm_ge _ _ _) rfl ?_
            refine qr_iaload 69 rfl rfl (by omega) (by decide) rfl ?_
            refine qr_topI (fun v47 hv47 => ?_)
            have hs48 : (-2147483648) ≤ v47 ∧ v47 ≤ 2147483647 := by rw [hv47]; exact hI.2.1 87 _ (show _ < 252 by omega)
            refine qr_iconst 70 rfl rfl ?_
            refine qr_iload_n 71 rfl (qm_gk (qm_gk g15 (by decide) (Or.inl (by decide))) (by decide) (Or.inl (by decide))) rfl ?_
            refine qr_bipush 73 rfl (by decide) rfl ?_
            refine qr_irem 74 rfl (by omega) (by decide) rfl ?_
            refine qr_ishl 75 rfl rfl ?_
            refine qy_can (fun v49 hv49 => ?_)
            refine qr_ior 76 rfl rfl ?_
            refine qy_can (fun v50 hv50 => ?_)
            refine qr_goto 95 rfl rfl ?_
            exact hJ34 _ v50 (qm_gk (qm_gk g13 (by decide) (Or.inl (by decide))) (by decide) (Or.inl (by decide))) (qm_gk (qm_ge _ _ _) (by decide) (Or.inr rfl)) (qm_ge _ _ _) hv50
        refine qr_if_eq 41 37 rfl rfl rfl (qrg hv12 (by decide) (by decide)) (fun h51 => ?_) (fun h51 => ?_)
        · skip
          refine qr_iconst 42 rfl rfl ?_
          exact hJ19 _ 0 rfl rfl rfl rfl (by decide)
        · skip
          refine qr_iconst 38 rfl rfl ?_
          refine qr_goto 42 rfl rfl ?_
          exact hJ19 _ 1 rfl rfl rfl rfl (by decide)
      · skip
        refine qr_iconst 27 rfl rfl ?_
        refine qr_retI rfl rfl (by decide) (by decide) ?_
        exact ⟨_, _, rfl, hI, hF0, (-1), rfl, (by decide)⟩

set_option maxHeartbeats 4000000 in
set_option maxRecDepth 20000 in
/-- OneRoofModel.isSet -/
theorem sf_225_86 {L : Nat} {xs : Nat → Int} {vb : Bool} {d : Nat} {σ α : Nat → Nat → Int} {κ : Nat → Option Nat} {ρ : Nat} {x1 : Int} (hI : qI σ α κ ρ) (r1 : (-9223372036854775808) ≤ x1 ∧ x1 ≤ 9223372036854775807) : qm_T (qe L xs vb) (d + 1) 225 [.ref 86, .long (ql x1)] (qw σ α κ ρ) (fun r w' => w' = qw σ α κ ρ ∧ ∃ v : Int, r = some (.int (qz v)) ∧ (0 ≤ v ∧ v ≤ 1)) := by
  refine qr_start (d := d + 0) qv_e225 (Nat.le_of_ble_eq_true rfl) ?_
  show qr_W (qe L xs vb) (d + 0) qx_e225 _ (0, [(0, .ref 86), (1, .long (ql x1))], [], _, 0, 0)
  refine qr_lload_n 1 rfl rfl rfl ?_
  refine qr_lconst 2 rfl rfl ?_
  refine qy_vl 0 rfl ?_
  refine qr_lc_lt 21 6 rfl rfl rfl rfl r1 (by decide) (fun h1 => ?_) (fun h1 => ?_)
  · skip
    refine qr_iconst 22 rfl rfl ?_
    refine qr_retZ rfl rfl (Or.inl rfl) (by decide) (by decide) ?_
    exact ⟨rfl, 0, rfl, (by decide)⟩
  · skip
    refine qr_lload_n 7 rfl rfl rfl ?_
    refine qr_aload_n 8 rfl rfl rfl ?_
    refine qr_get 11 rfl rfl rfl (by decide) rfl ?_
    have hs2 : 0 ≤ σ 86 6 ∧ σ 86 6 ≤ 32 := hI.1 86 6
    refine qr_lshr 12 rfl rfl ?_
    refine qy_canl (fun v3 hv3 => ?_)
    refine qr_lconst 13 rfl rfl ?_
    refine qy_vl 0 rfl ?_
    refine qr_lc_ne 21 17 rfl rfl rfl rfl hv3 (by decide) (fun h4 => ?_) (fun h4 => ?_)
    · skip
      refine qr_iconst 22 rfl rfl ?_
      refine qr_retZ rfl rfl (Or.inl rfl) (by decide) (by decide) ?_
      exact ⟨rfl, 0, rfl, (by decide)⟩
    · skip
      refine qr_iconst 18 rfl rfl ?_
      refine qr_goto 22 rfl rfl ?_
      refine qr_retZ rfl rfl (Or.inr rfl) (by decide) (by decide) ?_
      exact ⟨rfl, 1, rfl, (by decide)⟩

set_option maxHeartbeats 4000000 in
set_option maxRecDepth 20000 in
/-- OneRoofModel.has -/
theorem sf_226 {L : Nat} {xs : Nat → Int} {vb : Bool} {d : Nat} {σ α : Nat → Nat → Int} {κ : Nat → Option Nat} {ρ : Nat} {x0 : Int} {x1 : Int} (hI : qI σ α κ ρ) (r0 : (-9223372036854775808) ≤ x0 ∧ x0 ≤ 9223372036854775807) (r1 : (-2147483648) ≤ x1 ∧ x1 ≤ 2147483647) : qm_T (qe L xs vb) (d + 1) 226 [.long (ql x0), .int (qz x1)] (qw σ α κ ρ) (fun r w' => w' = qw σ α κ ρ ∧ ∃ v : Int, r = some (.int (qz v)) ∧ (0 ≤ v ∧ v ≤ 1)) := by
  refine qr_start (d := d + 0) qv_e226 (Nat.le_of_ble_eq_true rfl) ?_
  show qr_W (qe L xs vb) (d + 0) qx_e226 _ (0, [(0, .long (ql x0)), (2, .int (qz x1))], [], _, 0, 0)
  refine qr_lload_n 1 rfl rfl rfl ?_
  refine qr_iload_n 2 rfl rfl rfl ?_
  refine qr_lshr 3 rfl rfl ?_
  refine qy_canl (fun v1 hv1 => ?_)
  refine qr_lconst 4 rfl rfl ?_
  refine qy_vl 1 rfl ?_
  refine qr_land 5 rfl rfl ?_
  refine qy_canl (fun v2 hv2 => ?_)
  refine qr_lconst 6 rfl rfl ?_
  refine qy_vl 1 rfl ?_
  refine qr_lc_ne 14 10 rfl rfl rfl rfl hv2 (by decide) (fun h3 => ?_) (fun h3 => ?_)
  · skip
    refine qr_iconst 15 rfl rfl ?_
    refine qr_retZ rfl rfl (Or.inl rfl) (by decide) (by decide) ?_
    exact ⟨rfl, 0, rfl, (by decide)⟩
  · skip
    refine qr_iconst 11 rfl rfl ?_
    refine qr_goto 15 rfl rfl ?_
    refine qr_retZ rfl rfl (Or.inr rfl) (by decide) (by decide) ?_
    exact ⟨rfl, 1, rfl, (by decide)⟩

set_option maxHeartbeats 4000000 in
set_option maxRecDepth 20000 in
/-- OneRoofModel.byteAt -/
theorem sf_220_86 {L : Nat} {xs : Nat → Int} {vb : Bool} {d : Nat} {σ α : Nat → Nat → Int} {κ : Nat → Option Nat} {ρ : Nat}  (hI : qI σ α κ ρ)  : qm_T (qe L xs vb) (d + 1) 220 [.ref 86] (qw σ α κ ρ) (fun r w' => w' = qw σ α κ ρ ∧ ∃ v : Int, r = some (.int (qz v)) ∧ ((-2147483648) ≤ v ∧ v ≤ 2147483647) ∧ (v = 0 ∨ σ 86 36 < σ 86 37)) := by
  refine qr_start (d := d + 0) qv_e220 (Nat.le_of_ble_eq_true rfl) ?_
  show qr_W (qe L xs vb) (d + 0) qx_e220 _ (0, [(0, .ref 86)], [], _, 0, 0)
  have hz86_36 : 0 ≤ σ 86 36 ∧ σ 86 36 ≤ 120 := hI.1 86 36
  have hz86_37 : 0 ≤ σ 86 37 ∧ σ 86 37 ≤ 120 := hI.1 86 37
  refine qr_aload_n 1 rfl rfl rfl ?_
  refine qr_get 4 rfl rfl rfl (by decide) rfl ?_
  refine qr_aload_n 5 rfl rfl rfl ?_
  refine qr_get 8 rfl rfl rfl (by decide) rfl ?_
  refine qr_icmp_ge 47 11 rfl rfl rfl (qrg hz86_36 (by decide) (by decide)) (qrg hz86_37 (by decide) (by decide)) (fun h1 => ?_) (fun h1 => ?_)
  · skip
    refine qr_iconst 48 rfl rfl ?_
    refine qr_retI rfl rfl (by decide) (by decide) ?_
    exact ⟨rfl, 0, rfl, (by decide), by omega⟩
  · skip
    refine qr_aload_n 12 rfl rfl rfl ?_
    refine qr_get 15 rfl rfl rfl (by decide) rfl ?_
    have hs2 : (-1) ≤ σ 86 35 ∧ σ 86 35 ≤ 120 := hI.1 86 35
    refine qr_if_ge 30 18 rfl rfl rfl (qrg hs2 (by decide) (by decide)) (fun h3 => ?_) (fun h3 => ?_)
    · skip
      refine qr_aload_n 31 rfl rfl rfl ?_
      refine qr_get 34 rfl rfl rfl (by decide) rfl ?_
      refine qr_aload_n 35 rfl rfl rfl ?_
      refine qr_get 38 rfl rfl rfl (by decide) rfl ?_
      refine qr_aload_n 39 rfl rfl rfl ?_
      refine qr_get 42 rfl rfl rfl (by decide) rfl ?_
      refine qr_iadd 43 rfl rfl ?_
      refine qr_iaload 44 rfl rfl (by omega) (by decide) rfl ?_
      refine qr_topI (fun v4 hv4 => ?_)
      have hs5 : (-2147483648) ≤ v4 ∧ v4 ≤ 2147483647 := by rw [hv4]; exact hI.2.1 107 _ (show _ < 240 by omega)
      refine qr_goto 48 rfl rfl ?_
      refine qr_retI rfl rfl (by decide) (by decide) ?_
      exact ⟨rfl, v4, rfl, hs5, by omega⟩
    · skip
      refine qr_aload_n 19 rfl rfl rfl ?_
      refine qr_get 22 rfl rfl rfl (by decide) rfl ?_
      refine qr_aload_n 23 rfl rfl rfl ?_
      refine qr_get 26 rfl rfl rfl (by decide) rfl ?_
      refine qr_iaload 27 rfl rfl (by omega) (by decide) rfl ?_
      refine qr_topI (fun v6 hv6 => ?_)
      have hs7 : (-2147483648) ≤ v6 ∧ v6 ≤ 2147483647 := by rw [hv6]; exact hI.2.1 106 _ (show _ < 120 by omega)
      refine qr_goto 48 rfl rfl ?_
      refine qr_retI rfl rfl (by decide) (by decide) ?_
      exact ⟨rfl, v6, rfl, hs7, by omega⟩

set_option maxHeartbeats 4000000 in
set_option maxRecDepth 20000 in
/-- OneRoofModel.wrong -/
theorem sf_221_86 {L : Nat} {xs : Nat → Int} {vb : Bool} {d : Nat} {σ α : Nat → Nat → Int} {κ : Nat → Option Nat} {ρ : Nat}  (hI : qI σ α κ ρ)  : qm_T (qe L xs vb) (d + 1) 221 [.ref 86] (qw σ α κ ρ) (fun r w' => ∃ σ', w' = qw σ' α κ ρ ∧ qI σ' α κ ρ ∧ qFr [(86, 38)] [] σ α σ' α ∧ ∃ v : Int, r = some (.int (qz v)) ∧ (0 ≤ v ∧ v ≤ 0)) := by
  refine qr_start (d := d + 0) qv_e221 (Nat.le_of_ble_eq_true rfl) ?_
  show qr_W (qe L xs vb) (d + 0) qx_e221 _ (0, [(0, .ref 86)], [], _, 0, 0)
  have hF0 := qFr_rf [(86, 38)] [] σ α
  refine qr_aload_n 1 rfl rfl rfl ?_
  refine qr_aload_n 2 rfl rfl rfl ?_
  refine qr_get 5 rfl rfl rfl (by decide) rfl ?_
  have hs1 : (-1) ≤ σ 86 38 ∧ σ 86 38 ≤ 120 := hI.1 86 38
  refine qr_if_ge 15 8 rfl rfl rfl (qrg hs1 (by decide) (by decide)) (fun h2 => ?_) (fun h2 => ?_)
  · skip
    refine qr_aload_n 16 rfl rfl rfl ?_
    refine qr_get 19 rfl rfl rfl (by decide) rfl ?_
    refine qr_put 22 rfl (by decide) rfl (Nat.le_of_ble_eq_true rfl) (Nat.le_of_ble_eq_true rfl) (Or.inl rfl) (qr_fitI rfl _) rfl ?_
    refine qy_wS (qw_s σ 86 38 (σ 86 38)) rfl (fun σ3 e4 => ?_)
    have hI5 : qI σ3 α κ ρ := by rw [e4]; exact qI_s hI 86 38 rfl (show (-1) ≤ (σ 86 38) ∧ (σ 86 38) ≤ 120 by omega)
    have hF6 : qFr [(86, 38)] [] σ α σ3 α := by rw [e4]; exact qFr_s hF0 86 38 _ (by decide)
    refine qr_iconst 23 rfl rfl ?_
    refine qr_retI rfl rfl (by decide) (by decide) ?_
    exact ⟨_, rfl, hI5, hF6, 0, rfl, (by decide)⟩
  · skip
    refine qr_aload_n 9 rfl rfl rfl ?_
    refine qr_get 12 rfl rfl rfl (by decide) rfl ?_
    have hs7 : 0 ≤ σ 86 36 ∧ σ 86 36 ≤ 120 := hI.1 86 36
    refine qr_goto 19 rfl rfl ?_
    refine qr_put 22 rfl (by decide) rfl (Nat.le_of_ble_eq_true rfl) (Nat.le_of_ble_eq_true rfl) (Or.inl rfl) (qr_fitI rfl _) rfl ?_
    refine qy_wS (qw_s σ 86 38 (σ 86 36)) rfl (fun σ8 e9 => ?_)
    have hI10 : qI σ8 α κ ρ := by rw [e9]; exact qI_s hI 86 38 rfl (show (-1) ≤ (σ 86 36) ∧ (σ 86 36) ≤ 120 by omega)
    have hF11 : qFr [(86, 38)] [] σ α σ8 α := by rw [e9]; exact qFr_s hF0 86 38 _ (by decide)
    refine qr_iconst 23 rfl rfl ?_
    refine qr_retI rfl rfl (by decide) (by decide) ?_
    exact ⟨_, rfl, hI10, hF11, 0, rfl, (by decide)⟩

set_option maxHeartbeats 4000000 in
set_option maxRecDepth 20000 in
/-- OneRoofModel.peopleOf -/
theorem sf_237_86 {L : Nat} {xs : Nat → Int} {vb : Bool} {d : Nat} {σ α : Nat → Nat → Int} {κ : Nat → Option Nat} {ρ : Nat} {x1 : Int} (hI : qI σ α κ ρ) (r1 : (-2147483648) ≤ x1 ∧ x1 ≤ 2147483647) : qm_T (qe L xs vb) (d + 1) 237 [.ref 86, .int (qz x1)] (qw σ α κ ρ) (fun r w' => w' = qw σ α κ ρ ∧ ∃ v : Int, r = some (.long (ql v)) ∧ ((-9223372036854775808) ≤ v ∧ v ≤ 9223372036854775807)) := by
  refine qr_start (d := d + 0) qv_e237 (Nat.le_of_ble_eq_true rfl) ?_
  show qr_W (qe L xs vb) (d + 0) qx_e237 _ (0, [(0, .ref 86), (1, .int (qz x1))], [], _, 0, 0)
  refine qr_lconst 1 rfl rfl ?_
  refine qy_vl 0 rfl ?_
  refine qr_lstore_n _ 2 rfl (by decide) rfl rfl ?_
  refine qr_iconst 3 rfl rfl ?_
  refine qr_istore _ 5 rfl (by decide) rfl rfl ?_
  have hL279 : ∀ (n : Nat) (ls : qm_L) (u274 u276 : Int), 32 - u276 < (n : Int) → qm_get ls 0 = some (.ref 86) → qm_get ls 1 = some (.int (qz x1)) → qm_get ls 2 = some (.long (ql u274)) → qm_get ls 4 = some (.int (qz u276)) → ((-9223372036854775808) ≤ u274 ∧ u274 ≤ 9223372036854775807) → (0 ≤ u276 ∧ u276 ≤ 32) → qr_W (qe L xs vb) (d + 0) qx_e237 (fun r w' => w' = qw σ α κ ρ ∧ ∃ v : Int, r = some (.long (ql v)) ∧ ((-9223372036854775808) ≤ v ∧ v ≤ 9223372036854775807)) (5, ls, [], qw σ α κ ρ, 0, 0) := by
    intro n
    induction n with
    | zero => intro ls u274 u276 hm g271 g272 g273 g275 hf277 hf278; exact False.elim (by omega)
    | succ n ih280 =>
      intro ls u274 u276 hm g271 g272 g273 g275 hf277 hf278
      refine qr_iload 7 rfl g275 rfl ?_
      refine qr_aload_n 8 rfl g271 rfl ?_
      refine qr_get 11 rfl rfl rfl (by decide) rfl ?_
      have hs281 : 0 ≤ σ 86 43 ∧ σ 86 43 ≤ 32 := hI.1 86 43
      refine qr_icmp_ge 46 14 rfl rfl rfl (qrg hf278 (by decide) (by decide)) (qrg hs281 (by decide) (by decide)) (fun h282 => ?_) (fun h282 => ?_)
      · skip
        refine qr_lload_n 47 rfl g273 rfl ?_
        refine qr_retL rfl rfl (by decide) (by decide) ?_
        exact ⟨rfl, u274, rfl, hf277⟩
      · skip
        refine qr_lload_n 15 rfl g273 rfl ?_
        refine qr_iload_n 16 rfl g272 rfl ?_
        refine qr_iload 18 rfl g275 rfl ?_
        refine qr_ishr 19 rfl rfl ?_
        refine qy_can (fun v283 hv283 => ?_)
        refine qr_iconst 20 rfl rfl ?_
        refine qr_iand 21 rfl rfl ?_
        refine qy_andr (by omega) (fun v284 hv284 => ?_)
        refine qr_iconst 22 rfl rfl ?_
        have hJ293 : ∀ (ls : qm_L) (u291 : Int), qm_get ls 0 = some (.ref 86) → qm_get ls 1 = some (.int (qz x1)) → qm_get ls 4 = some (.int (qz u276)) → ((-9223372036854775808) ≤ u291 ∧ u291 ≤ 9223372036854775807) → qr_W (qe L xs vb) (d + 0) qx_e237 (fun r w' => w' = qw σ α κ ρ ∧ ∃ v : Int, r = some (.long (ql v)) ∧ ((-9223372036854775808) ≤ v ∧ v ≤ 9223372036854775807)) (38, ls, [.long (ql u291), .long (ql u274)], qw σ α κ ρ, 0, 0) := by
          intro ls u291 g288 g289 g290 hf292
          refine qr_lor 39 rfl rfl ?_
          refine qy_canl (fun v294 hv294 => ?_)
          refine qr_lstore_n _ 40 rfl (by decide) rfl rfl ?_
          refine qr_iinc _ 43 rfl (qm_gk2 g290 (by decide) (by decide) (Or.inl (by decide))) (by decide) rfl rfl ?_
          refine qr_goto 5 rfl rfl ?_
          exact ih280 _ v294 (u276 + 1) (by omega) (qm_gk (qm_gk2 g288 (by decide) (by decide) (Or.inl (by decide))) (by decide) (Or.inl (by decide))) (qm_gk (qm_gk2 g289 (by decide) (by decide) (Or.inr rfl)) (by decide) (Or.inl (by decide))) (qm_gk (qm_ge2 _ _ _) (by decide) (Or.inl (by decide))) (qm_ge _ _ _) hv294 (by omega)
        refine qr_icmp_ne 37 25 rfl rfl rfl (by omega) (by decide) (fun h295 => ?_) (fun h295 => ?_)
        · skip
          refine qr_lconst 38 rfl rfl ?_
          refine qy_vl 0 rfl ?_
          exact hJ293 _ 0 g271 g272 g275 (by decide)
        · skip
          refine qr_lconst 26 rfl rfl ?_
          refine qy_vl 1 rfl ?_
          refine qr_aload_n 27 rfl g271 rfl ?_
          refine qr_get 30 rfl rfl rfl (by decide) rfl ?_
          refine qr_iload 32 rfl g275 rfl ?_
          refine qr_iaload 33 rfl rfl (by omega) (by decide) rfl ?_
          refine qr_topI (fun v296 hv296 => ?_)
          have hs297 : 0 ≤ v296 ∧ v296 ≤ 31 := by rw [hv296]; exact hI.2.1 110 _ (show _ < 32 by omega)
          refine qr_lshl 34 rfl rfl ?_
          refine qy_canl (fun v298 hv298 => ?_)
          refine qr_goto 38 rfl rfl ?_
          exact hJ293 _ v298 g271 g272 g275 hv298
  exact hL279 ((32 - 0 + 1 : Int)).toNat _ 0 0 (by omega) rfl rfl rfl rfl (by decide) (by decide)

set_option maxHeartbeats 4000000 in
set_option maxRecDepth 20000 in
/-- OneRoofModel.trace -/
theorem sf_261_86 {L : Nat} {xs : Nat → Int} {vb : Bool} {d : Nat} {σ α : Nat → Nat → Int} {κ : Nat → Option Nat} {ρ : Nat} {x1 : Int} (hI : qI σ α κ ρ) (r1 : (-2147483648) ≤ x1 ∧ x1 ≤ 2147483647) : qm_T (qe L xs vb) (d + 1) 261 [.ref 86, .int (qz x1)] (qw σ α κ ρ) (fun r w' => w' = qw σ α κ ρ ∧ ∃ v : Int, r = some (.int (qz v)) ∧ ((-2147483648) ≤ v ∧ v ≤ 2147483647)) := by
  refine qr_start (d := d + 0) qv_e261 (Nat.le_of_ble_eq_true rfl) ?_
  show qr_W (qe L xs vb) (d + 0) qx_e261 _ (0, [(0, .ref 86), (1, .int (qz x1))], [], _, 0, 0)
  refine qr_iload_n 1 rfl rfl rfl ?_
  refine qr_if_lt 27 4 rfl rfl rfl r1 (fun h1 => ?_) (fun h1 => ?_)
  · skip
    refine qr_iconst 28 rfl rfl ?_
    refine qr_retI rfl rfl (by decide) (by decide) ?_
    exact ⟨rfl, (-1), rfl, (by decide)⟩
  · skip
    refine qr_iload_n 5 rfl rfl rfl ?_
    refine qr_aload_n 6 rfl rfl rfl ?_
    refine qr_get 9 rfl rfl rfl (by decide) rfl ?_
    have hs2 : (-2147483648) ≤ σ 86 56 ∧ σ 86 56 ≤ 2147483647 := hI.1 86 56
    refine qr_icmp_ge 27 12 rfl rfl rfl r1 hs2 (fun h3 => ?_) (fun h3 => ?_)
    · skip
      refine qr_iconst 28 rfl rfl ?_
      refine qr_retI rfl rfl (by decide) (by decide) ?_
      exact ⟨rfl, (-1), rfl, (by decide)⟩
    · skip
      refine qr_iload_n 13 rfl rfl rfl ?_
      refine qr_bipush 15 rfl (by decide) rfl ?_
      refine qr_icmp_ge 27 18 rfl rfl rfl r1 (by decide) (fun h4 => ?_) (fun h4 => ?_)
      · skip
        refine qr_iconst 28 rfl rfl ?_
        refine qr_retI rfl rfl (by decide) (by decide) ?_
        exact ⟨rfl, (-1), rfl, (by decide)⟩
      · skip
        refine qr_aload_n 19 rfl rfl rfl ?_
        refine qr_get 22 rfl rfl rfl (by decide) rfl ?_
        refine qr_iload_n 23 rfl rfl rfl ?_
        refine qr_iaload 24 rfl rfl (by omega) (by decide) rfl ?_
        refine qr_topI (fun v5 hv5 => ?_)
        have hs6 : (-2147483648) ≤ v5 ∧ v5 ≤ 2147483647 := by rw [hv5]; exact hI.2.1 120 _ (show _ < 24 by omega)
        refine qr_goto 28 rfl rfl ?_
        refine qr_retI rfl rfl (by decide) (by decide) ?_
        exact ⟨rfl, v5, rfl, hs6⟩

set_option maxHeartbeats 4000000 in
set_option maxRecDepth 20000 in
/-- OneRoofModel.above -/
theorem sf_270 {L : Nat} {xs : Nat → Int} {vb : Bool} {d : Nat} {σ α : Nat → Nat → Int} {κ : Nat → Option Nat} {ρ : Nat} {x0 : Int} (hI : qI σ α κ ρ) (r0 : (-2147483648) ≤ x0 ∧ x0 ≤ 2147483647) : qm_T (qe L xs vb) (d + 1) 270 [.int (qz x0)] (qw σ α κ ρ) (fun r w' => w' = qw σ α κ ρ ∧ ∃ v : Int, r = some (.int (qz v)) ∧ ((-2147483648) ≤ v ∧ v ≤ 2147483647) ∧ (v = 0 ∨ (x0 = 2 ∧ v = 1) ∨ (x0 = 5 ∧ v = 4))) := by
  refine qr_start (d := d + 0) qv_e270 (Nat.le_of_ble_eq_true rfl) ?_
  show qr_W (qe L xs vb) (d + 0) qx_e270 _ (0, [(0, .int (qz x0))], [], _, 0, 0)
  refine qr_iload_n 1 rfl rfl rfl ?_
  refine qr_iconst 2 rfl rfl ?_
  refine qr_icmp_ne 9 5 rfl rfl rfl r0 (by decide) (fun h1 => ?_) (fun h1 => ?_)
  · skip
    refine qr_iload_n 10 rfl rfl rfl ?_
    refine qr_iconst 11 rfl rfl ?_
    refine qr_icmp_ne 18 14 rfl rfl rfl r0 (by decide) (fun h2 => ?_) (fun h2 => ?_)
    · skip
      refine qr_iconst 19 rfl rfl ?_
      refine qr_retI rfl rfl (by decide) (by decide) ?_
      exact ⟨rfl, 0, rfl, (by decide), by omega⟩
    · skip
      refine qr_iconst 15 rfl rfl ?_
      refine qr_goto 19 rfl rfl ?_
      refine qr_retI rfl rfl (by decide) (by decide) ?_
      exact ⟨rfl, 4, rfl, (by decide), by omega⟩
  · skip
    refine qr_iconst 6 rfl rfl ?_
    refine qr_goto 19 rfl rfl ?_
    refine qr_retI rfl rfl (by decide) (by decide) ?_
    exact ⟨rfl, 1, rfl, (by decide), by omega⟩

set_option maxHeartbeats 4000000 in
set_option maxRecDepth 20000 in
/-- OneRoofModel.taken -/
theorem sf_269_86 {L : Nat} {xs : Nat → Int} {vb : Bool} {d : Nat} {σ α : Nat → Nat → Int} {κ : Nat → Option Nat} {ρ : Nat} {x1 : Int} {x2 : Int} (hI : qI σ α κ ρ) (r1 : (-2147483648) ≤ x1 ∧ x1 ≤ 2147483647) (r2 : (-2147483648) ≤ x2 ∧ x2 ≤ 2147483647) : qm_T (qe L xs vb) (d + 3) 269 [.ref 86, .int (qz x1), .int (qz x2)] (qw σ α κ ρ) (fun r w' => w' = qw σ α κ ρ ∧ ∃ v : Int, r = some (.int (qz v)) ∧ ((-2147483648) ≤ v ∧ v ≤ 2147483647)) := by
  refine qr_start (d := d + 2) qv_e269 (Nat.le_of_ble_eq_true rfl) ?_
  show qr_W (qe L xs vb) (d + 2) qx_e269 _ (0, [(0, .ref 86), (1, .int (qz x1)), (2, .int (qz x2))], [], _, 0, 0)
  refine qr_iload_n 1 rfl rfl rfl ?_
  refine qr_callN 4 rfl rfl rfl (sf_178 (d := d + 0) hI r1) ?_
  rintro _ _ ⟨rfl, v1, rfl, hv1, hp2⟩
  show qr_W (qe L xs vb) (d + 2) qx_e269 _ (4, _, [.int (qz v1)], qw σ α κ ρ, 0, 0)
  refine qr_if_eq 19 7 rfl rfl rfl (qrg hv1 (by decide) (by decide)) (fun h3 => ?_) (fun h3 => ?_)
  · skip
    refine qr_iconst 20 rfl rfl ?_
    refine qr_retI rfl rfl (by decide) (by decide) ?_
    exact ⟨rfl, (-1), rfl, (by decide)⟩
  · skip
    refine qr_iload_n 8 rfl rfl rfl ?_
    refine qr_i2l 9 rfl r2 rfl ?_
    refine qr_lconst 10 rfl rfl ?_
    refine qy_vl 0 rfl ?_
    refine qr_ldc2 6 13 rfl (by decide) rfl ?_
    refine qr_callN 16 rfl rfl rfl (sf_176 (d := d + 1) hI (qrg r2 (by decide) (by decide)) (by decide) (by decide)) ?_
    rintro _ _ ⟨rfl, v4, rfl, hv4, hp5⟩
    show qr_W (qe L xs vb) (d + 2) qx_e269 _ (16, _, [.int (qz v4)], qw σ α κ ρ, 0, 0)
    refine qr_if_ne 21 19 rfl rfl rfl (qrg hv4 (by decide) (by decide)) (fun h6 => ?_) (fun h6 => ?_)
    · skip
      refine qr_aload_n 22 rfl rfl rfl ?_
      refine qr_get 25 rfl rfl rfl (by decide) rfl ?_
      refine qr_iload_n 26 rfl rfl rfl ?_
      refine qr_iaload 27 rfl rfl (by omega) (by decide) rfl ?_
      refine qr_topI (fun v7 hv7 => ?_)
      have hs8 : (-1) ≤ v7 ∧ v7 ≤ 64 := by rw [hv7]; exact hI.2.1 121 _ (show _ < 6 by omega)
      refine qr_if_ge 33 30 rfl rfl rfl (qrg hs8 (by decide) (by decide)) (fun h9 => ?_) (fun h9 => ?_)
      · skip
        refine qr_aload_n 34 rfl rfl rfl ?_
        refine qr_get 37 rfl rfl rfl (by decide) rfl ?_
        refine qr_iload_n 38 rfl rfl rfl ?_
        refine qr_iaload 39 rfl rfl (by omega) (by decide) rfl ?_
        refine qr_topI (fun v10 hv10 => ?_)
        have hs11 : (-1) ≤ v10 ∧ v10 ≤ 64 := by rw [hv10]; exact hI.2.1 121 _ (show _ < 6 by omega)
        refine qr_bipush 41 rfl (by decide) rfl ?_
        refine qr_icmp_lt 47 44 rfl rfl rfl (qrg hs11 (by decide) (by decide)) (by decide) (fun h12 => ?_) (fun h12 => ?_)
        · skip
          refine qr_aload_n 48 rfl rfl rfl ?_
          refine qr_aload_n 49 rfl rfl rfl ?_
          refine qr_get 52 rfl rfl rfl (by decide) rfl ?_
          refine qr_iload_n 53 rfl rfl rfl ?_
          refine qr_iaload 54 rfl rfl (by omega) (by decide) rfl ?_
          refine qr_topI (fun v13 hv13 => ?_)
          have hs14 : (-1) ≤ v13 ∧ v13 ≤ 64 := by rw [hv13]; exact hI.2.1 121 _ (show _ < 6 by omega)
          refine qr_callN 57 rfl rfl rfl (sf_201_86 (d := d + 1) hI (by omega)) ?_
          rintro _ _ ⟨rfl, v15, rfl, hv15⟩
          show qr_W (qe L xs vb) (d + 2) qx_e269 _ (57, _, [.int (qz v15)], qw σ α κ ρ, 0, 0)
          refine qr_istore_n _ 58 rfl (by decide) rfl rfl ?_
          have hL86 : ∀ (n : Nat) (ls : qm_L) (u84 : Int), (u84.toNat : Int) < (n : Int) → qm_get ls 0 = some (.ref 86) → qm_get ls 1 = some (.int (qz x1)) → qm_get ls 2 = some (.int (qz x2)) → qm_get ls 3 = some (.int (qz u84)) → ((-2147483648) ≤ u84 ∧ u84 ≤ 2147483647) → qr_W (qe L xs vb) (d + 2) qx_e269 (fun r w' => w' = qw σ α κ ρ ∧ ∃ v : Int, r = some (.int (qz v)) ∧ ((-2147483648) ≤ v ∧ v ≤ 2147483647)) (58, ls, [], qw σ α κ ρ, 0, 0) := by
            intro n
            induction n with
            | zero => intro ls u84 hm g80 g81 g82 g83 hf85; exact False.elim (by omega)
            | succ n ih87 =>
              intro ls u84 hm g80 g81 g82 g83 hf85
              refine qr_iload_n 59 rfl g83 rfl ?_
              refine qr_iload_n 60 rfl g82 rfl ?_
              have hJ96 : ∀ (ls : qm_L) (u94 : Int), qm_get ls 0 = some (.ref 86) → qm_get ls 1 = some (.int (qz x1)) → qm_get ls 2 = some (.int (qz x2)) → qm_get ls 3 = some (.int (qz u94)) → ((-2147483648) ≤ u94 ∧ u94 ≤ 6) → qr_W (qe L xs vb) (d + 2) qx_e269 (fun r w' => w' = qw σ α κ ρ ∧ ∃ v : Int, r = some (.int (qz v)) ∧ ((-2147483648) ≤ v ∧ v ≤ 2147483647)) (75, ls, [], qw σ α κ ρ, 0, 0) := by
                intro ls u94 g90 g91 g92 g93 hf95
                refine qr_iload_n 76 rfl g93 rfl ?_
                refine qr_iload_n 77 rfl g92 rfl ?_
                refine qr_icmp_ne 93 80 rfl rfl rfl (qrg hf95 (by decide) (by decide)) r2 (fun h97 => ?_) (fun h97 => ?_)
                · skip
                  refine qr_bipush 95 rfl (by decide) rfl ?_
                  refine qr_retI rfl rfl (by decide) (by decide) ?_
                  exact ⟨rfl, (-12), rfl, (by decide)⟩
                · skip
                  refine qr_aload_n 81 rfl g90 rfl ?_
                  refine qr_aload_n 82 rfl g90 rfl ?_
                  refine qr_get 85 rfl rfl rfl (by decide) rfl ?_
                  refine qr_iload_n 86 rfl g91 rfl ?_
                  refine qr_iaload 87 rfl rfl (by omega) (by decide) rfl ?_
                  refine qr_topI (fun v98 hv98 => ?_)
                  have hs99 : (-1) ≤ v98 ∧ v98 ≤ 64 := by rw [hv98]; exact hI.2.1 121 _ (show _ < 6 by omega)
                  refine qr_callN 90 rfl rfl rfl (sf_201_86 (d := d + 1) hI (by omega)) ?_
                  rintro _ _ ⟨rfl, v100, rfl, hv100⟩
                  show qr_W (qe L xs vb) (d + 2) qx_e269 _ (90, _, [.int (qz v100)], qw σ α κ ρ, 0, 0)
                  refine qr_goto 95 rfl rfl ?_
                  refine qr_retI rfl rfl (by decide) (by decide) ?_
                  exact ⟨rfl, v100, rfl, hv100⟩
              refine qr_icmp_eq 75 63 rfl rfl rfl hf85 r2 (fun h101 => ?_) (fun h101 => ?_)
              · skip
                exact hJ96 _ u84 g80 g81 g82 g83 (by omega)
              · skip
                refine qr_iload_n 64 rfl g83 rfl ?_
                refine qr_if_le 75 67 rfl rfl rfl hf85 (fun h102 => ?_) (fun h102 => ?_)
                · skip
                  exact hJ96 _ u84 g80 g81 g82 g83 (by omega)
                · skip
                  refine qr_iload_n 68 rfl g83 rfl ?_
                  refine qr_callN 71 rfl rfl rfl (sf_270 (d := d + 1) hI hf85) ?_
                  rintro _ _ ⟨rfl, v103, rfl, hv103, hp104⟩
                  show qr_W (qe L xs vb) (d + 2) qx_e269 _ (71, _, [.int (qz v103)], qw σ α κ ρ, 0, 0)
                  refine qr_istore_n _ 72 rfl (by decide) rfl rfl ?_
                  refine qr_goto 58 rfl rfl ?_
                  exact ih87 _ v103 (by omega) (qm_gk g80 (by decide) (Or.inl (by decide))) (qm_gk g81 (by decide) (Or.inl (by decide))) (qm_gk g82 (by decide) (Or.inr rfl)) (qm_ge _ _ _) hv103
          exact hL86 (((v15.toNat : Int) + 1 : Int)).toNat _ v15 (by omega) rfl rfl rfl rfl hv15
        · skip
          refine qr_bipush 46 rfl (by decide) rfl ?_
          refine qr_retI rfl rfl (by decide) (by decide) ?_
          exact ⟨rfl, (-12), rfl, (by decide)⟩
      · skip
        refine qr_bipush 32 rfl (by decide) rfl ?_
        refine qr_retI rfl rfl (by decide) (by decide) ?_
        exact ⟨rfl, (-11), rfl, (by decide)⟩
    · skip
      refine qr_iconst 20 rfl rfl ?_
      refine qr_retI rfl rfl (by decide) (by decide) ?_
      exact ⟨rfl, (-1), rfl, (by decide)⟩

set_option maxHeartbeats 4000000 in
set_option maxRecDepth 20000 in
/-- OneRoofModel.blow -/
theorem sf_250_86 {L : Nat} {xs : Nat → Int} {vb : Bool} {d : Nat} {σ α : Nat → Nat → Int} {κ : Nat → Option Nat} {ρ : Nat} {x1 : Int} (hI : qI σ α κ ρ) (r1 : (-2147483648) ≤ x1 ∧ x1 ≤ 2147483647) : qm_T (qe L xs vb) (d + 1) 250 [.ref 86, .int (qz x1)] (qw σ α κ ρ) (fun r w' => w' = qw σ α κ ρ ∧ ∃ v : Int, r = some (.int (qz v)) ∧ ((-2147483648) ≤ v ∧ v ≤ 2147483647)) := by
  refine qr_start (d := d + 0) qv_e250 (Nat.le_of_ble_eq_true rfl) ?_
  show qr_W (qe L xs vb) (d + 0) qx_e250 _ (0, [(0, .ref 86), (1, .int (qz x1))], [], _, 0, 0)
  refine qr_iload_n 1 rfl rfl rfl ?_
  refine qr_if_lt 31 4 rfl rfl rfl r1 (fun h1 => ?_) (fun h1 => ?_)
  · skip
    refine qr_iconst 32 rfl rfl ?_
    refine qr_retI rfl rfl (by decide) (by decide) ?_
    exact ⟨rfl, (-1), rfl, (by decide)⟩
  · skip
    refine qr_iload_n 5 rfl rfl rfl ?_
    refine qr_aload_n 6 rfl rfl rfl ?_
    refine qr_get 9 rfl rfl rfl (by decide) rfl ?_
    have hs2 : 0 ≤ σ 86 50 ∧ σ 86 50 ≤ 31 := hI.1 86 50
    refine qr_icmp_ge 31 12 rfl rfl rfl r1 (qrg hs2 (by decide) (by decide)) (fun h3 => ?_) (fun h3 => ?_)
    · skip
      refine qr_iconst 32 rfl rfl ?_
      refine qr_retI rfl rfl (by decide) (by decide) ?_
      exact ⟨rfl, (-1), rfl, (by decide)⟩
    · skip
      refine qr_bipush 14 rfl (by decide) rfl ?_
      refine qr_aload_n 15 rfl rfl rfl ?_
      refine qr_get 18 rfl rfl rfl (by decide) rfl ?_
      refine qr_iload_n 19 rfl rfl rfl ?_
      refine qr_iaload 20 rfl rfl (by omega) (by decide) rfl ?_
      refine qr_topI (fun v4 hv4 => ?_)
      have hs5 : 0 ≤ v4 ∧ v4 ≤ 31 := by rw [hv4]; exact hI.2.1 115 _ (show _ < 31 by omega)
      refine qr_imul 21 rfl rfl ?_
      refine qr_aload_n 22 rfl rfl rfl ?_
      refine qr_get 25 rfl rfl rfl (by decide) rfl ?_
      refine qr_iload_n 26 rfl rfl rfl ?_
      refine qr_iaload 27 rfl rfl (by omega) (by decide) rfl ?_
      refine qr_topI (fun v6 hv6 => ?_)
      have hs7 : 0 ≤ v6 ∧ v6 ≤ 31 := by rw [hv6]; exact hI.2.1 116 _ (show _ < 31 by omega)
      refine qr_iadd 28 rfl rfl ?_
      refine qr_goto 32 rfl rfl ?_
      refine qr_retI rfl rfl (by decide) (by decide) ?_
      exact ⟨rfl, ((100 * v4) + v6), rfl, (by omega)⟩

set_option maxHeartbeats 4000000 in
set_option maxRecDepth 20000 in
/-- OneRoofModel.alive -/
theorem sf_251_86 {L : Nat} {xs : Nat → Int} {vb : Bool} {d : Nat} {σ α : Nat → Nat → Int} {κ : Nat → Option Nat} {ρ : Nat}  (hI : qI σ α κ ρ)  : qm_T (qe L xs vb) (d + 1) 251 [.ref 86] (qw σ α κ ρ) (fun r w' => w' = qw σ α κ ρ ∧ ∃ v : Int, r = some (.long (ql v)) ∧ ((-9223372036854775808) ≤ v ∧ v ≤ 9223372036854775807)) := by
  refine qr_start (d := d + 0) qv_e251 (Nat.le_of_ble_eq_true rfl) ?_
  show qr_W (qe L xs vb) (d + 0) qx_e251 _ (0, [(0, .ref 86)], [], _, 0, 0)
  refine qr_aload_n 1 rfl rfl rfl ?_
  refine qr_get 4 rfl rfl rfl (by decide) rfl ?_
  have hs1 : (-9223372036854775808) ≤ σ 86 51 ∧ σ 86 51 ≤ 9223372036854775807 := hI.1 86 51
  refine qr_retL rfl rfl (by decide) (by decide) ?_
  exact ⟨rfl, (σ 86 51), rfl, hs1⟩
end
