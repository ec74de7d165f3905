set_option maxHeartbeats 4000000 in
set_option maxRecDepth 20000 in
/-- OneRoof$Telling.tell -/
theorem sf_134_73 {L : Nat} {xs : Nat → Int} {vb : Bool} {d : Nat} {σ α : Nat → Nat → Int} {κ : Nat → Option Nat} {ρ : Nat} {x1 : Int} {x2 : Int} {x3 : Int} (hI : qI σ α κ ρ) (r1 : 0 ≤ x1 ∧ x1 ≤ 31) (r2 : 0 ≤ x2 ∧ x2 ≤ 31) (r3 : (-9223372036854775808) ≤ x3 ∧ x3 ≤ 9223372036854775807) (p0 : ¬ x1 = x2) : qm_T (qe L xs vb) (d + 6) 134 [.ref 73, .int (qz x1), .int (qz x2), .long (ql x3)] (qw σ α κ ρ) (fun r w' => ∃ σ' α', w' = qw σ' α' κ ρ ∧ qI σ' α' κ ρ ∧ qFr [(58, 10), (73, 2), (73, 3), (73, 5), (73, 6)] [53, 57, 59, 60, 61, 62, 63, 74, 75, 85] σ α σ' α' ∧ r = none) := by
  refine qr_start (d := d + 5) qv_e134 (Nat.le_of_ble_eq_true rfl) ?_
  show qr_W (qe L xs vb) (d + 5) qx_e134 _ (0, [(0, .ref 73), (1, .int (qz x1)), (2, .int (qz x2)), (3, .long (ql x3))], [], _, 0, 0)
  have hF0 := qFr_rf [(58, 10), (73, 2), (73, 3), (73, 5), (73, 6)] [53, 57, 59, 60, 61, 62, 63, 74, 75, 85] σ α
  refine qr_aload_n 1 rfl rfl rfl ?_
  refine qr_lload_n 2 rfl rfl rfl ?_
  refine qr_put 5 rfl (by decide) rfl (Nat.le_of_ble_eq_true rfl) (Nat.le_of_ble_eq_true rfl) (Or.inl rfl) (qr_fitL rfl _) rfl ?_
  refine qy_wS (qw_s σ 73 3 x3) rfl (fun σ1 e2 => ?_)
  have hI3 : qI σ1 α κ ρ := by rw [e2]; exact qI_s hI 73 3 rfl (show (-9223372036854775808) ≤ x3 ∧ x3 ≤ 9223372036854775807 by omega)
  have hF4 : qFr [(58, 10), (73, 2), (73, 3), (73, 5), (73, 6)] [53, 57, 59, 60, 61, 62, 63, 74, 75, 85] σ α σ1 α := by rw [e2]; exact qFr_s hF0 73 3 _ (by decide)
  refine qr_aload_n 6 rfl rfl rfl ?_
  refine qr_iconst 7 rfl rfl ?_
  refine qr_put 10 rfl (by decide) rfl (Nat.le_of_ble_eq_true rfl) (Nat.le_of_ble_eq_true rfl) (Or.inl rfl) (qr_fitI rfl _) rfl ?_
  refine qy_wS (qw_s σ1 73 2 0) rfl (fun σ5 e6 => ?_)
  have hI7 : qI σ5 α κ ρ := by rw [e6]; exact qI_s hI3 73 2 rfl (show 0 ≤ 0 ∧ 0 ≤ 31 by omega)
  have hF8 : qFr [(58, 10), (73, 2), (73, 3), (73, 5), (73, 6)] [53, 57, 59, 60, 61, 62, 63, 74, 75, 85] σ α σ5 α := by rw [e6]; exact qFr_s hF4 73 2 _ (by decide)
  refine qr_aload_n 11 rfl rfl rfl ?_
  refine qr_iconst 12 rfl rfl ?_
  refine qr_put 15 rfl (by decide) rfl (Nat.le_of_ble_eq_true rfl) (Nat.le_of_ble_eq_true rfl) (Or.inl rfl) (qr_fitI rfl _) rfl ?_
  refine qy_wS (qw_s σ5 73 5 0) rfl (fun σ9 e10 => ?_)
  have hI11 : qI σ9 α κ ρ := by rw [e10]; exact qI_s hI7 73 5 rfl (show 0 ≤ 0 ∧ 0 ≤ 60 by omega)
  have hF12 : qFr [(58, 10), (73, 2), (73, 3), (73, 5), (73, 6)] [53, 57, 59, 60, 61, 62, 63, 74, 75, 85] σ α σ9 α := by rw [e10]; exact qFr_s hF8 73 5 _ (by decide)
  refine qr_aload_n 16 rfl rfl rfl ?_
  refine qr_lconst 17 rfl rfl ?_
  refine qy_vl 0 rfl ?_
  refine qr_put 20 rfl (by decide) rfl (Nat.le_of_ble_eq_true rfl) (Nat.le_of_ble_eq_true rfl) (Or.inl rfl) (qr_fitL rfl _) rfl ?_
  refine qy_wS (qw_s σ9 73 6 0) rfl (fun σ13 e14 => ?_)
  have hI15 : qI σ13 α κ ρ := by rw [e14]; exact qI_s hI11 73 6 rfl (show (-9223372036854775808) ≤ 0 ∧ 0 ≤ 9223372036854775807 by omega)
  have hF16 : qFr [(58, 10), (73, 2), (73, 3), (73, 5), (73, 6)] [53, 57, 59, 60, 61, 62, 63, 74, 75, 85] σ α σ13 α := by rw [e14]; exact qFr_s hF12 73 6 _ (by decide)
  refine qr_aload_n 21 rfl rfl rfl ?_
  refine qr_iload_n 22 rfl rfl rfl ?_
  refine qr_iload_n 23 rfl rfl rfl ?_
  refine qr_callN 26 rfl rfl rfl (sf_135_73 (d := d + 1) hI15 (by omega) (by omega) (by omega)) ?_
  rintro _ _ ⟨σ17, α18, rfl, hI19, hG20, rfl⟩
  have hF21 : qFr [(58, 10), (73, 2), (73, 3), (73, 5), (73, 6)] [53, 57, 59, 60, 61, 62, 63, 74, 75, 85] σ α σ17 α18 := qFr_t hF16 hG20 (by decide) (by decide)
  show qr_W (qe L xs vb) (d + 5) qx_e134 _ (26, _, [], qw σ17 α18 κ ρ, 0, 0)
  refine qr_iconst 27 rfl rfl ?_
  refine qr_istore _ 29 rfl (by decide) rfl rfl ?_
  have hL620 : ∀ (n : Nat) (ls : qm_L) (u614 : Int) (σ615 α616 : Nat → Nat → Int), 31 - u614 < (n : Int) → qm_get ls 0 = some (.ref 73) → qm_get ls 5 = some (.int (qz u614)) → (1 ≤ u614 ∧ u614 ≤ 31) → qI σ615 α616 κ ρ → qFr [(58, 10), (73, 2), (73, 3), (73, 5), (73, 6)] [53, 57, 59, 60, 61, 62, 63, 74, 75, 85] σ α σ615 α616 → qr_W (qe L xs vb) (d + 5) qx_e134 (fun r w' => ∃ σ' α', w' = qw σ' α' κ ρ ∧ qI σ' α' κ ρ ∧ qFr [(58, 10), (73, 2), (73, 3), (73, 5), (73, 6)] [53, 57, 59, 60, 61, 62, 63, 74, 75, 85] σ α σ' α' ∧ r = none) (29, ls, [], qw σ615 α616 κ ρ, 0, 0) := by
    intro n
    induction n with
    | zero => intro ls u614 σ615 α616 hm g612 g613 hf619 hI617 hF618; exact False.elim (by omega)
    | succ n ih621 =>
      intro ls u614 σ615 α616 hm g612 g613 hf619 hI617 hF618
      refine qr_iload 31 rfl g613 rfl ?_
      refine qr_bipush 33 rfl (by decide) rfl ?_
      refine qr_icmp_ge 88 36 rfl rfl rfl (by omega) (by omega) (fun h622 => ?_) (fun h622 => ?_)
      · skip
        refine qr_aload_n 89 rfl g612 rfl ?_
        refine qr_get 92 rfl rfl rfl (by decide) rfl ?_
        refine qr_lconst 93 rfl rfl ?_
        refine qy_vl 0 rfl ?_
        refine qr_put 96 rfl (by decide) rfl (Nat.le_of_ble_eq_true rfl) (Nat.le_of_ble_eq_true rfl) (Or.inl rfl) (qr_fitL rfl _) rfl ?_
        refine qy_wS (qw_s σ615 58 10 0) rfl (fun σ623 e624 => ?_)
        have hI625 : qI σ623 α616 κ ρ := by rw [e624]; exact qI_s hI617 58 10 rfl (show (-9223372036854775808) ≤ 0 ∧ 0 ≤ 9223372036854775807 by omega)
        have hF626 : qFr [(58, 10), (73, 2), (73, 3), (73, 5), (73, 6)] [53, 57, 59, 60, 61, 62, 63, 74, 75, 85] σ α σ623 α616 := by rw [e624]; exact qFr_s hF618 58 10 _ (by decide)
        refine qr_retV rfl rfl (by decide) (by decide) ?_
        exact ⟨_, _, rfl, hI625, hF626, rfl⟩
      · skip
        refine qr_aload_n 37 rfl g612 rfl ?_
        refine qr_callN 40 rfl rfl rfl (sf_137_73 (d := d + 0) hI617 ) ?_
        rintro _ _ ⟨α629, rfl, hI630, hG631, v627, rfl, hv627, hp628⟩
        have hF632 : qFr [(58, 10), (73, 2), (73, 3), (73, 5), (73, 6)] [53, 57, 59, 60, 61, 62, 63, 74, 75, 85] σ α σ615 α629 := qFr_t hF618 hG631 (by decide) (by decide)
        show qr_W (qe L xs vb) (d + 5) qx_e134 _ (40, _, [.int (qz v627)], qw σ615 α629 κ ρ, 0, 0)
        refine qr_istore _ 42 rfl (by decide) rfl rfl ?_
        refine qr_iload 44 rfl (qm_ge _ _ _) rfl ?_
        have hJ650 : ∀ (ls : qm_L) (u643 : Int) (α645 : Nat → Nat → Int), qm_get ls 0 = some (.ref 73) → qm_get ls 5 = some (.int (qz u614)) → qm_get ls 6 = some (.int (qz u643)) → ((-1) ≤ u643 ∧ u643 ≤ 3131) → qI σ615 α645 κ ρ → qFr [(58, 10), (73, 2), (73, 3), (73, 5), (73, 6)] [53, 57, 59, 60, 61, 62, 63, 74, 75, 85] σ α σ615 α645 → (u643 = -1 ∨ (0 ≤ u643 ∧ u643 / 100 ≤ 31 ∧ u643 % 100 ≤ 31 ∧ ¬ u643 / 100 = u643 % 100)) → qr_W (qe L xs vb) (d + 5) qx_e134 (fun r w' => ∃ σ' α', w' = qw σ' α' κ ρ ∧ qI σ' α' κ ρ ∧ qFr [(58, 10), (73, 2), (73, 3), (73, 5), (73, 6)] [53, 57, 59, 60, 61, 62, 63, 74, 75, 85] σ α σ' α' ∧ r = none) (60, ls, [], qw σ615 α645 κ ρ, 0, 0) := by
          intro ls u643 α645 g640 g641 g642 hf648 hI646 hF647 hx649
          refine qr_iload 62 rfl g642 rfl ?_
          refine qr_if_ge 68 65 rfl rfl rfl (by omega) (fun h651 => ?_) (fun h651 => ?_)
          · skip
            refine qr_aload_n 69 rfl g640 rfl ?_
            refine qr_iload 71 rfl g642 rfl ?_
            refine qr_bipush 73 rfl (by decide) rfl ?_
            refine qr_idiv 74 rfl (by omega) (by omega) rfl ?_
            refine qr_iload 76 rfl g642 rfl ?_
            refine qr_bipush 78 rfl (by decide) rfl ?_
            refine qr_irem 79 rfl (by omega) (by omega) rfl ?_
            refine qr_callN 82 rfl rfl rfl (sf_135_73 (d := d + 1) hI646 (by omega) (by omega) (by omega)) ?_
            rintro _ _ ⟨σ652, α653, rfl, hI654, hG655, rfl⟩
            have hF656 : qFr [(58, 10), (73, 2), (73, 3), (73, 5), (73, 6)] [53, 57, 59, 60, 61, 62, 63, 74, 75, 85] σ α σ652 α653 := qFr_t hF647 hG655 (by decide) (by decide)
            show qr_W (qe L xs vb) (d + 5) qx_e134 _ (82, _, [], qw σ652 α653 κ ρ, 0, 0)
            refine qr_iinc _ 85 rfl g641 (by decide) rfl rfl ?_
            refine qr_goto 29 rfl rfl ?_
            exact ih621 _ (u614 + 1) σ652 α653 (by omega) (qm_gk g640 (by decide) (Or.inl (by decide))) (qm_ge _ _ _) (by omega) hI654 hF656
          · skip
            refine qr_goto 88 rfl rfl ?_
            refine qr_aload_n 89 rfl g640 rfl ?_
            refine qr_get 92 rfl rfl rfl (by decide) rfl ?_
            refine qr_lconst 93 rfl rfl ?_
            refine qy_vl 0 rfl ?_
            refine qr_put 96 rfl (by decide) rfl (Nat.le_of_ble_eq_true rfl) (Nat.le_of_ble_eq_true rfl) (Or.inl rfl) (qr_fitL rfl _) rfl ?_
            refine qy_wS (qw_s σ615 58 10 0) rfl (fun σ657 e658 => ?_)
            have hI659 : qI σ657 α645 κ ρ := by rw [e658]; exact qI_s hI646 58 10 rfl (show (-9223372036854775808) ≤ 0 ∧ 0 ≤ 9223372036854775807 by omega)
            have hF660 : qFr [(58, 10), (73, 2), (73, 3), (73, 5), (73, 6)] [53, 57, 59, 60, 61, 62, 63, 74, 75, 85] σ α σ657 α645 := by rw [e658]; exact qFr_s hF647 58 10 _ (by decide)
            refine qr_retV rfl rfl (by decide) (by decide) ?_
            exact ⟨_, _, rfl, hI659, hF660, rfl⟩
        refine qr_if_ge 60 47 rfl rfl rfl (by omega) (fun h661 => ?_) (fun h661 => ?_)
        · skip
          exact hJ650 _ v627 α629 (qm_gk g612 (by decide) (Or.inl (by decide))) (qm_gk g613 (by decide) (Or.inr rfl)) (qm_ge _ _ _) (by omega) hI630 hF632 (by omega)
        · skip
          refine qr_aload_n 48 rfl (qm_gk g612 (by decide) (Or.inl (by decide))) rfl ?_
          refine qr_get 51 rfl rfl rfl (by decide) rfl ?_
          refine qr_aload_n 52 rfl (qm_gk g612 (by decide) (Or.inl (by decide))) rfl ?_
          refine qr_get 55 rfl rfl rfl (by decide) rfl ?_
          have hs662 : (-9223372036854775808) ≤ σ615 73 3 ∧ σ615 73 3 ≤ 9223372036854775807 := hI630.1 73 3
          refine qr_callN 58 rfl rfl rfl (sf_104_58 (d := d + 0) hI630 (by omega)) ?_
          rintro _ _ ⟨α665, rfl, hI666, hG667, v663, rfl, hv663, hp664⟩
          have hF668 : qFr [(58, 10), (73, 2), (73, 3), (73, 5), (73, 6)] [53, 57, 59, 60, 61, 62, 63, 74, 75, 85] σ α σ615 α665 := qFr_t hF632 hG667 (by decide) (by decide)
          show qr_W (qe L xs vb) (d + 5) qx_e134 _ (58, _, [.int (qz v663)], qw σ615 α665 κ ρ, 0, 0)
          refine qr_istore _ 60 rfl (by decide) rfl rfl ?_
          exact hJ650 _ v663 α665 (qm_gk (qm_gk g612 (by decide) (Or.inl (by decide))) (by decide) (Or.inl (by decide))) (qm_gk (qm_gk g613 (by decide) (Or.inr rfl)) (by decide) (Or.inr rfl)) (qm_ge _ _ _) (by omega) hI666 hF668 (by omega)
  exact hL620 ((31 - 1 + 1 : Int)).toNat _ 1 σ17 α18 (by omega) rfl rfl (by omega) hI19 hF21

set_option maxHeartbeats 4000000 in
set_option maxRecDepth 20000 in
/-- OneRoof$History.told -/
theorem sf_53_76 {L : Nat} {xs : Nat → Int} {vb : Bool} {d : Nat} {σ α : Nat → Nat → Int} {κ : Nat → Option Nat} {ρ : Nat} {x1 : Int} {x2 : Int} (hI : qI σ α κ ρ) (r1 : (-2147483648) ≤ x1 ∧ x1 ≤ 2147483647) (r2 : 0 ≤ x2 ∧ x2 ≤ 1919) (p0 : (x1 = 0 → x2 ≤ 39) ∧ (x1 = 2 → x2 ≤ 31) ∧ (¬ x1 = 0 → ¬ x1 = 1 → ¬ x1 = 2 → x2 ≤ 59)) : qm_T (qe L xs vb) (d + 2) 53 [.ref 76, .int (qz x1), .int (qz x2)] (qw σ α κ ρ) (fun r w' => w' = qw σ α κ ρ ∧ ∃ v : Int, r = some (.int (qz v)) ∧ ((-2147483648) ≤ v ∧ v ≤ 2147483647)) := by
  refine qr_start (d := d + 1) qv_e53 (Nat.le_of_ble_eq_true rfl) ?_
  show qr_W (qe L xs vb) (d + 1) qx_e53 _ (0, [(0, .ref 76), (1, .int (qz x1)), (2, .int (qz x2))], [], _, 0, 0)
  refine qr_iload_n 1 rfl rfl rfl ?_
  have h1 : x1 = 0 ∨ x1 = 1 ∨ x1 = 2 ∨ (x1 < 0 ∨ 2 < x1) := by omega
  rcases h1 with h1 | h1 | h1 | h1
  · skip
    refine qr_tabIn 28 rfl (by omega) (by omega) (by rw [h1]; rfl) rfl ?_
    refine qr_aload_n 29 rfl rfl rfl ?_
    refine qr_get 32 rfl rfl rfl (by decide) rfl ?_
    refine qr_get 35 rfl rfl rfl (by decide) rfl ?_
    refine qr_iload_n 36 rfl rfl rfl ?_
    refine qr_iaload 37 rfl rfl (by omega) (by decide) rfl ?_
    refine qr_topI (fun v3 hv3 => ?_)
    have hs4 : (-2147483648) ≤ v3 ∧ v3 ≤ 2147483647 := by rw [hv3]; exact hI.2.1 33 _ (show _ < 40 by omega)
    refine qr_retI rfl rfl (by decide) (by decide) ?_
    exact ⟨rfl, v3, rfl, by omega⟩
  · skip
    refine qr_tabIn 38 rfl (by omega) (by omega) (by rw [h1]; rfl) rfl ?_
    refine qr_aload_n 39 rfl rfl rfl ?_
    refine qr_get 42 rfl rfl rfl (by decide) rfl ?_
    refine qr_get 45 rfl rfl rfl (by decide) rfl ?_
    refine qr_iload_n 46 rfl rfl rfl ?_
    refine qr_bipush 48 rfl (by decide) rfl ?_
    refine qr_idiv 49 rfl (by omega) (by omega) rfl ?_
    refine qr_laload 50 rfl (by decide) rfl (by omega) (by decide) rfl ?_
    refine qr_topL (fun v5 hv5 => ?_)
    have hs6 : (-9223372036854775808) ≤ v5 ∧ v5 ≤ 9223372036854775807 := by rw [hv5]; exact hI.2.1 41 _ (show _ < 60 by omega)
    refine qr_iload_n 51 rfl rfl rfl ?_
    refine qr_bipush 53 rfl (by decide) rfl ?_
    refine qr_irem 54 rfl (by omega) (by omega) rfl ?_
    refine qr_callN 57 rfl rfl rfl (sf_50 (d := d + 0) hI (by omega) (by omega)) ?_
    rintro _ _ ⟨rfl, v7, rfl, hv7⟩
    show qr_W (qe L xs vb) (d + 1) qx_e53 _ (57, _, [.int (qz v7)], qw σ α κ ρ, 0, 0)
    refine qr_if_eq 64 60 rfl rfl rfl (by omega) (fun h8 => ?_) (fun h8 => ?_)
    · skip
      refine qr_iconst 65 rfl rfl ?_
      refine qr_retI rfl rfl (by decide) (by decide) ?_
      exact ⟨rfl, 0, rfl, by omega⟩
    · skip
      refine qr_iconst 61 rfl rfl ?_
      refine qr_goto 65 rfl rfl ?_
      refine qr_retI rfl rfl (by decide) (by decide) ?_
      exact ⟨rfl, 1, rfl, by omega⟩
  · skip
    refine qr_tabIn 66 rfl (by omega) (by omega) (by rw [h1]; rfl) rfl ?_
    refine qr_aload_n 67 rfl rfl rfl ?_
    refine qr_get 70 rfl rfl rfl (by decide) rfl ?_
    refine qr_get 73 rfl rfl rfl (by decide) rfl ?_
    refine qr_iload_n 74 rfl rfl rfl ?_
    refine qr_iaload 75 rfl rfl (by omega) (by decide) rfl ?_
    refine qr_topI (fun v9 hv9 => ?_)
    have hs10 : (-2147483648) ≤ v9 ∧ v9 ≤ 2147483647 := by rw [hv9]; exact hI.2.1 20 _ (show _ < 32 by omega)
    refine qr_retI rfl rfl (by decide) (by decide) ?_
    exact ⟨rfl, v9, rfl, by omega⟩
  · skip
    refine qr_tabOut 76 rfl (by omega) (by omega) rfl ?_
    refine qr_aload_n 77 rfl rfl rfl ?_
    refine qr_get 80 rfl rfl rfl (by decide) rfl ?_
    refine qr_get 83 rfl rfl rfl (by decide) rfl ?_
    refine qr_iload_n 84 rfl rfl rfl ?_
    refine qr_iaload 85 rfl rfl (by omega) (by decide) rfl ?_
    refine qr_topI (fun v11 hv11 => ?_)
    have hs12 : (-2147483648) ≤ v11 ∧ v11 ≤ 2147483647 := by rw [hv11]; exact hI.2.1 35 _ (show _ < 60 by omega)
    refine qr_retI rfl rfl (by decide) (by decide) ?_
    exact ⟨rfl, v11, rfl, by omega⟩

set_option maxHeartbeats 4000000 in
set_option maxRecDepth 20000 in
/-- OneRoof$History.set -/
theorem sf_55_76 {L : Nat} {xs : Nat → Int} {vb : Bool} {d : Nat} {σ α : Nat → Nat → Int} {κ : Nat → Option Nat} {ρ : Nat} {x1 : Int} {x2 : Int} {x3 : Int} (hI : qI σ α κ ρ) (r1 : (-2147483648) ≤ x1 ∧ x1 ≤ 2147483647) (r2 : 0 ≤ x2 ∧ x2 ≤ 1919) (r3 : (-2147483648) ≤ x3 ∧ x3 ≤ 2147483647) (p0 : (x1 = 0 → x2 ≤ 39) ∧ (x1 = 2 → x2 ≤ 31) ∧ (¬ x1 = 0 → ¬ x1 = 1 → ¬ x1 = 2 → x2 ≤ 59)) : qm_T (qe L xs vb) (d + 1) 55 [.ref 76, .int (qz x1), .int (qz x2), .int (qz x3)] (qw σ α κ ρ) (fun r w' => ∃ α', w' = qw σ α' κ ρ ∧ qI σ α' κ ρ ∧ qFr [] [20, 33, 35, 41] σ α σ α' ∧ r = none) := by
  refine qr_start (d := d + 0) qv_e55 (Nat.le_of_ble_eq_true rfl) ?_
  show qr_W (qe L xs vb) (d + 0) qx_e55 _ (0, [(0, .ref 76), (1, .int (qz x1)), (2, .int (qz x2)), (3, .int (qz x3))], [], _, 0, 0)
  have hF0 := qFr_rf [] [20, 33, 35, 41] σ α
  refine qr_iload_n 1 rfl rfl rfl ?_
  have h1 : x1 = 0 ∨ x1 = 1 ∨ x1 = 2 ∨ (x1 < 0 ∨ 2 < x1) := by omega
  rcases h1 with h1 | h1 | h1 | h1
  · skip
    refine qr_tabIn 28 rfl (by omega) (by omega) (by rw [h1]; rfl) rfl ?_
    refine qr_aload_n 29 rfl rfl rfl ?_
    refine qr_get 32 rfl rfl rfl (by decide) rfl ?_
    refine qr_get 35 rfl rfl rfl (by decide) rfl ?_
    refine qr_iload_n 36 rfl rfl rfl ?_
    refine qr_iload_n 37 rfl rfl rfl ?_
    refine qr_iastore 38 rfl (by decide) rfl (by omega) (by decide) rfl ?_
    refine qy_wA (qw_r α 33 (qzu (α 33) (x2 : Int).toNat x3)) rfl (fun α3 e4 => ?_)
    have hI5 : qI σ α3 κ ρ := by rw [e4]; exact qI_r hI 33 _ rfl (show (-2147483648) ≤ x3 ∧ x3 ≤ 2147483647 by omega)
    have hF6 : qFr [] [20, 33, 35, 41] σ α σ α3 := by rw [e4]; exact qFr_r hF0 33 _ (by decide)
    refine qr_goto 121 rfl rfl ?_
    refine qr_retV rfl rfl (by decide) (by decide) ?_
    exact ⟨_, rfl, hI5, hF6, rfl⟩
  · skip
    refine qr_tabIn 41 rfl (by omega) (by omega) (by rw [h1]; rfl) rfl ?_
    refine qr_lconst 42 rfl rfl ?_
    refine qy_vl 1 rfl ?_
    refine qr_iload_n 43 rfl rfl rfl ?_
    refine qr_bipush 45 rfl (by decide) rfl ?_
    refine qr_irem 46 rfl (by omega) (by omega) rfl ?_
    refine qr_lshl 47 rfl rfl ?_
    refine qy_canl (fun v7 hv7 => ?_)
    refine qr_lstore _ 49 rfl (by decide) rfl rfl ?_
    refine qr_iload_n 50 rfl rfl rfl ?_
    refine qr_iconst 51 rfl rfl ?_
    refine qr_icmp_ne 74 54 rfl rfl rfl (by omega) (by omega) (fun h8 => ?_) (fun h8 => ?_)
    · skip
      refine qr_aload_n 75 rfl rfl rfl ?_
      refine qr_get 78 rfl rfl rfl (by decide) rfl ?_
      refine qr_get 81 rfl rfl rfl (by decide) rfl ?_
      refine qr_iload_n 82 rfl rfl rfl ?_
      refine qr_bipush 84 rfl (by decide) rfl ?_
      refine qr_idiv 85 rfl (by omega) (by omega) rfl ?_
      refine qr_dup2 86 rfl rfl rfl rfl ?_
      refine qr_laload 87 rfl (by decide) rfl (by omega) (by decide) rfl ?_
      refine qr_topL (fun v9 hv9 => ?_)
      have hs10 : (-9223372036854775808) ≤ v9 ∧ v9 ≤ 9223372036854775807 := by rw [hv9]; exact hI.2.1 41 _ (show _ < 60 by omega)
      refine qr_lload 89 rfl rfl rfl ?_
      refine qr_ldc2 (-1) 92 rfl (by decide) rfl ?_
      refine qr_lxor 93 rfl rfl ?_
      refine qy_canl (fun v11 hv11 => ?_)
      refine qr_land 94 rfl rfl ?_
      refine qy_canl (fun v12 hv12 => ?_)
      refine qr_lastore 95 rfl (by decide) rfl (by omega) (by decide) rfl ?_
      refine qy_wA (qw_r α 41 (qzu (α 41) ((x2 / 32) : Int).toNat v12)) rfl (fun α13 e14 => ?_)
      have hI15 : qI σ α13 κ ρ := by rw [e14]; exact qI_r hI 41 _ rfl (show (-9223372036854775808) ≤ v12 ∧ v12 ≤ 9223372036854775807 by omega)
      have hF16 : qFr [] [20, 33, 35, 41] σ α σ α13 := by rw [e14]; exact qFr_r hF0 41 _ (by decide)
      refine qr_goto 121 rfl rfl ?_
      refine qr_retV rfl rfl (by decide) (by decide) ?_
      exact ⟨_, rfl, hI15, hF16, rfl⟩
    · skip
      refine qr_aload_n 55 rfl rfl rfl ?_
      refine qr_get 58 rfl rfl rfl (by decide) rfl ?_
      refine qr_get 61 rfl rfl rfl (by decide) rfl ?_
      refine qr_iload_n 62 rfl rfl rfl ?_
      refine qr_bipush 64 rfl (by decide) rfl ?_
      refine qr_idiv 65 rfl (by omega) (by omega) rfl ?_
      refine qr_dup2 66 rfl rfl rfl rfl ?_
      refine qr_laload 67 rfl (by decide) rfl (by omega) (by decide) rfl ?_
      refine qr_topL (fun v17 hv17 => ?_)
      have hs18 : (-9223372036854775808) ≤ v17 ∧ v17 ≤ 9223372036854775807 := by rw [hv17]; exact hI.2.1 41 _ (show _ < 60 by omega)
      refine qr_lload 69 rfl rfl rfl ?_
      refine qr_lor 70 rfl rfl ?_
      refine qy_canl (fun v19 hv19 => ?_)
      refine qr_lastore 71 rfl (by decide) rfl (by omega) (by decide) rfl ?_
      refine qy_wA (qw_r α 41 (qzu (α 41) ((x2 / 32) : Int).toNat v19)) rfl (fun α20 e21 => ?_)
      have hI22 : qI σ α20 κ ρ := by rw [e21]; exact qI_r hI 41 _ rfl (show (-9223372036854775808) ≤ v19 ∧ v19 ≤ 9223372036854775807 by omega)
      have hF23 : qFr [] [20, 33, 35, 41] σ α σ α20 := by rw [e21]; exact qFr_r hF0 41 _ (by decide)
      refine qr_goto 121 rfl rfl ?_
      refine qr_retV rfl rfl (by decide) (by decide) ?_
      exact ⟨_, rfl, hI22, hF23, rfl⟩
  · skip
    refine qr_tabIn 98 rfl (by omega) (by omega) (by rw [h1]; rfl) rfl ?_
    refine qr_aload_n 99 rfl rfl rfl ?_
    refine qr_get 102 rfl rfl rfl (by decide) rfl ?_
    refine qr_get 105 rfl rfl rfl (by decide) rfl ?_
    refine qr_iload_n 106 rfl rfl rfl ?_
    refine qr_iload_n 107 rfl rfl rfl ?_
    refine qr_iastore 108 rfl (by decide) rfl (by omega) (by decide) rfl ?_
    refine qy_wA (qw_r α 20 (qzu (α 20) (x2 : Int).toNat x3)) rfl (fun α24 e25 => ?_)
    have hI26 : qI σ α24 κ ρ := by rw [e25]; exact qI_r hI 20 _ rfl (show (-2147483648) ≤ x3 ∧ x3 ≤ 2147483647 by omega)
    have hF27 : qFr [] [20, 33, 35, 41] σ α σ α24 := by rw [e25]; exact qFr_r hF0 20 _ (by decide)
    refine qr_goto 121 rfl rfl ?_
    refine qr_retV rfl rfl (by decide) (by decide) ?_
    exact ⟨_, rfl, hI26, hF27, rfl⟩
  · skip
    refine qr_tabOut 111 rfl (by omega) (by omega) rfl ?_
    refine qr_aload_n 112 rfl rfl rfl ?_
    refine qr_get 115 rfl rfl rfl (by decide) rfl ?_
    refine qr_get 118 rfl rfl rfl (by decide) rfl ?_
    refine qr_iload_n 119 rfl rfl rfl ?_
    refine qr_iload_n 120 rfl rfl rfl ?_
    refine qr_iastore 121 rfl (by decide) rfl (by omega) (by decide) rfl ?_
    refine qy_wA (qw_r α 35 (qzu (α 35) (x2 : Int).toNat x3)) rfl (fun α28 e29 => ?_)
    have hI30 : qI σ α28 κ ρ := by rw [e29]; exact qI_r hI 35 _ rfl (show (-2147483648) ≤ x3 ∧ x3 ≤ 2147483647 by omega)
    have hF31 : qFr [] [20, 33, 35, 41] σ α σ α28 := by rw [e29]; exact qFr_r hF0 35 _ (by decide)
    refine qr_retV rfl rfl (by decide) (by decide) ?_
    exact ⟨_, rfl, hI30, hF31, rfl⟩

set_option maxHeartbeats 4000000 in
set_option maxRecDepth 20000 in
/-- OneRoof$History.forgetFirst -/
theorem sf_54_76 {L : Nat} {xs : Nat → Int} {vb : Bool} {d : Nat} {σ α : Nat → Nat → Int} {κ : Nat → Option Nat} {ρ : Nat}  (hI : qI σ α κ ρ)  : qm_T (qe L xs vb) (d + 1) 54 [.ref 76] (qw σ α κ ρ) (fun r w' => ∃ σ' α', w' = qw σ' α' κ ρ ∧ qI σ' α' κ ρ ∧ qFr [(76, 7)] [77, 78, 79, 80] σ α σ' α' ∧ σ' 76 7 = 39 ∧ r = none) := by
  refine qr_start (d := d + 0) qv_e54 (Nat.le_of_ble_eq_true rfl) ?_
  show qr_W (qe L xs vb) (d + 0) qx_e54 _ (0, [(0, .ref 76)], [], _, 0, 0)
  have hF0 := qFr_rf [(76, 7)] [77, 78, 79, 80] σ α
  refine qr_aload_n 1 rfl rfl rfl ?_
  refine qr_get 4 rfl rfl rfl (by decide) rfl ?_
  refine qr_iconst 5 rfl rfl ?_
  refine qr_aload_n 6 rfl rfl rfl ?_
  refine qr_get 9 rfl rfl rfl (by decide) rfl ?_
  refine qr_iconst 10 rfl rfl ?_
  refine qr_bipush 12 rfl (by decide) rfl ?_
  refine qy_copyi 15 rfl (by decide) (by decide) rfl rfl (by omega) (by omega) (by omega) (by omega) (by omega) (by decide) (by decide) rfl ?_
  refine qy_wA (qw_r α 77 (va_cpy (α 77) (α 77) (1 : Int).toNat (0 : Int).toNat (39 : Int).toNat)) rfl (fun α1 e2 => ?_)
  have hF4 : qFr [(76, 7)] [77, 78, 79, 80] σ α σ α1 := by rw [e2]; exact qFr_r hF0 77 _ (by decide)
  refine qr_aload_n 16 rfl rfl rfl ?_
  refine qr_get 19 rfl rfl rfl (by decide) rfl ?_
  refine qr_iconst 20 rfl rfl ?_
  refine qr_aload_n 21 rfl rfl rfl ?_
  refine qr_get 24 rfl rfl rfl (by decide) rfl ?_
  refine qr_iconst 25 rfl rfl ?_
  refine qr_bipush 27 rfl (by decide) rfl ?_
  refine qy_copyi 30 rfl (by decide) (by decide) rfl rfl (by omega) (by omega) (by omega) (by omega) (by omega) (by decide) (by decide) rfl ?_
  refine qy_wA (qw_r α1 78 (va_cpy (α1 78) (α1 78) (1 : Int).toNat (0 : Int).toNat (39 : Int).toNat)) rfl (fun α5 e6 => ?_)
  have hI7 : qI σ α5 κ ρ := by rw [e6, e2]; exact qI_cpy77 hI (by omega)
  have hF8 : qFr [(76, 7)] [77, 78, 79, 80] σ α σ α5 := by rw [e6]; exact qFr_r hF4 78 _ (by decide)
  refine qr_aload_n 31 rfl rfl rfl ?_
  refine qr_get 34 rfl rfl rfl (by decide) rfl ?_
  refine qr_iconst 35 rfl rfl ?_
  refine qr_aload_n 36 rfl rfl rfl ?_
  refine qr_get 39 rfl rfl rfl (by decide) rfl ?_
  refine qr_iconst 40 rfl rfl ?_
  refine qr_bipush 42 rfl (by decide) rfl ?_
  refine qy_copyi 45 rfl (by decide) (by decide) rfl rfl (by omega) (by omega) (by omega) (by omega) (by omega) (by decide) (by decide) rfl ?_
  refine qy_wA (qw_r α5 79 (va_cpy (α5 79) (α5 79) (1 : Int).toNat (0 : Int).toNat (39 : Int).toNat)) rfl (fun α9 e10 => ?_)
  have hI11 : qI σ α9 κ ρ := by rw [e10]; exact qI_cpy hI7 79 79 rfl rfl (show _ ≤ 40 by omega)
  have hF12 : qFr [(76, 7)] [77, 78, 79, 80] σ α σ α9 := by rw [e10]; exact qFr_r hF8 79 _ (by decide)
  refine qr_aload_n 46 rfl rfl rfl ?_
  refine qr_get 49 rfl rfl rfl (by decide) rfl ?_
  refine qr_iconst 50 rfl rfl ?_
  refine qr_aload_n 51 rfl rfl rfl ?_
  refine qr_get 54 rfl rfl rfl (by decide) rfl ?_
  refine qr_iconst 55 rfl rfl ?_
  refine qr_bipush 57 rfl (by decide) rfl ?_
  refine qy_copyi 60 rfl (by decide) (by decide) rfl rfl (by omega) (by omega) (by omega) (by omega) (by omega) (by decide) (by decide) rfl ?_
  refine qy_wA (qw_r α9 80 (va_cpy (α9 80) (α9 80) (1 : Int).toNat (0 : Int).toNat (39 : Int).toNat)) rfl (fun α13 e14 => ?_)
  have hI15 : qI σ α13 κ ρ := by rw [e14]; exact qI_cpy hI11 80 80 rfl rfl (show _ ≤ 40 by omega)
  have hF16 : qFr [(76, 7)] [77, 78, 79, 80] σ α σ α13 := by rw [e14]; exact qFr_r hF12 80 _ (by decide)
  refine qr_aload_n 61 rfl rfl rfl ?_
  refine qr_bipush 63 rfl (by decide) rfl ?_
  refine qr_put 66 rfl (by decide) rfl (Nat.le_of_ble_eq_true rfl) (Nat.le_of_ble_eq_true rfl) (Or.inl rfl) (qr_fitI rfl _) rfl ?_
  refine qy_wS (qw_s σ 76 7 39) rfl (fun σ17 e18 => ?_)
  have hI19 : qI σ17 α13 κ ρ := by rw [e18]; exact qI_s hI15 76 7 rfl (show 0 ≤ 39 ∧ 39 ≤ 40 by omega)
  have hF20 : qFr [(76, 7)] [77, 78, 79, 80] σ α σ17 α13 := by rw [e18]; exact qFr_s hF16 76 7 _ (by decide)
  refine qr_retV rfl rfl (by decide) (by decide) ?_
  exact ⟨_, _, rfl, hI19, hF20, (by have hw : σ17 76 7 = 39 := (congrFun (congrFun e18 76) 7).trans rfl; omega), rfl⟩

set_option maxHeartbeats 4000000 in
set_option maxRecDepth 20000 in
/-- OneRoof$History.change -/
theorem sf_52_76 {L : Nat} {xs : Nat → Int} {vb : Bool} {d : Nat} {σ α : Nat → Nat → Int} {κ : Nat → Option Nat} {ρ : Nat} {x1 : Int} {x2 : Int} {x3 : Int} (hI : qI σ α κ ρ) (r1 : (-2147483648) ≤ x1 ∧ x1 ≤ 2147483647) (r2 : 0 ≤ x2 ∧ x2 ≤ 1919) (r3 : (-2147483648) ≤ x3 ∧ x3 ≤ 2147483647) (p0 : (x1 = 0 → x2 ≤ 39) ∧ (x1 = 2 → x2 ≤ 31) ∧ (¬ x1 = 0 → ¬ x1 = 1 → ¬ x1 = 2 → x2 ≤ 59)) : qm_T (qe L xs vb) (d + 3) 52 [.ref 76, .int (qz x1), .int (qz x2), .int (qz x3)] (qw σ α κ ρ) (fun r w' => ∃ σ' α', w' = qw σ' α' κ ρ ∧ qI σ' α' κ ρ ∧ qFr [(76, 7), (76, 8)] [20, 33, 35, 41, 77, 78, 79, 80] σ α σ' α' ∧ ∃ v : Int, r = some (.int (qz v)) ∧ ((-2147483648) ≤ v ∧ v ≤ 2147483647)) := by
  refine qr_start (d := d + 2) qv_e52 (Nat.le_of_ble_eq_true rfl) ?_
  show qr_W (qe L xs vb) (d + 2) qx_e52 _ (0, [(0, .ref 76), (1, .int (qz x1)), (2, .int (qz x2)), (3, .int (qz x3))], [], _, 0, 0)
  have hF0 := qFr_rf [(76, 7), (76, 8)] [20, 33, 35, 41, 77, 78, 79, 80] σ α
  refine qr_aload_n 1 rfl rfl rfl ?_
  refine qr_iload_n 2 rfl rfl rfl ?_
  refine qr_iload_n 3 rfl rfl rfl ?_
  refine qr_callN 6 rfl rfl rfl (sf_53_76 (d := d + 0) hI (by omega) (by omega) (by omega)) ?_
  rintro _ _ ⟨rfl, v1, rfl, hv1⟩
  show qr_W (qe L xs vb) (d + 2) qx_e52 _ (6, _, [.int (qz v1)], qw σ α κ ρ, 0, 0)
  refine qr_istore _ 8 rfl (by decide) rfl rfl ?_
  refine qr_iload 10 rfl rfl rfl ?_
  refine qr_iload_n 11 rfl rfl rfl ?_
  refine qr_icmp_ne 17 14 rfl rfl rfl (by omega) (by omega) (fun h2 => ?_) (fun h2 => ?_)
  · skip
    refine qr_aload_n 18 rfl rfl rfl ?_
    refine qr_get 21 rfl rfl rfl (by decide) rfl ?_
    have hs3 : 0 ≤ σ 76 7 ∧ σ 76 7 ≤ 40 := hI.1 76 7
    refine qr_bipush 23 rfl (by decide) rfl ?_
    have hJ20 : ∀ (ls : qm_L) (σ15 α16 : Nat → Nat → Int), qm_get ls 0 = some (.ref 76) → qm_get ls 1 = some (.int (qz x1)) → qm_get ls 2 = some (.int (qz x2)) → qm_get ls 3 = some (.int (qz x3)) → qm_get ls 4 = some (.int (qz v1)) → qI σ15 α16 κ ρ → qFr [(76, 7), (76, 8)] [20, 33, 35, 41, 77, 78, 79, 80] σ α σ15 α16 → σ15 76 7 ≤ 39 → qr_W (qe L xs vb) (d + 2) qx_e52 (fun r w' => ∃ σ' α', w' = qw σ' α' κ ρ ∧ qI σ' α' κ ρ ∧ qFr [(76, 7), (76, 8)] [20, 33, 35, 41, 77, 78, 79, 80] σ α σ' α' ∧ ∃ v : Int, r = some (.int (qz v)) ∧ ((-2147483648) ≤ v ∧ v ≤ 2147483647)) (30, ls, [], qw σ15 α16 κ ρ, 0, 0) := by
      intro ls σ15 α16 g10 g11 g12 g13 g14 hI17 hF18 hx19
      refine qr_aload_n 31 rfl g10 rfl ?_
      refine qr_get 34 rfl rfl rfl (by decide) rfl ?_
      refine qr_aload_n 35 rfl g10 rfl ?_
      refine qr_get 38 rfl rfl rfl (by decide) rfl ?_
      have hs21 : 0 ≤ σ15 76 7 ∧ σ15 76 7 ≤ 40 := hI17.1 76 7
      refine qr_iload_n 39 rfl g11 rfl ?_
      refine qr_iastore 40 rfl (by decide) rfl (by omega) (by decide) rfl ?_
      refine qy_wA (qw_r α16 77 (qzu (α16 77) ((σ15 76 7) : Int).toNat x1)) rfl (fun α22 e23 => ?_)
      have hF25 : qFr [(76, 7), (76, 8)] [20, 33, 35, 41, 77, 78, 79, 80] σ α σ15 α22 := by rw [e23]; exact qFr_r hF18 77 _ (by decide)
      refine qr_aload_n 41 rfl g10 rfl ?_
      refine qr_get 44 rfl rfl rfl (by decide) rfl ?_
      refine qr_aload_n 45 rfl g10 rfl ?_
      refine qr_get 48 rfl rfl rfl (by decide) rfl ?_
      refine qr_iload_n 49 rfl g12 rfl ?_
      refine qr_iastore 50 rfl (by decide) rfl (by omega) (by decide) rfl ?_
      refine qy_wA (qw_r α22 78 (qzu (α22 78) ((σ15 76 7) : Int).toNat x2)) rfl (fun α26 e27 => ?_)
      have hI28 : qI σ15 α26 κ ρ := by rw [e27, e23]; exact qI_r77 hI17 _ (show 0 ≤ x2 ∧ x2 ≤ 1919 by omega) (by omega)
      have hF29 : qFr [(76, 7), (76, 8)] [20, 33, 35, 41, 77, 78, 79, 80] σ α σ15 α26 := by rw [e27]; exact qFr_r hF25 78 _ (by decide)
      refine qr_aload_n 51 rfl g10 rfl ?_
      refine qr_get 54 rfl rfl rfl (by decide) rfl ?_
      refine qr_aload_n 55 rfl g10 rfl ?_
      refine qr_get 58 rfl rfl rfl (by decide) rfl ?_
      refine qr_iload 60 rfl g14 rfl ?_
      refine qr_iastore 61 rfl (by decide) rfl (by omega) (by decide) rfl ?_
      refine qy_wA (qw_r α26 79 (qzu (α26 79) ((σ15 76 7) : Int).toNat v1)) rfl (fun α30 e31 => ?_)
      have hI32 : qI σ15 α30 κ ρ := by rw [e31]; exact qI_r hI28 79 _ rfl (show (-2147483648) ≤ v1 ∧ v1 ≤ 2147483647 by omega)
      have hF33 : qFr [(76, 7), (76, 8)] [20, 33, 35, 41, 77, 78, 79, 80] σ α σ15 α30 := by rw [e31]; exact qFr_r hF29 79 _ (by decide)
      refine qr_aload_n 62 rfl g10 rfl ?_
      refine qr_get 65 rfl rfl rfl (by decide) rfl ?_
      refine qr_aload_n 66 rfl g10 rfl ?_
      refine qr_get 69 rfl rfl rfl (by decide) rfl ?_
      refine qr_iload_n 70 rfl g13 rfl ?_
      refine qr_iastore 71 rfl (by decide) rfl (by omega) (by decide) rfl ?_
      refine qy_wA (qw_r α30 80 (qzu (α30 80) ((σ15 76 7) : Int).toNat x3)) rfl (fun α34 e35 => ?_)
      have hI36 : qI σ15 α34 κ ρ := by rw [e35]; exact qI_r hI32 80 _ rfl (show (-2147483648) ≤ x3 ∧ x3 ≤ 2147483647 by omega)
      have hF37 : qFr [(76, 7), (76, 8)] [20, 33, 35, 41, 77, 78, 79, 80] σ α σ15 α34 := by rw [e35]; exact qFr_r hF33 80 _ (by decide)
      refine qr_aload_n 72 rfl g10 rfl ?_
      refine qr_dup 73 rfl rfl rfl ?_
      refine qr_get 76 rfl rfl rfl (by decide) rfl ?_
      refine qr_iconst 77 rfl rfl ?_
      refine qr_iadd 78 rfl rfl ?_
      refine qr_put 81 rfl (by decide) rfl (Nat.le_of_ble_eq_true rfl) (Nat.le_of_ble_eq_true rfl) (Or.inl rfl) (qr_fitI rfl _) rfl ?_
      refine qy_wS (qw_s σ15 76 7 ((σ15 76 7) + 1)) rfl (fun σ38 e39 => ?_)
      have hI40 : qI σ38 α34 κ ρ := by rw [e39]; exact qI_s hI36 76 7 rfl (show 0 ≤ ((σ15 76 7) + 1) ∧ ((σ15 76 7) + 1) ≤ 40 by omega)
      have hF41 : qFr [(76, 7), (76, 8)] [20, 33, 35, 41, 77, 78, 79, 80] σ α σ38 α34 := by rw [e39]; exact qFr_s hF37 76 7 _ (by decide)
      refine qr_aload_n 82 rfl g10 rfl ?_
      refine qr_aload_n 83 rfl g10 rfl ?_
      refine qr_get 86 rfl rfl rfl (by decide) rfl ?_
      refine qy_v ((σ15 76 7) + 1) ((congrFun (congrFun e39 76) 7).trans rfl) ?_
      refine qr_put 89 rfl (by decide) rfl (Nat.le_of_ble_eq_true rfl) (Nat.le_of_ble_eq_true rfl) (Or.inl rfl) (qr_fitI rfl _) rfl ?_
      refine qy_wS (qw_s σ38 76 8 ((σ15 76 7) + 1)) rfl (fun σ42 e43 => ?_)
      have hI44 : qI σ42 α34 κ ρ := by rw [e43]; exact qI_s hI40 76 8 rfl (show 0 ≤ ((σ15 76 7) + 1) ∧ ((σ15 76 7) + 1) ≤ 40 by omega)
      have hF45 : qFr [(76, 7), (76, 8)] [20, 33, 35, 41, 77, 78, 79, 80] σ α σ42 α34 := by rw [e43]; exact qFr_s hF41 76 8 _ (by decide)
      refine qr_aload_n 90 rfl g10 rfl ?_
      refine qr_iload_n 91 rfl g11 rfl ?_
      refine qr_iload_n 92 rfl g12 rfl ?_
      refine qr_iload_n 93 rfl g13 rfl ?_
      refine qr_callN 96 rfl rfl rfl (sf_55_76 (d := d + 1) hI44 (by omega) (by omega) (by omega) (by omega)) ?_
      rintro _ _ ⟨α46, rfl, hI47, hG48, rfl⟩
      have hF49 : qFr [(76, 7), (76, 8)] [20, 33, 35, 41, 77, 78, 79, 80] σ α σ42 α46 := qFr_t hF45 hG48 (by decide) (by decide)
      show qr_W (qe L xs vb) (d + 2) qx_e52 _ (96, _, [], qw σ42 α46 κ ρ, 0, 0)
      refine qr_iload 98 rfl g14 rfl ?_
      refine qr_retI rfl rfl (by decide) (by decide) ?_
      exact ⟨_, _, rfl, hI47, hF49, v1, rfl, by omega⟩
    refine qr_icmp_lt 30 26 rfl rfl rfl (by omega) (by omega) (fun h50 => ?_) (fun h50 => ?_)
    · skip
      exact hJ20 _ σ α rfl rfl rfl rfl rfl hI hF0 (by have hw : σ 76 7 = (σ 76 7) := rfl; omega)
    · skip
      refine qr_aload_n 27 rfl rfl rfl ?_
      refine qr_callN 30 rfl rfl rfl (sf_54_76 (d := d + 1) hI ) ?_
      rintro _ _ ⟨σ52, α53, rfl, hI54, hG55, hw51, rfl⟩
      have hF56 : qFr [(76, 7), (76, 8)] [20, 33, 35, 41, 77, 78, 79, 80] σ α σ52 α53 := qFr_t hF0 hG55 (by decide) (by decide)
      show qr_W (qe L xs vb) (d + 2) qx_e52 _ (30, _, [], qw σ52 α53 κ ρ, 0, 0)
      exact hJ20 _ σ52 α53 rfl rfl rfl rfl rfl hI54 hF56 (by omega)
  · skip
    refine qr_iload 16 rfl rfl rfl ?_
    refine qr_retI rfl rfl (by decide) (by decide) ?_
    exact ⟨_, _, rfl, hI, hF0, v1, rfl, by omega⟩

set_option maxHeartbeats 4000000 in
set_option maxRecDepth 20000 in
/-- OneRoof$History.back -/
theorem sf_145_76 {L : Nat} {xs : Nat → Int} {vb : Bool} {d : Nat} {σ α : Nat → Nat → Int} {κ : Nat → Option Nat} {ρ : Nat}  (hI : qI σ α κ ρ)  : qm_T (qe L xs vb) (d + 2) 145 [.ref 76] (qw σ α κ ρ) (fun r w' => ∃ σ' α', w' = qw σ' α' κ ρ ∧ qI σ' α' κ ρ ∧ qFr [(76, 7)] [20, 33, 35, 41] σ α σ' α' ∧ ∃ v : Int, r = some (.int (qz v)) ∧ ((-2147483648) ≤ v ∧ v ≤ 2147483647)) := by
  refine qr_start (d := d + 1) qv_e145 (Nat.le_of_ble_eq_true rfl) ?_
  show qr_W (qe L xs vb) (d + 1) qx_e145 _ (0, [(0, .ref 76)], [], _, 0, 0)
  have hF0 := qFr_rf [(76, 7)] [20, 33, 35, 41] σ α
  refine qr_aload_n 1 rfl rfl rfl ?_
  refine qr_get 4 rfl rfl rfl (by decide) rfl ?_
  have hs1 : 0 ≤ σ 76 7 ∧ σ 76 7 ≤ 40 := hI.1 76 7
  refine qr_if_gt 10 7 rfl rfl rfl (by omega) (fun h2 => ?_) (fun h2 => ?_)
  · skip
    refine qr_aload_n 11 rfl rfl rfl ?_
    refine qr_dup 12 rfl rfl rfl ?_
    refine qr_get 15 rfl rfl rfl (by decide) rfl ?_
    refine qr_iconst 16 rfl rfl ?_
    refine qr_isub 17 rfl rfl ?_
    refine qr_put 20 rfl (by decide) rfl (Nat.le_of_ble_eq_true rfl) (Nat.le_of_ble_eq_true rfl) (Or.inl rfl) (qr_fitI rfl _) rfl ?_
    refine qy_wS (qw_s σ 76 7 ((σ 76 7) - 1)) rfl (fun σ3 e4 => ?_)
    have hI5 : qI σ3 α κ ρ := by rw [e4]; exact qI_s hI 76 7 rfl (show 0 ≤ ((σ 76 7) - 1) ∧ ((σ 76 7) - 1) ≤ 40 by omega)
    have hF6 : qFr [(76, 7)] [20, 33, 35, 41] σ α σ3 α := by rw [e4]; exact qFr_s hF0 76 7 _ (by decide)
    refine qr_aload_n 21 rfl rfl rfl ?_
    refine qr_aload_n 22 rfl rfl rfl ?_
    refine qr_get 25 rfl rfl rfl (by decide) rfl ?_
    refine qr_aload_n 26 rfl rfl rfl ?_
    refine qr_get 29 rfl rfl rfl (by decide) rfl ?_
    refine qy_v ((σ 76 7) - 1) ((congrFun (congrFun e4 76) 7).trans rfl) ?_
    refine qr_iaload 30 rfl rfl (by omega) (by decide) rfl ?_
    refine qr_topI (fun v7 hv7 => ?_)
    have hs8 : (-2147483648) ≤ v7 ∧ v7 ≤ 2147483647 := by rw [hv7]; exact hI5.2.1 77 _ (show _ < 40 by omega)
    refine qr_aload_n 31 rfl rfl rfl ?_
    refine qr_get 34 rfl rfl rfl (by decide) rfl ?_
    refine qr_aload_n 35 rfl rfl rfl ?_
    refine qr_get 38 rfl rfl rfl (by decide) rfl ?_
    refine qy_v ((σ 76 7) - 1) ((congrFun (congrFun e4 76) 7).trans rfl) ?_
    refine qr_iaload 39 rfl rfl (by omega) (by decide) rfl ?_
    refine qr_topI (fun v9 hv9 => ?_)
    have hs10 : 0 ≤ v9 ∧ v9 ≤ 1919 := by rw [hv9]; exact hI5.2.1 78 _ (show _ < 40 by omega)
    have hs11 := hI5.2.2.2.2.2.1 (((σ 76 7) - 1) : Int).toNat (by omega)
    refine qr_aload_n 40 rfl rfl rfl ?_
    refine qr_get 43 rfl rfl rfl (by decide) rfl ?_
    refine qr_aload_n 44 rfl rfl rfl ?_
    refine qr_get 47 rfl rfl rfl (by decide) rfl ?_
    refine qy_v ((σ 76 7) - 1) ((congrFun (congrFun e4 76) 7).trans rfl) ?_
    refine qr_iaload 48 rfl rfl (by omega) (by decide) rfl ?_
    refine qr_topI (fun v12 hv12 => ?_)
    have hs13 : (-2147483648) ≤ v12 ∧ v12 ≤ 2147483647 := by rw [hv12]; exact hI5.2.1 79 _ (show _ < 40 by omega)
    refine qr_callN 51 rfl rfl rfl (sf_55_76 (d := d + 0) hI5 (by omega) (by omega) (by omega) (by omega)) ?_
    rintro _ _ ⟨α14, rfl, hI15, hG16, rfl⟩
    have hF17 : qFr [(76, 7)] [20, 33, 35, 41] σ α σ3 α14 := qFr_t hF6 hG16 (by decide) (by decide)
    show qr_W (qe L xs vb) (d + 1) qx_e145 _ (51, _, [], qw σ3 α14 κ ρ, 0, 0)
    refine qr_aload_n 52 rfl rfl rfl ?_
    refine qr_get 55 rfl rfl rfl (by decide) rfl ?_
    refine qy_v ((σ 76 7) - 1) ((congrFun (congrFun e4 76) 7).trans rfl) ?_
    refine qr_retI rfl rfl (by decide) (by decide) ?_
    exact ⟨_, _, rfl, hI15, hF17, ((σ 76 7) - 1), rfl, by omega⟩
  · skip
    refine qr_bipush 9 rfl (by decide) rfl ?_
    refine qr_retI rfl rfl (by decide) (by decide) ?_
    exact ⟨_, _, rfl, hI, hF0, (-5), rfl, by omega⟩

set_option maxHeartbeats 4000000 in
set_option maxRecDepth 20000 in
/-- OneRoof$History.again -/
theorem sf_147_76 {L : Nat} {xs : Nat → Int} {vb : Bool} {d : Nat} {σ α : Nat → Nat → Int} {κ : Nat → Option Nat} {ρ : Nat}  (hI : qI σ α κ ρ)  : qm_T (qe L xs vb) (d + 2) 147 [.ref 76] (qw σ α κ ρ) (fun r w' => ∃ σ' α', w' = qw σ' α' κ ρ ∧ qI σ' α' κ ρ ∧ qFr [(76, 7)] [20, 33, 35, 41] σ α σ' α' ∧ ∃ v : Int, r = some (.int (qz v)) ∧ ((-2147483648) ≤ v ∧ v ≤ 2147483647)) := by
  refine qr_start (d := d + 1) qv_e147 (Nat.le_of_ble_eq_true rfl) ?_
  show qr_W (qe L xs vb) (d + 1) qx_e147 _ (0, [(0, .ref 76)], [], _, 0, 0)
  have hF0 := qFr_rf [(76, 7)] [20, 33, 35, 41] σ α
  refine qr_aload_n 1 rfl rfl rfl ?_
  refine qr_get 4 rfl rfl rfl (by decide) rfl ?_
  have hs1 : 0 ≤ σ 76 7 ∧ σ 76 7 ≤ 40 := hI.1 76 7
  refine qr_aload_n 5 rfl rfl rfl ?_
  refine qr_get 8 rfl rfl rfl (by decide) rfl ?_
  have hs2 : 0 ≤ σ 76 8 ∧ σ 76 8 ≤ 40 := hI.1 76 8
  refine qr_icmp_ge 20 11 rfl rfl rfl (by omega) (by omega) (fun h3 => ?_) (fun h3 => ?_)
  · skip
    refine qr_bipush 22 rfl (by decide) rfl ?_
    refine qr_retI rfl rfl (by decide) (by decide) ?_
    exact ⟨_, _, rfl, hI, hF0, (-5), rfl, by omega⟩
  · skip
    refine qr_aload_n 12 rfl rfl rfl ?_
    refine qr_get 15 rfl rfl rfl (by decide) rfl ?_
    refine qr_bipush 17 rfl (by decide) rfl ?_
    refine qr_icmp_lt 23 20 rfl rfl rfl (by omega) (by omega) (fun h4 => ?_) (fun h => False.elim (by omega))
    refine qr_aload_n 24 rfl rfl rfl ?_
    refine qr_aload_n 25 rfl rfl rfl ?_
    refine qr_get 28 rfl rfl rfl (by decide) rfl ?_
    refine qr_aload_n 29 rfl rfl rfl ?_
    refine qr_get 32 rfl rfl rfl (by decide) rfl ?_
    refine qr_iaload 33 rfl rfl (by omega) (by decide) rfl ?_
    refine qr_topI (fun v5 hv5 => ?_)
    have hs6 : (-2147483648) ≤ v5 ∧ v5 ≤ 2147483647 := by rw [hv5]; exact hI.2.1 77 _ (show _ < 40 by omega)
    refine qr_aload_n 34 rfl rfl rfl ?_
    refine qr_get 37 rfl rfl rfl (by decide) rfl ?_
    refine qr_aload_n 38 rfl rfl rfl ?_
    refine qr_get 41 rfl rfl rfl (by decide) rfl ?_
    refine qr_iaload 42 rfl rfl (by omega) (by decide) rfl ?_
    refine qr_topI (fun v7 hv7 => ?_)
    have hs8 : 0 ≤ v7 ∧ v7 ≤ 1919 := by rw [hv7]; exact hI.2.1 78 _ (show _ < 40 by omega)
    have hs9 := hI.2.2.2.2.2.1 ((σ 76 7) : Int).toNat (by omega)
    refine qr_aload_n 43 rfl rfl rfl ?_
    refine qr_get 46 rfl rfl rfl (by decide) rfl ?_
    refine qr_aload_n 47 rfl rfl rfl ?_
    refine qr_get 50 rfl rfl rfl (by decide) rfl ?_
    refine qr_iaload 51 rfl rfl (by omega) (by decide) rfl ?_
    refine qr_topI (fun v10 hv10 => ?_)
    have hs11 : (-2147483648) ≤ v10 ∧ v10 ≤ 2147483647 := by rw [hv10]; exact hI.2.1 80 _ (show _ < 40 by omega)
    refine qr_callN 54 rfl rfl rfl (sf_55_76 (d := d + 0) hI (by omega) (by omega) (by omega) (by omega)) ?_
    rintro _ _ ⟨α12, rfl, hI13, hG14, rfl⟩
    have hF15 : qFr [(76, 7)] [20, 33, 35, 41] σ α σ α12 := qFr_t hF0 hG14 (by decide) (by decide)
    show qr_W (qe L xs vb) (d + 1) qx_e147 _ (54, _, [], qw σ α12 κ ρ, 0, 0)
    refine qr_aload_n 55 rfl rfl rfl ?_
    refine qr_dup 56 rfl rfl rfl ?_
    refine qr_get 59 rfl rfl rfl (by decide) rfl ?_
    refine qr_iconst 60 rfl rfl ?_
    refine qr_iadd 61 rfl rfl ?_
    refine qr_put 64 rfl (by decide) rfl (Nat.le_of_ble_eq_true rfl) (Nat.le_of_ble_eq_true rfl) (Or.inl rfl) (qr_fitI rfl _) rfl ?_
    refine qy_wS (qw_s σ 76 7 ((σ 76 7) + 1)) rfl (fun σ16 e17 => ?_)
    have hI18 : qI σ16 α12 κ ρ := by rw [e17]; exact qI_s hI13 76 7 rfl (show 0 ≤ ((σ 76 7) + 1) ∧ ((σ 76 7) + 1) ≤ 40 by omega)
    have hF19 : qFr [(76, 7)] [20, 33, 35, 41] σ α σ16 α12 := by rw [e17]; exact qFr_s hF15 76 7 _ (by decide)
    refine qr_aload_n 65 rfl rfl rfl ?_
    refine qr_get 68 rfl rfl rfl (by decide) rfl ?_
    refine qy_v (σ 76 8) ((congrFun (congrFun e17 76) 8).trans rfl) ?_
    refine qr_aload_n 69 rfl rfl rfl ?_
    refine qr_get 72 rfl rfl rfl (by decide) rfl ?_
    refine qy_v ((σ 76 7) + 1) ((congrFun (congrFun e17 76) 7).trans rfl) ?_
    refine qr_isub 73 rfl rfl ?_
    refine qr_retI rfl rfl (by decide) (by decide) ?_
    exact ⟨_, _, rfl, hI18, hF19, ((σ 76 8) - ((σ 76 7) + 1)), rfl, by omega⟩

set_option maxHeartbeats 4000000 in
set_option maxRecDepth 20000 in
/-- OneRoof.sword -/
theorem sf_51_16 {L : Nat} {xs : Nat → Int} {vb : Bool} {d : Nat} {σ α : Nat → Nat → Int} {κ : Nat → Option Nat} {ρ : Nat} {x1 : Int} {x2 : Int} (hI : qI σ α κ ρ) (r1 : (-2147483648) ≤ x1 ∧ x1 ≤ 2147483647) (r2 : (-2147483648) ≤ x2 ∧ x2 ≤ 2147483647) : qm_T (qe L xs vb) (d + 4) 51 [.ref 16, .int (qz x1), .int (qz x2)] (qw σ α κ ρ) (fun r w' => ∃ σ' α', w' = qw σ' α' κ ρ ∧ qI σ' α' κ ρ ∧ qFr [(76, 7), (76, 8)] [20, 33, 35, 41, 77, 78, 79, 80] σ α σ' α' ∧ ∃ v : Int, r = some (.int (qz v)) ∧ ((-2147483648) ≤ v ∧ v ≤ 2147483647)) := by
  refine qr_start (d := d + 3) qv_e51 (Nat.le_of_ble_eq_true rfl) ?_
  show qr_W (qe L xs vb) (d + 3) qx_e51 _ (0, [(0, .ref 16), (1, .int (qz x1)), (2, .int (qz x2))], [], _, 0, 0)
  have hF0 := qFr_rf [(76, 7), (76, 8)] [20, 33, 35, 41, 77, 78, 79, 80] σ α
  refine qr_aload_n 1 rfl rfl rfl ?_
  refine qr_get 4 rfl rfl rfl (by decide) rfl ?_
  refine qr_iload_n 5 rfl rfl rfl ?_
  refine qr_callN 8 rfl rfl rfl (sf_40_17 (d := d + 2) hI (by omega)) ?_
  have hs3 : 0 ≤ σ 17 6 ∧ σ 17 6 ≤ 32 := hI.1 17 6
  rintro _ _ ⟨rfl, v1, rfl, hv1, hp2⟩
  show qr_W (qe L xs vb) (d + 3) qx_e51 _ (8, _, [.int (qz v1)], qw σ α κ ρ, 0, 0)
  refine qr_if_eq 18 11 rfl rfl rfl (by omega) (fun h4 => ?_) (fun h4 => ?_)
  · skip
    refine qr_iconst 19 rfl rfl ?_
    refine qr_retI rfl rfl (by decide) (by decide) ?_
    exact ⟨_, _, rfl, hI, hF0, (-1), rfl, by omega⟩
  · skip
    refine qr_iload_n 12 rfl rfl rfl ?_
    refine qr_callN 15 rfl rfl rfl (sf_41 (d := d + 2) hI (by omega)) ?_
    rintro _ _ ⟨rfl, v5, rfl, hv5, hp6⟩
    show qr_W (qe L xs vb) (d + 3) qx_e51 _ (15, _, [.int (qz v5)], qw σ α κ ρ, 0, 0)
    refine qr_if_ne 20 18 rfl rfl rfl (by omega) (fun h7 => ?_) (fun h7 => ?_)
    · skip
      refine qr_aload_n 21 rfl rfl rfl ?_
      refine qr_get 24 rfl rfl rfl (by decide) rfl ?_
      refine qr_iconst 25 rfl rfl ?_
      refine qr_iload_n 26 rfl rfl rfl ?_
      refine qr_iload_n 27 rfl rfl rfl ?_
      refine qr_callN 30 rfl rfl rfl (sf_52_76 (d := d + 0) hI (by omega) (by omega) (by omega) (by omega)) ?_
      rintro _ _ ⟨σ9, α10, rfl, hI11, hG12, v8, rfl, hv8⟩
      have hF13 : qFr [(76, 7), (76, 8)] [20, 33, 35, 41, 77, 78, 79, 80] σ α σ9 α10 := qFr_t hF0 hG12 (by decide) (by decide)
      show qr_W (qe L xs vb) (d + 3) qx_e51 _ (30, _, [.int (qz v8)], qw σ9 α10 κ ρ, 0, 0)
      refine qr_retI rfl rfl (by decide) (by decide) ?_
      exact ⟨_, _, rfl, hI11, hF13, v8, rfl, by omega⟩
    · skip
      refine qr_iconst 19 rfl rfl ?_
      refine qr_retI rfl rfl (by decide) (by decide) ?_
      exact ⟨_, _, rfl, hI, hF0, (-1), rfl, by omega⟩

set_option maxHeartbeats 4000000 in
set_option maxRecDepth 20000 in
/-- OneRoof.pay -/
theorem sf_64_16 {L : Nat} {xs : Nat → Int} {vb : Bool} {d : Nat} {σ α : Nat → Nat → Int} {κ : Nat → Option Nat} {ρ : Nat} {x1 : Int} {x2 : Int} (hI : qI σ α κ ρ) (r1 : (-2147483648) ≤ x1 ∧ x1 ≤ 2147483647) (r2 : (-2147483648) ≤ x2 ∧ x2 ≤ 2147483647) : qm_T (qe L xs vb) (d + 4) 64 [.ref 16, .int (qz x1), .int (qz x2)] (qw σ α κ ρ) (fun r w' => ∃ σ' α', w' = qw σ' α' κ ρ ∧ qI σ' α' κ ρ ∧ qFr [(76, 7), (76, 8)] [20, 33, 35, 41, 77, 78, 79, 80] σ α σ' α' ∧ ∃ v : Int, r = some (.int (qz v)) ∧ ((-2147483648) ≤ v ∧ v ≤ 2147483647)) := by
  refine qr_start (d := d + 3) qv_e64 (Nat.le_of_ble_eq_true rfl) ?_
  show qr_W (qe L xs vb) (d + 3) qx_e64 _ (0, [(0, .ref 16), (1, .int (qz x1)), (2, .int (qz x2))], [], _, 0, 0)
  have hF0 := qFr_rf [(76, 7), (76, 8)] [20, 33, 35, 41, 77, 78, 79, 80] σ α
  refine qr_iload_n 1 rfl rfl rfl ?_
  refine qr_if_lt 26 4 rfl rfl rfl (by omega) (fun h1 => ?_) (fun h1 => ?_)
  · skip
    refine qr_iconst 27 rfl rfl ?_
    refine qr_retI rfl rfl (by decide) (by decide) ?_
    exact ⟨_, _, rfl, hI, hF0, (-1), rfl, by omega⟩
  · skip
    refine qr_iload_n 5 rfl rfl rfl ?_
    refine qr_aload_n 6 rfl rfl rfl ?_
    refine qr_get 9 rfl rfl rfl (by decide) rfl ?_
    refine qr_get 12 rfl rfl rfl (by decide) rfl ?_
    have hs2 : 0 ≤ σ 27 7 ∧ σ 27 7 ≤ 40 := hI.1 27 7
    refine qr_icmp_ge 26 15 rfl rfl rfl (by omega) (by omega) (fun h3 => ?_) (fun h3 => ?_)
    · skip
      refine qr_iconst 27 rfl rfl ?_
      refine qr_retI rfl rfl (by decide) (by decide) ?_
      exact ⟨_, _, rfl, hI, hF0, (-1), rfl, by omega⟩
    · skip
      refine qr_iload_n 16 rfl rfl rfl ?_
      refine qr_if_lt 26 19 rfl rfl rfl (by omega) (fun h4 => ?_) (fun h4 => ?_)
      · skip
        refine qr_iconst 27 rfl rfl ?_
        refine qr_retI rfl rfl (by decide) (by decide) ?_
        exact ⟨_, _, rfl, hI, hF0, (-1), rfl, by omega⟩
      · skip
        refine qr_iload_n 20 rfl rfl rfl ?_
        refine qr_sipush 23 rfl (by decide) rfl ?_
        refine qr_icmp_le 28 26 rfl rfl rfl (by omega) (by omega) (fun h5 => ?_) (fun h5 => ?_)
        · skip
          refine qr_aload_n 29 rfl rfl rfl ?_
          refine qr_get 32 rfl rfl rfl (by decide) rfl ?_
          refine qr_iconst 33 rfl rfl ?_
          refine qr_iload_n 34 rfl rfl rfl ?_
          refine qr_iload_n 35 rfl rfl rfl ?_
          refine qr_callN 38 rfl rfl rfl (sf_52_76 (d := d + 0) hI (by omega) (by omega) (by omega) (by omega)) ?_
          rintro _ _ ⟨σ7, α8, rfl, hI9, hG10, v6, rfl, hv6⟩
          have hF11 : qFr [(76, 7), (76, 8)] [20, 33, 35, 41, 77, 78, 79, 80] σ α σ7 α8 := qFr_t hF0 hG10 (by decide) (by decide)
          show qr_W (qe L xs vb) (d + 3) qx_e64 _ (38, _, [.int (qz v6)], qw σ7 α8 κ ρ, 0, 0)
          refine qr_retI rfl rfl (by decide) (by decide) ?_
          exact ⟨_, _, rfl, hI9, hF11, v6, rfl, by omega⟩
        · skip
          refine qr_iconst 27 rfl rfl ?_
          refine qr_retI rfl rfl (by decide) (by decide) ?_
          exact ⟨_, _, rfl, hI, hF0, (-1), rfl, by omega⟩

set_option maxHeartbeats 4000000 in
set_option maxRecDepth 20000 in
/-- OneRoof.cover -/
theorem sf_75_16 {L : Nat} {xs : Nat → Int} {vb : Bool} {d : Nat} {σ α : Nat → Nat → Int} {κ : Nat → Option Nat} {ρ : Nat} {x1 : Int} {x2 : Int} {x3 : Int} (hI : qI σ α κ ρ) (r1 : (-2147483648) ≤ x1 ∧ x1 ≤ 2147483647) (r2 : (-2147483648) ≤ x2 ∧ x2 ≤ 2147483647) (r3 : (-2147483648) ≤ x3 ∧ x3 ≤ 2147483647) : qm_T (qe L xs vb) (d + 4) 75 [.ref 16, .int (qz x1), .int (qz x2), .int (qz x3)] (qw σ α κ ρ) (fun r w' => ∃ σ' α', w' = qw σ' α' κ ρ ∧ qI σ' α' κ ρ ∧ qFr [(76, 7), (76, 8)] [20, 33, 35, 41, 77, 78, 79, 80] σ α σ' α' ∧ ∃ v : Int, r = some (.int (qz v)) ∧ ((-2147483648) ≤ v ∧ v ≤ 2147483647)) := by
  refine qr_start (d := d + 3) qv_e75 (Nat.le_of_ble_eq_true rfl) ?_
  show qr_W (qe L xs vb) (d + 3) qx_e75 _ (0, [(0, .ref 16), (1, .int (qz x1)), (2, .int (qz x2)), (3, .int (qz x3))], [], _, 0, 0)
  have hF0 := qFr_rf [(76, 7), (76, 8)] [20, 33, 35, 41, 77, 78, 79, 80] σ α
  refine qr_aload_n 1 rfl rfl rfl ?_
  refine qr_get 4 rfl rfl rfl (by decide) rfl ?_
  refine qr_iload_n 5 rfl rfl rfl ?_
  refine qr_callN 8 rfl rfl rfl (sf_73_34 (d := d + 2) hI (by omega)) ?_
  have hs3 : 0 ≤ σ 34 7 ∧ σ 34 7 ≤ 60 := hI.1 34 7
  rintro _ _ ⟨rfl, v1, rfl, hv1, hp2⟩
  show qr_W (qe L xs vb) (d + 3) qx_e75 _ (8, _, [.int (qz v1)], qw σ α κ ρ, 0, 0)
  refine qr_if_eq 29 11 rfl rfl rfl (by omega) (fun h4 => ?_) (fun h4 => ?_)
  · skip
    refine qr_iconst 30 rfl rfl ?_
    refine qr_retI rfl rfl (by decide) (by decide) ?_
    exact ⟨_, _, rfl, hI, hF0, (-1), rfl, by omega⟩
  · skip
    refine qr_aload_n 12 rfl rfl rfl ?_
    refine qr_get 15 rfl rfl rfl (by decide) rfl ?_
    refine qr_iload_n 16 rfl rfl rfl ?_
    refine qr_callN 19 rfl rfl rfl (sf_40_17 (d := d + 2) hI (by omega)) ?_
    have hs7 : 0 ≤ σ 17 6 ∧ σ 17 6 ≤ 32 := hI.1 17 6
    rintro _ _ ⟨rfl, v5, rfl, hv5, hp6⟩
    show qr_W (qe L xs vb) (d + 3) qx_e75 _ (19, _, [.int (qz v5)], qw σ α κ ρ, 0, 0)
    refine qr_if_eq 29 22 rfl rfl rfl (by omega) (fun h8 => ?_) (fun h8 => ?_)
    · skip
      refine qr_iconst 30 rfl rfl ?_
      refine qr_retI rfl rfl (by decide) (by decide) ?_
      exact ⟨_, _, rfl, hI, hF0, (-1), rfl, by omega⟩
    · skip
      refine qr_iload_n 23 rfl rfl rfl ?_
      refine qr_callN 26 rfl rfl rfl (sf_41 (d := d + 2) hI (by omega)) ?_
      rintro _ _ ⟨rfl, v9, rfl, hv9, hp10⟩
      show qr_W (qe L xs vb) (d + 3) qx_e75 _ (26, _, [.int (qz v9)], qw σ α κ ρ, 0, 0)
      refine qr_if_ne 31 29 rfl rfl rfl (by omega) (fun h11 => ?_) (fun h11 => ?_)
      · skip
        refine qr_aload_n 32 rfl rfl rfl ?_
        refine qr_get 35 rfl rfl rfl (by decide) rfl ?_
        refine qr_iconst 36 rfl rfl ?_
        refine qr_iload_n 37 rfl rfl rfl ?_
        refine qr_bipush 39 rfl (by decide) rfl ?_
        refine qr_imul 40 rfl rfl ?_
        refine qr_iload_n 41 rfl rfl rfl ?_
        refine qr_iadd 42 rfl rfl ?_
        refine qr_iload_n 43 rfl rfl rfl ?_
        refine qr_callN 46 rfl rfl rfl (sf_52_76 (d := d + 0) hI (by omega) (by omega) (by omega) (by omega)) ?_
        rintro _ _ ⟨σ13, α14, rfl, hI15, hG16, v12, rfl, hv12⟩
        have hF17 : qFr [(76, 7), (76, 8)] [20, 33, 35, 41, 77, 78, 79, 80] σ α σ13 α14 := qFr_t hF0 hG16 (by decide) (by decide)
        show qr_W (qe L xs vb) (d + 3) qx_e75 _ (46, _, [.int (qz v12)], qw σ13 α14 κ ρ, 0, 0)
        refine qr_retI rfl rfl (by decide) (by decide) ?_
        exact ⟨_, _, rfl, hI15, hF17, v12, rfl, by omega⟩
      · skip
        refine qr_iconst 30 rfl rfl ?_
        refine qr_retI rfl rfl (by decide) (by decide) ?_
        exact ⟨_, _, rfl, hI, hF0, (-1), rfl, by omega⟩

set_option maxHeartbeats 4000000 in
set_option maxRecDepth 20000 in
/-- OneRoof.undo -/
theorem sf_144_16 {L : Nat} {xs : Nat → Int} {vb : Bool} {d : Nat} {σ α : Nat → Nat → Int} {κ : Nat → Option Nat} {ρ : Nat}  (hI : qI σ α κ ρ)  : qm_T (qe L xs vb) (d + 3) 144 [.ref 16] (qw σ α κ ρ) (fun r w' => ∃ σ' α', w' = qw σ' α' κ ρ ∧ qI σ' α' κ ρ ∧ qFr [(76, 7)] [20, 33, 35, 41] σ α σ' α' ∧ ∃ v : Int, r = some (.int (qz v)) ∧ ((-2147483648) ≤ v ∧ v ≤ 2147483647)) := by
  refine qr_start (d := d + 2) qv_e144 (Nat.le_of_ble_eq_true rfl) ?_
  show qr_W (qe L xs vb) (d + 2) qx_e144 _ (0, [(0, .ref 16)], [], _, 0, 0)
  have hF0 := qFr_rf [(76, 7)] [20, 33, 35, 41] σ α
  refine qr_aload_n 1 rfl rfl rfl ?_
  refine qr_get 4 rfl rfl rfl (by decide) rfl ?_
  refine qr_callN 7 rfl rfl rfl (sf_145_76 (d := d + 0) hI ) ?_
  rintro _ _ ⟨σ2, α3, rfl, hI4, hG5, v1, rfl, hv1⟩
  have hF6 : qFr [(76, 7)] [20, 33, 35, 41] σ α σ2 α3 := qFr_t hF0 hG5 (by decide) (by decide)
  show qr_W (qe L xs vb) (d + 2) qx_e144 _ (7, _, [.int (qz v1)], qw σ2 α3 κ ρ, 0, 0)
  refine qr_retI rfl rfl (by decide) (by decide) ?_
  exact ⟨_, _, rfl, hI4, hF6, v1, rfl, by omega⟩

set_option maxHeartbeats 4000000 in
set_option maxRecDepth 20000 in
/-- OneRoof.redo -/
theorem sf_146_16 {L : Nat} {xs : Nat → Int} {vb : Bool} {d : Nat} {σ α : Nat → Nat → Int} {κ : Nat → Option Nat} {ρ : Nat}  (hI : qI σ α κ ρ)  : qm_T (qe L xs vb) (d + 3) 146 [.ref 16] (qw σ α κ ρ) (fun r w' => ∃ σ' α', w' = qw σ' α' κ ρ ∧ qI σ' α' κ ρ ∧ qFr [(76, 7)] [20, 33, 35, 41] σ α σ' α' ∧ ∃ v : Int, r = some (.int (qz v)) ∧ ((-2147483648) ≤ v ∧ v ≤ 2147483647)) := by
  refine qr_start (d := d + 2) qv_e146 (Nat.le_of_ble_eq_true rfl) ?_
  show qr_W (qe L xs vb) (d + 2) qx_e146 _ (0, [(0, .ref 16)], [], _, 0, 0)
  have hF0 := qFr_rf [(76, 7)] [20, 33, 35, 41] σ α
  refine qr_aload_n 1 rfl rfl rfl ?_
  refine qr_get 4 rfl rfl rfl (by decide) rfl ?_
  refine qr_callN 7 rfl rfl rfl (sf_147_76 (d := d + 0) hI ) ?_
  rintro _ _ ⟨σ2, α3, rfl, hI4, hG5, v1, rfl, hv1⟩
  have hF6 : qFr [(76, 7)] [20, 33, 35, 41] σ α σ2 α3 := qFr_t hF0 hG5 (by decide) (by decide)
  show qr_W (qe L xs vb) (d + 2) qx_e146 _ (7, _, [.int (qz v1)], qw σ2 α3 κ ρ, 0, 0)
  refine qr_retI rfl rfl (by decide) (by decide) ?_
  exact ⟨_, _, rfl, hI4, hF6, v1, rfl, by omega⟩

set_option maxHeartbeats 4000000 in
set_option maxRecDepth 20000 in
/-- OneRoof.blow -/
theorem sf_138_16 {L : Nat} {xs : Nat → Int} {vb : Bool} {d : Nat} {σ α : Nat → Nat → Int} {κ : Nat → Option Nat} {ρ : Nat} {x1 : Int} (hI : qI σ α κ ρ) (r1 : (-2147483648) ≤ x1 ∧ x1 ≤ 2147483647) : qm_T (qe L xs vb) (d + 1) 138 [.ref 16, .int (qz x1)] (qw σ α κ ρ) (fun r w' => w' = qw σ α κ ρ ∧ ∃ v : Int, r = some (.int (qz v)) ∧ ((-2147483648) ≤ v ∧ v ≤ 2147483647)) := by
  refine qr_start (d := d + 0) qv_e138 (Nat.le_of_ble_eq_true rfl) ?_
  show qr_W (qe L xs vb) (d + 0) qx_e138 _ (0, [(0, .ref 16), (1, .int (qz x1))], [], _, 0, 0)
  refine qr_iload_n 1 rfl rfl rfl ?_
  refine qr_if_lt 15 4 rfl rfl rfl (by omega) (fun h1 => ?_) (fun h1 => ?_)
  · skip
    refine qr_iconst 16 rfl rfl ?_
    refine qr_retI rfl rfl (by decide) (by decide) ?_
    exact ⟨rfl, (-1), rfl, by omega⟩
  · skip
    refine qr_iload_n 5 rfl rfl rfl ?_
    refine qr_aload_n 6 rfl rfl rfl ?_
    refine qr_get 9 rfl rfl rfl (by decide) rfl ?_
    refine qr_get 12 rfl rfl rfl (by decide) rfl ?_
    have hs2 : 0 ≤ σ 70 2 ∧ σ 70 2 ≤ 31 := hI.1 70 2
    refine qr_icmp_lt 17 15 rfl rfl rfl (by omega) (by omega) (fun h3 => ?_) (fun h3 => ?_)
    · skip
      refine qr_aload_n 18 rfl rfl rfl ?_
      refine qr_get 21 rfl rfl rfl (by decide) rfl ?_
      refine qr_get 24 rfl rfl rfl (by decide) rfl ?_
      refine qr_iload_n 25 rfl rfl rfl ?_
      refine qr_iaload 26 rfl rfl (by omega) (by decide) rfl ?_
      refine qr_topI (fun v4 hv4 => ?_)
      have hs5 : 0 ≤ v4 ∧ v4 ≤ 3131 := by rw [hv4]; exact hI.2.1 71 _ (show _ < 31 by omega)
      have hs6 : v4 % 100 ≤ 31 := by rw [hv4]; exact hI.2.2.2.2.1 71 (Or.inl rfl) _ (by omega)
      refine qr_retI rfl rfl (by decide) (by decide) ?_
      exact ⟨rfl, v4, rfl, by omega⟩
    · skip
      refine qr_iconst 16 rfl rfl ?_
      refine qr_retI rfl rfl (by decide) (by decide) ?_
      exact ⟨rfl, (-1), rfl, by omega⟩

set_option maxHeartbeats 4000000 in
set_option maxRecDepth 20000 in
/-- OneRoof.alive -/
theorem sf_139_16 {L : Nat} {xs : Nat → Int} {vb : Bool} {d : Nat} {σ α : Nat → Nat → Int} {κ : Nat → Option Nat} {ρ : Nat}  (hI : qI σ α κ ρ)  : qm_T (qe L xs vb) (d + 1) 139 [.ref 16] (qw σ α κ ρ) (fun r w' => w' = qw σ α κ ρ ∧ ∃ v : Int, r = some (.long (ql v)) ∧ ((-9223372036854775808) ≤ v ∧ v ≤ 9223372036854775807)) := by
  refine qr_start (d := d + 0) qv_e139 (Nat.le_of_ble_eq_true rfl) ?_
  show qr_W (qe L xs vb) (d + 0) qx_e139 _ (0, [(0, .ref 16)], [], _, 0, 0)
  refine qr_aload_n 1 rfl rfl rfl ?_
  refine qr_get 4 rfl rfl rfl (by decide) rfl ?_
  refine qr_get 7 rfl rfl rfl (by decide) rfl ?_
  have hs1 : 0 ≤ σ 70 2 ∧ σ 70 2 ≤ 31 := hI.1 70 2
  refine qr_if_ne 16 10 rfl rfl rfl (by omega) (fun h2 => ?_) (fun h2 => ?_)
  · skip
    refine qr_aload_n 17 rfl rfl rfl ?_
    refine qr_get 20 rfl rfl rfl (by decide) rfl ?_
    refine qr_get 23 rfl rfl rfl (by decide) rfl ?_
    have hs3 : (-9223372036854775808) ≤ σ 70 3 ∧ σ 70 3 ≤ 9223372036854775807 := hI.1 70 3
    refine qr_retL rfl rfl (by decide) (by decide) ?_
    exact ⟨rfl, (σ 70 3), rfl, by omega⟩
  · skip
    refine qr_ldc2 (-1) 13 rfl (by decide) rfl ?_
    refine qr_goto 23 rfl rfl ?_
    refine qr_retL rfl rfl (by decide) (by decide) ?_
    exact ⟨rfl, (-1), rfl, by omega⟩

set_option maxHeartbeats 4000000 in
set_option maxRecDepth 20000 in
/-- OneRoof.trace -/
theorem sf_154_16 {L : Nat} {xs : Nat → Int} {vb : Bool} {d : Nat} {σ α : Nat → Nat → Int} {κ : Nat → Option Nat} {ρ : Nat} {x1 : Int} (hI : qI σ α κ ρ) (r1 : (-2147483648) ≤ x1 ∧ x1 ≤ 2147483647) : qm_T (qe L xs vb) (d + 1) 154 [.ref 16, .int (qz x1)] (qw σ α κ ρ) (fun r w' => w' = qw σ α κ ρ ∧ ∃ v : Int, r = some (.int (qz v)) ∧ ((-2147483648) ≤ v ∧ v ≤ 2147483647)) := by
  refine qr_start (d := d + 0) qv_e154 (Nat.le_of_ble_eq_true rfl) ?_
  show qr_W (qe L xs vb) (d + 0) qx_e154 _ (0, [(0, .ref 16), (1, .int (qz x1))], [], _, 0, 0)
  refine qr_iload_n 1 rfl rfl rfl ?_
  refine qr_if_lt 27 4 rfl rfl rfl (by omega) (fun h1 => ?_) (fun h1 => ?_)
  · skip
    refine qr_iconst 28 rfl rfl ?_
    refine qr_retI rfl rfl (by decide) (by decide) ?_
    exact ⟨rfl, (-1), rfl, by omega⟩
  · skip
    refine qr_iload_n 5 rfl rfl rfl ?_
    refine qr_aload_n 6 rfl rfl rfl ?_
    refine qr_get 9 rfl rfl rfl (by decide) rfl ?_
    refine qr_get 12 rfl rfl rfl (by decide) rfl ?_
    have hs2 : (-2147483648) ≤ σ 42 1 ∧ σ 42 1 ≤ 2147483647 := hI.1 42 1
    refine qr_icmp_ge 27 15 rfl rfl rfl (by omega) (by omega) (fun h3 => ?_) (fun h3 => ?_)
    · skip
      refine qr_iconst 28 rfl rfl ?_
      refine qr_retI rfl rfl (by decide) (by decide) ?_
      exact ⟨rfl, (-1), rfl, by omega⟩
    · skip
      refine qr_iload_n 16 rfl rfl rfl ?_
      refine qr_aload_n 17 rfl rfl rfl ?_
      refine qr_get 20 rfl rfl rfl (by decide) rfl ?_
      refine qr_get 23 rfl rfl rfl (by decide) rfl ?_
      refine qr_alen 24 rfl rfl (by first | exact Or.inl (by decide) | exact Or.inr (Or.inl rfl) | exact Or.inr (Or.inr (Or.inl rfl)) | exact Or.inr (Or.inr (Or.inr (Or.inl rfl)))) rfl ?_
      refine qy_v 24 rfl ?_
      refine qr_icmp_lt 29 27 rfl rfl rfl (by omega) (by omega) (fun h4 => ?_) (fun h4 => ?_)
      · skip
        refine qr_aload_n 30 rfl rfl rfl ?_
        refine qr_get 33 rfl rfl rfl (by decide) rfl ?_
        refine qr_get 36 rfl rfl rfl (by decide) rfl ?_
        refine qr_iload_n 37 rfl rfl rfl ?_
        refine qr_iaload 38 rfl rfl (by omega) (by decide) rfl ?_
        refine qr_topI (fun v5 hv5 => ?_)
        have hs6 : (-2147483648) ≤ v5 ∧ v5 ≤ 2147483647 := by rw [hv5]; exact hI.2.1 43 _ (show _ < 24 by omega)
        refine qr_retI rfl rfl (by decide) (by decide) ?_
        exact ⟨rfl, v5, rfl, by omega⟩
      · skip
        refine qr_iconst 28 rfl rfl ?_
        refine qr_retI rfl rfl (by decide) (by decide) ?_
        exact ⟨rfl, (-1), rfl, by omega⟩

set_option maxHeartbeats 4000000 in
set_option maxRecDepth 20000 in
/-- OneRoof.must -/
theorem sf_87_16 {L : Nat} {xs : Nat → Int} {vb : Bool} {d : Nat} {σ α : Nat → Nat → Int} {κ : Nat → Option Nat} {ρ : Nat} {x1 : Int} {x2 : Int} {x3 : Int} (hI : qI σ α κ ρ) (r1 : (-2147483648) ≤ x1 ∧ x1 ≤ 2147483647) (r2 : (-9223372036854775808) ≤ x2 ∧ x2 ≤ 9223372036854775807) (r3 : (-2147483648) ≤ x3 ∧ x3 ≤ 2147483647) : qm_T (qe L xs vb) (d + 5) 87 [.ref 16, .int (qz x1), .long (ql x2), .int (qz x3)] (qw σ α κ ρ) (fun r w' => ∃ σ' α', w' = qw σ' α' κ ρ ∧ qI σ' α' κ ρ ∧ qFr [(58, 11), (58, 12)] [53, 57, 59, 60, 61, 62, 63, 85] σ α σ' α' ∧ ∃ v : Int, r = some (.int (qz v)) ∧ ((-2147483648) ≤ v ∧ v ≤ 2147483647)) := by
  refine qr_start (d := d + 4) qv_e87 (Nat.le_of_ble_eq_true rfl) ?_
  show qr_W (qe L xs vb) (d + 4) qx_e87 _ (0, [(0, .ref 16), (1, .int (qz x1)), (2, .long (ql x2)), (4, .int (qz x3))], [], _, 0, 0)
  have hF0 := qFr_rf [(58, 11), (58, 12)] [53, 57, 59, 60, 61, 62, 63, 85] σ α
  refine qr_aload_n 1 rfl rfl rfl ?_
  refine qr_get 4 rfl rfl rfl (by decide) rfl ?_
  refine qr_iload_n 5 rfl rfl rfl ?_
  refine qr_callN 8 rfl rfl rfl (sf_61_17 (d := d + 2) hI (by omega)) ?_
  have hs3 : 0 ≤ σ 17 6 ∧ σ 17 6 ≤ 32 := hI.1 17 6
  rintro _ _ ⟨rfl, v1, rfl, hv1, hp2⟩
  show qr_W (qe L xs vb) (d + 4) qx_e87 _ (8, _, [.int (qz v1)], qw σ α κ ρ, 0, 0)
  refine qr_if_eq 30 11 rfl rfl rfl (by omega) (fun h4 => ?_) (fun h4 => ?_)
  · skip
    refine qr_ldc (-2000000000) 32 rfl (by decide) rfl ?_
    refine qr_retI rfl rfl (by decide) (by decide) ?_
    exact ⟨_, _, rfl, hI, hF0, (-2000000000), rfl, by omega⟩
  · skip
    refine qr_aload_n 12 rfl rfl rfl ?_
    refine qr_get 15 rfl rfl rfl (by decide) rfl ?_
    refine qr_lload_n 16 rfl rfl rfl ?_
    refine qr_callN 19 rfl rfl rfl (sf_88_17 (d := d + 3) hI (by omega)) ?_
    rintro _ _ ⟨rfl, v5, rfl, hv5⟩
    show qr_W (qe L xs vb) (d + 4) qx_e87 _ (19, _, [.int (qz v5)], qw σ α κ ρ, 0, 0)
    refine qr_if_eq 30 22 rfl rfl rfl (by omega) (fun h6 => ?_) (fun h6 => ?_)
    · skip
      refine qr_ldc (-2000000000) 32 rfl (by decide) rfl ?_
      refine qr_retI rfl rfl (by decide) (by decide) ?_
      exact ⟨_, _, rfl, hI, hF0, (-2000000000), rfl, by omega⟩
    · skip
      refine qr_iload 24 rfl rfl rfl ?_
      refine qr_callN 27 rfl rfl rfl (sf_62 (d := d + 3) hI (by omega)) ?_
      rintro _ _ ⟨rfl, v7, rfl, hv7, hp8⟩
      show qr_W (qe L xs vb) (d + 4) qx_e87 _ (27, _, [.int (qz v7)], qw σ α κ ρ, 0, 0)
      refine qr_if_ne 33 30 rfl rfl rfl (by omega) (fun h9 => ?_) (fun h9 => ?_)
      · skip
        refine qr_lload_n 34 rfl rfl rfl ?_
        refine qr_aload_n 35 rfl rfl rfl ?_
        refine qr_get 38 rfl rfl rfl (by decide) rfl ?_
        refine qr_get 41 rfl rfl rfl (by decide) rfl ?_
        have hs10 : (-9223372036854775808) ≤ σ 17 5 ∧ σ 17 5 ≤ 9223372036854775807 := hI.1 17 5
        refine qr_ldc2 (-1) 44 rfl (by decide) rfl ?_
        refine qr_lxor 45 rfl rfl ?_
        refine qy_canl (fun v11 hv11 => ?_)
        refine qr_land 46 rfl rfl ?_
        refine qy_canl (fun v12 hv12 => ?_)
        refine qr_lstore _ 48 rfl (by decide) rfl rfl ?_
        refine qr_lload 50 rfl rfl rfl ?_
        refine qr_iload_n 51 rfl rfl rfl ?_
        refine qr_bipush 53 rfl (by decide) rfl ?_
        refine qr_idiv 54 rfl (by omega) (by omega) rfl ?_
        refine qr_callN 57 rfl rfl rfl (sf_50 (d := d + 3) hI (by omega) (by omega)) ?_
        rintro _ _ ⟨rfl, v13, rfl, hv13⟩
        show qr_W (qe L xs vb) (d + 4) qx_e87 _ (57, _, [.int (qz v13)], qw σ α κ ρ, 0, 0)
        refine qr_if_eq 72 60 rfl rfl rfl (by omega) (fun h14 => ?_) (fun h14 => ?_)
        · skip
          refine qr_ldc (-2000000000) 74 rfl (by decide) rfl ?_
          refine qr_retI rfl rfl (by decide) (by decide) ?_
          exact ⟨_, _, rfl, hI, hF0, (-2000000000), rfl, by omega⟩
        · skip
          refine qr_lload 62 rfl rfl rfl ?_
          refine qr_iload_n 63 rfl rfl rfl ?_
          refine qr_bipush 65 rfl (by decide) rfl ?_
          refine qr_irem 66 rfl (by omega) (by omega) rfl ?_
          refine qr_callN 69 rfl rfl rfl (sf_50 (d := d + 3) hI (by omega) (by omega)) ?_
          rintro _ _ ⟨rfl, v15, rfl, hv15⟩
          show qr_W (qe L xs vb) (d + 4) qx_e87 _ (69, _, [.int (qz v15)], qw σ α κ ρ, 0, 0)
          refine qr_if_ne 75 72 rfl rfl rfl (by omega) (fun h16 => ?_) (fun h16 => ?_)
          · skip
            refine qr_aload_n 76 rfl rfl rfl ?_
            refine qr_get 79 rfl rfl rfl (by decide) rfl ?_
            refine qr_iload 81 rfl rfl rfl ?_
            refine qr_callN 84 rfl rfl rfl (sf_89_58 (d := d + 3) hI (by omega)) ?_
            rintro _ _ ⟨σ17, rfl, hI18, hG19, rfl⟩
            have hF20 : qFr [(58, 11), (58, 12)] [53, 57, 59, 60, 61, 62, 63, 85] σ α σ17 α := qFr_t hF0 hG19 (by decide) (by decide)
            show qr_W (qe L xs vb) (d + 4) qx_e87 _ (84, _, [], qw σ17 α κ ρ, 0, 0)
            refine qr_aload_n 85 rfl rfl rfl ?_
            refine qr_get 88 rfl rfl rfl (by decide) rfl ?_
            refine qr_iconst 89 rfl rfl ?_
            refine qr_iload_n 90 rfl rfl rfl ?_
            refine qr_bipush 92 rfl (by decide) rfl ?_
            refine qr_idiv 93 rfl (by omega) (by omega) rfl ?_
            refine qr_iload_n 94 rfl rfl rfl ?_
            refine qr_bipush 96 rfl (by decide) rfl ?_
            refine qr_irem 97 rfl (by omega) (by omega) rfl ?_
            refine qr_iconst 98 rfl rfl ?_
            refine qr_lload 100 rfl rfl rfl ?_
            refine qr_callN 103 rfl rfl rfl (sf_90_58 (d := d + 0) hI18 (by omega) (by omega) (by omega) (by omega) (by omega) (by omega)) ?_
            rintro _ _ ⟨α22, rfl, hI23, hG24, v21, rfl, hv21⟩
            have hF25 : qFr [(58, 11), (58, 12)] [53, 57, 59, 60, 61, 62, 63, 85] σ α σ17 α22 := qFr_t hF20 hG24 (by decide) (by decide)
            show qr_W (qe L xs vb) (d + 4) qx_e87 _ (103, _, [.int (qz v21)], qw σ17 α22 κ ρ, 0, 0)
            refine qr_retI rfl rfl (by decide) (by decide) ?_
            exact ⟨_, _, rfl, hI23, hF25, v21, rfl, by omega⟩
          · skip
            refine qr_ldc (-2000000000) 74 rfl (by decide) rfl ?_
            refine qr_retI rfl rfl (by decide) (by decide) ?_
            exact ⟨_, _, rfl, hI, hF0, (-2000000000), rfl, by omega⟩
      · skip
        refine qr_ldc (-2000000000) 32 rfl (by decide) rfl ?_
        refine qr_retI rfl rfl (by decide) (by decide) ?_
        exact ⟨_, _, rfl, hI, hF0, (-2000000000), rfl, by omega⟩

set_option maxHeartbeats 4000000 in
set_option maxRecDepth 20000 in
/-- OneRoof.together -/
theorem sf_99_16 {L : Nat} {xs : Nat → Int} {vb : Bool} {d : Nat} {σ α : Nat → Nat → Int} {κ : Nat → Option Nat} {ρ : Nat} {x1 : Int} {x2 : Int} {x3 : Int} (hI : qI σ α κ ρ) (r1 : (-9223372036854775808) ≤ x1 ∧ x1 ≤ 9223372036854775807) (r2 : (-2147483648) ≤ x2 ∧ x2 ≤ 2147483647) (r3 : (-2147483648) ≤ x3 ∧ x3 ≤ 2147483647) : qm_T (qe L xs vb) (d + 6) 99 [.ref 16, .long (ql x1), .int (qz x2), .int (qz x3)] (qw σ α κ ρ) (fun r w' => ∃ σ' α', w' = qw σ' α' κ ρ ∧ qI σ' α' κ ρ ∧ qFr [(58, 11), (58, 12)] [53, 57, 59, 60, 61, 62, 63, 85] σ α σ' α' ∧ ∃ v : Int, r = some (.int (qz v)) ∧ ((-2147483648) ≤ v ∧ v ≤ 2147483647)) := by
  refine qr_start (d := d + 5) qv_e99 (Nat.le_of_ble_eq_true rfl) ?_
  show qr_W (qe L xs vb) (d + 5) qx_e99 _ (0, [(0, .ref 16), (1, .long (ql x1)), (3, .int (qz x2)), (4, .int (qz x3))], [], _, 0, 0)
  have hF0 := qFr_rf [(58, 11), (58, 12)] [53, 57, 59, 60, 61, 62, 63, 85] σ α
  refine qr_aload_n 1 rfl rfl rfl ?_
  refine qr_get 4 rfl rfl rfl (by decide) rfl ?_
  refine qr_lload_n 5 rfl rfl rfl ?_
  refine qr_callN 8 rfl rfl rfl (sf_88_17 (d := d + 4) hI (by omega)) ?_
  rintro _ _ ⟨rfl, v1, rfl, hv1⟩
  show qr_W (qe L xs vb) (d + 5) qx_e99 _ (8, _, [.int (qz v1)], qw σ α κ ρ, 0, 0)
  refine qr_if_eq 29 11 rfl rfl rfl (by omega) (fun h2 => ?_) (fun h2 => ?_)
  · skip
    refine qr_iconst 30 rfl rfl ?_
    refine qr_retI rfl rfl (by decide) (by decide) ?_
    exact ⟨_, _, rfl, hI, hF0, (-1), rfl, by omega⟩
  · skip
    refine qr_iload_n 12 rfl rfl rfl ?_
    refine qr_callN 15 rfl rfl rfl (sf_100 (d := d + 2) hI (by omega)) ?_
    rintro _ _ ⟨rfl, v3, rfl, hv3, hp4⟩
    show qr_W (qe L xs vb) (d + 5) qx_e99 _ (15, _, [.int (qz v3)], qw σ α κ ρ, 0, 0)
    refine qr_if_eq 29 18 rfl rfl rfl (by omega) (fun h5 => ?_) (fun h5 => ?_)
    · skip
      refine qr_iconst 30 rfl rfl ?_
      refine qr_retI rfl rfl (by decide) (by decide) ?_
      exact ⟨_, _, rfl, hI, hF0, (-1), rfl, by omega⟩
    · skip
      refine qr_iload 20 rfl rfl rfl ?_
      refine qr_if_lt 29 23 rfl rfl rfl (by omega) (fun h6 => ?_) (fun h6 => ?_)
      · skip
        refine qr_iconst 30 rfl rfl ?_
        refine qr_retI rfl rfl (by decide) (by decide) ?_
        exact ⟨_, _, rfl, hI, hF0, (-1), rfl, by omega⟩
      · skip
        refine qr_iload 25 rfl rfl rfl ?_
        refine qr_iconst 26 rfl rfl ?_
        refine qr_icmp_le 31 29 rfl rfl rfl (by omega) (by omega) (fun h7 => ?_) (fun h7 => ?_)
        · skip
          refine qr_lload_n 32 rfl rfl rfl ?_
          refine qr_aload_n 33 rfl rfl rfl ?_
          refine qr_get 36 rfl rfl rfl (by decide) rfl ?_
          refine qr_get 39 rfl rfl rfl (by decide) rfl ?_
          have hs8 : (-9223372036854775808) ≤ σ 17 5 ∧ σ 17 5 ≤ 9223372036854775807 := hI.1 17 5
          refine qr_ldc2 (-1) 42 rfl (by decide) rfl ?_
          refine qr_lxor 43 rfl rfl ?_
          refine qy_canl (fun v9 hv9 => ?_)
          refine qr_land 44 rfl rfl ?_
          refine qy_canl (fun v10 hv10 => ?_)
          refine qr_lstore _ 46 rfl (by decide) rfl rfl ?_
          refine qr_iload_n 47 rfl rfl rfl ?_
          refine qr_sipush 50 rfl (by decide) rfl ?_
          refine qr_idiv 51 rfl (by omega) (by omega) rfl ?_
          refine qr_istore _ 53 rfl (by decide) rfl rfl ?_
          refine qr_iload_n 54 rfl rfl rfl ?_
          refine qr_sipush 57 rfl (by decide) rfl ?_
          refine qr_irem 58 rfl (by omega) (by omega) rfl ?_
          refine qr_istore _ 60 rfl (by decide) rfl rfl ?_
          refine qr_iload 62 rfl rfl rfl ?_
          refine qr_istore _ 64 rfl (by decide) rfl rfl ?_
          have hL337 : ∀ (n : Nat) (ls : qm_L) (u329 : Int) (σ330 α331 : Nat → Nat → Int), 10000 - u329 < (n : Int) → qm_get ls 0 = some (.ref 16) → qm_get ls 4 = some (.int (qz x3)) → qm_get ls 5 = some (.long (ql v10)) → qm_get ls 7 = some (.int (qz (x2 / 10000))) → qm_get ls 8 = some (.int (qz (x2 % 10000))) → qm_get ls 9 = some (.int (qz u329)) → (0 ≤ u329 ∧ u329 ≤ 10000) → qI σ330 α331 κ ρ → qFr [(58, 11), (58, 12)] [53, 57, 59, 60, 61, 62, 63, 85] σ α σ330 α331 → σ330 17 5 = (σ 17 5) → (x2 / 10000) ≤ u329 → qr_W (qe L xs vb) (d + 5) qx_e99 (fun r w' => ∃ σ' α', w' = qw σ' α' κ ρ ∧ qI σ' α' κ ρ ∧ qFr [(58, 11), (58, 12)] [53, 57, 59, 60, 61, 62, 63, 85] σ α σ' α' ∧ ∃ v : Int, r = some (.int (qz v)) ∧ ((-2147483648) ≤ v ∧ v ≤ 2147483647)) (64, ls, [], qw σ330 α331 κ ρ, 0, 0) := by
            intro n
            induction n with
            | zero => intro ls u329 σ330 α331 hm g323 g324 g325 g326 g327 g328 hf335 hI332 hF333 hk334 hx336; exact False.elim (by omega)
            | succ n ih338 =>
              intro ls u329 σ330 α331 hm g323 g324 g325 g326 g327 g328 hf335 hI332 hF333 hk334 hx336
              refine qr_iload 66 rfl g328 rfl ?_
              refine qr_iload 68 rfl g327 rfl ?_
              refine qr_icmp_gt 154 71 rfl rfl rfl (by omega) (by omega) (fun h339 => ?_) (fun h339 => ?_)
              · skip
                refine qr_bipush 156 rfl (by decide) rfl ?_
                refine qr_retI rfl rfl (by decide) (by decide) ?_
                exact ⟨_, _, rfl, hI332, hF333, (-2), rfl, by omega⟩
              · skip
                refine qr_iload 73 rfl g328 rfl ?_
                refine qr_iload 75 rfl g326 rfl ?_
                refine qr_icmp_le 93 78 rfl rfl rfl (by omega) (by omega) (fun h340 => ?_) (fun h340 => ?_)
                · skip
                  refine qr_aload_n 94 rfl g323 rfl ?_
                  refine qr_get 97 rfl rfl rfl (by decide) rfl ?_
                  refine qr_iload 99 rfl g328 rfl ?_
                  refine qr_callN 102 rfl rfl rfl (sf_89_58 (d := d + 4) hI332 (by omega)) ?_
                  rintro _ _ ⟨σ341, rfl, hI342, hG343, rfl⟩
                  have hF344 : qFr [(58, 11), (58, 12)] [53, 57, 59, 60, 61, 62, 63, 85] σ α σ341 α331 := qFr_t hF333 hG343 (by decide) (by decide)
                  show qr_W (qe L xs vb) (d + 5) qx_e99 _ (102, _, [], qw σ341 α331 κ ρ, 0, 0)
                  refine qr_aload_n 103 rfl g323 rfl ?_
                  refine qr_get 106 rfl rfl rfl (by decide) rfl ?_
                  refine qr_lload 108 rfl g325 rfl ?_
                  refine qr_callN 111 rfl rfl rfl (sf_104_58 (d := d + 0) hI342 (by omega)) ?_
                  rintro _ _ ⟨α347, rfl, hI348, hG349, v345, rfl, hv345, hp346⟩
                  have hF350 : qFr [(58, 11), (58, 12)] [53, 57, 59, 60, 61, 62, 63, 85] σ α σ341 α347 := qFr_t hF344 hG349 (by decide) (by decide)
                  show qr_W (qe L xs vb) (d + 5) qx_e99 _ (111, _, [.int (qz v345)], qw σ341 α347 κ ρ, 0, 0)
                  refine qr_istore _ 113 rfl (by decide) rfl rfl ?_
                  refine qr_iload 115 rfl (qm_ge _ _ _) rfl ?_
                  refine qr_if_lt 148 118 rfl rfl rfl (by omega) (fun h351 => ?_) (fun h351 => ?_)
                  · skip
                    refine qr_iinc _ 151 rfl (qm_gk g328 (by decide) (Or.inr rfl)) (by decide) rfl rfl ?_
                    refine qr_goto 64 rfl rfl ?_
                    exact ih338 _ (u329 + 1) σ341 α347 (by omega) (qm_gk (qm_gk g323 (by decide) (Or.inl (by decide))) (by decide) (Or.inl (by decide))) (qm_gk (qm_gk g324 (by decide) (Or.inl (by decide))) (by decide) (Or.inl (by decide))) (qm_gk (qm_gk g325 (by decide) (Or.inl (by decide))) (by decide) (Or.inl (by decide))) (qm_gk (qm_gk g326 (by decide) (Or.inl (by decide))) (by decide) (Or.inl (by decide))) (qm_gk (qm_gk g327 (by decide) (Or.inl (by decide))) (by decide) (Or.inr rfl)) (qm_ge _ _ _) (by omega) hI348 hF350 ((hG343.1 17 5 (by decide)).trans ((hk334).trans rfl)) (by omega)
                  · skip
                    refine qr_iload 120 rfl (qm_gk g324 (by decide) (Or.inl (by decide))) rfl ?_
                    refine qr_if_ne 128 123 rfl rfl rfl (by omega) (fun h352 => ?_) (fun h352 => ?_)
                    · skip
                      refine qr_iload 130 rfl (qm_gk g324 (by decide) (Or.inl (by decide))) rfl ?_
                      refine qr_iconst 131 rfl rfl ?_
                      refine qr_icmp_ne 142 134 rfl rfl rfl (by omega) (by omega) (fun h353 => ?_) (fun h353 => ?_)
                      · skip
                        refine qr_iload 144 rfl (qm_ge _ _ _) rfl ?_
                        refine qr_bipush 146 rfl (by decide) rfl ?_
                        refine qr_irem 147 rfl (by omega) (by omega) rfl ?_
                        refine qr_retI rfl rfl (by decide) (by decide) ?_
                        exact ⟨_, _, rfl, hI348, hF350, (v345 % 100), rfl, by omega⟩
                      · skip
                        refine qr_iload 136 rfl (qm_ge _ _ _) rfl ?_
                        refine qr_bipush 138 rfl (by decide) rfl ?_
                        refine qr_idiv 139 rfl (by omega) (by omega) rfl ?_
                        refine qr_goto 147 rfl rfl ?_
                        refine qr_retI rfl rfl (by decide) (by decide) ?_
                        exact ⟨_, _, rfl, hI348, hF350, (v345 / 100), rfl, by omega⟩
                    · skip
                      refine qr_iload 125 rfl (qm_gk g328 (by decide) (Or.inr rfl)) rfl ?_
                      refine qr_goto 147 rfl rfl ?_
                      refine qr_retI rfl rfl (by decide) (by decide) ?_
                      exact ⟨_, _, rfl, hI348, hF350, u329, rfl, by omega⟩
                · skip
                  refine qr_aload_n 79 rfl g323 rfl ?_
                  refine qr_get 82 rfl rfl rfl (by decide) rfl ?_
                  refine qr_iload 84 rfl g328 rfl ?_
                  refine qr_callN 87 rfl rfl rfl (sf_101_58 (d := d + 3) hI332 (by omega)) ?_
                  rintro _ _ ⟨rfl, v354, rfl, hv354⟩
                  show qr_W (qe L xs vb) (d + 5) qx_e99 _ (87, _, [.int (qz v354)], qw σ330 α331 κ ρ, 0, 0)
                  refine qr_if_ne 93 90 rfl rfl rfl (by omega) (fun h355 => ?_) (fun h355 => ?_)
                  · skip
                    refine qr_aload_n 94 rfl g323 rfl ?_
                    refine qr_get 97 rfl rfl rfl (by decide) rfl ?_
                    refine qr_iload 99 rfl g328 rfl ?_
                    refine qr_callN 102 rfl rfl rfl (sf_89_58 (d := d + 4) hI332 (by omega)) ?_
                    rintro _ _ ⟨σ356, rfl, hI357, hG358, rfl⟩
                    have hF359 : qFr [(58, 11), (58, 12)] [53, 57, 59, 60, 61, 62, 63, 85] σ α σ356 α331 := qFr_t hF333 hG358 (by decide) (by decide)
                    show qr_W (qe L xs vb) (d + 5) qx_e99 _ (102, _, [], qw σ356 α331 κ ρ, 0, 0)
                    refine qr_aload_n 103 rfl g323 rfl ?_
                    refine qr_get 106 rfl rfl rfl (by decide) rfl ?_
                    refine qr_lload 108 rfl g325 rfl ?_
                    refine qr_callN 111 rfl rfl rfl (sf_104_58 (d := d + 0) hI357 (by omega)) ?_
                    rintro _ _ ⟨α362, rfl, hI363, hG364, v360, rfl, hv360, hp361⟩
                    have hF365 : qFr [(58, 11), (58, 12)] [53, 57, 59, 60, 61, 62, 63, 85] σ α σ356 α362 := qFr_t hF359 hG364 (by decide) (by decide)
                    show qr_W (qe L xs vb) (d + 5) qx_e99 _ (111, _, [.int (qz v360)], qw σ356 α362 κ ρ, 0, 0)
                    refine qr_istore _ 113 rfl (by decide) rfl rfl ?_
                    refine qr_iload 115 rfl (qm_ge _ _ _) rfl ?_
                    refine qr_if_lt 148 118 rfl rfl rfl (by omega) (fun h366 => ?_) (fun h366 => ?_)
                    · skip
                      refine qr_iinc _ 151 rfl (qm_gk g328 (by decide) (Or.inr rfl)) (by decide) rfl rfl ?_
                      refine qr_goto 64 rfl rfl ?_
                      exact ih338 _ (u329 + 1) σ356 α362 (by omega) (qm_gk (qm_gk g323 (by decide) (Or.inl (by decide))) (by decide) (Or.inl (by decide))) (qm_gk (qm_gk g324 (by decide) (Or.inl (by decide))) (by decide) (Or.inl (by decide))) (qm_gk (qm_gk g325 (by decide) (Or.inl (by decide))) (by decide) (Or.inl (by decide))) (qm_gk (qm_gk g326 (by decide) (Or.inl (by decide))) (by decide) (Or.inl (by decide))) (qm_gk (qm_gk g327 (by decide) (Or.inl (by decide))) (by decide) (Or.inr rfl)) (qm_ge _ _ _) (by omega) hI363 hF365 ((hG358.1 17 5 (by decide)).trans ((hk334).trans rfl)) (by omega)
                    · skip
                      refine qr_iload 120 rfl (qm_gk g324 (by decide) (Or.inl (by decide))) rfl ?_
                      refine qr_if_ne 128 123 rfl rfl rfl (by omega) (fun h367 => ?_) (fun h367 => ?_)
                      · skip
                        refine qr_iload 130 rfl (qm_gk g324 (by decide) (Or.inl (by decide))) rfl ?_
                        refine qr_iconst 131 rfl rfl ?_
                        refine qr_icmp_ne 142 134 rfl rfl rfl (by omega) (by omega) (fun h368 => ?_) (fun h368 => ?_)
                        · skip
                          refine qr_iload 144 rfl (qm_ge _ _ _) rfl ?_
                          refine qr_bipush 146 rfl (by decide) rfl ?_
                          refine qr_irem 147 rfl (by omega) (by omega) rfl ?_
                          refine qr_retI rfl rfl (by decide) (by decide) ?_
                          exact ⟨_, _, rfl, hI363, hF365, (v360 % 100), rfl, by omega⟩
                        · skip
                          refine qr_iload 136 rfl (qm_ge _ _ _) rfl ?_
                          refine qr_bipush 138 rfl (by decide) rfl ?_
                          refine qr_idiv 139 rfl (by omega) (by omega) rfl ?_
                          refine qr_goto 147 rfl rfl ?_
                          refine qr_retI rfl rfl (by decide) (by decide) ?_
                          exact ⟨_, _, rfl, hI363, hF365, (v360 / 100), rfl, by omega⟩
                      · skip
                        refine qr_iload 125 rfl (qm_gk g328 (by decide) (Or.inr rfl)) rfl ?_
                        refine qr_goto 147 rfl rfl ?_
                        refine qr_retI rfl rfl (by decide) (by decide) ?_
                        exact ⟨_, _, rfl, hI363, hF365, u329, rfl, by omega⟩
                  · skip
                    refine qr_goto 148 rfl rfl ?_
                    refine qr_iinc _ 151 rfl g328 (by decide) rfl rfl ?_
                    refine qr_goto 64 rfl rfl ?_
                    exact ih338 _ (u329 + 1) σ330 α331 (by omega) (qm_gk g323 (by decide) (Or.inl (by decide))) (qm_gk g324 (by decide) (Or.inl (by decide))) (qm_gk g325 (by decide) (Or.inl (by decide))) (qm_gk g326 (by decide) (Or.inl (by decide))) (qm_gk g327 (by decide) (Or.inr rfl)) (qm_ge _ _ _) (by omega) hI332 hF333 ((hk334).trans rfl) (by omega)
          exact hL337 ((10000 - (x2 / 10000) + 1 : Int)).toNat _ (x2 / 10000) σ α (by omega) rfl rfl rfl rfl rfl rfl (by omega) hI hF0 (rfl) (by omega)
        · skip
          refine qr_iconst 30 rfl rfl ?_
          refine qr_retI rfl rfl (by decide) (by decide) ?_
          exact ⟨_, _, rfl, hI, hF0, (-1), rfl, by omega⟩

set_option maxHeartbeats 4000000 in
set_option maxRecDepth 20000 in
/-- OneRoof.bars -/
theorem sf_105_16 {L : Nat} {xs : Nat → Int} {vb : Bool} {d : Nat} {σ α : Nat → Nat → Int} {κ : Nat → Option Nat} {ρ : Nat} {x1 : Int} {x2 : Int} (hI : qI σ α κ ρ) (r1 : (-2147483648) ≤ x1 ∧ x1 ≤ 2147483647) (r2 : (-2147483648) ≤ x2 ∧ x2 ≤ 2147483647) : qm_T (qe L xs vb) (d + 7) 105 [.ref 16, .int (qz x1), .int (qz x2)] (qw σ α κ ρ) (fun r w' => ∃ σ' α', w' = qw σ' α' κ ρ ∧ qI σ' α' κ ρ ∧ qFr [(58, 11), (58, 12)] [53, 57, 59, 60, 61, 62, 63, 85] σ α σ' α' ∧ ∃ v : Int, r = some (.int (qz v)) ∧ ((-2147483648) ≤ v ∧ v ≤ 2147483647)) := by
  refine qr_start (d := d + 6) qv_e105 (Nat.le_of_ble_eq_true rfl) ?_
  show qr_W (qe L xs vb) (d + 6) qx_e105 _ (0, [(0, .ref 16), (1, .int (qz x1)), (2, .int (qz x2))], [], _, 0, 0)
  have hF0 := qFr_rf [(58, 11), (58, 12)] [53, 57, 59, 60, 61, 62, 63, 85] σ α
  refine qr_aload_n 1 rfl rfl rfl ?_
  refine qr_get 4 rfl rfl rfl (by decide) rfl ?_
  refine qr_iload_n 5 rfl rfl rfl ?_
  refine qr_callN 8 rfl rfl rfl (sf_61_17 (d := d + 4) hI (by omega)) ?_
  have hs3 : 0 ≤ σ 17 6 ∧ σ 17 6 ≤ 32 := hI.1 17 6
  rintro _ _ ⟨rfl, v1, rfl, hv1, hp2⟩
  show qr_W (qe L xs vb) (d + 6) qx_e105 _ (8, _, [.int (qz v1)], qw σ α κ ρ, 0, 0)
  refine qr_if_eq 18 11 rfl rfl rfl (by omega) (fun h4 => ?_) (fun h4 => ?_)
  · skip
    refine qr_iconst 19 rfl rfl ?_
    refine qr_retI rfl rfl (by decide) (by decide) ?_
    exact ⟨_, _, rfl, hI, hF0, (-1), rfl, by omega⟩
  · skip
    refine qr_iload_n 12 rfl rfl rfl ?_
    refine qr_callN 15 rfl rfl rfl (sf_100 (d := d + 3) hI (by omega)) ?_
    rintro _ _ ⟨rfl, v5, rfl, hv5, hp6⟩
    show qr_W (qe L xs vb) (d + 6) qx_e105 _ (15, _, [.int (qz v5)], qw σ α κ ρ, 0, 0)
    refine qr_if_ne 20 18 rfl rfl rfl (by omega) (fun h7 => ?_) (fun h7 => ?_)
    · skip
      refine qr_aload_n 21 rfl rfl rfl ?_
      refine qr_get 24 rfl rfl rfl (by decide) rfl ?_
      refine qr_iload_n 25 rfl rfl rfl ?_
      refine qr_bipush 27 rfl (by decide) rfl ?_
      refine qr_idiv 28 rfl (by omega) (by omega) rfl ?_
      refine qr_iload_n 29 rfl rfl rfl ?_
      refine qr_bipush 31 rfl (by decide) rfl ?_
      refine qr_irem 32 rfl (by omega) (by omega) rfl ?_
      refine qr_iload_n 33 rfl rfl rfl ?_
      refine qr_sipush 36 rfl (by decide) rfl ?_
      refine qr_idiv 37 rfl (by omega) (by omega) rfl ?_
      refine qr_iload_n 38 rfl rfl rfl ?_
      refine qr_sipush 41 rfl (by decide) rfl ?_
      refine qr_irem 42 rfl (by omega) (by omega) rfl ?_
      refine qr_callN 45 rfl rfl rfl (sf_106_58 (d := d + 0) hI (by omega) (by omega) (by omega) (by omega) (by omega)) ?_
      rintro _ _ ⟨σ9, α10, rfl, hI11, hG12, v8, rfl, hv8⟩
      have hF13 : qFr [(58, 11), (58, 12)] [53, 57, 59, 60, 61, 62, 63, 85] σ α σ9 α10 := qFr_t hF0 hG12 (by decide) (by decide)
      show qr_W (qe L xs vb) (d + 6) qx_e105 _ (45, _, [.int (qz v8)], qw σ9 α10 κ ρ, 0, 0)
      refine qr_if_eq 52 48 rfl rfl rfl (by omega) (fun h14 => ?_) (fun h14 => ?_)
      · skip
        refine qr_iconst 53 rfl rfl ?_
        refine qr_retI rfl rfl (by decide) (by decide) ?_
        exact ⟨_, _, rfl, hI11, hF13, 0, rfl, by omega⟩
      · skip
        refine qr_iconst 49 rfl rfl ?_
        refine qr_goto 53 rfl rfl ?_
        refine qr_retI rfl rfl (by decide) (by decide) ?_
        exact ⟨_, _, rfl, hI11, hF13, 1, rfl, by omega⟩
    · skip
      refine qr_iconst 19 rfl rfl ?_
      refine qr_retI rfl rfl (by decide) (by decide) ?_
      exact ⟨_, _, rfl, hI, hF0, (-1), rfl, by omega⟩

set_option maxHeartbeats 4000000 in
set_option maxRecDepth 20000 in
/-- OneRoof.strike -/
theorem sf_133_16 {L : Nat} {xs : Nat → Int} {vb : Bool} {d : Nat} {σ α : Nat → Nat → Int} {κ : Nat → Option Nat} {ρ : Nat} {x1 : Int} {x2 : Int} {x3 : Int} {x4 : Int} (hI : qI σ α κ ρ) (r1 : (-2147483648) ≤ x1 ∧ x1 ≤ 2147483647) (r2 : (-9223372036854775808) ≤ x2 ∧ x2 ≤ 9223372036854775807) (r3 : (-2147483648) ≤ x3 ∧ x3 ≤ 2147483647) (r4 : (-2147483648) ≤ x4 ∧ x4 ≤ 2147483647) : qm_T (qe L xs vb) (d + 7) 133 [.ref 16, .int (qz x1), .long (ql x2), .int (qz x3), .int (qz x4)] (qw σ α κ ρ) (fun r w' => ∃ σ' α', w' = qw σ' α' κ ρ ∧ qI σ' α' κ ρ ∧ qFr [(17, 5), (58, 10), (58, 11), (58, 12), (70, 2), (70, 3), (70, 5), (70, 6), (76, 7), (76, 8)] [20, 33, 35, 41, 53, 57, 59, 60, 61, 62, 63, 71, 72, 77, 78, 79, 80, 85] σ α σ' α' ∧ ∃ v : Int, r = some (.int (qz v)) ∧ ((-2147483648) ≤ v ∧ v ≤ 2147483647)) := by
  refine qr_start (d := d + 6) qv_e133 (Nat.le_of_ble_eq_true rfl) ?_
  show qr_W (qe L xs vb) (d + 6) qx_e133 _ (0, [(0, .ref 16), (1, .int (qz x1)), (2, .long (ql x2)), (4, .int (qz x3)), (5, .int (qz x4))], [], _, 0, 0)
  have hF0 := qFr_rf [(17, 5), (58, 10), (58, 11), (58, 12), (70, 2), (70, 3), (70, 5), (70, 6), (76, 7), (76, 8)] [20, 33, 35, 41, 53, 57, 59, 60, 61, 62, 63, 71, 72, 77, 78, 79, 80, 85] σ α
  refine qr_aload_n 1 rfl rfl rfl ?_
  refine qr_get 4 rfl rfl rfl (by decide) rfl ?_
  refine qr_iload_n 5 rfl rfl rfl ?_
  refine qr_callN 8 rfl rfl rfl (sf_61_17 (d := d + 4) hI (by omega)) ?_
  have hs3 : 0 ≤ σ 17 6 ∧ σ 17 6 ≤ 32 := hI.1 17 6
  rintro _ _ ⟨rfl, v1, rfl, hv1, hp2⟩
  show qr_W (qe L xs vb) (d + 6) qx_e133 _ (8, _, [.int (qz v1)], qw σ α κ ρ, 0, 0)
  refine qr_if_eq 38 11 rfl rfl rfl (by omega) (fun h4 => ?_) (fun h4 => ?_)
  · skip
    refine qr_iconst 39 rfl rfl ?_
    refine qr_retI rfl rfl (by decide) (by decide) ?_
    exact ⟨_, _, rfl, hI, hF0, (-1), rfl, by omega⟩
  · skip
    refine qr_aload_n 12 rfl rfl rfl ?_
    refine qr_get 15 rfl rfl rfl (by decide) rfl ?_
    refine qr_lload_n 16 rfl rfl rfl ?_
    refine qr_callN 19 rfl rfl rfl (sf_88_17 (d := d + 5) hI (by omega)) ?_
    rintro _ _ ⟨rfl, v5, rfl, hv5⟩
    show qr_W (qe L xs vb) (d + 6) qx_e133 _ (19, _, [.int (qz v5)], qw σ α κ ρ, 0, 0)
    refine qr_if_eq 38 22 rfl rfl rfl (by omega) (fun h6 => ?_) (fun h6 => ?_)
    · skip
      refine qr_iconst 39 rfl rfl ?_
      refine qr_retI rfl rfl (by decide) (by decide) ?_
      exact ⟨_, _, rfl, hI, hF0, (-1), rfl, by omega⟩
    · skip
      refine qr_iload 24 rfl rfl rfl ?_
      refine qr_callN 27 rfl rfl rfl (sf_62 (d := d + 5) hI (by omega)) ?_
      rintro _ _ ⟨rfl, v7, rfl, hv7, hp8⟩
      show qr_W (qe L xs vb) (d + 6) qx_e133 _ (27, _, [.int (qz v7)], qw σ α κ ρ, 0, 0)
      refine qr_if_eq 38 30 rfl rfl rfl (by omega) (fun h9 => ?_) (fun h9 => ?_)
      · skip
        refine qr_iconst 39 rfl rfl ?_
        refine qr_retI rfl rfl (by decide) (by decide) ?_
        exact ⟨_, _, rfl, hI, hF0, (-1), rfl, by omega⟩
      · skip
        refine qr_iload 32 rfl rfl rfl ?_
        refine qr_callN 35 rfl rfl rfl (sf_41 (d := d + 5) hI (by omega)) ?_
        rintro _ _ ⟨rfl, v10, rfl, hv10, hp11⟩
        show qr_W (qe L xs vb) (d + 6) qx_e133 _ (35, _, [.int (qz v10)], qw σ α κ ρ, 0, 0)
        refine qr_if_ne 40 38 rfl rfl rfl (by omega) (fun h12 => ?_) (fun h12 => ?_)
        · skip
          refine qr_lload_n 41 rfl rfl rfl ?_
          refine qr_aload_n 42 rfl rfl rfl ?_
          refine qr_get 45 rfl rfl rfl (by decide) rfl ?_
          refine qr_get 48 rfl rfl rfl (by decide) rfl ?_
          have hs13 : (-9223372036854775808) ≤ σ 17 5 ∧ σ 17 5 ≤ 9223372036854775807 := hI.1 17 5
          refine qr_ldc2 (-1) 51 rfl (by decide) rfl ?_
          refine qr_lxor 52 rfl rfl ?_
          refine qy_canl (fun v14 hv14 => ?_)
          refine qr_land 53 rfl rfl ?_
          refine qy_canl (fun v15 hv15 => ?_)
          refine qr_lstore _ 55 rfl (by decide) rfl rfl ?_
          refine qr_lload 57 rfl rfl rfl ?_
          refine qr_iload_n 58 rfl rfl rfl ?_
          refine qr_bipush 60 rfl (by decide) rfl ?_
          refine qr_idiv 61 rfl (by omega) (by omega) rfl ?_
          refine qr_callN 64 rfl rfl rfl (sf_50 (d := d + 5) hI (by omega) (by omega)) ?_
          rintro _ _ ⟨rfl, v16, rfl, hv16⟩
          show qr_W (qe L xs vb) (d + 6) qx_e133 _ (64, _, [.int (qz v16)], qw σ α κ ρ, 0, 0)
          refine qr_if_eq 79 67 rfl rfl rfl (by omega) (fun h17 => ?_) (fun h17 => ?_)
          · skip
            refine qr_iconst 80 rfl rfl ?_
            refine qr_retI rfl rfl (by decide) (by decide) ?_
            exact ⟨_, _, rfl, hI, hF0, (-1), rfl, by omega⟩
          · skip
            refine qr_lload 69 rfl rfl rfl ?_
            refine qr_iload_n 70 rfl rfl rfl ?_
            refine qr_bipush 72 rfl (by decide) rfl ?_
            refine qr_irem 73 rfl (by omega) (by omega) rfl ?_
            refine qr_callN 76 rfl rfl rfl (sf_50 (d := d + 5) hI (by omega) (by omega)) ?_
            rintro _ _ ⟨rfl, v18, rfl, hv18⟩
            show qr_W (qe L xs vb) (d + 6) qx_e133 _ (76, _, [.int (qz v18)], qw σ α κ ρ, 0, 0)
            refine qr_if_ne 81 79 rfl rfl rfl (by omega) (fun h19 => ?_) (fun h19 => ?_)
            · skip
              refine qr_aload_n 82 rfl rfl rfl ?_
              refine qr_get 85 rfl rfl rfl (by decide) rfl ?_
              refine qr_iload 87 rfl rfl rfl ?_
              refine qr_callN 90 rfl rfl rfl (sf_89_58 (d := d + 5) hI (by omega)) ?_
              rintro _ _ ⟨σ20, rfl, hI21, hG22, rfl⟩
              have hF23 : qFr [(17, 5), (58, 10), (58, 11), (58, 12), (70, 2), (70, 3), (70, 5), (70, 6), (76, 7), (76, 8)] [20, 33, 35, 41, 53, 57, 59, 60, 61, 62, 63, 71, 72, 77, 78, 79, 80, 85] σ α σ20 α := qFr_t hF0 hG22 (by decide) (by decide)
              show qr_W (qe L xs vb) (d + 6) qx_e133 _ (90, _, [], qw σ20 α κ ρ, 0, 0)
              refine qr_aload_n 91 rfl rfl rfl ?_
              refine qr_get 94 rfl rfl rfl (by decide) rfl ?_
              refine qr_iload_n 95 rfl rfl rfl ?_
              refine qr_bipush 97 rfl (by decide) rfl ?_
              refine qr_idiv 98 rfl (by omega) (by omega) rfl ?_
              refine qr_iload_n 99 rfl rfl rfl ?_
              refine qr_bipush 101 rfl (by decide) rfl ?_
              refine qr_irem 102 rfl (by omega) (by omega) rfl ?_
              refine qr_lload 104 rfl rfl rfl ?_
              refine qr_callN 107 rfl rfl rfl (sf_134_70 (d := d + 0) hI21 (by omega) (by omega) (by omega) (by omega)) ?_
              rintro _ _ ⟨σ24, α25, rfl, hI26, hG27, rfl⟩
              have hF28 : qFr [(17, 5), (58, 10), (58, 11), (58, 12), (70, 2), (70, 3), (70, 5), (70, 6), (76, 7), (76, 8)] [20, 33, 35, 41, 53, 57, 59, 60, 61, 62, 63, 71, 72, 77, 78, 79, 80, 85] σ α σ24 α25 := qFr_t hF23 hG27 (by decide) (by decide)
              show qr_W (qe L xs vb) (d + 6) qx_e133 _ (107, _, [], qw σ24 α25 κ ρ, 0, 0)
              as_aux_lemma =>
                refine qr_iload 109 rfl rfl rfl ?_
                refine qr_iconst 110 rfl rfl ?_
                refine qr_icmp_ne 181 113 rfl rfl rfl (by omega) (by omega) (fun h29 => ?_) (fun h29 => ?_)
                · skip
                  refine qr_aload_n 182 rfl rfl rfl ?_
                  refine qr_get 185 rfl rfl rfl (by decide) rfl ?_
                  refine qr_get 188 rfl rfl rfl (by decide) rfl ?_
                  have hs30 : 0 ≤ σ24 70 2 ∧ σ24 70 2 ≤ 31 := hI26.1 70 2
                  refine qr_retI rfl rfl (by decide) (by decide) ?_
                  exact ⟨_, _, rfl, hI26, hF28, (σ24 70 2), rfl, by omega⟩
                · skip
                  refine qr_aload_n 114 rfl rfl rfl ?_
                  refine qr_get 117 rfl rfl rfl (by decide) rfl ?_
                  refine qr_dup 118 rfl rfl rfl ?_
                  refine qr_get 121 rfl rfl rfl (by decide) rfl ?_
                  refine qy_vl (σ 17 5) ((hG27.1 17 5 (by decide)).trans ((hG22.1 17 5 (by decide)).trans rfl)) ?_
                  refine qr_lload 123 rfl rfl rfl ?_
                  refine qr_aload_n 124 rfl rfl rfl ?_
                  refine qr_get 127 rfl rfl rfl (by decide) rfl ?_
                  refine qr_get 130 rfl rfl rfl (by decide) rfl ?_
                  have hs31 : (-9223372036854775808) ≤ σ24 70 3 ∧ σ24 70 3 ≤ 9223372036854775807 := hI26.1 70 3
                  refine qr_ldc2 (-1) 133 rfl (by decide) rfl ?_
                  refine qr_lxor 134 rfl rfl ?_
                  refine qy_canl (fun v32 hv32 => ?_)
                  refine qr_land 135 rfl rfl ?_
                  refine qy_canl (fun v33 hv33 => ?_)
                  refine qr_lor 136 rfl rfl ?_
                  refine qy_canl (fun v34 hv34 => ?_)
                  refine qr_put 139 rfl (by decide) rfl (Nat.le_of_ble_eq_true rfl) (Nat.le_of_ble_eq_true rfl) (Or.inl rfl) (qr_fitL rfl _) rfl ?_
                  refine qy_wS (qw_s σ24 17 5 v34) rfl (fun σ35 e36 => ?_)
                  have hI37 : qI σ35 α25 κ ρ := by rw [e36]; exact qI_s hI26 17 5 rfl (show (-9223372036854775808) ≤ v34 ∧ v34 ≤ 9223372036854775807 by omega)
                  have hF38 : qFr [(17, 5), (58, 10), (58, 11), (58, 12), (70, 2), (70, 3), (70, 5), (70, 6), (76, 7), (76, 8)] [20, 33, 35, 41, 53, 57, 59, 60, 61, 62, 63, 71, 72, 77, 78, 79, 80, 85] σ α σ35 α25 := by rw [e36]; exact qFr_s hF28 17 5 _ (by decide)
                  refine qr_iconst 140 rfl rfl ?_
                  refine qr_istore _ 142 rfl (by decide) rfl rfl ?_
                  have hL433 : ∀ (n : Nat) (ls : qm_L) (u425 : Int) (σ426 α427 : Nat → Nat → Int), 60 - u425 < (n : Int) → qm_get ls 0 = some (.ref 16) → qm_get ls 8 = some (.int (qz u425)) → (0 ≤ u425 ∧ u425 ≤ 60) → qI σ426 α427 κ ρ → qFr [(17, 5), (58, 10), (58, 11), (58, 12), (70, 2), (70, 3), (70, 5), (70, 6), (76, 7), (76, 8)] [20, 33, 35, 41, 53, 57, 59, 60, 61, 62, 63, 71, 72, 77, 78, 79, 80, 85] σ α σ426 α427 → σ426 17 5 = v34 → σ426 70 3 = (σ24 70 3) → qr_W (qe L xs vb) (d + 6) qx_e133 (fun r w' => ∃ σ' α', w' = qw σ' α' κ ρ ∧ qI σ' α' κ ρ ∧ qFr [(17, 5), (58, 10), (58, 11), (58, 12), (70, 2), (70, 3), (70, 5), (70, 6), (76, 7), (76, 8)] [20, 33, 35, 41, 53, 57, 59, 60, 61, 62, 63, 71, 72, 77, 78, 79, 80, 85] σ α σ' α' ∧ ∃ v : Int, r = some (.int (qz v)) ∧ ((-2147483648) ≤ v ∧ v ≤ 2147483647)) (142, ls, [], qw σ426 α427 κ ρ, 0, 0) := by
                    intro n
                    induction n with
                    | zero => intro ls u425 σ426 α427 hm g423 g424 hf432 hI428 hF429 hk430 hk431; exact False.elim (by omega)
                    | succ n ih434 =>
                      intro ls u425 σ426 α427 hm g423 g424 hf432 hI428 hF429 hk430 hk431
                      refine qr_iload 144 rfl g424 rfl ?_
                      refine qr_aload_n 145 rfl g423 rfl ?_
                      refine qr_get 148 rfl rfl rfl (by decide) rfl ?_
                      refine qr_get 151 rfl rfl rfl (by decide) rfl ?_
                      have hs435 : 0 ≤ σ426 70 5 ∧ σ426 70 5 ≤ 60 := hI428.1 70 5
                      refine qr_icmp_ge 181 154 rfl rfl rfl (by omega) (by omega) (fun h436 => ?_) (fun h436 => ?_)
                      · skip
                        refine qr_aload_n 182 rfl g423 rfl ?_
                        refine qr_get 185 rfl rfl rfl (by decide) rfl ?_
                        refine qr_get 188 rfl rfl rfl (by decide) rfl ?_
                        have hs437 : 0 ≤ σ426 70 2 ∧ σ426 70 2 ≤ 31 := hI428.1 70 2
                        refine qr_retI rfl rfl (by decide) (by decide) ?_
                        exact ⟨_, _, rfl, hI428, hF429, (σ426 70 2), rfl, by omega⟩
                      · skip
                        refine qr_aload_n 155 rfl g423 rfl ?_
                        refine qr_get 158 rfl rfl rfl (by decide) rfl ?_
                        refine qr_iconst 159 rfl rfl ?_
                        refine qr_aload_n 160 rfl g423 rfl ?_
                        refine qr_get 163 rfl rfl rfl (by decide) rfl ?_
                        refine qr_get 166 rfl rfl rfl (by decide) rfl ?_
                        refine qr_iload 168 rfl g424 rfl ?_
                        refine qr_iaload 169 rfl rfl (by omega) (by decide) rfl ?_
                        refine qr_topI (fun v438 hv438 => ?_)
                        have hs439 : 0 ≤ v438 ∧ v438 ≤ 59 := by rw [hv438]; exact hI428.2.1 72 _ (show _ < 60 by omega)
                        refine qr_bipush 171 rfl (by decide) rfl ?_
                        refine qr_callN 174 rfl rfl rfl (sf_52_76 (d := d + 3) hI428 (by omega) (by omega) (by omega) (by omega)) ?_
                        rintro _ _ ⟨σ441, α442, rfl, hI443, hG444, v440, rfl, hv440⟩
                        have hF445 : qFr [(17, 5), (58, 10), (58, 11), (58, 12), (70, 2), (70, 3), (70, 5), (70, 6), (76, 7), (76, 8)] [20, 33, 35, 41, 53, 57, 59, 60, 61, 62, 63, 71, 72, 77, 78, 79, 80, 85] σ α σ441 α442 := qFr_t hF429 hG444 (by decide) (by decide)
                        show qr_W (qe L xs vb) (d + 6) qx_e133 _ (174, _, [.int (qz v440)], qw σ441 α442 κ ρ, 0, 0)
                        refine qr_pop 175 rfl rfl rfl ?_
                        refine qr_iinc _ 178 rfl g424 (by decide) rfl rfl ?_
                        refine qr_goto 142 rfl rfl ?_
                        exact ih434 _ (u425 + 1) σ441 α442 (by omega) (qm_gk g423 (by decide) (Or.inl (by decide))) (qm_ge _ _ _) (by omega) hI443 hF445 ((hG444.1 17 5 (by decide)).trans ((hk430).trans rfl)) ((hG444.1 70 3 (by decide)).trans ((hk431).trans rfl))
                  exact hL433 ((60 - 0 + 1 : Int)).toNat _ 0 σ35 α25 (by omega) rfl rfl (by omega) hI37 hF38 ((congrFun (congrFun e36 17) 5).trans rfl) ((congrFun (congrFun e36 70) 3).trans rfl)
            · skip
              refine qr_iconst 80 rfl rfl ?_
              refine qr_retI rfl rfl (by decide) (by decide) ?_
              exact ⟨_, _, rfl, hI, hF0, (-1), rfl, by omega⟩
        · skip
          refine qr_iconst 39 rfl rfl ?_
          refine qr_retI rfl rfl (by decide) (by decide) ?_
          exact ⟨_, _, rfl, hI, hF0, (-1), rfl, by omega⟩

set_option maxHeartbeats 4000000 in
set_option maxRecDepth 20000 in
/-- OneRoof.worst -/
theorem sf_140_16 {L : Nat} {xs : Nat → Int} {vb : Bool} {d : Nat} {σ α : Nat → Nat → Int} {κ : Nat → Option Nat} {ρ : Nat} {x1 : Int} {x2 : Int} (hI : qI σ α κ ρ) (r1 : (-9223372036854775808) ≤ x1 ∧ x1 ≤ 9223372036854775807) (r2 : (-2147483648) ≤ x2 ∧ x2 ≤ 2147483647) : qm_T (qe L xs vb) (d + 7) 140 [.ref 16, .long (ql x1), .int (qz x2)] (qw σ α κ ρ) (fun r w' => ∃ σ' α', w' = qw σ' α' κ ρ ∧ qI σ' α' κ ρ ∧ qFr [(58, 10), (58, 11), (58, 12), (73, 2), (73, 3), (73, 5), (73, 6)] [53, 57, 59, 60, 61, 62, 63, 74, 75, 85] σ α σ' α' ∧ ∃ v : Int, r = some (.int (qz v)) ∧ ((-2147483648) ≤ v ∧ v ≤ 2147483647)) := by
  refine qr_start (d := d + 6) qv_e140 (Nat.le_of_ble_eq_true rfl) ?_
  show qr_W (qe L xs vb) (d + 6) qx_e140 _ (0, [(0, .ref 16), (1, .long (ql x1)), (3, .int (qz x2))], [], _, 0, 0)
  have hF0 := qFr_rf [(58, 10), (58, 11), (58, 12), (73, 2), (73, 3), (73, 5), (73, 6)] [53, 57, 59, 60, 61, 62, 63, 74, 75, 85] σ α
  refine qr_aload_n 1 rfl rfl rfl ?_
  refine qr_get 4 rfl rfl rfl (by decide) rfl ?_
  refine qr_lload_n 5 rfl rfl rfl ?_
  refine qr_callN 8 rfl rfl rfl (sf_88_17 (d := d + 5) hI (by omega)) ?_
  rintro _ _ ⟨rfl, v1, rfl, hv1⟩
  show qr_W (qe L xs vb) (d + 6) qx_e140 _ (8, _, [.int (qz v1)], qw σ α κ ρ, 0, 0)
  refine qr_if_eq 18 11 rfl rfl rfl (by omega) (fun h2 => ?_) (fun h2 => ?_)
  · skip
    refine qr_iconst 19 rfl rfl ?_
    refine qr_retI rfl rfl (by decide) (by decide) ?_
    exact ⟨_, _, rfl, hI, hF0, (-1), rfl, by omega⟩
  · skip
    refine qr_iload_n 12 rfl rfl rfl ?_
    refine qr_callN 15 rfl rfl rfl (sf_62 (d := d + 5) hI (by omega)) ?_
    rintro _ _ ⟨rfl, v3, rfl, hv3, hp4⟩
    show qr_W (qe L xs vb) (d + 6) qx_e140 _ (15, _, [.int (qz v3)], qw σ α κ ρ, 0, 0)
    refine qr_if_ne 20 18 rfl rfl rfl (by omega) (fun h5 => ?_) (fun h5 => ?_)
    · skip
      refine qr_lload_n 21 rfl rfl rfl ?_
      refine qr_aload_n 22 rfl rfl rfl ?_
      refine qr_get 25 rfl rfl rfl (by decide) rfl ?_
      refine qr_get 28 rfl rfl rfl (by decide) rfl ?_
      have hs6 : (-9223372036854775808) ≤ σ 17 5 ∧ σ 17 5 ≤ 9223372036854775807 := hI.1 17 5
      refine qr_ldc2 (-1) 31 rfl (by decide) rfl ?_
      refine qr_lxor 32 rfl rfl ?_
      refine qy_canl (fun v7 hv7 => ?_)
      refine qr_land 33 rfl rfl ?_
      refine qy_canl (fun v8 hv8 => ?_)
      refine qr_lstore _ 35 rfl (by decide) rfl rfl ?_
      refine qr_aload_n 36 rfl rfl rfl ?_
      refine qr_get 39 rfl rfl rfl (by decide) rfl ?_
      refine qr_iload_n 40 rfl rfl rfl ?_
      refine qr_callN 43 rfl rfl rfl (sf_89_58 (d := d + 5) hI (by omega)) ?_
      rintro _ _ ⟨σ9, rfl, hI10, hG11, rfl⟩
      have hF12 : qFr [(58, 10), (58, 11), (58, 12), (73, 2), (73, 3), (73, 5), (73, 6)] [53, 57, 59, 60, 61, 62, 63, 74, 75, 85] σ α σ9 α := qFr_t hF0 hG11 (by decide) (by decide)
      show qr_W (qe L xs vb) (d + 6) qx_e140 _ (43, _, [], qw σ9 α κ ρ, 0, 0)
      refine qr_bipush 45 rfl (by decide) rfl ?_
      refine qr_istore _ 47 rfl (by decide) rfl rfl ?_
      refine qr_bipush 49 rfl (by decide) rfl ?_
      refine qr_istore _ 51 rfl (by decide) rfl rfl ?_
      refine qr_iconst 52 rfl rfl ?_
      refine qr_istore _ 54 rfl (by decide) rfl rfl ?_
      have hL3949 : ∀ (n : Nat) (ls : qm_L) (u3936 u3938 u3940 : Int) (σ3941 α3942 : Nat → Nat → Int), 32 - u3940 < (n : Int) → qm_get ls 0 = some (.ref 16) → qm_get ls 4 = some (.long (ql v8)) → qm_get ls 6 = some (.int (qz u3936)) → qm_get ls 7 = some (.int (qz u3938)) → qm_get ls 8 = some (.int (qz u3940)) → ((-2) ≤ u3936 ∧ u3936 ≤ 3131) → (2 ≤ u3938 ∧ u3938 ≤ 2147483647) → (0 ≤ u3940 ∧ u3940 ≤ 32) → qI σ3941 α3942 κ ρ → qFr [(58, 10), (58, 11), (58, 12), (73, 2), (73, 3), (73, 5), (73, 6)] [53, 57, 59, 60, 61, 62, 63, 74, 75, 85] σ α σ3941 α3942 → σ3941 17 5 = (σ 17 5) → qr_W (qe L xs vb) (d + 6) qx_e140 (fun r w' => ∃ σ' α', w' = qw σ' α' κ ρ ∧ qI σ' α' κ ρ ∧ qFr [(58, 10), (58, 11), (58, 12), (73, 2), (73, 3), (73, 5), (73, 6)] [53, 57, 59, 60, 61, 62, 63, 74, 75, 85] σ α σ' α' ∧ ∃ v : Int, r = some (.int (qz v)) ∧ ((-2147483648) ≤ v ∧ v ≤ 2147483647)) (54, ls, [], qw σ3941 α3942 κ ρ, 0, 0) := by
        intro n
        induction n with
        | zero => intro ls u3936 u3938 u3940 σ3941 α3942 hm g3933 g3934 g3935 g3937 g3939 hf3946 hf3947 hf3948 hI3943 hF3944 hk3945; exact False.elim (by omega)
        | succ n ih3950 =>
          intro ls u3936 u3938 u3940 σ3941 α3942 hm g3933 g3934 g3935 g3937 g3939 hf3946 hf3947 hf3948 hI3943 hF3944 hk3945
          refine qr_iload 56 rfl g3939 rfl ?_
          refine qr_aload_n 57 rfl g3933 rfl ?_
          refine qr_get 60 rfl rfl rfl (by decide) rfl ?_
          refine qr_get 63 rfl rfl rfl (by decide) rfl ?_
          have hs3951 : 0 ≤ σ3941 17 6 ∧ σ3941 17 6 ≤ 32 := hI3943.1 17 6
          refine qr_icmp_ge 185 66 rfl rfl rfl (by omega) (by omega) (fun h3952 => ?_) (fun h3952 => ?_)
          · skip
            refine qr_iload 187 rfl g3935 rfl ?_
            refine qr_retI rfl rfl (by decide) (by decide) ?_
            exact ⟨_, _, rfl, hI3943, hF3944, u3936, rfl, by omega⟩
          · skip
            refine qr_iconst 67 rfl rfl ?_
            refine qr_istore _ 69 rfl (by decide) rfl rfl ?_
            have hL4211 : ∀ (n : Nat) (ls : qm_L) (u4196 u4198 u4201 : Int) (σ4202 α4203 : Nat → Nat → Int), 32 - u4201 < (n : Int) → qm_get ls 0 = some (.ref 16) → qm_get ls 4 = some (.long (ql v8)) → qm_get ls 6 = some (.int (qz u4196)) → qm_get ls 7 = some (.int (qz u4198)) → qm_get ls 8 = some (.int (qz u3940)) → qm_get ls 9 = some (.int (qz u4201)) → ((-2) ≤ u4196 ∧ u4196 ≤ 3131) → (2 ≤ u4198 ∧ u4198 ≤ 2147483647) → (0 ≤ u4201 ∧ u4201 ≤ 32) → qI σ4202 α4203 κ ρ → qFr [(58, 10), (58, 11), (58, 12), (73, 2), (73, 3), (73, 5), (73, 6)] [53, 57, 59, 60, 61, 62, 63, 74, 75, 85] σ α σ4202 α4203 → σ4202 17 5 = (σ 17 5) → σ4202 17 6 = (σ3941 17 6) → qr_W (qe L xs vb) (d + 6) qx_e140 (fun r w' => ∃ σ' α', w' = qw σ' α' κ ρ ∧ qI σ' α' κ ρ ∧ qFr [(58, 10), (58, 11), (58, 12), (73, 2), (73, 3), (73, 5), (73, 6)] [53, 57, 59, 60, 61, 62, 63, 74, 75, 85] σ α σ' α' ∧ ∃ v : Int, r = some (.int (qz v)) ∧ ((-2147483648) ≤ v ∧ v ≤ 2147483647)) (69, ls, [], qw σ4202 α4203 κ ρ, 0, 0) := by
              intro n
              induction n with
              | zero => intro ls u4196 u4198 u4201 σ4202 α4203 hm g4193 g4194 g4195 g4197 g4199 g4200 hf4208 hf4209 hf4210 hI4204 hF4205 hk4206 hk4207; exact False.elim (by omega)
              | succ n ih4212 =>
                intro ls u4196 u4198 u4201 σ4202 α4203 hm g4193 g4194 g4195 g4197 g4199 g4200 hf4208 hf4209 hf4210 hI4204 hF4205 hk4206 hk4207
                refine qr_iload 71 rfl g4200 rfl ?_
                refine qr_aload_n 72 rfl g4193 rfl ?_
                refine qr_get 75 rfl rfl rfl (by decide) rfl ?_
                refine qr_get 78 rfl rfl rfl (by decide) rfl ?_
                refine qy_v (σ3941 17 6) ((hk4207).trans rfl) ?_
                refine qr_icmp_ge 179 81 rfl rfl rfl (by omega) (by omega) (fun h4213 => ?_) (fun h4213 => ?_)
                · skip
                  refine qr_iinc _ 182 rfl g4199 (by decide) rfl rfl ?_
                  refine qr_goto 54 rfl rfl ?_
                  exact ih3950 _ u4196 u4198 (u3940 + 1) σ4202 α4203 (by omega) (qm_gk g4193 (by decide) (Or.inl (by decide))) (qm_gk g4194 (by decide) (Or.inl (by decide))) (qm_gk g4195 (by decide) (Or.inl (by decide))) (qm_gk g4197 (by decide) (Or.inr rfl)) (qm_ge _ _ _) (by omega) (by omega) (by omega) hI4204 hF4205 ((hk4206).trans rfl)
                · skip
                  refine qr_iload 83 rfl g4199 rfl ?_
                  refine qr_iload 85 rfl g4200 rfl ?_
                  refine qr_icmp_eq 173 88 rfl rfl rfl (by omega) (by omega) (fun h4214 => ?_) (fun h4214 => ?_)
                  · skip
                    refine qr_iinc _ 176 rfl g4200 (by decide) rfl rfl ?_
                    refine qr_goto 69 rfl rfl ?_
                    exact ih4212 _ u4196 u4198 (u4201 + 1) σ4202 α4203 (by omega) (qm_gk g4193 (by decide) (Or.inl (by decide))) (qm_gk g4194 (by decide) (Or.inl (by decide))) (qm_gk g4195 (by decide) (Or.inl (by decide))) (qm_gk g4197 (by decide) (Or.inl (by decide))) (qm_gk g4199 (by decide) (Or.inr rfl)) (qm_ge _ _ _) (by omega) (by omega) (by omega) hI4204 hF4205 ((hk4206).trans rfl) ((hk4207).trans rfl)
                  · skip
                    refine qr_lload 90 rfl g4194 rfl ?_
                    refine qr_iload 92 rfl g4199 rfl ?_
                    refine qr_callN 95 rfl rfl rfl (sf_50 (d := d + 5) hI4204 (by omega) (by omega)) ?_
                    rintro _ _ ⟨rfl, v4215, rfl, hv4215⟩
                    show qr_W (qe L xs vb) (d + 6) qx_e140 _ (95, _, [.int (qz v4215)], qw σ4202 α4203 κ ρ, 0, 0)
                    refine qr_if_eq 173 98 rfl rfl rfl (by omega) (fun h4216 => ?_) (fun h4216 => ?_)
                    · skip
                      refine qr_iinc _ 176 rfl g4200 (by decide) rfl rfl ?_
                      refine qr_goto 69 rfl rfl ?_
                      exact ih4212 _ u4196 u4198 (u4201 + 1) σ4202 α4203 (by omega) (qm_gk g4193 (by decide) (Or.inl (by decide))) (qm_gk g4194 (by decide) (Or.inl (by decide))) (qm_gk g4195 (by decide) (Or.inl (by decide))) (qm_gk g4197 (by decide) (Or.inl (by decide))) (qm_gk g4199 (by decide) (Or.inr rfl)) (qm_ge _ _ _) (by omega) (by omega) (by omega) hI4204 hF4205 ((hk4206).trans rfl) ((hk4207).trans rfl)
                    · skip
                      refine qr_lload 100 rfl g4194 rfl ?_
                      refine qr_iload 102 rfl g4200 rfl ?_
                      refine qr_callN 105 rfl rfl rfl (sf_50 (d := d + 5) hI4204 (by omega) (by omega)) ?_
                      rintro _ _ ⟨rfl, v4217, rfl, hv4217⟩
                      show qr_W (qe L xs vb) (d + 6) qx_e140 _ (105, _, [.int (qz v4217)], qw σ4202 α4203 κ ρ, 0, 0)
                      refine qr_if_ne 111 108 rfl rfl rfl (by omega) (fun h4218 => ?_) (fun h4218 => ?_)
                      · skip
                        refine qr_aload_n 112 rfl g4193 rfl ?_
                        refine qr_get 115 rfl rfl rfl (by decide) rfl ?_
                        refine qr_iload 117 rfl g4199 rfl ?_
                        refine qr_iload 119 rfl g4200 rfl ?_
                        refine qr_lload 121 rfl g4194 rfl ?_
                        refine qr_callN 124 rfl rfl rfl (sf_134_73 (d := d + 0) hI4204 (by omega) (by omega) (by omega) (by omega)) ?_
                        rintro _ _ ⟨σ4219, α4220, rfl, hI4221, hG4222, rfl⟩
                        have hF4223 : qFr [(58, 10), (58, 11), (58, 12), (73, 2), (73, 3), (73, 5), (73, 6)] [53, 57, 59, 60, 61, 62, 63, 74, 75, 85] σ α σ4219 α4220 := qFr_t hF4205 hG4222 (by decide) (by decide)
                        show qr_W (qe L xs vb) (d + 6) qx_e140 _ (124, _, [], qw σ4219 α4220 κ ρ, 0, 0)
                        refine qr_aload_n 125 rfl g4193 rfl ?_
                        refine qr_get 128 rfl rfl rfl (by decide) rfl ?_
                        refine qr_get 131 rfl rfl rfl (by decide) rfl ?_
                        have hs4224 : (-9223372036854775808) ≤ σ4219 73 3 ∧ σ4219 73 3 ≤ 9223372036854775807 := hI4221.1 73 3
                        refine qr_callN 134 rfl rfl rfl (sf_74 (d := d + 5) hI4221 (by omega)) ?_
                        rintro _ _ ⟨rfl, v4225, rfl, hv4225⟩
                        show qr_W (qe L xs vb) (d + 6) qx_e140 _ (134, _, [.int (qz v4225)], qw σ4219 α4220 κ ρ, 0, 0)
                        refine qr_iload 136 rfl g4197 rfl ?_
                        refine qr_icmp_lt 142 139 rfl rfl rfl (by omega) (by omega) (fun h4226 => ?_) (fun h4226 => ?_)
                        · skip
                          refine qr_aload_n 143 rfl g4193 rfl ?_
                          refine qr_get 146 rfl rfl rfl (by decide) rfl ?_
                          refine qr_get 149 rfl rfl rfl (by decide) rfl ?_
                          refine qr_callN 152 rfl rfl rfl (sf_74 (d := d + 5) hI4221 (by omega)) ?_
                          rintro _ _ ⟨rfl, v4227, rfl, hv4227⟩
                          show qr_W (qe L xs vb) (d + 6) qx_e140 _ (152, _, [.int (qz v4227)], qw σ4219 α4220 κ ρ, 0, 0)
                          refine qr_istore _ 154 rfl (by decide) rfl rfl ?_
                          refine qr_bipush 156 rfl (by decide) rfl ?_
                          refine qr_iload 158 rfl (qm_gk g4199 (by decide) (Or.inl (by decide))) rfl ?_
                          refine qr_imul 159 rfl rfl ?_
                          refine qr_iload 161 rfl (qm_gk g4200 (by decide) (Or.inl (by decide))) rfl ?_
                          refine qr_iadd 162 rfl rfl ?_
                          refine qr_istore _ 164 rfl (by decide) rfl rfl ?_
                          refine qr_iload 166 rfl (qm_gk (qm_ge _ _ _) (by decide) (Or.inl (by decide))) rfl ?_
                          refine qr_iconst 167 rfl rfl ?_
                          refine qr_icmp_gt 173 170 rfl rfl rfl (by omega) (by omega) (fun h4228 => ?_) (fun h4228 => ?_)
                          · skip
                            refine qr_iinc _ 176 rfl (qm_gk (qm_gk g4200 (by decide) (Or.inl (by decide))) (by decide) (Or.inl (by decide))) (by decide) rfl rfl ?_
                            refine qr_goto 69 rfl rfl ?_
                            exact ih4212 _ ((100 * u3940) + u4201) v4227 (u4201 + 1) σ4219 α4220 (by omega) (qm_gk (qm_gk (qm_gk g4193 (by decide) (Or.inl (by decide))) (by decide) (Or.inl (by decide))) (by decide) (Or.inl (by decide))) (qm_gk (qm_gk (qm_gk g4194 (by decide) (Or.inl (by decide))) (by decide) (Or.inl (by decide))) (by decide) (Or.inl (by decide))) (qm_gk (qm_ge _ _ _) (by decide) (Or.inl (by decide))) (qm_gk (qm_gk (qm_ge _ _ _) (by decide) (Or.inl (by decide))) (by decide) (Or.inl (by decide))) (qm_gk (qm_gk (qm_gk g4199 (by decide) (Or.inl (by decide))) (by decide) (Or.inl (by decide))) (by decide) (Or.inr rfl)) (qm_ge _ _ _) (by omega) (by omega) (by omega) hI4221 hF4223 ((hG4222.1 17 5 (by decide)).trans ((hk4206).trans rfl)) ((hG4222.1 17 6 (by decide)).trans ((hk4207).trans rfl))
                          · skip
                            refine qr_iload 172 rfl (qm_ge _ _ _) rfl ?_
                            refine qr_retI rfl rfl (by decide) (by decide) ?_
                            exact ⟨_, _, rfl, hI4221, hF4223, ((100 * u3940) + u4201), rfl, by omega⟩
                        · skip
                          refine qr_goto 173 rfl rfl ?_
                          refine qr_iinc _ 176 rfl g4200 (by decide) rfl rfl ?_
                          refine qr_goto 69 rfl rfl ?_
                          exact ih4212 _ u4196 u4198 (u4201 + 1) σ4219 α4220 (by omega) (qm_gk g4193 (by decide) (Or.inl (by decide))) (qm_gk g4194 (by decide) (Or.inl (by decide))) (qm_gk g4195 (by decide) (Or.inl (by decide))) (qm_gk g4197 (by decide) (Or.inl (by decide))) (qm_gk g4199 (by decide) (Or.inr rfl)) (qm_ge _ _ _) (by omega) (by omega) (by omega) hI4221 hF4223 ((hG4222.1 17 5 (by decide)).trans ((hk4206).trans rfl)) ((hG4222.1 17 6 (by decide)).trans ((hk4207).trans rfl))
                      · skip
                        refine qr_goto 173 rfl rfl ?_
                        refine qr_iinc _ 176 rfl g4200 (by decide) rfl rfl ?_
                        refine qr_goto 69 rfl rfl ?_
                        exact ih4212 _ u4196 u4198 (u4201 + 1) σ4202 α4203 (by omega) (qm_gk g4193 (by decide) (Or.inl (by decide))) (qm_gk g4194 (by decide) (Or.inl (by decide))) (qm_gk g4195 (by decide) (Or.inl (by decide))) (qm_gk g4197 (by decide) (Or.inl (by decide))) (qm_gk g4199 (by decide) (Or.inr rfl)) (qm_ge _ _ _) (by omega) (by omega) (by omega) hI4204 hF4205 ((hk4206).trans rfl) ((hk4207).trans rfl)
            exact hL4211 ((32 - 0 + 1 : Int)).toNat _ u3936 u3938 0 σ3941 α3942 (by omega) (qm_gk g3933 (by decide) (Or.inl (by decide))) (qm_gk g3934 (by decide) (Or.inl (by decide))) (qm_gk g3935 (by decide) (Or.inl (by decide))) (qm_gk g3937 (by decide) (Or.inl (by decide))) (qm_gk g3939 (by decide) (Or.inr rfl)) (qm_ge _ _ _) (by omega) (by omega) (by omega) hI3943 hF3944 ((hk3945).trans rfl) (rfl)
      exact hL3949 ((32 - 0 + 1 : Int)).toNat _ (-2) 33 0 σ9 α (by omega) rfl rfl rfl rfl rfl (by omega) (by omega) (by omega) hI10 hF12 ((hG11.1 17 5 (by decide)).trans rfl)
    · skip
      refine qr_iconst 19 rfl rfl ?_
      refine qr_retI rfl rfl (by decide) (by decide) ?_
      exact ⟨_, _, rfl, hI, hF0, (-1), rfl, by omega⟩

set_option maxHeartbeats 4000000 in
set_option maxRecDepth 20000 in
/-- OneRoof.wed -/
theorem sf_141_16 {L : Nat} {xs : Nat → Int} {vb : Bool} {d : Nat} {σ α : Nat → Nat → Int} {κ : Nat → Option Nat} {ρ : Nat} {x1 : Int} {x2 : Int} {x3 : Int} (hI : qI σ α κ ρ) (r1 : (-2147483648) ≤ x1 ∧ x1 ≤ 2147483647) (r2 : (-2147483648) ≤ x2 ∧ x2 ≤ 2147483647) (r3 : (-2147483648) ≤ x3 ∧ x3 ≤ 2147483647) : qm_T (qe L xs vb) (d + 4) 141 [.ref 16, .int (qz x1), .int (qz x2), .int (qz x3)] (qw σ α κ ρ) (fun r w' => ∃ σ' α', w' = qw σ' α' κ ρ ∧ qI σ' α' κ ρ ∧ qFr [(25, 1)] [26] σ α σ' α' ∧ ∃ v : Int, r = some (.int (qz v)) ∧ ((-2147483648) ≤ v ∧ v ≤ 2147483647)) := by
  refine qr_start (d := d + 3) qv_e141 (Nat.le_of_ble_eq_true rfl) ?_
  show qr_W (qe L xs vb) (d + 3) qx_e141 _ (0, [(0, .ref 16), (1, .int (qz x1)), (2, .int (qz x2)), (3, .int (qz x3))], [], _, 0, 0)
  have hF0 := qFr_rf [(25, 1)] [26] σ α
  refine qr_aload_n 1 rfl rfl rfl ?_
  refine qr_get 4 rfl rfl rfl (by decide) rfl ?_
  refine qr_iload_n 5 rfl rfl rfl ?_
  refine qr_callN 8 rfl rfl rfl (sf_61_17 (d := d + 1) hI (by omega)) ?_
  have hs3 : 0 ≤ σ 17 6 ∧ σ 17 6 ≤ 32 := hI.1 17 6
  rintro _ _ ⟨rfl, v1, rfl, hv1, hp2⟩
  show qr_W (qe L xs vb) (d + 3) qx_e141 _ (8, _, [.int (qz v1)], qw σ α κ ρ, 0, 0)
  refine qr_if_eq 25 11 rfl rfl rfl (by omega) (fun h4 => ?_) (fun h4 => ?_)
  · skip
    refine qr_iconst 26 rfl rfl ?_
    refine qr_retI rfl rfl (by decide) (by decide) ?_
    exact ⟨_, _, rfl, hI, hF0, (-1), rfl, by omega⟩
  · skip
    refine qr_iload_n 12 rfl rfl rfl ?_
    refine qr_callN 15 rfl rfl rfl (sf_62 (d := d + 2) hI (by omega)) ?_
    rintro _ _ ⟨rfl, v5, rfl, hv5, hp6⟩
    show qr_W (qe L xs vb) (d + 3) qx_e141 _ (15, _, [.int (qz v5)], qw σ α κ ρ, 0, 0)
    refine qr_if_eq 25 18 rfl rfl rfl (by omega) (fun h7 => ?_) (fun h7 => ?_)
    · skip
      refine qr_iconst 26 rfl rfl ?_
      refine qr_retI rfl rfl (by decide) (by decide) ?_
      exact ⟨_, _, rfl, hI, hF0, (-1), rfl, by omega⟩
    · skip
      refine qr_iload_n 19 rfl rfl rfl ?_
      refine qr_callN 22 rfl rfl rfl (sf_41 (d := d + 2) hI (by omega)) ?_
      rintro _ _ ⟨rfl, v8, rfl, hv8, hp9⟩
      show qr_W (qe L xs vb) (d + 3) qx_e141 _ (22, _, [.int (qz v8)], qw σ α κ ρ, 0, 0)
      refine qr_if_ne 27 25 rfl rfl rfl (by omega) (fun h10 => ?_) (fun h10 => ?_)
      · skip
        refine qr_iload_n 28 rfl rfl rfl ?_
        refine qr_bipush 30 rfl (by decide) rfl ?_
        refine qr_idiv 31 rfl (by omega) (by omega) rfl ?_
        refine qr_istore _ 33 rfl (by decide) rfl rfl ?_
        refine qr_iload_n 34 rfl rfl rfl ?_
        refine qr_bipush 36 rfl (by decide) rfl ?_
        refine qr_irem 37 rfl (by omega) (by omega) rfl ?_
        refine qr_istore _ 39 rfl (by decide) rfl rfl ?_
        refine qr_aload_n 40 rfl rfl rfl ?_
        refine qr_get 43 rfl rfl rfl (by decide) rfl ?_
        refine qr_iload 45 rfl rfl rfl ?_
        refine qr_iload 47 rfl rfl rfl ?_
        refine qr_callN 50 rfl rfl rfl (sf_57_23 (d := d + 2) hI (by omega) (by omega)) ?_
        rintro _ _ ⟨rfl, v11, rfl, hv11⟩
        show qr_W (qe L xs vb) (d + 3) qx_e141 _ (50, _, [.int (qz v11)], qw σ α κ ρ, 0, 0)
        refine qr_iconst 51 rfl rfl ?_
        refine qr_icmp_ne 56 54 rfl rfl rfl (by omega) (by omega) (fun h12 => ?_) (fun h12 => ?_)
        · skip
          refine qr_aload_n 57 rfl rfl rfl ?_
          refine qr_get 60 rfl rfl rfl (by decide) rfl ?_
          refine qr_iload_n 61 rfl rfl rfl ?_
          refine qr_aload_n 62 rfl rfl rfl ?_
          refine qr_get 65 rfl rfl rfl (by decide) rfl ?_
          refine qr_aload_n 66 rfl rfl rfl ?_
          refine qr_get 69 rfl rfl rfl (by decide) rfl ?_
          refine qr_get 72 rfl rfl rfl (by decide) rfl ?_
          have hs13 : 0 ≤ σ 17 6 ∧ σ 17 6 ≤ 32 := hI.1 17 6
          refine qr_callN 75 rfl rfl rfl (sf_142_27_23 (d := d + 0) hI (by omega) (by omega)) ?_
          rintro _ _ ⟨rfl, v14, rfl, hv14⟩
          show qr_W (qe L xs vb) (d + 3) qx_e141 _ (75, _, [.int (qz v14)], qw σ α κ ρ, 0, 0)
          refine qr_istore _ 77 rfl (by decide) rfl rfl ?_
          refine qr_iload_n 78 rfl rfl rfl ?_
          refine qr_iconst 79 rfl rfl ?_
          refine qr_icmp_ne 85 82 rfl rfl rfl (by omega) (by omega) (fun h15 => ?_) (fun h15 => ?_)
          · skip
            refine qr_aload_n 86 rfl rfl rfl ?_
            refine qr_get 89 rfl rfl rfl (by decide) rfl ?_
            refine qr_aload_n 90 rfl rfl rfl ?_
            refine qr_get 93 rfl rfl rfl (by decide) rfl ?_
            refine qr_callN 96 rfl rfl rfl (sf_143_25_23 (d := d + 2) hI ) ?_
            rintro _ _ ⟨σ16, α17, rfl, hI18, hG19, rfl⟩
            have hF20 : qFr [(25, 1)] [26] σ α σ16 α17 := qFr_t hF0 hG19 (by decide) (by decide)
            show qr_W (qe L xs vb) (d + 3) qx_e141 _ (96, _, [], qw σ16 α17 κ ρ, 0, 0)
            refine qr_aload_n 97 rfl rfl rfl ?_
            refine qr_get 100 rfl rfl rfl (by decide) rfl ?_
            refine qr_iload 102 rfl rfl rfl ?_
            refine qr_iload 104 rfl rfl rfl ?_
            refine qr_aload_n 105 rfl rfl rfl ?_
            refine qr_get 108 rfl rfl rfl (by decide) rfl ?_
            as_aux_lemma =>
              refine qr_get 111 rfl rfl rfl (by decide) rfl ?_
              refine qy_v (σ 17 6) ((hG19.1 17 6 (by decide)).trans rfl) ?_
              refine qr_callN 114 rfl rfl rfl (sf_58_25 (d := d + 1) hI18 (by omega) (by omega) (by omega)) ?_
              rintro _ _ ⟨σ21, α22, rfl, hI23, hG24, rfl⟩
              have hF25 : qFr [(25, 1)] [26] σ α σ21 α22 := qFr_t hF20 hG24 (by decide) (by decide)
              show qr_W (qe L xs vb) (d + 3) qx_e141 _ (114, _, [], qw σ21 α22 κ ρ, 0, 0)
              refine qr_aload_n 115 rfl rfl rfl ?_
              refine qr_get 118 rfl rfl rfl (by decide) rfl ?_
              refine qr_iload_n 119 rfl rfl rfl ?_
              refine qr_aload_n 120 rfl rfl rfl ?_
              refine qr_get 123 rfl rfl rfl (by decide) rfl ?_
              refine qr_aload_n 124 rfl rfl rfl ?_
              refine qr_get 127 rfl rfl rfl (by decide) rfl ?_
              refine qr_get 130 rfl rfl rfl (by decide) rfl ?_
              refine qy_v (σ 17 6) ((hG24.1 17 6 (by decide)).trans ((hG19.1 17 6 (by decide)).trans rfl)) ?_
              refine qr_callN 133 rfl rfl rfl (sf_142_27_25 (d := d + 0) hI23 (by omega) (by omega)) ?_
              rintro _ _ ⟨rfl, v26, rfl, hv26⟩
              show qr_W (qe L xs vb) (d + 3) qx_e141 _ (133, _, [.int (qz v26)], qw σ21 α22 κ ρ, 0, 0)
              refine qr_iload 135 rfl rfl rfl ?_
              refine qr_isub 136 rfl rfl ?_
              refine qy_can (fun v27 hv27 => ?_)
              refine qr_retI rfl rfl (by decide) (by decide) ?_
              exact ⟨_, _, rfl, hI23, hF25, v27, rfl, by omega⟩
          · skip
            refine qr_iload 84 rfl rfl rfl ?_
            refine qr_retI rfl rfl (by decide) (by decide) ?_
            exact ⟨_, _, rfl, hI, hF0, v14, rfl, by omega⟩
        · skip
          refine qr_iconst 55 rfl rfl ?_
          refine qr_retI rfl rfl (by decide) (by decide) ?_
          exact ⟨_, _, rfl, hI, hF0, (-1), rfl, by omega⟩
      · skip
        refine qr_iconst 26 rfl rfl ?_
        refine qr_retI rfl rfl (by decide) (by decide) ?_
        exact ⟨_, _, rfl, hI, hF0, (-1), rfl, by omega⟩

set_option maxHeartbeats 4000000 in
set_option maxRecDepth 20000 in
/-- OneRoof.put -/
theorem sf_159_16 {L : Nat} {xs : Nat → Int} {vb : Bool} {d : Nat} {σ α : Nat → Nat → Int} {κ : Nat → Option Nat} {ρ : Nat} {x1 : Int} {x2 : Int} {x3 : Int} (hI : qI σ α κ ρ) (r1 : (-2147483648) ≤ x1 ∧ x1 ≤ 2147483647) (r2 : (-2147483648) ≤ x2 ∧ x2 ≤ 2147483647) (r3 : (-9223372036854775808) ≤ x3 ∧ x3 ≤ 9223372036854775807) : qm_T (qe L xs vb) (d + 3) 159 [.ref 16, .int (qz x1), .int (qz x2), .long (ql x3)] (qw σ α κ ρ) (fun r w' => ∃ α', w' = qw σ α' κ ρ ∧ qI σ α' κ ρ ∧ qFr [] [48] σ α σ α' ∧ ∃ v : Int, r = some (.int (qz v)) ∧ ((-2147483648) ≤ v ∧ v ≤ 2147483647)) := by
  refine qr_start (d := d + 2) qv_e159 (Nat.le_of_ble_eq_true rfl) ?_
  show qr_W (qe L xs vb) (d + 2) qx_e159 _ (0, [(0, .ref 16), (1, .int (qz x1)), (2, .int (qz x2)), (3, .long (ql x3))], [], _, 0, 0)
  have hF0 := qFr_rf [] [48] σ α
  refine qr_aload_n 1 rfl rfl rfl ?_
  refine qr_get 4 rfl rfl rfl (by decide) rfl ?_
  refine qr_iload_n 5 rfl rfl rfl ?_
  refine qr_callN 8 rfl rfl rfl (sf_44_44 (d := d + 1) hI (by omega)) ?_
  rintro _ _ ⟨rfl, v1, rfl, hv1, hp2⟩
  show qr_W (qe L xs vb) (d + 2) qx_e159 _ (8, _, [.int (qz v1)], qw σ α κ ρ, 0, 0)
  refine qr_if_ne 13 11 rfl rfl rfl (by omega) (fun h3 => ?_) (fun h3 => ?_)
  · skip
    refine qr_aload_n 14 rfl rfl rfl ?_
    refine qr_get 17 rfl rfl rfl (by decide) rfl ?_
    refine qr_iload_n 18 rfl rfl rfl ?_
    refine qr_iload_n 19 rfl rfl rfl ?_
    refine qr_callN 22 rfl rfl rfl (sf_160_44 (d := d + 0) hI (by omega) (by omega)) ?_
    rintro _ _ ⟨rfl, v4, rfl, hv4, hp5⟩
    show qr_W (qe L xs vb) (d + 2) qx_e159 _ (22, _, [.int (qz v4)], qw σ α κ ρ, 0, 0)
    refine qr_istore _ 24 rfl (by decide) rfl rfl ?_
    refine qr_iload 26 rfl rfl rfl ?_
    refine qr_if_eq 32 29 rfl rfl rfl (by omega) (fun h6 => ?_) (fun h6 => ?_)
    · skip
      refine qr_aload_n 33 rfl rfl rfl ?_
      refine qr_get 36 rfl rfl rfl (by decide) rfl ?_
      refine qr_iload_n 37 rfl rfl rfl ?_
      refine qr_iload_n 38 rfl rfl rfl ?_
      refine qr_lload_n 39 rfl rfl rfl ?_
      refine qr_callN 42 rfl rfl rfl (sf_161_44 (d := d + 0) hI (by omega) (by omega) (by omega)) ?_
      rintro _ _ ⟨α7, rfl, hI8, hG9, rfl⟩
      have hF10 : qFr [] [48] σ α σ α7 := qFr_t hF0 hG9 (by decide) (by decide)
      show qr_W (qe L xs vb) (d + 2) qx_e159 _ (42, _, [], qw σ α7 κ ρ, 0, 0)
      refine qr_iconst 43 rfl rfl ?_
      refine qr_retI rfl rfl (by decide) (by decide) ?_
      exact ⟨_, rfl, hI8, hF10, 1, rfl, by omega⟩
    · skip
      refine qr_iload 31 rfl rfl rfl ?_
      refine qr_retI rfl rfl (by decide) (by decide) ?_
      exact ⟨_, rfl, hI, hF0, v4, rfl, by omega⟩
  · skip
    refine qr_iconst 12 rfl rfl ?_
    refine qr_retI rfl rfl (by decide) (by decide) ?_
    exact ⟨_, rfl, hI, hF0, (-1), rfl, by omega⟩

set_option maxHeartbeats 4000000 in
set_option maxRecDepth 20000 in
/-- OneRoof.element -/
theorem sf_163_16 {L : Nat} {xs : Nat → Int} {vb : Bool} {d : Nat} {σ α : Nat → Nat → Int} {κ : Nat → Option Nat} {ρ : Nat} {x1 : Int} {x2 : Int} (hI : qI σ α κ ρ) (r1 : (-2147483648) ≤ x1 ∧ x1 ≤ 2147483647) (r2 : (-2147483648) ≤ x2 ∧ x2 ≤ 2147483647) : qm_T (qe L xs vb) (d + 3) 163 [.ref 16, .int (qz x1), .int (qz x2)] (qw σ α κ ρ) (fun r w' => w' = qw σ α κ ρ ∧ ∃ v : Int, r = some (.long (ql v)) ∧ ((-9223372036854775808) ≤ v ∧ v ≤ 9223372036854775807)) := by
  refine qr_start (d := d + 2) qv_e163 (Nat.le_of_ble_eq_true rfl) ?_
  show qr_W (qe L xs vb) (d + 2) qx_e163 _ (0, [(0, .ref 16), (1, .int (qz x1)), (2, .int (qz x2))], [], _, 0, 0)
  refine qr_aload_n 1 rfl rfl rfl ?_
  refine qr_get 4 rfl rfl rfl (by decide) rfl ?_
  refine qr_iload_n 5 rfl rfl rfl ?_
  refine qr_callN 8 rfl rfl rfl (sf_44_44 (d := d + 1) hI (by omega)) ?_
  rintro _ _ ⟨rfl, v1, rfl, hv1, hp2⟩
  show qr_W (qe L xs vb) (d + 2) qx_e163 _ (8, _, [.int (qz v1)], qw σ α κ ρ, 0, 0)
  refine qr_if_eq 23 11 rfl rfl rfl (by omega) (fun h3 => ?_) (fun h3 => ?_)
  · skip
    refine qr_ldc2 (-9223372036854775808) 26 rfl (by decide) rfl ?_
    refine qr_retL rfl rfl (by decide) (by decide) ?_
    exact ⟨rfl, (-9223372036854775808), rfl, by omega⟩
  · skip
    refine qr_aload_n 12 rfl rfl rfl ?_
    refine qr_get 15 rfl rfl rfl (by decide) rfl ?_
    refine qr_iload_n 16 rfl rfl rfl ?_
    refine qr_iload_n 17 rfl rfl rfl ?_
    refine qr_callN 20 rfl rfl rfl (sf_160_44 (d := d + 0) hI (by omega) (by omega)) ?_
    rintro _ _ ⟨rfl, v4, rfl, hv4, hp5⟩
    show qr_W (qe L xs vb) (d + 2) qx_e163 _ (20, _, [.int (qz v4)], qw σ α κ ρ, 0, 0)
    refine qr_if_eq 27 23 rfl rfl rfl (by omega) (fun h6 => ?_) (fun h6 => ?_)
    · skip
      refine qr_aload_n 28 rfl rfl rfl ?_
      refine qr_get 31 rfl rfl rfl (by decide) rfl ?_
      refine qr_iload_n 32 rfl rfl rfl ?_
      refine qr_iload_n 33 rfl rfl rfl ?_
      refine qr_callN 36 rfl rfl rfl (sf_48_44 (d := d + 1) hI (by omega) (by omega)) ?_
      rintro _ _ ⟨rfl, v7, rfl, hv7⟩
      show qr_W (qe L xs vb) (d + 2) qx_e163 _ (36, _, [.long (ql v7)], qw σ α κ ρ, 0, 0)
      refine qr_retL rfl rfl (by decide) (by decide) ?_
      exact ⟨rfl, v7, rfl, by omega⟩
    · skip
      refine qr_ldc2 (-9223372036854775808) 26 rfl (by decide) rfl ?_
      refine qr_retL rfl rfl (by decide) (by decide) ?_
      exact ⟨rfl, (-9223372036854775808), rfl, by omega⟩

set_option maxHeartbeats 4000000 in
set_option maxRecDepth 20000 in
/-- OneRoof.taken -/
theorem sf_167_16 {L : Nat} {xs : Nat → Int} {vb : Bool} {d : Nat} {σ α : Nat → Nat → Int} {κ : Nat → Option Nat} {ρ : Nat} {x1 : Int} {x2 : Int} (hI : qI σ α κ ρ) (r1 : (-2147483648) ≤ x1 ∧ x1 ≤ 2147483647) (r2 : (-2147483648) ≤ x2 ∧ x2 ≤ 2147483647) : qm_T (qe L xs vb) (d + 2) 167 [.ref 16, .int (qz x1), .int (qz x2)] (qw σ α κ ρ) (fun r w' => w' = qw σ α κ ρ ∧ ∃ v : Int, r = some (.int (qz v)) ∧ ((-2147483648) ≤ v ∧ v ≤ 2147483647)) := by
  refine qr_start (d := d + 1) qv_e167 (Nat.le_of_ble_eq_true rfl) ?_
  show qr_W (qe L xs vb) (d + 1) qx_e167 _ (0, [(0, .ref 16), (1, .int (qz x1)), (2, .int (qz x2))], [], _, 0, 0)
  refine qr_aload_n 1 rfl rfl rfl ?_
  refine qr_get 4 rfl rfl rfl (by decide) rfl ?_
  refine qr_iload_n 5 rfl rfl rfl ?_
  refine qr_callN 8 rfl rfl rfl (sf_44_44 (d := d + 0) hI (by omega)) ?_
  rintro _ _ ⟨rfl, v1, rfl, hv1, hp2⟩
  show qr_W (qe L xs vb) (d + 1) qx_e167 _ (8, _, [.int (qz v1)], qw σ α κ ρ, 0, 0)
  refine qr_if_eq 21 11 rfl rfl rfl (by omega) (fun h3 => ?_) (fun h3 => ?_)
  · skip
    refine qr_iconst 22 rfl rfl ?_
    refine qr_retI rfl rfl (by decide) (by decide) ?_
    exact ⟨rfl, (-1), rfl, by omega⟩
  · skip
    refine qr_iload_n 12 rfl rfl rfl ?_
    refine qr_if_lt 21 15 rfl rfl rfl (by omega) (fun h4 => ?_) (fun h4 => ?_)
    · skip
      refine qr_iconst 22 rfl rfl ?_
      refine qr_retI rfl rfl (by decide) (by decide) ?_
      exact ⟨rfl, (-1), rfl, by omega⟩
    · skip
      refine qr_iload_n 16 rfl rfl rfl ?_
      refine qr_bipush 18 rfl (by decide) rfl ?_
      refine qr_icmp_le 23 21 rfl rfl rfl (by omega) (by omega) (fun h5 => ?_) (fun h5 => ?_)
      · skip
        refine qr_aload_n 24 rfl rfl rfl ?_
        refine qr_get 27 rfl rfl rfl (by decide) rfl ?_
        refine qr_iload_n 28 rfl rfl rfl ?_
        refine qr_callN 31 rfl rfl rfl (sf_45_44 (d := d + 0) hI (by omega)) ?_
        rintro _ _ ⟨rfl, v6, rfl, hv6⟩
        show qr_W (qe L xs vb) (d + 1) qx_e167 _ (31, _, [.int (qz v6)], qw σ α κ ρ, 0, 0)
        refine qr_if_eq 37 34 rfl rfl rfl (by omega) (fun h7 => ?_) (fun h7 => ?_)
        · skip
          refine qr_aload_n 38 rfl rfl rfl ?_
          refine qr_get 41 rfl rfl rfl (by decide) rfl ?_
          refine qr_iload_n 42 rfl rfl rfl ?_
          refine qr_callN 45 rfl rfl rfl (sf_168_44 (d := d + 0) hI (by omega)) ?_
          rintro _ _ ⟨rfl, v8, rfl, hv8⟩
          show qr_W (qe L xs vb) (d + 1) qx_e167 _ (45, _, [.int (qz v8)], qw σ α κ ρ, 0, 0)
          refine qr_istore_n _ 46 rfl (by decide) rfl rfl ?_
          refine qr_aload_n 47 rfl rfl rfl ?_
          refine qr_get 50 rfl rfl rfl (by decide) rfl ?_
          refine qr_iload_n 51 rfl rfl rfl ?_
          refine qr_callN 54 rfl rfl rfl (sf_73_34 (d := d + 0) hI (by omega)) ?_
          have hs11 : 0 ≤ σ 34 7 ∧ σ 34 7 ≤ 60 := hI.1 34 7
          rintro _ _ ⟨rfl, v9, rfl, hv9, hp10⟩
          show qr_W (qe L xs vb) (d + 1) qx_e167 _ (54, _, [.int (qz v9)], qw σ α κ ρ, 0, 0)
          refine qr_if_eq 73 57 rfl rfl rfl (by omega) (fun h12 => ?_) (fun h12 => ?_)
          · skip
            refine qr_bipush 75 rfl (by decide) rfl ?_
            refine qr_retI rfl rfl (by decide) (by decide) ?_
            exact ⟨rfl, (-12), rfl, by omega⟩
          · skip
            refine qr_aload_n 58 rfl rfl rfl ?_
            refine qr_get 61 rfl rfl rfl (by decide) rfl ?_
            refine qr_get 64 rfl rfl rfl (by decide) rfl ?_
            refine qr_iload_n 65 rfl rfl rfl ?_
            refine qr_iaload 66 rfl rfl (by omega) (by decide) rfl ?_
            refine qr_topI (fun v13 hv13 => ?_)
            have hs14 : (-2147483648) ≤ v13 ∧ v13 ≤ 2147483647 := by rw [hv13]; exact hI.2.1 35 _ (show _ < 60 by omega)
            refine qr_iload_n 67 rfl rfl rfl ?_
            refine qr_callN 70 rfl rfl rfl (sf_169 (d := d + 0) hI (by omega) (by omega)) ?_
            rintro _ _ ⟨rfl, v15, rfl, hv15⟩
            show qr_W (qe L xs vb) (d + 1) qx_e167 _ (70, _, [.int (qz v15)], qw σ α κ ρ, 0, 0)
            refine qr_if_ne 76 73 rfl rfl rfl (by omega) (fun h16 => ?_) (fun h16 => ?_)
            · skip
              refine qr_aload_n 77 rfl rfl rfl ?_
              refine qr_get 80 rfl rfl rfl (by decide) rfl ?_
              refine qr_get 83 rfl rfl rfl (by decide) rfl ?_
              refine qr_iload_n 84 rfl rfl rfl ?_
              refine qr_iaload 85 rfl rfl (by omega) (by decide) rfl ?_
              refine qr_topI (fun v17 hv17 => ?_)
              have hs18 : (-2147483648) ≤ v17 ∧ v17 ≤ 2147483647 := by rw [hv17]; exact hI.2.1 35 _ (show _ < 60 by omega)
              refine qr_retI rfl rfl (by decide) (by decide) ?_
              exact ⟨rfl, v17, rfl, by omega⟩
            · skip
              refine qr_bipush 75 rfl (by decide) rfl ?_
              refine qr_retI rfl rfl (by decide) (by decide) ?_
              exact ⟨rfl, (-12), rfl, by omega⟩
        · skip
          refine qr_bipush 36 rfl (by decide) rfl ?_
          refine qr_retI rfl rfl (by decide) (by decide) ?_
          exact ⟨rfl, (-11), rfl, by omega⟩
      · skip
        refine qr_iconst 22 rfl rfl ?_
        refine qr_retI rfl rfl (by decide) (by decide) ?_
        exact ⟨rfl, (-1), rfl, by omega⟩

set_option maxHeartbeats 4000000 in
set_option maxRecDepth 20000 in
/-- OneRoof.count -/
theorem sf_170_16 {L : Nat} {xs : Nat → Int} {vb : Bool} {d : Nat} {σ α : Nat → Nat → Int} {κ : Nat → Option Nat} {ρ : Nat} {x1 : Int} (hI : qI σ α κ ρ) (r1 : (-2147483648) ≤ x1 ∧ x1 ≤ 2147483647) : qm_T (qe L xs vb) (d + 2) 170 [.ref 16, .int (qz x1)] (qw σ α κ ρ) (fun r w' => w' = qw σ α κ ρ ∧ ∃ v : Int, r = some (.int (qz v)) ∧ ((-2147483648) ≤ v ∧ v ≤ 2147483647)) := by
  refine qr_start (d := d + 1) qv_e170 (Nat.le_of_ble_eq_true rfl) ?_
  show qr_W (qe L xs vb) (d + 1) qx_e170 _ (0, [(0, .ref 16), (1, .int (qz x1))], [], _, 0, 0)
  refine qr_iload_n 1 rfl rfl rfl ?_
  have h1 : x1 = 0 ∨ x1 = 1 ∨ x1 = 2 ∨ x1 = 3 ∨ x1 = 4 ∨ x1 = 5 ∨ x1 = 6 ∨ x1 = 7 ∨ (x1 < 0 ∨ 7 < x1) := by omega
  rcases h1 with h1 | h1 | h1 | h1 | h1 | h1 | h1 | h1 | h1
  · skip
    refine qr_tabIn 48 rfl (by omega) (by omega) (by rw [h1]; rfl) rfl ?_
    refine qr_aload_n 49 rfl rfl rfl ?_
    refine qr_get 52 rfl rfl rfl (by decide) rfl ?_
    refine qr_get 55 rfl rfl rfl (by decide) rfl ?_
    have hs3 : 0 ≤ σ 17 6 ∧ σ 17 6 ≤ 32 := hI.1 17 6
    refine qr_retI rfl rfl (by decide) (by decide) ?_
    exact ⟨rfl, (σ 17 6), rfl, by omega⟩
  · skip
    refine qr_tabIn 56 rfl (by omega) (by omega) (by rw [h1]; rfl) rfl ?_
    refine qr_aload_n 57 rfl rfl rfl ?_
    refine qr_get 60 rfl rfl rfl (by decide) rfl ?_
    refine qr_get 63 rfl rfl rfl (by decide) rfl ?_
    have hs4 : (-2147483648) ≤ σ 23 1 ∧ σ 23 1 ≤ 2147483647 := hI.1 23 1
    refine qr_retI rfl rfl (by decide) (by decide) ?_
    exact ⟨rfl, (σ 23 1), rfl, by omega⟩
  · skip
    refine qr_tabIn 64 rfl (by omega) (by omega) (by rw [h1]; rfl) rfl ?_
    refine qr_aload_n 65 rfl rfl rfl ?_
    refine qr_get 68 rfl rfl rfl (by decide) rfl ?_
    refine qr_get 71 rfl rfl rfl (by decide) rfl ?_
    have hs5 : 0 ≤ σ 27 7 ∧ σ 27 7 ≤ 40 := hI.1 27 7
    refine qr_retI rfl rfl (by decide) (by decide) ?_
    exact ⟨rfl, (σ 27 7), rfl, by omega⟩
  · skip
    refine qr_tabIn 72 rfl (by omega) (by omega) (by rw [h1]; rfl) rfl ?_
    refine qr_aload_n 73 rfl rfl rfl ?_
    refine qr_get 76 rfl rfl rfl (by decide) rfl ?_
    refine qr_get 79 rfl rfl rfl (by decide) rfl ?_
    have hs6 : 0 ≤ σ 34 7 ∧ σ 34 7 ≤ 60 := hI.1 34 7
    refine qr_retI rfl rfl (by decide) (by decide) ?_
    exact ⟨rfl, (σ 34 7), rfl, by omega⟩
  · skip
    refine qr_tabIn 80 rfl (by omega) (by omega) (by rw [h1]; rfl) rfl ?_
    refine qr_aload_n 81 rfl rfl rfl ?_
    refine qr_get 84 rfl rfl rfl (by decide) rfl ?_
    have hs7 : 0 ≤ σ 16 15 ∧ σ 16 15 ≤ 120 := hI.1 16 15
    refine qr_retI rfl rfl (by decide) (by decide) ?_
    exact ⟨rfl, (σ 16 15), rfl, by omega⟩
  · skip
    refine qr_tabIn 85 rfl (by omega) (by omega) (by rw [h1]; rfl) rfl ?_
    refine qr_aload_n 86 rfl rfl rfl ?_
    refine qr_get 89 rfl rfl rfl (by decide) rfl ?_
    refine qr_get 92 rfl rfl rfl (by decide) rfl ?_
    have hs8 : 0 ≤ σ 76 7 ∧ σ 76 7 ≤ 40 := hI.1 76 7
    refine qr_retI rfl rfl (by decide) (by decide) ?_
    exact ⟨rfl, (σ 76 7), rfl, by omega⟩
  · skip
    refine qr_tabIn 93 rfl (by omega) (by omega) (by rw [h1]; rfl) rfl ?_
    refine qr_aload_n 94 rfl rfl rfl ?_
    refine qr_get 97 rfl rfl rfl (by decide) rfl ?_
    refine qr_get 100 rfl rfl rfl (by decide) rfl ?_
    have hs9 : (-9223372036854775808) ≤ σ 17 5 ∧ σ 17 5 ≤ 9223372036854775807 := hI.1 17 5
    refine qr_callN 103 rfl rfl rfl (sf_74 (d := d + 0) hI (by omega)) ?_
    rintro _ _ ⟨rfl, v10, rfl, hv10⟩
    show qr_W (qe L xs vb) (d + 1) qx_e170 _ (103, _, [.int (qz v10)], qw σ α κ ρ, 0, 0)
    refine qr_retI rfl rfl (by decide) (by decide) ?_
    exact ⟨rfl, v10, rfl, by omega⟩
  · skip
    refine qr_tabIn 104 rfl (by omega) (by omega) (by rw [h1]; rfl) rfl ?_
    refine qr_aload_n 105 rfl rfl rfl ?_
    refine qr_get 108 rfl rfl rfl (by decide) rfl ?_
    refine qr_get 111 rfl rfl rfl (by decide) rfl ?_
    have hs11 : (-2147483648) ≤ σ 42 1 ∧ σ 42 1 ≤ 2147483647 := hI.1 42 1
    refine qr_retI rfl rfl (by decide) (by decide) ?_
    exact ⟨rfl, (σ 42 1), rfl, by omega⟩
  · skip
    refine qr_tabOut 112 rfl (by omega) (by omega) rfl ?_
    refine qr_iconst 113 rfl rfl ?_
    refine qr_retI rfl rfl (by decide) (by decide) ?_
    exact ⟨rfl, (-1), rfl, by omega⟩

set_option maxHeartbeats 4000000 in
set_option maxRecDepth 20000 in
/-- OneRoof.people -/
theorem sf_43_16 {L : Nat} {xs : Nat → Int} {vb : Bool} {d : Nat} {σ α : Nat → Nat → Int} {κ : Nat → Option Nat} {ρ : Nat} {x1 : Int} {x2 : Int} {x3 : Int} (hI : qI σ α κ ρ) (r1 : (-2147483648) ≤ x1 ∧ x1 ≤ 2147483647) (r2 : (-2147483648) ≤ x2 ∧ x2 ≤ 2147483647) (r3 : (-2147483648) ≤ x3 ∧ x3 ≤ 2147483647) : qm_T (qe L xs vb) (d + 3) 43 [.ref 16, .int (qz x1), .int (qz x2), .int (qz x3)] (qw σ α κ ρ) (fun r w' => ∃ σ' α', w' = qw σ' α' κ ρ ∧ qI σ' α' κ ρ ∧ qFr [(17, 6)] [18, 19, 20, 22] σ α σ' α' ∧ ∃ v : Int, r = some (.int (qz v)) ∧ ((-2147483648) ≤ v ∧ v ≤ 2147483647)) := by
  refine qr_start (d := d + 2) qv_e43 (Nat.le_of_ble_eq_true rfl) ?_
  show qr_W (qe L xs vb) (d + 2) qx_e43 _ (0, [(0, .ref 16), (1, .int (qz x1)), (2, .int (qz x2)), (3, .int (qz x3))], [], _, 0, 0)
  have hF0 := qFr_rf [(17, 6)] [18, 19, 20, 22] σ α
  refine qr_aload_n 1 rfl rfl rfl ?_
  refine qr_get 4 rfl rfl rfl (by decide) rfl ?_
  refine qr_iload_n 5 rfl rfl rfl ?_
  refine qr_callN 8 rfl rfl rfl (sf_44_44 (d := d + 1) hI (by omega)) ?_
  rintro _ _ ⟨rfl, v1, rfl, hv1, hp2⟩
  show qr_W (qe L xs vb) (d + 2) qx_e43 _ (8, _, [.int (qz v1)], qw σ α κ ρ, 0, 0)
  refine qr_if_eq 22 11 rfl rfl rfl (by omega) (fun h3 => ?_) (fun h3 => ?_)
  · skip
    refine qr_iconst 23 rfl rfl ?_
    refine qr_retI rfl rfl (by decide) (by decide) ?_
    exact ⟨_, _, rfl, hI, hF0, (-1), rfl, by omega⟩
  · skip
    refine qr_iload_n 12 rfl rfl rfl ?_
    refine qr_iconst 13 rfl rfl ?_
    refine qr_icmp_lt 22 16 rfl rfl rfl (by omega) (by omega) (fun h4 => ?_) (fun h4 => ?_)
    · skip
      refine qr_iconst 23 rfl rfl ?_
      refine qr_retI rfl rfl (by decide) (by decide) ?_
      exact ⟨_, _, rfl, hI, hF0, (-1), rfl, by omega⟩
    · skip
      refine qr_iload_n 17 rfl rfl rfl ?_
      refine qr_bipush 19 rfl (by decide) rfl ?_
      refine qr_icmp_le 24 22 rfl rfl rfl (by omega) (by omega) (fun h5 => ?_) (fun h5 => ?_)
      · skip
        refine qr_aload_n 25 rfl rfl rfl ?_
        refine qr_get 28 rfl rfl rfl (by decide) rfl ?_
        refine qr_iload_n 29 rfl rfl rfl ?_
        refine qr_callN 32 rfl rfl rfl (sf_45_44 (d := d + 1) hI (by omega)) ?_
        rintro _ _ ⟨rfl, v6, rfl, hv6⟩
        show qr_W (qe L xs vb) (d + 2) qx_e43 _ (32, _, [.int (qz v6)], qw σ α κ ρ, 0, 0)
        refine qr_if_eq 37 35 rfl rfl rfl (by omega) (fun h7 => ?_) (fun h7 => ?_)
        · skip
          refine qr_aload_n 38 rfl rfl rfl ?_
          refine qr_get 41 rfl rfl rfl (by decide) rfl ?_
          refine qr_iload_n 42 rfl rfl rfl ?_
          refine qr_iconst 43 rfl rfl ?_
          refine qr_callN 46 rfl rfl rfl (sf_46_44 (d := d + 0) hI (by omega) (by omega)) ?_
          rintro _ _ ⟨rfl, v8, rfl, hv8⟩
          show qr_W (qe L xs vb) (d + 2) qx_e43 _ (46, _, [.int (qz v8)], qw σ α κ ρ, 0, 0)
          refine qr_if_ne 52 49 rfl rfl rfl (by omega) (fun h9 => ?_) (fun h9 => ?_)
          · skip
            refine qr_iconst 53 rfl rfl ?_
            refine qr_istore _ 55 rfl (by decide) rfl rfl ?_
            have hL307 : ∀ (n : Nat) (ls : qm_L) (u301 : Int) (σ302 α303 : Nat → Nat → Int), 20 - u301 < (n : Int) → qm_get ls 0 = some (.ref 16) → qm_get ls 1 = some (.int (qz x1)) → qm_get ls 2 = some (.int (qz x2)) → qm_get ls 3 = some (.int (qz x3)) → qm_get ls 4 = some (.int (qz u301)) → (0 ≤ u301 ∧ u301 ≤ 20) → qI σ302 α303 κ ρ → qFr [(17, 6)] [18, 19, 20, 22] σ α σ302 α303 → qr_W (qe L xs vb) (d + 2) qx_e43 (fun r w' => ∃ σ' α', w' = qw σ' α' κ ρ ∧ qI σ' α' κ ρ ∧ qFr [(17, 6)] [18, 19, 20, 22] σ α σ' α' ∧ ∃ v : Int, r = some (.int (qz v)) ∧ ((-2147483648) ≤ v ∧ v ≤ 2147483647)) (55, ls, [], qw σ302 α303 κ ρ, 0, 0) := by
              intro n
              induction n with
              | zero => intro ls u301 σ302 α303 hm g296 g297 g298 g299 g300 hf306 hI304 hF305; exact False.elim (by omega)
              | succ n ih308 =>
                intro ls u301 σ302 α303 hm g296 g297 g298 g299 g300 hf306 hI304 hF305
                refine qr_iload 57 rfl g300 rfl ?_
                refine qr_iload_n 58 rfl g299 rfl ?_
                refine qr_icmp_ge 200 61 rfl rfl rfl (by omega) (by omega) (fun h309 => ?_) (fun h309 => ?_)
                · skip
                  refine qr_iload_n 201 rfl g299 rfl ?_
                  refine qr_retI rfl rfl (by decide) (by decide) ?_
                  exact ⟨_, _, rfl, hI304, hF305, x3, rfl, by omega⟩
                · skip
                  refine qr_iload_n 62 rfl g298 rfl ?_
                  refine qr_i2l 63 rfl (by omega) rfl ?_
                  refine qr_ldc2 3 66 rfl (by decide) rfl ?_
                  refine qr_iload 68 rfl g300 rfl ?_
                  refine qr_i2l 69 rfl (by omega) rfl ?_
                  refine qr_lmul 70 rfl rfl ?_
                  refine qr_ladd 71 rfl rfl ?_
                  refine qr_lstore _ 73 rfl (by decide) rfl rfl ?_
                  refine qr_lload 75 rfl (qm_ge2 _ _ _) rfl ?_
                  refine qr_lconst 76 rfl rfl ?_
                  refine qy_vl 0 rfl ?_
                  refine qr_lc_lt 112 80 rfl rfl rfl rfl (by omega) (by omega) (fun h310 => ?_) (fun h310 => ?_)
                  · skip
                    refine qr_iload 114 rfl (qm_gk2 g300 (by decide) (by decide) (Or.inr rfl)) rfl ?_
                    refine qr_retI rfl rfl (by decide) (by decide) ?_
                    exact ⟨_, _, rfl, hI304, hF305, u301, rfl, by omega⟩
                  · skip
                    refine qr_lload 82 rfl (qm_ge2 _ _ _) rfl ?_
                    refine qr_ldc2 2 85 rfl (by decide) rfl ?_
                    refine qr_ladd 86 rfl rfl ?_
                    refine qr_aload_n 87 rfl (qm_gk2 g296 (by decide) (by decide) (Or.inl (by decide))) rfl ?_
                    refine qr_get 90 rfl rfl rfl (by decide) rfl ?_
                    refine qr_get 93 rfl rfl rfl (by decide) rfl ?_
                    refine qr_iload_n 94 rfl (qm_gk2 g297 (by decide) (by decide) (Or.inl (by decide))) rfl ?_
                    refine qr_iaload 95 rfl rfl (by omega) (by decide) rfl ?_
                    refine qr_topI (fun v311 hv311 => ?_)
                    have hs312 : 0 ≤ v311 ∧ v311 ≤ 60 := by rw [hv311]; exact hI304.2.1 46 _ (show _ < 6 by omega)
                    refine qr_i2l 96 rfl (by omega) rfl ?_
                    refine qr_lc_ge 112 100 rfl rfl rfl rfl (by omega) (by omega) (fun h313 => ?_) (fun h313 => ?_)
                    · skip
                      refine qr_iload 114 rfl (qm_gk2 g300 (by decide) (by decide) (Or.inr rfl)) rfl ?_
                      refine qr_retI rfl rfl (by decide) (by decide) ?_
                      exact ⟨_, _, rfl, hI304, hF305, u301, rfl, by omega⟩
                    · skip
                      refine qr_aload_n 101 rfl (qm_gk2 g296 (by decide) (by decide) (Or.inl (by decide))) rfl ?_
                      refine qr_get 104 rfl rfl rfl (by decide) rfl ?_
                      refine qr_get 107 rfl rfl rfl (by decide) rfl ?_
                      have hs314 : 0 ≤ σ302 17 6 ∧ σ302 17 6 ≤ 32 := hI304.1 17 6
                      refine qr_bipush 109 rfl (by decide) rfl ?_
                      refine qr_icmp_lt 115 112 rfl rfl rfl (by omega) (by omega) (fun h315 => ?_) (fun h315 => ?_)
                      · skip
                        refine qr_aload_n 116 rfl (qm_gk2 g296 (by decide) (by decide) (Or.inl (by decide))) rfl ?_
                        refine qr_get 119 rfl rfl rfl (by decide) rfl ?_
                        refine qr_iload_n 120 rfl (qm_gk2 g297 (by decide) (by decide) (Or.inl (by decide))) rfl ?_
                        refine qr_lload 122 rfl (qm_ge2 _ _ _) rfl ?_
                        refine qr_l2i 123 rfl rfl ?_
                        refine qr_callN 126 rfl rfl rfl (sf_48_44 (d := d + 1) hI304 (by omega) (by omega)) ?_
                        rintro _ _ ⟨rfl, v316, rfl, hv316⟩
                        show qr_W (qe L xs vb) (d + 2) qx_e43 _ (126, _, [.long (ql v316)], qw σ302 α303 κ ρ, 0, 0)
                        refine qr_l2i 127 rfl rfl ?_
                        refine qy_can (fun v317 hv317 => ?_)
                        refine qr_istore _ 129 rfl (by decide) rfl rfl ?_
                        refine qr_aload_n 130 rfl (qm_gk (qm_gk2 g296 (by decide) (by decide) (Or.inl (by decide))) (by decide) (Or.inl (by decide))) rfl ?_
                        refine qr_get 133 rfl rfl rfl (by decide) rfl ?_
                        refine qr_iload_n 134 rfl (qm_gk (qm_gk2 g297 (by decide) (by decide) (Or.inl (by decide))) (by decide) (Or.inl (by decide))) rfl ?_
                        refine qr_lload 136 rfl (qm_gk (qm_ge2 _ _ _) (by decide) (Or.inl (by decide))) rfl ?_
                        refine qr_l2i 137 rfl rfl ?_
                        refine qr_iconst 138 rfl rfl ?_
                        refine qr_iadd 139 rfl rfl ?_
                        refine qr_callN 142 rfl rfl rfl (sf_48_44 (d := d + 1) hI304 (by omega) (by omega)) ?_
                        rintro _ _ ⟨rfl, v318, rfl, hv318⟩
                        show qr_W (qe L xs vb) (d + 2) qx_e43 _ (142, _, [.long (ql v318)], qw σ302 α303 κ ρ, 0, 0)
                        refine qr_l2i 143 rfl rfl ?_
                        refine qy_can (fun v319 hv319 => ?_)
                        refine qr_istore _ 145 rfl (by decide) rfl rfl ?_
                        refine qr_aload_n 146 rfl (qm_gk (qm_gk (qm_gk2 g296 (by decide) (by decide) (Or.inl (by decide))) (by decide) (Or.inl (by decide))) (by decide) (Or.inl (by decide))) rfl ?_
                        refine qr_get 149 rfl rfl rfl (by decide) rfl ?_
                        refine qr_iload_n 150 rfl (qm_gk (qm_gk (qm_gk2 g297 (by decide) (by decide) (Or.inl (by decide))) (by decide) (Or.inl (by decide))) (by decide) (Or.inl (by decide))) rfl ?_
                        as_aux_lemma =>
                          refine qr_lload 152 rfl (qm_gk (qm_gk (qm_ge2 _ _ _) (by decide) (Or.inl (by decide))) (by decide) (Or.inl (by decide))) rfl ?_
                          refine qr_l2i 153 rfl rfl ?_
                          refine qr_iconst 154 rfl rfl ?_
                          refine qr_iadd 155 rfl rfl ?_
                          refine qr_callN 158 rfl rfl rfl (sf_48_44 (d := d + 1) hI304 (by omega) (by omega)) ?_
                          rintro _ _ ⟨rfl, v320, rfl, hv320⟩
                          show qr_W (qe L xs vb) (d + 2) qx_e43 _ (158, _, [.long (ql v320)], qw σ302 α303 κ ρ, 0, 0)
                          refine qr_l2i 159 rfl rfl ?_
                          refine qy_can (fun v321 hv321 => ?_)
                          refine qr_istore _ 161 rfl (by decide) rfl rfl ?_
                          refine qr_aload_n 162 rfl (qm_gk (qm_gk (qm_gk (qm_gk2 g296 (by decide) (by decide) (Or.inl (by decide))) (by decide) (Or.inl (by decide))) (by decide) (Or.inl (by decide))) (by decide) (Or.inl (by decide))) rfl ?_
                          refine qr_get 165 rfl rfl rfl (by decide) rfl ?_
                          refine qr_iload 167 rfl (qm_gk (qm_gk (qm_ge _ _ _) (by decide) (Or.inr rfl)) (by decide) (Or.inl (by decide))) rfl ?_
                          refine qr_iload 169 rfl (qm_gk (qm_ge _ _ _) (by decide) (Or.inr rfl)) rfl ?_
                          refine qr_iload 171 rfl (qm_ge _ _ _) rfl ?_
                          refine qr_callN 174 rfl rfl rfl (sf_39_17 (d := d + 0) hI304 (by omega) (by omega) (by omega)) ?_
                          have hs324 : 0 ≤ σ302 17 6 ∧ σ302 17 6 ≤ 32 := hI304.1 17 6
                          rintro _ _ ⟨rfl, v322, rfl, hv322, hp323⟩
                          show qr_W (qe L xs vb) (d + 2) qx_e43 _ (174, _, [.int (qz v322)], qw σ302 α303 κ ρ, 0, 0)
                          refine qr_if_ne 180 177 rfl rfl rfl (by omega) (fun h325 => ?_) (fun h325 => ?_)
                          · skip
                            refine qr_aload_n 181 rfl (qm_gk (qm_gk (qm_gk (qm_gk2 g296 (by decide) (by decide) (Or.inl (by decide))) (by decide) (Or.inl (by decide))) (by decide) (Or.inl (by decide))) (by decide) (Or.inl (by decide))) rfl ?_
                            refine qr_get 184 rfl rfl rfl (by decide) rfl ?_
                            refine qr_iload 186 rfl (qm_gk (qm_gk (qm_ge _ _ _) (by decide) (Or.inr rfl)) (by decide) (Or.inl (by decide))) rfl ?_
                            refine qr_iload 188 rfl (qm_gk (qm_ge _ _ _) (by decide) (Or.inr rfl)) rfl ?_
                            refine qr_iload 190 rfl (qm_ge _ _ _) rfl ?_
                            refine qr_callN 193 rfl rfl rfl (sf_42_17 (d := d + 1) hI304 (by omega) (by omega) (by omega) (by omega)) ?_
                            rintro _ _ ⟨σ327, α328, rfl, hI329, hG330, v326, rfl, hv326⟩
                            have hF331 : qFr [(17, 6)] [18, 19, 20, 22] σ α σ327 α328 := qFr_t hF305 hG330 (by decide) (by decide)
                            show qr_W (qe L xs vb) (d + 2) qx_e43 _ (193, _, [.int (qz v326)], qw σ327 α328 κ ρ, 0, 0)
                            refine qr_pop 194 rfl rfl rfl ?_
                            refine qr_iinc _ 197 rfl (qm_gk (qm_gk (qm_gk (qm_gk2 g300 (by decide) (by decide) (Or.inr rfl)) (by decide) (Or.inl (by decide))) (by decide) (Or.inl (by decide))) (by decide) (Or.inl (by decide))) (by decide) rfl rfl ?_
                            refine qr_goto 55 rfl rfl ?_
                            exact ih308 _ (u301 + 1) σ327 α328 (by omega) (qm_gk (qm_gk (qm_gk (qm_gk (qm_gk2 g296 (by decide) (by decide) (Or.inl (by decide))) (by decide) (Or.inl (by decide))) (by decide) (Or.inl (by decide))) (by decide) (Or.inl (by decide))) (by decide) (Or.inl (by decide))) (qm_gk (qm_gk (qm_gk (qm_gk (qm_gk2 g297 (by decide) (by decide) (Or.inl (by decide))) (by decide) (Or.inl (by decide))) (by decide) (Or.inl (by decide))) (by decide) (Or.inl (by decide))) (by decide) (Or.inl (by decide))) (qm_gk (qm_gk (qm_gk (qm_gk (qm_gk2 g298 (by decide) (by decide) (Or.inl (by decide))) (by decide) (Or.inl (by decide))) (by decide) (Or.inl (by decide))) (by decide) (Or.inl (by decide))) (by decide) (Or.inl (by decide))) (qm_gk (qm_gk (qm_gk (qm_gk (qm_gk2 g299 (by decide) (by decide) (Or.inl (by decide))) (by decide) (Or.inl (by decide))) (by decide) (Or.inl (by decide))) (by decide) (Or.inl (by decide))) (by decide) (Or.inr rfl)) (qm_ge _ _ _) (by omega) hI329 hF331
                          · skip
                            refine qr_iload 179 rfl (qm_gk (qm_gk (qm_gk (qm_gk2 g300 (by decide) (by decide) (Or.inr rfl)) (by decide) (Or.inl (by decide))) (by decide) (Or.inl (by decide))) (by decide) (Or.inl (by decide))) rfl ?_
                            refine qr_retI rfl rfl (by decide) (by decide) ?_
                            exact ⟨_, _, rfl, hI304, hF305, u301, rfl, by omega⟩
                      · skip
                        refine qr_iload 114 rfl (qm_gk2 g300 (by decide) (by decide) (Or.inr rfl)) rfl ?_
                        refine qr_retI rfl rfl (by decide) (by decide) ?_
                        exact ⟨_, _, rfl, hI304, hF305, u301, rfl, by omega⟩
            exact hL307 ((20 - 0 + 1 : Int)).toNat _ 0 σ α (by omega) rfl rfl rfl rfl rfl (by omega) hI hF0
          · skip
            refine qr_bipush 51 rfl (by decide) rfl ?_
            refine qr_retI rfl rfl (by decide) (by decide) ?_
            exact ⟨_, _, rfl, hI, hF0, (-12), rfl, by omega⟩
        · skip
          refine qr_iconst 36 rfl rfl ?_
          refine qr_retI rfl rfl (by decide) (by decide) ?_
          exact ⟨_, _, rfl, hI, hF0, 0, rfl, by omega⟩
      · skip
        refine qr_iconst 23 rfl rfl ?_
        refine qr_retI rfl rfl (by decide) (by decide) ?_
        exact ⟨_, _, rfl, hI, hF0, (-1), rfl, by omega⟩

set_option maxHeartbeats 4000000 in
set_option maxRecDepth 20000 in
/-- OneRoof$Pegs.hasRun -/
theorem sf_165_44 {L : Nat} {xs : Nat → Int} {vb : Bool} {d : Nat} {σ α : Nat → Nat → Int} {κ : Nat → Option Nat} {ρ : Nat} {x1 : Int} {x2 : Int} {x3 : Int} (hI : qI σ α κ ρ) (r1 : 0 ≤ x1 ∧ x1 ≤ 5) (r2 : (-2147483648) ≤ x2 ∧ x2 ≤ 2147483647) (r3 : (-2147483648) ≤ x3 ∧ x3 ≤ 2147483647) : qm_T (qe L xs vb) (d + 1) 165 [.ref 44, .int (qz x1), .int (qz x2), .int (qz x3)] (qw σ α κ ρ) (fun r w' => w' = qw σ α κ ρ ∧ ∃ v : Int, r = some (.int (qz v)) ∧ (0 ≤ v ∧ v ≤ 1) ∧ (v = 0 ∨ (v = 1 ∧ 0 ≤ x2 ∧ 0 ≤ x3 ∧ x2 + x3 ≤ 60))) := by
  refine qr_start (d := d + 0) qv_e165 (Nat.le_of_ble_eq_true rfl) ?_
  show qr_W (qe L xs vb) (d + 0) qx_e165 _ (0, [(0, .ref 44), (1, .int (qz x1)), (2, .int (qz x2)), (3, .int (qz x3))], [], _, 0, 0)
  refine qr_iload_n 1 rfl rfl rfl ?_
  refine qr_if_lt 34 4 rfl rfl rfl (by omega) (fun h1 => ?_) (fun h1 => ?_)
  · skip
    refine qr_iconst 35 rfl rfl ?_
    refine qr_retZ rfl rfl (by omega) (by decide) (by decide) ?_
    exact ⟨rfl, 0, rfl, by omega, by omega⟩
  · skip
    refine qr_iload_n 5 rfl rfl rfl ?_
    refine qr_if_lt 34 8 rfl rfl rfl (by omega) (fun h2 => ?_) (fun h2 => ?_)
    · skip
      refine qr_iconst 35 rfl rfl ?_
      refine qr_retZ rfl rfl (by omega) (by decide) (by decide) ?_
      exact ⟨rfl, 0, rfl, by omega, by omega⟩
    · skip
      refine qr_iload_n 9 rfl rfl rfl ?_
      refine qr_aload_n 10 rfl rfl rfl ?_
      refine qr_get 13 rfl rfl rfl (by decide) rfl ?_
      refine qr_iload_n 14 rfl rfl rfl ?_
      refine qr_iaload 15 rfl rfl (by omega) (by decide) rfl ?_
      refine qr_topI (fun v3 hv3 => ?_)
      have hs4 : 0 ≤ v3 ∧ v3 ≤ 60 := by rw [hv3]; exact hI.2.1 46 _ (show _ < 6 by omega)
      refine qr_icmp_gt 34 18 rfl rfl rfl (by omega) (by omega) (fun h5 => ?_) (fun h5 => ?_)
      · skip
        refine qr_iconst 35 rfl rfl ?_
        refine qr_retZ rfl rfl (by omega) (by decide) (by decide) ?_
        exact ⟨rfl, 0, rfl, by omega, by omega⟩
      · skip
        refine qr_iload_n 19 rfl rfl rfl ?_
        refine qr_aload_n 20 rfl rfl rfl ?_
        refine qr_get 23 rfl rfl rfl (by decide) rfl ?_
        refine qr_iload_n 24 rfl rfl rfl ?_
        refine qr_iaload 25 rfl rfl (by omega) (by decide) rfl ?_
        refine qr_topI (fun v6 hv6 => ?_)
        have hs7 : 0 ≤ v6 ∧ v6 ≤ 60 := by rw [hv6]; exact hI.2.1 46 _ (show _ < 6 by omega)
        refine qr_iload_n 26 rfl rfl rfl ?_
        refine qr_isub 27 rfl rfl ?_
        refine qr_icmp_gt 34 30 rfl rfl rfl (by omega) (by omega) (fun h8 => ?_) (fun h8 => ?_)
        · skip
          refine qr_iconst 35 rfl rfl ?_
          refine qr_retZ rfl rfl (by omega) (by decide) (by decide) ?_
          exact ⟨rfl, 0, rfl, by omega, by omega⟩
        · skip
          refine qr_iconst 31 rfl rfl ?_
          refine qr_goto 35 rfl rfl ?_
          refine qr_retZ rfl rfl (by omega) (by decide) (by decide) ?_
          exact ⟨rfl, 1, rfl, by omega, by omega⟩

