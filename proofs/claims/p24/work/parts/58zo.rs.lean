section
set_option maxHeartbeats 4000000 in
set_option maxRecDepth 20000 in
/-- OneRoofModel.doBar -/
theorem sf_232_86s {L : Nat} {xs : Nat → Int} {vb : Bool} {d : Nat} {σ α : Nat → Nat → Int} {κ : Nat → Option Nat} {ρ : Nat} {x1 : Int} {x2 : Int} {x3 : Int} (hI : qI σ α κ ρ) (r1 : 0 ≤ x1 ∧ x1 ≤ 31) (r2 : 0 ≤ x2 ∧ x2 ≤ 31) (r3 : 0 ≤ x3 ∧ x3 ≤ 23999999) (p0 : 1 ≤ σ 86 6) : qm_T (qe L xs vb) (d + 48) 232 [.ref 86, .int (qz x1), .int (qz x2), .int (qz x3)] (qw σ α κ ρ) (fun r w' => ∃ σ' α', w' = qw σ' α' κ ρ ∧ qI σ' α' κ ρ ∧ qFr [(86, 15), (86, 23), (86, 30), (86, 35), (86, 36), (86, 37), (86, 38), (86, 39), (86, 41)] [96, 109] σ α σ' α' ∧ σ' 86 41 = 0 ∧ ∃ v : Int, r = some (.int (qz v)) ∧ (0 ≤ v ∧ v ≤ 1)) := by
  refine qr_start (d := d + 47) qv_e232 (Nat.le_of_ble_eq_true rfl) ?_
  show qr_W (qe L xs vb) (d + 47) qx_e232 _ (0, [(0, .ref 86), (1, .int (qz x1)), (2, .int (qz x2)), (3, .int (qz x3))], [], _, 0, 0)
  have hF0 := qFr_rf [(86, 15), (86, 23), (86, 30), (86, 35), (86, 36), (86, 37), (86, 38), (86, 39), (86, 41)] [96, 109] σ α
  have hz86_6 : 0 ≤ σ 86 6 ∧ σ 86 6 ≤ 32 := hI.1 86 6
  refine qr_lconst 1 rfl rfl ?_
  refine qy_vl 1 rfl ?_
  refine qr_iload_n 2 rfl rfl rfl ?_
  refine qr_lshl 3 rfl rfl ?_
  refine qy_canl (fun v1 hv1 => ?_)
  refine qr_lconst 4 rfl rfl ?_
  refine qy_vl 1 rfl ?_
  refine qr_iload_n 5 rfl rfl rfl ?_
  refine qr_lshl 6 rfl rfl ?_
  refine qy_canl (fun v2 hv2 => ?_)
  refine qr_lor 7 rfl rfl ?_
  refine qy_canl (fun v3 hv3 => ?_)
  refine qr_lstore _ 9 rfl (by decide) rfl rfl ?_
  refine qr_iconst 10 rfl rfl ?_
  refine qr_istore _ 12 rfl (by decide) rfl rfl ?_
  refine qr_aload_n 13 rfl rfl rfl ?_
  refine qr_iconst 14 rfl rfl ?_
  refine qr_put 17 rfl (by decide) rfl (Nat.le_of_ble_eq_true rfl) (Nat.le_of_ble_eq_true rfl) (Or.inl rfl) (qr_fitZ rfl (Or.inr rfl)) rfl ?_
  refine qy_wS (qw_s σ 86 41 1) rfl (fun σ4 e5 => ?_)
  have hI6 : qI σ4 α κ ρ := by rw [e5]; exact qI_s hI 86 41 rfl (show 0 ≤ 1 ∧ 1 ≤ 1 by omega)
  have hF7 : qFr [(86, 15), (86, 23), (86, 30), (86, 35), (86, 36), (86, 37), (86, 38), (86, 39), (86, 41)] [96, 109] σ α σ4 α := by rw [e5]; exact qFr_s hF0 86 41 _ (by decide)
  refine qr_iload_n 18 rfl rfl rfl ?_
  refine qr_sipush 21 rfl (by decide) rfl ?_
  refine qr_idiv 22 rfl (qrg r3 (by decide) (by decide)) (by decide) rfl ?_
  refine qr_istore _ 24 rfl (by decide) rfl rfl ?_
  have hL634 : ∀ (n : Nat) (ls : qm_L) (u622 u624 : Int) (σ625 α626 : Nat → Nat → Int), 10000 - u624 < (n : Int) → qm_get ls 0 = some (.ref 86) → qm_get ls 1 = some (.int (qz x1)) → qm_get ls 2 = some (.int (qz x2)) → qm_get ls 3 = some (.int (qz x3)) → qm_get ls 4 = some (.long (ql v3)) → qm_get ls 6 = some (.int (qz u622)) → qm_get ls 7 = some (.int (qz u624)) → (0 ≤ u622 ∧ u622 ≤ 1) → (0 ≤ u624 ∧ u624 ≤ 10000) → qI σ625 α626 κ ρ → qFr [(86, 15), (86, 23), (86, 30), (86, 35), (86, 36), (86, 37), (86, 38), (86, 39), (86, 41)] [96, 109] σ α σ625 α626 → σ625 86 6 = (σ 86 6) → σ625 86 41 = 1 → (x3 / 10000) ≤ u624 → qr_W (qe L xs vb) (d + 47) qx_e232 (fun r w' => ∃ σ' α', w' = qw σ' α' κ ρ ∧ qI σ' α' κ ρ ∧ qFr [(86, 15), (86, 23), (86, 30), (86, 35), (86, 36), (86, 37), (86, 38), (86, 39), (86, 41)] [96, 109] σ α σ' α' ∧ σ' 86 41 = 0 ∧ ∃ v : Int, r = some (.int (qz v)) ∧ (0 ≤ v ∧ v ≤ 1)) (24, ls, [], qw σ625 α626 κ ρ, 0, 0) := by
    intro n
    induction n with
    | zero => intro ls u622 u624 σ625 α626 hm g616 g617 g618 g619 g620 g621 g623 hf631 hf632 hI627 hF628 hk629 hk630 hx633; exact False.elim (by omega)
    | succ n ih635 =>
      intro ls u622 u624 σ625 α626 hm g616 g617 g618 g619 g620 g621 g623 hf631 hf632 hI627 hF628 hk629 hk630 hx633
      refine qr_iload 26 rfl g623 rfl ?_
      refine qr_iload_n 27 rfl g619 rfl ?_
      refine qr_sipush 30 rfl (by decide) rfl ?_
      refine qr_irem 31 rfl (qrg r3 (by decide) (by decide)) (by decide) rfl ?_
      refine qr_icmp_gt 78 34 rfl rfl rfl (qrg hf632 (by decide) (by decide)) (by omega) (fun h636 => ?_) (fun h636 => ?_)
      · skip
        refine qr_aload_n 79 rfl g616 rfl ?_
        refine qr_iconst 80 rfl rfl ?_
        refine qr_put 83 rfl (by decide) rfl (Nat.le_of_ble_eq_true rfl) (Nat.le_of_ble_eq_true rfl) (Or.inl rfl) (qr_fitZ rfl (Or.inl rfl)) rfl ?_
        refine qy_wS (qw_s σ625 86 41 0) rfl (fun σ637 e638 => ?_)
        have hI639 : qI σ637 α626 κ ρ := by rw [e638]; exact qI_s hI627 86 41 rfl (show 0 ≤ 0 ∧ 0 ≤ 1 by omega)
        have hF640 : qFr [(86, 15), (86, 23), (86, 30), (86, 35), (86, 36), (86, 37), (86, 38), (86, 39), (86, 41)] [96, 109] σ α σ637 α626 := by rw [e638]; exact qFr_s hF628 86 41 _ (by decide)
        refine qr_iload 85 rfl g621 rfl ?_
        refine qr_retZ rfl rfl (by omega) (by decide) (by decide) ?_
        exact ⟨_, _, rfl, hI639, hF640, (by have hw : σ637 86 41 = 0 := (congrFun (congrFun e638 86) 41).trans rfl; omega), u622, rfl, hf631⟩
      · skip
        refine qr_iload 36 rfl g621 rfl ?_
        refine qr_if_ne 78 39 rfl rfl rfl (qrg hf631 (by decide) (by decide)) (fun h641 => ?_) (fun h641 => ?_)
        · skip
          refine qr_aload_n 79 rfl g616 rfl ?_
          refine qr_iconst 80 rfl rfl ?_
          refine qr_put 83 rfl (by decide) rfl (Nat.le_of_ble_eq_true rfl) (Nat.le_of_ble_eq_true rfl) (Or.inl rfl) (qr_fitZ rfl (Or.inl rfl)) rfl ?_
          refine qy_wS (qw_s σ625 86 41 0) rfl (fun σ642 e643 => ?_)
          have hI644 : qI σ642 α626 κ ρ := by rw [e643]; exact qI_s hI627 86 41 rfl (show 0 ≤ 0 ∧ 0 ≤ 1 by omega)
          have hF645 : qFr [(86, 15), (86, 23), (86, 30), (86, 35), (86, 36), (86, 37), (86, 38), (86, 39), (86, 41)] [96, 109] σ α σ642 α626 := by rw [e643]; exact qFr_s hF628 86 41 _ (by decide)
          refine qr_iload 85 rfl g621 rfl ?_
          refine qr_retZ rfl rfl (by omega) (by decide) (by decide) ?_
          exact ⟨_, _, rfl, hI644, hF645, (by have hw : σ642 86 41 = 0 := (congrFun (congrFun e643 86) 41).trans rfl; omega), u622, rfl, hf631⟩
        · skip
          refine qr_aload_n 40 rfl g616 rfl ?_
          refine qr_iload_n 41 rfl g617 rfl ?_
          refine qr_iload_n 42 rfl g618 rfl ?_
          refine qr_lload 44 rfl g620 rfl ?_
          refine qr_iload 46 rfl g623 rfl ?_
          have hs646 : 0 ≤ σ625 86 6 ∧ σ625 86 6 ≤ 32 := hI627.1 86 6
          have hs647 : σ625 86 6 = (σ 86 6) := (hk629).trans rfl
          refine qr_callN 49 rfl rfl rfl (sf_227_86 (d := d + 0) hI627 r1 r2 hv3 (qrg hf632 (by decide) (by decide)) (by omega)) ?_
          rintro _ _ ⟨σ649, α650, rfl, hI651, hG652, v648, rfl, hv648⟩
          have hF653 : qFr [(86, 15), (86, 23), (86, 30), (86, 35), (86, 36), (86, 37), (86, 38), (86, 39), (86, 41)] [96, 109] σ α σ649 α650 := qFr_t hF628 hG652 (by decide) (by decide)
          show qr_W (qe L xs vb) (d + 47) qx_e232 _ (49, _, [.int (qz v648)], qw σ649 α650 κ ρ, 0, 0)
          have hJ676 : ∀ (ls : qm_L) (u668 : Int) (σ669 α670 : Nat → Nat → Int), qm_get ls 0 = some (.ref 86) → qm_get ls 1 = some (.int (qz x1)) → qm_get ls 2 = some (.int (qz x2)) → qm_get ls 3 = some (.int (qz x3)) → qm_get ls 4 = some (.long (ql v3)) → qm_get ls 7 = some (.int (qz u624)) → (0 ≤ u668 ∧ u668 ≤ 1) → qI σ669 α670 κ ρ → qFr [(86, 15), (86, 23), (86, 30), (86, 35), (86, 36), (86, 37), (86, 38), (86, 39), (86, 41)] [96, 109] σ α σ669 α670 → σ669 86 6 = (σ 86 6) → σ669 86 41 = 1 → qr_W (qe L xs vb) (d + 47) qx_e232 (fun r w' => ∃ σ' α', w' = qw σ' α' κ ρ ∧ qI σ' α' κ ρ ∧ qFr [(86, 15), (86, 23), (86, 30), (86, 35), (86, 36), (86, 37), (86, 38), (86, 39), (86, 41)] [96, 109] σ α σ' α' ∧ σ' 86 41 = 0 ∧ ∃ v : Int, r = some (.int (qz v)) ∧ (0 ≤ v ∧ v ≤ 1)) (70, ls, [.int (qz u668)], qw σ669 α670 κ ρ, 0, 0) := by
            intro ls u668 σ669 α670 g662 g663 g664 g665 g666 g667 hf675 hI671 hF672 hk673 hk674
            refine qr_istore _ 72 rfl (by decide) rfl rfl ?_
            refine qr_iinc _ 75 rfl (qm_gk g667 (by decide) (Or.inl (by decide))) (by decide) rfl rfl ?_
            refine qr_goto 24 rfl rfl ?_
            exact ih635 _ u668 (u624 + 1) σ669 α670 (by omega) (qm_gk (qm_gk g662 (by decide) (Or.inl (by decide))) (by decide) (Or.inl (by decide))) (qm_gk (qm_gk g663 (by decide) (Or.inl (by decide))) (by decide) (Or.inl (by decide))) (qm_gk (qm_gk g664 (by decide) (Or.inl (by decide))) (by decide) (Or.inl (by decide))) (qm_gk (qm_gk g665 (by decide) (Or.inl (by decide))) (by decide) (Or.inl (by decide))) (qm_gk (qm_gk g666 (by decide) (Or.inl (by decide))) (by decide) (Or.inl (by decide))) (qm_gk (qm_ge _ _ _) (by decide) (Or.inr rfl)) (qm_ge _ _ _) hf675 (by omega) hI671 hF672 ((hk673).trans rfl) ((hk674).trans rfl) (by omega)
          refine qr_if_ne 65 52 rfl rfl rfl hv648 (fun h677 => ?_) (fun h677 => ?_)
          · skip
            refine qr_iconst 66 rfl rfl ?_
            refine qr_goto 70 rfl rfl ?_
            exact hJ676 _ 1 σ649 α650 g616 g617 g618 g619 g620 g623 (by decide) hI651 hF653 ((hG652.1 86 6 (by decide)).trans ((hk629).trans rfl)) ((hG652.1 86 41 (by decide)).trans ((hk630).trans rfl))
          · skip
            refine qr_aload_n 53 rfl g616 rfl ?_
            refine qr_iload_n 54 rfl g618 rfl ?_
            refine qr_iload_n 55 rfl g617 rfl ?_
            refine qr_lload 57 rfl g620 rfl ?_
            refine qr_iload 59 rfl g623 rfl ?_
            have hs678 : 0 ≤ σ649 86 6 ∧ σ649 86 6 ≤ 32 := hI651.1 86 6
            have hs679 : σ649 86 6 = (σ 86 6) := (hG652.1 86 6 (by decide)).trans ((hk629).trans rfl)
            refine qr_callN 62 rfl rfl rfl (sf_227_86 (d := d + 0) hI651 r2 r1 hv3 (qrg hf632 (by decide) (by decide)) (by omega)) ?_
            rintro _ _ ⟨σ681, α682, rfl, hI683, hG684, v680, rfl, hv680⟩
            have hF685 : qFr [(86, 15), (86, 23), (86, 30), (86, 35), (86, 36), (86, 37), (86, 38), (86, 39), (86, 41)] [96, 109] σ α σ681 α682 := qFr_t hF653 hG684 (by decide) (by decide)
            show qr_W (qe L xs vb) (d + 47) qx_e232 _ (62, _, [.int (qz v680)], qw σ681 α682 κ ρ, 0, 0)
            refine qr_if_eq 69 65 rfl rfl rfl hv680 (fun h686 => ?_) (fun h686 => ?_)
            · skip
              refine qr_iconst 70 rfl rfl ?_
              exact hJ676 _ 0 σ681 α682 g616 g617 g618 g619 g620 g623 (by decide) hI683 hF685 ((hG684.1 86 6 (by decide)).trans ((hG652.1 86 6 (by decide)).trans ((hk629).trans rfl))) ((hG684.1 86 41 (by decide)).trans ((hG652.1 86 41 (by decide)).trans ((hk630).trans rfl)))
            · skip
              refine qr_iconst 66 rfl rfl ?_
              refine qr_goto 70 rfl rfl ?_
              exact hJ676 _ 1 σ681 α682 g616 g617 g618 g619 g620 g623 (by decide) hI683 hF685 ((hG684.1 86 6 (by decide)).trans ((hG652.1 86 6 (by decide)).trans ((hk629).trans rfl))) ((hG684.1 86 41 (by decide)).trans ((hG652.1 86 41 (by decide)).trans ((hk630).trans rfl)))
  exact hL634 ((10000 - (x3 / 10000) + 1 : Int)).toNat _ 0 (x3 / 10000) σ4 α (by omega) rfl rfl rfl rfl rfl rfl rfl (by decide) (by omega) hI6 hF7 ((congrFun (congrFun e5 86) 6).trans rfl) ((congrFun (congrFun e5 86) 41).trans rfl) (by omega)

set_option maxHeartbeats 4000000 in
set_option maxRecDepth 20000 in
/-- OneRoofModel.bars -/
theorem sf_231_86s {L : Nat} {xs : Nat → Int} {vb : Bool} {d : Nat} {σ α : Nat → Nat → Int} {κ : Nat → Option Nat} {ρ : Nat} {x1 : Int} {x2 : Int} (hI : qI σ α κ ρ) (r1 : (-2147483648) ≤ x1 ∧ x1 ≤ 2147483647) (r2 : (-2147483648) ≤ x2 ∧ x2 ≤ 2147483647) (p0 : σ 86 41 = 0) : qm_T (qe L xs vb) (d + 49) 231 [.ref 86, .int (qz x1), .int (qz x2)] (qw σ α κ ρ) (fun r w' => ∃ σ' α', w' = qw σ' α' κ ρ ∧ qI σ' α' κ ρ ∧ qFr [(86, 15), (86, 23), (86, 30), (86, 35), (86, 36), (86, 37), (86, 38), (86, 39), (86, 41)] [96, 109] σ α σ' α' ∧ σ' 86 41 = 0 ∧ ∃ v : Int, r = some (.int (qz v)) ∧ ((-2147483648) ≤ v ∧ v ≤ 2147483647)) := by
  refine qr_start (d := d + 48) qv_e231 (Nat.le_of_ble_eq_true rfl) ?_
  show qr_W (qe L xs vb) (d + 48) qx_e231 _ (0, [(0, .ref 86), (1, .int (qz x1)), (2, .int (qz x2))], [], _, 0, 0)
  have hF0 := qFr_rf [(86, 15), (86, 23), (86, 30), (86, 35), (86, 36), (86, 37), (86, 38), (86, 39), (86, 41)] [96, 109] σ α
  have hz86_41 : 0 ≤ σ 86 41 ∧ σ 86 41 ≤ 1 := hI.1 86 41
  have hz86_6 : 0 ≤ σ 86 6 ∧ σ 86 6 ≤ 32 := hI.1 86 6
  refine qr_aload_n 1 rfl rfl rfl ?_
  refine qr_iload_n 2 rfl rfl rfl ?_
  refine qr_callN 5 rfl rfl rfl (sf_191_86 (d := d + 45) hI r1) ?_
  have hs3 : 0 ≤ σ 86 6 ∧ σ 86 6 ≤ 32 := hI.1 86 6
  rintro _ _ ⟨rfl, v1, rfl, hv1, hp2⟩
  show qr_W (qe L xs vb) (d + 48) qx_e231 _ (5, _, [.int (qz v1)], qw σ α κ ρ, 0, 0)
  refine qr_if_eq 15 8 rfl rfl rfl (qrg hv1 (by decide) (by decide)) (fun h4 => ?_) (fun h4 => ?_)
  · skip
    refine qr_iconst 16 rfl rfl ?_
    refine qr_retI rfl rfl (by decide) (by decide) ?_
    exact ⟨_, _, rfl, hI, hF0, (by have hw : σ 86 41 = (σ 86 41) := rfl; omega), (-1), rfl, (by decide)⟩
  · skip
    refine qr_iload_n 9 rfl rfl rfl ?_
    refine qr_callN 12 rfl rfl rfl (sf_230 (d := d + 45) hI r2) ?_
    rintro _ _ ⟨rfl, v5, rfl, hv5, hp6⟩
    show qr_W (qe L xs vb) (d + 48) qx_e231 _ (12, _, [.int (qz v5)], qw σ α κ ρ, 0, 0)
    refine qr_if_ne 17 15 rfl rfl rfl (qrg hv5 (by decide) (by decide)) (fun h7 => ?_) (fun h7 => ?_)
    · skip
      refine qr_aload_n 18 rfl rfl rfl ?_
      refine qr_iload_n 19 rfl rfl rfl ?_
      refine qr_bipush 21 rfl (by decide) rfl ?_
      refine qr_idiv 22 rfl (by omega) (by decide) rfl ?_
      refine qr_iload_n 23 rfl rfl rfl ?_
      refine qr_bipush 25 rfl (by decide) rfl ?_
      refine qr_irem 26 rfl (by omega) (by decide) rfl ?_
      refine qr_iload_n 27 rfl rfl rfl ?_
      have hs8 : 0 ≤ σ 86 6 ∧ σ 86 6 ≤ 32 := hI.1 86 6
      refine qr_callN 30 rfl rfl rfl (sf_232_86s (d := d + 0) hI (by omega) (by omega) (by omega) (by omega)) ?_
      rintro _ _ ⟨σ11, α12, rfl, hI13, hG14, hw10, v9, rfl, hv9⟩
      have hF15 : qFr [(86, 15), (86, 23), (86, 30), (86, 35), (86, 36), (86, 37), (86, 38), (86, 39), (86, 41)] [96, 109] σ α σ11 α12 := qFr_t hF0 hG14 (by decide) (by decide)
      have hs16 : 0 ≤ σ11 86 41 ∧ σ11 86 41 ≤ 1 := hI13.1 86 41
      show qr_W (qe L xs vb) (d + 48) qx_e231 _ (30, _, [.int (qz v9)], qw σ11 α12 κ ρ, 0, 0)
      refine qr_if_eq 37 33 rfl rfl rfl (qrg hv9 (by decide) (by decide)) (fun h17 => ?_) (fun h17 => ?_)
      · skip
        refine qr_iconst 38 rfl rfl ?_
        refine qr_retI rfl rfl (by decide) (by decide) ?_
        exact ⟨_, _, rfl, hI13, hF15, (by have hw : σ11 86 41 = (σ11 86 41) := rfl; omega), 0, rfl, (by decide)⟩
      · skip
        refine qr_iconst 34 rfl rfl ?_
        refine qr_goto 38 rfl rfl ?_
        refine qr_retI rfl rfl (by decide) (by decide) ?_
        exact ⟨_, _, rfl, hI13, hF15, (by have hw : σ11 86 41 = (σ11 86 41) := rfl; omega), 1, rfl, (by decide)⟩
    · skip
      refine qr_iconst 16 rfl rfl ?_
      refine qr_retI rfl rfl (by decide) (by decide) ?_
      exact ⟨_, _, rfl, hI, hF0, (by have hw : σ 86 41 = (σ 86 41) := rfl; omega), (-1), rfl, (by decide)⟩

set_option maxHeartbeats 4000000 in
set_option maxRecDepth 20000 in
/-- OneRoofModel.findSets -/
theorem sf_235_86s {L : Nat} {xs : Nat → Int} {vb : Bool} {d : Nat} {σ α : Nat → Nat → Int} {κ : Nat → Option Nat} {ρ : Nat} {x1 : Int} (hI : qI σ α κ ρ) (r1 : 0 ≤ x1 ∧ x1 ≤ 23999999) (p0 : 1 ≤ σ 86 6) (p1 : σ 86 43 ≤ 12) (p2 : σ 86 41 = 0) : qm_T (qe L xs vb) (d + 49) 235 [.ref 86, .int (qz x1)] (qw σ α κ ρ) (fun r w' => ∃ σ' α', w' = qw σ' α' κ ρ ∧ qI σ' α' κ ρ ∧ qFr [(86, 15), (86, 23), (86, 30), (86, 35), (86, 36), (86, 37), (86, 38), (86, 39), (86, 41)] [96, 109, 111, 112] σ α σ' α' ∧ σ' 86 41 = 0 ∧ r = none) := by
  refine qr_start (d := d + 48) qv_e235 (Nat.le_of_ble_eq_true rfl) ?_
  show qr_W (qe L xs vb) (d + 48) qx_e235 _ (0, [(0, .ref 86), (1, .int (qz x1))], [], _, 0, 0)
  have hF0 := qFr_rf [(86, 15), (86, 23), (86, 30), (86, 35), (86, 36), (86, 37), (86, 38), (86, 39), (86, 41)] [96, 109, 111, 112] σ α
  have hz86_6 : 0 ≤ σ 86 6 ∧ σ 86 6 ≤ 32 := hI.1 86 6
  have hz86_43 : 0 ≤ σ 86 43 ∧ σ 86 43 ≤ 32 := hI.1 86 43
  have hz86_41 : 0 ≤ σ 86 41 ∧ σ 86 41 ≤ 1 := hI.1 86 41
  refine qr_iconst 1 rfl rfl ?_
  refine qr_istore_n _ 2 rfl (by decide) rfl rfl ?_
  have hL2477278 : ∀ (n : Nat) (ls : qm_L) (u2477272 : Int) (α2477274 : Nat → Nat → Int), 12 - u2477272 < (n : Int) → qm_get ls 0 = some (.ref 86) → qm_get ls 1 = some (.int (qz x1)) → qm_get ls 2 = some (.int (qz u2477272)) → (0 ≤ u2477272 ∧ u2477272 ≤ 12) → qI σ α2477274 κ ρ → qFr [(86, 15), (86, 23), (86, 30), (86, 35), (86, 36), (86, 37), (86, 38), (86, 39), (86, 41)] [96, 109, 111, 112] σ α σ α2477274 → qr_W (qe L xs vb) (d + 48) qx_e235 (fun r w' => ∃ σ' α', w' = qw σ' α' κ ρ ∧ qI σ' α' κ ρ ∧ qFr [(86, 15), (86, 23), (86, 30), (86, 35), (86, 36), (86, 37), (86, 38), (86, 39), (86, 41)] [96, 109, 111, 112] σ α σ' α' ∧ σ' 86 41 = 0 ∧ r = none) (2, ls, [], qw σ α2477274 κ ρ, 0, 0) := by
    intro n
    induction n with
    | zero => intro ls u2477272 α2477274 hm g2477269 g2477270 g2477271 hf2477277 hI2477275 hF2477276; exact False.elim (by omega)
    | succ n ih2477279 =>
      intro ls u2477272 α2477274 hm g2477269 g2477270 g2477271 hf2477277 hI2477275 hF2477276
      refine qr_iload_n 3 rfl g2477271 rfl ?_
      refine qr_aload_n 4 rfl g2477269 rfl ?_
      refine qr_get 7 rfl rfl rfl (by decide) rfl ?_
      refine qr_icmp_ge 23 10 rfl rfl rfl (qrg hf2477277 (by decide) (by decide)) (qrg hz86_43 (by decide) (by decide)) (fun h2477284 => ?_) (fun h2477284 => ?_)
      · skip
        refine qr_iconst 24 rfl rfl ?_
        refine qr_istore_n _ 25 rfl (by decide) rfl rfl ?_
        have hL2830617 : ∀ (n : Nat) (ls : qm_L) (u2830608 : Int) (σ2830609 α2830610 : Nat → Nat → Int), 12 - u2830608 < (n : Int) → qm_get ls 0 = some (.ref 86) → qm_get ls 1 = some (.int (qz x1)) → qm_get ls 2 = some (.int (qz u2830608)) → (0 ≤ u2830608 ∧ u2830608 ≤ 12) → qI σ2830609 α2830610 κ ρ → qFr [(86, 15), (86, 23), (86, 30), (86, 35), (86, 36), (86, 37), (86, 38), (86, 39), (86, 41)] [96, 109, 111, 112] σ α σ2830609 α2830610 → σ2830609 86 6 = (σ 86 6) → σ2830609 86 43 = (σ 86 43) → σ2830609 86 41 = 0 → qr_W (qe L xs vb) (d + 48) qx_e235 (fun r w' => ∃ σ' α', w' = qw σ' α' κ ρ ∧ qI σ' α' κ ρ ∧ qFr [(86, 15), (86, 23), (86, 30), (86, 35), (86, 36), (86, 37), (86, 38), (86, 39), (86, 41)] [96, 109, 111, 112] σ α σ' α' ∧ σ' 86 41 = 0 ∧ r = none) (25, ls, [], qw σ2830609 α2830610 κ ρ, 0, 0) := by
          intro n
          induction n with
          | zero => intro ls u2830608 σ2830609 α2830610 hm g2830605 g2830606 g2830607 hf2830615 hI2830611 hF2830612 hk2830613 hk2830614 hx2830616; exact False.elim (by omega)
          | succ n ih2830618 =>
            intro ls u2830608 σ2830609 α2830610 hm g2830605 g2830606 g2830607 hf2830615 hI2830611 hF2830612 hk2830613 hk2830614 hx2830616
            have hs2830619 : 0 ≤ σ2830609 86 41 ∧ σ2830609 86 41 ≤ 1 := hI2830611.1 86 41
            refine qr_iload_n 26 rfl g2830607 rfl ?_
            refine qr_aload_n 27 rfl g2830605 rfl ?_
            refine qr_get 30 rfl rfl rfl (by decide) rfl ?_
            refine qy_v (σ 86 43) ((hk2830614).trans rfl) ?_
            refine qr_icmp_ge 96 33 rfl rfl rfl (qrg hf2830615 (by decide) (by decide)) (qrg hz86_43 (by decide) (by decide)) (fun h2831874 => ?_) (fun h2831874 => ?_)
            · skip
              refine qr_iconst 97 rfl rfl ?_
              refine qr_istore_n _ 98 rfl (by decide) rfl rfl ?_
              have hL2883021 : ∀ (n : Nat) (ls : qm_L) (u2883015 : Int) (α2883017 : Nat → Nat → Int), 4096 - u2883015 < (n : Int) → qm_get ls 0 = some (.ref 86) → qm_get ls 2 = some (.int (qz u2883015)) → (0 ≤ u2883015 ∧ u2883015 ≤ 4096) → qI σ2830609 α2883017 κ ρ → qFr [(86, 15), (86, 23), (86, 30), (86, 35), (86, 36), (86, 37), (86, 38), (86, 39), (86, 41)] [96, 109, 111, 112] σ α σ2830609 α2883017 → qr_W (qe L xs vb) (d + 48) qx_e235 (fun r w' => ∃ σ' α', w' = qw σ' α' κ ρ ∧ qI σ' α' κ ρ ∧ qFr [(86, 15), (86, 23), (86, 30), (86, 35), (86, 36), (86, 37), (86, 38), (86, 39), (86, 41)] [96, 109, 111, 112] σ α σ' α' ∧ σ' 86 41 = 0 ∧ r = none) (98, ls, [], qw σ2830609 α2883017 κ ρ, 0, 0) := by
                intro n
                induction n with
                | zero => intro ls u2883015 α2883017 hm g2883013 g2883014 hf2883020 hI2883018 hF2883019; exact False.elim (by omega)
                | succ n ih2883022 =>
                  intro ls u2883015 α2883017 hm g2883013 g2883014 hf2883020 hI2883018 hF2883019
                  refine qr_iload_n 99 rfl g2883014 rfl ?_
                  refine qr_iconst 100 rfl rfl ?_
                  refine qr_aload_n 101 rfl g2883013 rfl ?_
                  refine qr_get 104 rfl rfl rfl (by decide) rfl ?_
                  refine qy_v (σ 86 43) ((hk2830614).trans rfl) ?_
                  refine qr_ishl 105 rfl rfl ?_
                  refine qy_shl1 (N := 12) (by omega) (fun v2883023 hv2883023 => ?_)
                  refine qr_icmp_ge 186 108 rfl rfl rfl (qrg hf2883020 (by decide) (by decide)) (by omega) (fun h2883024 => ?_) (fun h2883024 => ?_)
                  · skip
                    refine qr_retV rfl rfl (by decide) (by decide) ?_
                    exact ⟨_, _, rfl, hI2883018, hF2883019, (by have hw : σ2830609 86 41 = (σ2830609 86 41) := rfl; omega), rfl⟩
                  · skip
                    refine qr_iconst 109 rfl rfl ?_
                    refine qr_istore_n _ 110 rfl (by decide) rfl rfl ?_
                    refine qr_iconst 111 rfl rfl ?_
                    refine qr_istore _ 113 rfl (by decide) rfl rfl ?_
                    have hL2884055 : ∀ (n : Nat) (ls : qm_L) (u2884050 u2884052 : Int), 12 - u2884052 < (n : Int) → qm_get ls 0 = some (.ref 86) → qm_get ls 2 = some (.int (qz u2883015)) → qm_get ls 3 = some (.int (qz u2884050)) → qm_get ls 4 = some (.int (qz u2884052)) → ((-2147483648) ≤ u2884050 ∧ u2884050 ≤ 2147483647) → (0 ≤ u2884052 ∧ u2884052 ≤ 12) → qr_W (qe L xs vb) (d + 48) qx_e235 (fun r w' => ∃ σ' α', w' = qw σ' α' κ ρ ∧ qI σ' α' κ ρ ∧ qFr [(86, 15), (86, 23), (86, 30), (86, 35), (86, 36), (86, 37), (86, 38), (86, 39), (86, 41)] [96, 109, 111, 112] σ α σ' α' ∧ σ' 86 41 = 0 ∧ r = none) (113, ls, [], qw σ2830609 α2883017 κ ρ, 0, 0) := by
                      intro n
                      induction n with
                      | zero => intro ls u2884050 u2884052 hm g2884047 g2884048 g2884049 g2884051 hf2884053 hf2884054; exact False.elim (by omega)
                      | succ n ih2884056 =>
                        intro ls u2884050 u2884052 hm g2884047 g2884048 g2884049 g2884051 hf2884053 hf2884054
                        refine qr_iload 115 rfl g2884051 rfl ?_
                        refine qr_aload_n 116 rfl g2884047 rfl ?_
                        refine qr_get 119 rfl rfl rfl (by decide) rfl ?_
                        refine qy_v (σ 86 43) ((hk2830614).trans rfl) ?_
                        have hJ2884103 : ∀ (ls : qm_L) (u2884101 : Int), qm_get ls 0 = some (.ref 86) → qm_get ls 2 = some (.int (qz u2883015)) → qm_get ls 3 = some (.int (qz u2884101)) → ((-2147483648) ≤ u2884101 ∧ u2884101 ≤ 2147483647) → qr_W (qe L xs vb) (d + 48) qx_e235 (fun r w' => ∃ σ' α', w' = qw σ' α' κ ρ ∧ qI σ' α' κ ρ ∧ qFr [(86, 15), (86, 23), (86, 30), (86, 35), (86, 36), (86, 37), (86, 38), (86, 39), (86, 41)] [96, 109, 111, 112] σ α σ' α' ∧ σ' 86 41 = 0 ∧ r = none) (173, ls, [], qw σ2830609 α2883017 κ ρ, 0, 0) := by
                          intro ls u2884101 g2884098 g2884099 g2884100 hf2884102
                          refine qr_aload_n 174 rfl g2884098 rfl ?_
                          refine qr_get 177 rfl rfl rfl (by decide) rfl ?_
                          refine qr_iload_n 178 rfl g2884099 rfl ?_
                          refine qr_iload_n 179 rfl g2884100 rfl ?_
                          refine qr_iastore 180 rfl (by decide) rfl (by omega) (by decide) rfl ?_
                          refine qy_wA (qw_r α2883017 112 (qzu (α2883017 112) (u2883015 : Int).toNat u2884101)) rfl (fun α2884104 e2884105 => ?_)
                          have hI2884106 : qI σ2830609 α2884104 κ ρ := by rw [e2884105]; exact qI_r hI2883018 112 _ rfl (show (-2147483648) ≤ u2884101 ∧ u2884101 ≤ 2147483647 by omega)
                          have hF2884107 : qFr [(86, 15), (86, 23), (86, 30), (86, 35), (86, 36), (86, 37), (86, 38), (86, 39), (86, 41)] [96, 109, 111, 112] σ α σ2830609 α2884104 := by rw [e2884105]; exact qFr_r hF2883019 112 _ (by decide)
                          refine qr_iinc _ 183 rfl g2884099 (by decide) rfl rfl ?_
                          refine qr_goto 98 rfl rfl ?_
                          exact ih2883022 _ (u2883015 + 1) α2884104 (by omega) (qm_gk g2884098 (by decide) (Or.inl (by decide))) (qm_ge _ _ _) (by omega) hI2884106 hF2884107
                        refine qr_icmp_ge 173 122 rfl rfl rfl (qrg hf2884054 (by decide) (by decide)) (qrg hz86_43 (by decide) (by decide)) (fun h2884108 => ?_) (fun h2884108 => ?_)
                        · skip
                          exact hJ2884103 _ u2884050 g2884047 g2884048 g2884049 hf2884053
                        · skip
                          refine qr_iload_n 123 rfl g2884049 rfl ?_
                          refine qr_if_lt 173 126 rfl rfl rfl hf2884053 (fun h2884109 => ?_) (fun h2884109 => ?_)
                          · skip
                            exact hJ2884103 _ u2884050 g2884047 g2884048 g2884049 hf2884053
                          · skip
                            refine qr_iload_n 127 rfl g2884048 rfl ?_
                            refine qr_iload 129 rfl g2884051 rfl ?_
                            refine qr_ishr 130 rfl rfl ?_
                            refine qy_can (fun v2884110 hv2884110 => ?_)
                            refine qr_iconst 131 rfl rfl ?_
                            refine qr_iand 132 rfl rfl ?_
                            refine qy_andr (by omega) (fun v2884111 hv2884111 => ?_)
                            refine qr_iconst 133 rfl rfl ?_
                            have hJ2884135 : ∀ (ls : qm_L) (u2884132 : Int), qm_get ls 0 = some (.ref 86) → qm_get ls 2 = some (.int (qz u2883015)) → qm_get ls 3 = some (.int (qz u2884132)) → qm_get ls 4 = some (.int (qz u2884052)) → ((-2147483648) ≤ u2884132 ∧ u2884132 ≤ 2147483647) → qr_W (qe L xs vb) (d + 48) qx_e235 (fun r w' => ∃ σ' α', w' = qw σ' α' κ ρ ∧ qI σ' α' κ ρ ∧ qFr [(86, 15), (86, 23), (86, 30), (86, 35), (86, 36), (86, 37), (86, 38), (86, 39), (86, 41)] [96, 109, 111, 112] σ α σ' α' ∧ σ' 86 41 = 0 ∧ r = none) (167, ls, [], qw σ2830609 α2883017 κ ρ, 0, 0) := by
                              intro ls u2884132 g2884129 g2884130 g2884131 g2884133 hf2884134
                              refine qr_iinc _ 170 rfl g2884133 (by decide) rfl rfl ?_
                              refine qr_goto 113 rfl rfl ?_
                              exact ih2884056 _ u2884132 (u2884052 + 1) (by omega) (qm_gk g2884129 (by decide) (Or.inl (by decide))) (qm_gk g2884130 (by decide) (Or.inl (by decide))) (qm_gk g2884131 (by decide) (Or.inr rfl)) (qm_ge _ _ _) hf2884134 (by omega)
                            refine qr_icmp_ne 167 136 rfl rfl rfl (by omega) (by decide) (fun h2884136 => ?_) (fun h2884136 => ?_)
                            · skip
                              exact hJ2884135 _ u2884050 g2884047 g2884048 g2884049 g2884051 hf2884053
                            · skip
                              refine qr_aload_n 137 rfl g2884047 rfl ?_
                              refine qr_get 140 rfl rfl rfl (by decide) rfl ?_
                              refine qr_iload 142 rfl g2884051 rfl ?_
                              refine qr_iaload 143 rfl rfl (by omega) (by decide) rfl ?_
                              refine qr_topI (fun v2884137 hv2884137 => ?_)
                              have hs2884138 : (-2147483648) ≤ v2884137 ∧ v2884137 ≤ 2147483647 := by rw [hv2884137]; exact hI2883018.2.1 111 _ (show _ < 12 by omega)
                              refine qr_iload_n 144 rfl g2884048 rfl ?_
                              refine qr_iand 145 rfl rfl ?_
                              refine qy_andr (by omega) (fun v2884139 hv2884139 => ?_)
                              have hJ2884150 : ∀ (ls : qm_L) (u2884148 : Int), qm_get ls 0 = some (.ref 86) → qm_get ls 2 = some (.int (qz u2883015)) → qm_get ls 4 = some (.int (qz u2884052)) → ((-2147483648) ≤ u2884148 ∧ u2884148 ≤ 2147483647) → qr_W (qe L xs vb) (d + 48) qx_e235 (fun r w' => ∃ σ' α', w' = qw σ' α' κ ρ ∧ qI σ' α' κ ρ ∧ qFr [(86, 15), (86, 23), (86, 30), (86, 35), (86, 36), (86, 37), (86, 38), (86, 39), (86, 41)] [96, 109, 111, 112] σ α σ' α' ∧ σ' 86 41 = 0 ∧ r = none) (166, ls, [.int (qz u2884148)], qw σ2830609 α2883017 κ ρ, 0, 0) := by
                                intro ls u2884148 g2884145 g2884146 g2884147 hf2884149
                                refine qr_istore_n _ 167 rfl (by decide) rfl rfl ?_
                                exact hJ2884135 _ u2884148 (qm_gk g2884145 (by decide) (Or.inl (by decide))) (qm_gk g2884146 (by decide) (Or.inr rfl)) (qm_ge _ _ _) (qm_gk g2884147 (by decide) (Or.inl (by decide))) hf2884149
                              refine qr_if_eq 152 148 rfl rfl rfl (by omega) (fun h2884151 => ?_) (fun h2884151 => ?_)
                              · skip
                                refine qr_iload_n 153 rfl g2884049 rfl ?_
                                refine qr_aload_n 154 rfl g2884047 rfl ?_
                                refine qr_get 157 rfl rfl rfl (by decide) rfl ?_
                                refine qr_aload_n 158 rfl g2884047 rfl ?_
                                refine qr_get 161 rfl rfl rfl (by decide) rfl ?_
                                refine qr_iload 163 rfl g2884051 rfl ?_
                                refine qr_iaload 164 rfl rfl (qrgi hf2884054 (by decide) (by decide)) (by decide) rfl ?_
                                refine qr_topI (fun v2884152 hv2884152 => ?_)
                                have hs2884153 : 0 ≤ v2884152 ∧ v2884152 ≤ 31 := by rw [hv2884152]; exact hI2883018.2.1 110 _ (show _ < 32 from qrgt hf2884054 (by decide) (by decide))
                                refine qr_iaload 165 rfl rfl (qrgi hs2884153 (by decide) (by decide)) (by decide) rfl ?_
                                refine qr_topI (fun v2884154 hv2884154 => ?_)
                                have hs2884155 : (-2147483648) ≤ v2884154 ∧ v2884154 ≤ 2147483647 := by rw [hv2884154]; exact hI2883018.2.1 92 _ (show _ < 32 from qrgt hs2884153 (by decide) (by decide))
                                refine qr_iadd 166 rfl rfl ?_
                                refine qy_can (fun v2884156 hv2884156 => ?_)
                                exact hJ2884150 _ v2884156 g2884047 g2884048 g2884051 hv2884156
                              · skip
                                refine qr_iconst 149 rfl rfl ?_
                                refine qr_goto 166 rfl rfl ?_
                                exact hJ2884150 _ (-1) g2884047 g2884048 g2884051 (by decide)
                    exact hL2884055 ((12 - 0 + 1 : Int)).toNat _ 0 0 (by omega) (qm_gk (qm_gk g2883013 (by decide) (Or.inl (by decide))) (by decide) (Or.inl (by decide))) (qm_gk (qm_gk g2883014 (by decide) (Or.inr rfl)) (by decide) (Or.inl (by decide))) (qm_gk (qm_ge _ _ _) (by decide) (Or.inr rfl)) (qm_ge _ _ _) (by decide) (by decide)
              exact hL2883021 ((4096 - 0 + 1 : Int)).toNat _ 0 α2830610 (by omega) (qm_gk g2830605 (by decide) (Or.inl (by decide))) (qm_ge _ _ _) (by decide) hI2830611 hF2830612
            · skip
              refine qr_iconst 34 rfl rfl ?_
              refine qr_istore_n _ 35 rfl (by decide) rfl rfl ?_
              have hL2885310 : ∀ (n : Nat) (ls : qm_L) (u2885301 : Int) (σ2885302 α2885303 : Nat → Nat → Int), 11 - u2885301 < (n : Int) → qm_get ls 0 = some (.ref 86) → qm_get ls 1 = some (.int (qz x1)) → qm_get ls 2 = some (.int (qz u2830608)) → qm_get ls 3 = some (.int (qz u2885301)) → (0 ≤ u2885301 ∧ u2885301 ≤ 11) → qI σ2885302 α2885303 κ ρ → qFr [(86, 15), (86, 23), (86, 30), (86, 35), (86, 36), (86, 37), (86, 38), (86, 39), (86, 41)] [96, 109, 111, 112] σ α σ2885302 α2885303 → σ2885302 86 6 = (σ 86 6) → σ2885302 86 43 = (σ 86 43) → σ2885302 86 41 = 0 → qr_W (qe L xs vb) (d + 48) qx_e235 (fun r w' => ∃ σ' α', w' = qw σ' α' κ ρ ∧ qI σ' α' κ ρ ∧ qFr [(86, 15), (86, 23), (86, 30), (86, 35), (86, 36), (86, 37), (86, 38), (86, 39), (86, 41)] [96, 109, 111, 112] σ α σ' α' ∧ σ' 86 41 = 0 ∧ r = none) (35, ls, [], qw σ2885302 α2885303 κ ρ, 0, 0) := by
                intro n
                induction n with
                | zero => intro ls u2885301 σ2885302 α2885303 hm g2885297 g2885298 g2885299 g2885300 hf2885308 hI2885304 hF2885305 hk2885306 hk2885307 hx2885309; exact False.elim (by omega)
                | succ n ih2885311 =>
                  intro ls u2885301 σ2885302 α2885303 hm g2885297 g2885298 g2885299 g2885300 hf2885308 hI2885304 hF2885305 hk2885306 hk2885307 hx2885309
                  have hs2885312 : 0 ≤ σ2885302 86 41 ∧ σ2885302 86 41 ≤ 1 := hI2885304.1 86 41
                  refine qr_iload_n 36 rfl g2885300 rfl ?_
                  refine qr_iload_n 37 rfl g2885299 rfl ?_
                  refine qr_icmp_ge 90 40 rfl rfl rfl (qrg hf2885308 (by decide) (by decide)) (qrg hf2830615 (by decide) (by decide)) (fun h2885367 => ?_) (fun h2885367 => ?_)
                  · skip
                    refine qr_iinc _ 93 rfl g2885299 (by decide) rfl rfl ?_
                    refine qr_goto 25 rfl rfl ?_
                    exact ih2830618 _ (u2830608 + 1) σ2885302 α2885303 (by omega) (qm_gk g2885297 (by decide) (Or.inl (by decide))) (qm_gk g2885298 (by decide) (Or.inr rfl)) (qm_ge _ _ _) (by omega) hI2885304 hF2885305 ((hk2885306).trans rfl) ((hk2885307).trans rfl) (by have hw : σ2885302 86 41 = (σ2885302 86 41) := rfl; omega)
                  · skip
                    refine qr_aload_n 41 rfl g2885297 rfl ?_
                    refine qr_aload_n 42 rfl g2885297 rfl ?_
                    refine qr_get 45 rfl rfl rfl (by decide) rfl ?_
                    refine qr_iload_n 46 rfl g2885300 rfl ?_
                    refine qr_iaload 47 rfl rfl (qrgi hf2885308 (by decide) (by decide)) (by decide) rfl ?_
                    refine qr_topI (fun v2885368 hv2885368 => ?_)
                    have hs2885369 : 0 ≤ v2885368 ∧ v2885368 ≤ 31 := by rw [hv2885368]; exact hI2885304.2.1 110 _ (show _ < 32 from qrgt hf2885308 (by decide) (by decide))
                    refine qr_aload_n 48 rfl g2885297 rfl ?_
                    refine qr_get 51 rfl rfl rfl (by decide) rfl ?_
                    refine qr_iload_n 52 rfl g2885299 rfl ?_
                    refine qr_iaload 53 rfl rfl (qrgi hf2830615 (by decide) (by decide)) (by decide) rfl ?_
                    refine qr_topI (fun v2885370 hv2885370 => ?_)
                    have hs2885371 : 0 ≤ v2885370 ∧ v2885370 ≤ 31 := by rw [hv2885370]; exact hI2885304.2.1 110 _ (show _ < 32 from qrgt hf2830615 (by decide) (by decide))
                    refine qr_iload_n 54 rfl g2885298 rfl ?_
                    have hs2885372 : 0 ≤ σ2885302 86 6 ∧ σ2885302 86 6 ≤ 32 := hI2885304.1 86 6
                    have hs2885373 : σ2885302 86 6 = (σ 86 6) := (hk2885306).trans rfl
                    refine qr_callN 57 rfl rfl rfl (sf_232_86s (d := d + 0) hI2885304 hs2885369 hs2885371 r1 (by omega)) ?_
                    rintro _ _ ⟨σ2885376, α2885377, rfl, hI2885378, hG2885379, hw2885375, v2885374, rfl, hv2885374⟩
                    have hF2885380 : qFr [(86, 15), (86, 23), (86, 30), (86, 35), (86, 36), (86, 37), (86, 38), (86, 39), (86, 41)] [96, 109, 111, 112] σ α σ2885376 α2885377 := qFr_t hF2885305 hG2885379 (by decide) (by decide)
                    have hs2885381 : 0 ≤ σ2885376 86 41 ∧ σ2885376 86 41 ≤ 1 := hI2885378.1 86 41
                    show qr_W (qe L xs vb) (d + 48) qx_e235 _ (57, _, [.int (qz v2885374)], qw σ2885376 α2885377 κ ρ, 0, 0)
                    have hJ2885406 : ∀ (ls : qm_L) (α2885403 : Nat → Nat → Int), qm_get ls 0 = some (.ref 86) → qm_get ls 1 = some (.int (qz x1)) → qm_get ls 2 = some (.int (qz u2830608)) → qm_get ls 3 = some (.int (qz u2885301)) → qI σ2885376 α2885403 κ ρ → qFr [(86, 15), (86, 23), (86, 30), (86, 35), (86, 36), (86, 37), (86, 38), (86, 39), (86, 41)] [96, 109, 111, 112] σ α σ2885376 α2885403 → qr_W (qe L xs vb) (d + 48) qx_e235 (fun r w' => ∃ σ' α', w' = qw σ' α' κ ρ ∧ qI σ' α' κ ρ ∧ qFr [(86, 15), (86, 23), (86, 30), (86, 35), (86, 36), (86, 37), (86, 38), (86, 39), (86, 41)] [96, 109, 111, 112] σ α σ' α' ∧ σ' 86 41 = 0 ∧ r = none) (84, ls, [], qw σ2885376 α2885403 κ ρ, 0, 0) := by
                      intro ls α2885403 g2885398 g2885399 g2885400 g2885401 hI2885404 hF2885405
                      refine qr_iinc _ 87 rfl g2885401 (by decide) rfl rfl ?_
                      refine qr_goto 35 rfl rfl ?_
                      exact ih2885311 _ (u2885301 + 1) σ2885376 α2885403 (by omega) (qm_gk g2885398 (by decide) (Or.inl (by decide))) (qm_gk g2885399 (by decide) (Or.inl (by decide))) (qm_gk g2885400 (by decide) (Or.inr rfl)) (qm_ge _ _ _) (by omega) hI2885404 hF2885405 ((hG2885379.1 86 6 (by decide)).trans ((hk2885306).trans rfl)) ((hG2885379.1 86 43 (by decide)).trans ((hk2885307).trans rfl)) (by have hw : σ2885376 86 41 = (σ2885376 86 41) := rfl; omega)
                    refine qr_if_eq 84 60 rfl rfl rfl (qrg hv2885374 (by decide) (by decide)) (fun h2885407 => ?_) (fun h2885407 => ?_)
                    · skip
                      exact hJ2885406 _ α2885377 g2885297 g2885298 g2885299 g2885300 hI2885378 hF2885380
                    · skip
                      refine qr_aload_n 61 rfl g2885297 rfl ?_
                      refine qr_get 64 rfl rfl rfl (by decide) rfl ?_
                      refine qr_iload_n 65 rfl g2885299 rfl ?_
                      refine qr_dup2 66 rfl rfl rfl rfl ?_
                      refine qr_iaload 67 rfl rfl (by omega) (by decide) rfl ?_
                      refine qr_topI (fun v2885408 hv2885408 => ?_)
                      have hs2885409 : (-2147483648) ≤ v2885408 ∧ v2885408 ≤ 2147483647 := by rw [hv2885408]; exact hI2885378.2.1 111 _ (show _ < 12 by omega)
                      refine qr_iconst 68 rfl rfl ?_
                      refine qr_iload_n 69 rfl g2885300 rfl ?_
                      refine qr_ishl 70 rfl rfl ?_
                      refine qy_shl1 (N := 10) (by omega) (fun v2885410 hv2885410 => ?_)
                      refine qr_ior 71 rfl rfl ?_
                      refine qy_can (fun v2885411 hv2885411 => ?_)
                      refine qr_iastore 72 rfl (by decide) rfl (by omega) (by decide) rfl ?_
                      refine qy_wA (qw_r α2885377 111 (qzu (α2885377 111) (u2830608 : Int).toNat v2885411)) rfl (fun α2885412 e2885413 => ?_)
                      have hI2885414 : qI σ2885376 α2885412 κ ρ := by rw [e2885413]; exact qI_r hI2885378 111 _ rfl (show (-2147483648) ≤ v2885411 ∧ v2885411 ≤ 2147483647 by omega)
                      have hF2885415 : qFr [(86, 15), (86, 23), (86, 30), (86, 35), (86, 36), (86, 37), (86, 38), (86, 39), (86, 41)] [96, 109, 111, 112] σ α σ2885376 α2885412 := by rw [e2885413]; exact qFr_r hF2885380 111 _ (by decide)
                      refine qr_aload_n 73 rfl g2885297 rfl ?_
                      refine qr_get 76 rfl rfl rfl (by decide) rfl ?_
                      refine qr_iload_n 77 rfl g2885300 rfl ?_
                      refine qr_dup2 78 rfl rfl rfl rfl ?_
                      refine qr_iaload 79 rfl rfl (qrgi hf2885308 (by decide) (by decide)) (by decide) rfl ?_
                      refine qr_topI (fun v2885416 hv2885416 => ?_)
                      have hs2885417 : (-2147483648) ≤ v2885416 ∧ v2885416 ≤ 2147483647 := by rw [hv2885416]; exact hI2885414.2.1 111 _ (show _ < 12 from qrgt hf2885308 (by decide) (by decide))
                      refine qr_iconst 80 rfl rfl ?_
                      refine qr_iload_n 81 rfl g2885299 rfl ?_
                      refine qr_ishl 82 rfl rfl ?_
                      refine qy_shl1 (N := 11) (by omega) (fun v2885418 hv2885418 => ?_)
                      refine qr_ior 83 rfl rfl ?_
                      refine qy_can (fun v2885419 hv2885419 => ?_)
                      refine qr_iastore 84 rfl (by decide) rfl (qrgi hf2885308 (by decide) (by decide)) (by decide) rfl ?_
                      refine qy_wA (qw_r α2885412 111 (qzu (α2885412 111) (u2885301 : Int).toNat v2885419)) rfl (fun α2885420 e2885421 => ?_)
                      have hI2885422 : qI σ2885376 α2885420 κ ρ := by rw [e2885421]; exact qI_r hI2885414 111 _ rfl (show (-2147483648) ≤ v2885419 ∧ v2885419 ≤ 2147483647 by omega)
                      have hF2885423 : qFr [(86, 15), (86, 23), (86, 30), (86, 35), (86, 36), (86, 37), (86, 38), (86, 39), (86, 41)] [96, 109, 111, 112] σ α σ2885376 α2885420 := by rw [e2885421]; exact qFr_r hF2885415 111 _ (by decide)
                      exact hJ2885406 _ α2885420 g2885297 g2885298 g2885299 g2885300 hI2885422 hF2885423
              exact hL2885310 ((11 - 0 + 1 : Int)).toNat _ 0 σ2830609 α2830610 (by omega) (qm_gk g2830605 (by decide) (Or.inl (by decide))) (qm_gk g2830606 (by decide) (Or.inl (by decide))) (qm_gk g2830607 (by decide) (Or.inr rfl)) (qm_ge _ _ _) (by decide) hI2830611 hF2830612 ((hk2830613).trans rfl) ((hk2830614).trans rfl) (by have hw : σ2830609 86 41 = (σ2830609 86 41) := rfl; omega)
        exact hL2830617 ((12 - 0 + 1 : Int)).toNat _ 0 σ α2477274 (by omega) (qm_gk g2477269 (by decide) (Or.inl (by decide))) (qm_gk g2477270 (by decide) (Or.inr rfl)) (qm_ge _ _ _) (by decide) hI2477275 hF2477276 (rfl) (rfl) (by have hw : σ 86 41 = (σ 86 41) := rfl; omega)
      · skip
        refine qr_aload_n 11 rfl g2477269 rfl ?_
        refine qr_get 14 rfl rfl rfl (by decide) rfl ?_
        refine qr_iload_n 15 rfl g2477271 rfl ?_
        refine qr_iconst 16 rfl rfl ?_
        refine qr_iastore 17 rfl (by decide) rfl (by omega) (by decide) rfl ?_
        refine qy_wA (qw_r α2477274 111 (qzu (α2477274 111) (u2477272 : Int).toNat 0)) rfl (fun α2885424 e2885425 => ?_)
        have hI2885426 : qI σ α2885424 κ ρ := by rw [e2885425]; exact qI_r hI2477275 111 _ rfl (show (-2147483648) ≤ 0 ∧ 0 ≤ 2147483647 by omega)
        have hF2885427 : qFr [(86, 15), (86, 23), (86, 30), (86, 35), (86, 36), (86, 37), (86, 38), (86, 39), (86, 41)] [96, 109, 111, 112] σ α σ α2885424 := by rw [e2885425]; exact qFr_r hF2477276 111 _ (by decide)
        refine qr_iinc _ 20 rfl g2477271 (by decide) rfl rfl ?_
        refine qr_goto 2 rfl rfl ?_
        exact ih2477279 _ (u2477272 + 1) α2885424 (by omega) (qm_gk g2477269 (by decide) (Or.inl (by decide))) (qm_gk g2477270 (by decide) (Or.inr rfl)) (qm_ge _ _ _) (by omega) hI2885426 hF2885427
  exact hL2477278 ((12 - 0 + 1 : Int)).toNat _ 0 α (by omega) rfl rfl rfl (by decide) hI hF0

set_option maxHeartbeats 4000000 in
set_option maxRecDepth 20000 in
/-- OneRoofModel.most -/
theorem sf_233_86s {L : Nat} {xs : Nat → Int} {vb : Bool} {d : Nat} {σ α : Nat → Nat → Int} {κ : Nat → Option Nat} {ρ : Nat} {x1 : Int} {x2 : Int} {x3 : Int} (hI : qI σ α κ ρ) (r1 : (-9223372036854775808) ≤ x1 ∧ x1 ≤ 9223372036854775807) (r2 : (-9223372036854775808) ≤ x2 ∧ x2 ≤ 9223372036854775807) (r3 : (-2147483648) ≤ x3 ∧ x3 ≤ 2147483647) (p0 : σ 86 41 = 0) : qm_T (qe L xs vb) (d + 50) 233 [.ref 86, .long (ql x1), .long (ql x2), .int (qz x3)] (qw σ α κ ρ) (fun r w' => ∃ σ' α', w' = qw σ' α' κ ρ ∧ qI σ' α' κ ρ ∧ qFr [(86, 15), (86, 23), (86, 30), (86, 35), (86, 36), (86, 37), (86, 38), (86, 39), (86, 41), (86, 43)] [96, 109, 110, 111, 112] σ α σ' α' ∧ σ' 86 41 = 0 ∧ ∃ v : Int, r = some (.long (ql v)) ∧ ((-9223372036854775808) ≤ v ∧ v ≤ 9223372036854775807)) := by
  refine qr_start (d := d + 49) qv_e233 (Nat.le_of_ble_eq_true rfl) ?_
  show qr_W (qe L xs vb) (d + 49) qx_e233 _ (0, [(0, .ref 86), (1, .long (ql x1)), (3, .long (ql x2)), (5, .int (qz x3))], [], _, 0, 0)
  have hF0 := qFr_rf [(86, 15), (86, 23), (86, 30), (86, 35), (86, 36), (86, 37), (86, 38), (86, 39), (86, 41), (86, 43)] [96, 109, 110, 111, 112] σ α
  have hz86_41 : 0 ≤ σ 86 41 ∧ σ 86 41 ≤ 1 := hI.1 86 41
  have hz86_6 : 0 ≤ σ 86 6 ∧ σ 86 6 ≤ 32 := hI.1 86 6
  refine qr_iload 2 rfl rfl rfl ?_
  refine qr_callN 5 rfl rfl rfl (sf_230 (d := d + 46) hI r3) ?_
  rintro _ _ ⟨rfl, v1, rfl, hv1, hp2⟩
  show qr_W (qe L xs vb) (d + 49) qx_e233 _ (5, _, [.int (qz v1)], qw σ α κ ρ, 0, 0)
  refine qr_if_eq 38 8 rfl rfl rfl (qrg hv1 (by decide) (by decide)) (fun h3 => ?_) (fun h3 => ?_)
  · skip
    refine qr_ldc2 (-1) 41 rfl (by decide) rfl ?_
    refine qr_retL rfl rfl (by decide) (by decide) ?_
    exact ⟨_, _, rfl, hI, hF0, (by have hw : σ 86 41 = (σ 86 41) := rfl; omega), (-1), rfl, (by decide)⟩
  · skip
    refine qr_aload_n 9 rfl rfl rfl ?_
    refine qr_lload_n 10 rfl rfl rfl ?_
    refine qr_callN 13 rfl rfl rfl (sf_225_86 (d := d + 48) hI r2) ?_
    rintro _ _ ⟨rfl, v4, rfl, hv4⟩
    show qr_W (qe L xs vb) (d + 49) qx_e233 _ (13, _, [.int (qz v4)], qw σ α κ ρ, 0, 0)
    refine qr_if_eq 38 16 rfl rfl rfl (qrg hv4 (by decide) (by decide)) (fun h5 => ?_) (fun h5 => ?_)
    · skip
      refine qr_ldc2 (-1) 41 rfl (by decide) rfl ?_
      refine qr_retL rfl rfl (by decide) (by decide) ?_
      exact ⟨_, _, rfl, hI, hF0, (by have hw : σ 86 41 = (σ 86 41) := rfl; omega), (-1), rfl, (by decide)⟩
    · skip
      refine qr_lload_n 17 rfl rfl rfl ?_
      refine qr_lload_n 18 rfl rfl rfl ?_
      refine qr_ldc2 (-1) 21 rfl (by decide) rfl ?_
      refine qr_lxor 22 rfl rfl ?_
      refine qy_canl (fun v6 hv6 => ?_)
      refine qr_land 23 rfl rfl ?_
      refine qy_canl (fun v7 hv7 => ?_)
      refine qr_lconst 24 rfl rfl ?_
      refine qy_vl 0 rfl ?_
      refine qr_lc_ne 38 28 rfl rfl rfl rfl hv7 (by decide) (fun h8 => ?_) (fun h8 => ?_)
      · skip
        refine qr_ldc2 (-1) 41 rfl (by decide) rfl ?_
        refine qr_retL rfl rfl (by decide) (by decide) ?_
        exact ⟨_, _, rfl, hI, hF0, (by have hw : σ 86 41 = (σ 86 41) := rfl; omega), (-1), rfl, (by decide)⟩
      · skip
        refine qr_aload_n 29 rfl rfl rfl ?_
        refine qr_lload_n 30 rfl rfl rfl ?_
        refine qr_bipush 32 rfl (by decide) rfl ?_
        refine qr_callN 35 rfl rfl rfl (sf_234_86p (d := d + 47) hI r1 (by decide)) ?_
        have hs11 : 0 ≤ σ 86 6 ∧ σ 86 6 ≤ 32 := hI.1 86 6
        rintro _ _ ⟨σ12, α13, rfl, hI14, hG15, v9, rfl, hv9, hp10⟩
        have hF16 : qFr [(86, 15), (86, 23), (86, 30), (86, 35), (86, 36), (86, 37), (86, 38), (86, 39), (86, 41), (86, 43)] [96, 109, 110, 111, 112] σ α σ12 α13 := qFr_t hF0 hG15 (by decide) (by decide)
        have hs17 : 0 ≤ σ12 86 43 ∧ σ12 86 43 ≤ 32 := hI14.1 86 43
        show qr_W (qe L xs vb) (d + 49) qx_e233 _ (35, _, [.int (qz v9)], qw σ12 α13 κ ρ, 0, 0)
        refine qr_if_ne 42 38 rfl rfl rfl (qrg hv9 (by decide) (by decide)) (fun h18 => ?_) (fun h18 => ?_)
        · skip
          refine qr_aload_n 43 rfl rfl rfl ?_
          refine qr_iload 45 rfl rfl rfl ?_
          have hs19 : 0 ≤ σ12 86 41 ∧ σ12 86 41 ≤ 1 := hI14.1 86 41
          have hs20 : σ12 86 41 = (σ 86 41) := (hG15.1 86 41 (by decide)).trans rfl
          have hs21 : 0 ≤ σ12 86 43 ∧ σ12 86 43 ≤ 32 := hI14.1 86 43
          have hs22 : 0 ≤ σ12 86 6 ∧ σ12 86 6 ≤ 32 := hI14.1 86 6
          have hs23 : σ12 86 6 = (σ 86 6) := (hG15.1 86 6 (by decide)).trans rfl
          refine qr_callN 48 rfl rfl rfl (sf_235_86s (d := d + 0) hI14 (by omega) (by omega) (by omega) (by omega)) ?_
          rintro _ _ ⟨σ25, α26, rfl, hI27, hG28, hw24, rfl⟩
          have hF29 : qFr [(86, 15), (86, 23), (86, 30), (86, 35), (86, 36), (86, 37), (86, 38), (86, 39), (86, 41), (86, 43)] [96, 109, 110, 111, 112] σ α σ25 α26 := qFr_t hF16 hG28 (by decide) (by decide)
          have hs30 : 0 ≤ σ25 86 41 ∧ σ25 86 41 ≤ 1 := hI27.1 86 41
          show qr_W (qe L xs vb) (d + 49) qx_e233 _ (48, _, [], qw σ25 α26 κ ρ, 0, 0)
          refine qr_iconst 49 rfl rfl ?_
          refine qr_istore _ 51 rfl (by decide) rfl rfl ?_
          refine qr_iconst 52 rfl rfl ?_
          refine qr_istore _ 54 rfl (by decide) rfl rfl ?_
          have hL46677 : ∀ (n : Nat) (ls : qm_L) (u46672 u46674 : Int), 12 - u46674 < (n : Int) → qm_get ls 0 = some (.ref 86) → qm_get ls 3 = some (.long (ql x2)) → qm_get ls 6 = some (.int (qz u46672)) → qm_get ls 7 = some (.int (qz u46674)) → ((-2147483648) ≤ u46672 ∧ u46672 ≤ 2147483647) → (0 ≤ u46674 ∧ u46674 ≤ 12) → qr_W (qe L xs vb) (d + 49) qx_e233 (fun r w' => ∃ σ' α', w' = qw σ' α' κ ρ ∧ qI σ' α' κ ρ ∧ qFr [(86, 15), (86, 23), (86, 30), (86, 35), (86, 36), (86, 37), (86, 38), (86, 39), (86, 41), (86, 43)] [96, 109, 110, 111, 112] σ α σ' α' ∧ σ' 86 41 = 0 ∧ ∃ v : Int, r = some (.long (ql v)) ∧ ((-9223372036854775808) ≤ v ∧ v ≤ 9223372036854775807)) (54, ls, [], qw σ25 α26 κ ρ, 0, 0) := by
            intro n
            induction n with
            | zero => intro ls u46672 u46674 hm g46669 g46670 g46671 g46673 hf46675 hf46676; exact False.elim (by omega)
            | succ n ih46678 =>
              intro ls u46672 u46674 hm g46669 g46670 g46671 g46673 hf46675 hf46676
              refine qr_iload 56 rfl g46673 rfl ?_
              refine qr_aload_n 57 rfl g46669 rfl ?_
              refine qr_get 60 rfl rfl rfl (by decide) rfl ?_
              refine qy_v (σ12 86 43) ((hG28.1 86 43 (by decide)).trans rfl) ?_
              refine qr_icmp_ge 96 63 rfl rfl rfl (qrg hf46676 (by decide) (by decide)) (by omega) (fun h46689 => ?_) (fun h46689 => ?_)
              · skip
                refine qr_iconst 97 rfl rfl ?_
                refine qr_istore _ 99 rfl (by decide) rfl rfl ?_
                refine qr_iconst 100 rfl rfl ?_
                refine qr_istore _ 102 rfl (by decide) rfl rfl ?_
                have hL53194 : ∀ (n : Nat) (ls : qm_L) (u53189 u53191 : Int), 4096 - u53191 < (n : Int) → qm_get ls 0 = some (.ref 86) → qm_get ls 6 = some (.int (qz u46672)) → qm_get ls 7 = some (.int (qz u53189)) → qm_get ls 8 = some (.int (qz u53191)) → ((-1) ≤ u53189 ∧ u53189 ≤ 4095) → (0 ≤ u53191 ∧ u53191 ≤ 4096) → qr_W (qe L xs vb) (d + 49) qx_e233 (fun r w' => ∃ σ' α', w' = qw σ' α' κ ρ ∧ qI σ' α' κ ρ ∧ qFr [(86, 15), (86, 23), (86, 30), (86, 35), (86, 36), (86, 37), (86, 38), (86, 39), (86, 41), (86, 43)] [96, 109, 110, 111, 112] σ α σ' α' ∧ σ' 86 41 = 0 ∧ ∃ v : Int, r = some (.long (ql v)) ∧ ((-9223372036854775808) ≤ v ∧ v ≤ 9223372036854775807)) (102, ls, [], qw σ25 α26 κ ρ, 0, 0) := by
                  intro n
                  induction n with
                  | zero => intro ls u53189 u53191 hm g53186 g53187 g53188 g53190 hf53192 hf53193; exact False.elim (by omega)
                  | succ n ih53195 =>
                    intro ls u53189 u53191 hm g53186 g53187 g53188 g53190 hf53192 hf53193
                    refine qr_iload 104 rfl g53190 rfl ?_
                    refine qr_iconst 105 rfl rfl ?_
                    refine qr_aload_n 106 rfl g53186 rfl ?_
                    refine qr_get 109 rfl rfl rfl (by decide) rfl ?_
                    refine qy_v (σ12 86 43) ((hG28.1 86 43 (by decide)).trans rfl) ?_
                    refine qr_ishl 110 rfl rfl ?_
                    refine qy_shl1 (N := 12) (by omega) (fun v53196 hv53196 => ?_)
                    refine qr_icmp_ge 215 113 rfl rfl rfl (qrg hf53193 (by decide) (by decide)) (by omega) (fun h53266 => ?_) (fun h53266 => ?_)
                    · skip
                      refine qr_iload 217 rfl g53188 rfl ?_
                      refine qr_if_ge 226 220 rfl rfl rfl (qrg hf53192 (by decide) (by decide)) (fun h53267 => ?_) (fun h53267 => ?_)
                      · skip
                        refine qr_aload_n 227 rfl g53186 rfl ?_
                        refine qr_iload 229 rfl g53188 rfl ?_
                        refine qr_callN 232 rfl rfl rfl (sf_237_86 (d := d + 48) hI27 (qrg hf53192 (by decide) (by decide))) ?_
                        rintro _ _ ⟨rfl, v53268, rfl, hv53268⟩
                        show qr_W (qe L xs vb) (d + 49) qx_e233 _ (232, _, [.long (ql v53268)], qw σ25 α26 κ ρ, 0, 0)
                        refine qr_retL rfl rfl (by decide) (by decide) ?_
                        exact ⟨_, _, rfl, hI27, hF29, (by have hw : σ25 86 41 = (σ25 86 41) := rfl; omega), v53268, rfl, hv53268⟩
                      · skip
                        refine qr_ldc2 (-2) 223 rfl (by decide) rfl ?_
                        refine qr_goto 232 rfl rfl ?_
                        refine qr_retL rfl rfl (by decide) (by decide) ?_
                        exact ⟨_, _, rfl, hI27, hF29, (by have hw : σ25 86 41 = (σ25 86 41) := rfl; omega), (-2), rfl, (by decide)⟩
                    · skip
                      refine qr_aload_n 114 rfl g53186 rfl ?_
                      refine qr_get 117 rfl rfl rfl (by decide) rfl ?_
                      refine qr_iload 119 rfl g53190 rfl ?_
                      refine qr_iaload 120 rfl rfl (by omega) (by decide) rfl ?_
                      refine qr_topI (fun v53269 hv53269 => ?_)
                      have hs53270 : (-2147483648) ≤ v53269 ∧ v53269 ≤ 2147483647 := by rw [hv53269]; exact hI27.2.1 112 _ (show _ < 4096 by omega)
                      have hJ53308 : ∀ (ls : qm_L) (u53305 : Int), qm_get ls 0 = some (.ref 86) → qm_get ls 6 = some (.int (qz u46672)) → qm_get ls 7 = some (.int (qz u53305)) → qm_get ls 8 = some (.int (qz u53191)) → ((-1) ≤ u53305 ∧ u53305 ≤ 4095) → qr_W (qe L xs vb) (d + 49) qx_e233 (fun r w' => ∃ σ' α', w' = qw σ' α' κ ρ ∧ qI σ' α' κ ρ ∧ qFr [(86, 15), (86, 23), (86, 30), (86, 35), (86, 36), (86, 37), (86, 38), (86, 39), (86, 41), (86, 43)] [96, 109, 110, 111, 112] σ α σ' α' ∧ σ' 86 41 = 0 ∧ ∃ v : Int, r = some (.long (ql v)) ∧ ((-9223372036854775808) ≤ v ∧ v ≤ 9223372036854775807)) (209, ls, [], qw σ25 α26 κ ρ, 0, 0) := by
                        intro ls u53305 g53302 g53303 g53304 g53306 hf53307
                        refine qr_iinc _ 212 rfl g53306 (by decide) rfl rfl ?_
                        refine qr_goto 102 rfl rfl ?_
                        exact ih53195 _ u53305 (u53191 + 1) (by omega) (qm_gk g53302 (by decide) (Or.inl (by decide))) (qm_gk g53303 (by decide) (Or.inl (by decide))) (qm_gk g53304 (by decide) (Or.inr rfl)) (qm_ge _ _ _) hf53307 (by omega)
                      refine qr_if_lt 209 123 rfl rfl rfl hs53270 (fun h53309 => ?_) (fun h53309 => ?_)
                      · skip
                        exact hJ53308 _ u53189 g53186 g53187 g53188 g53190 hf53192
                      · skip
                        refine qr_iload 125 rfl g53187 rfl ?_
                        refine qr_iload 127 rfl g53190 rfl ?_
                        refine qr_iconst 128 rfl rfl ?_
                        refine qr_ixor 129 rfl rfl ?_
                        refine qy_can (fun v53310 hv53310 => ?_)
                        refine qr_iand 130 rfl rfl ?_
                        refine qy_can (fun v53311 hv53311 => ?_)
                        refine qr_if_eq 136 133 rfl rfl rfl hv53311 (fun h53312 => ?_) (fun h53312 => ?_)
                        · skip
                          refine qr_iload 138 rfl g53188 rfl ?_
                          have hJ53329 : ∀ (ls : qm_L) (u53327 : Int), qm_get ls 0 = some (.ref 86) → qm_get ls 6 = some (.int (qz u46672)) → qm_get ls 7 = some (.int (qz u53189)) → qm_get ls 8 = some (.int (qz u53191)) → (0 ≤ u53327 ∧ u53327 ≤ 1) → qr_W (qe L xs vb) (d + 49) qx_e233 (fun r w' => ∃ σ' α', w' = qw σ' α' κ ρ ∧ qI σ' α' κ ρ ∧ qFr [(86, 15), (86, 23), (86, 30), (86, 35), (86, 36), (86, 37), (86, 38), (86, 39), (86, 41), (86, 43)] [96, 109, 110, 111, 112] σ α σ' α' ∧ σ' 86 41 = 0 ∧ ∃ v : Int, r = some (.long (ql v)) ∧ ((-9223372036854775808) ≤ v ∧ v ≤ 9223372036854775807)) (193, ls, [.int (qz u53327)], qw σ25 α26 κ ρ, 0, 0) := by
                            intro ls u53327 g53323 g53324 g53325 g53326 hf53328
                            refine qr_istore _ 195 rfl (by decide) rfl rfl ?_
                            refine qr_iload 197 rfl (qm_ge _ _ _) rfl ?_
                            have hJ53335 : ∀ (ls : qm_L) (u53333 : Int), qm_get ls 0 = some (.ref 86) → qm_get ls 6 = some (.int (qz u46672)) → qm_get ls 8 = some (.int (qz u53191)) → ((-1) ≤ u53333 ∧ u53333 ≤ 4095) → qr_W (qe L xs vb) (d + 49) qx_e233 (fun r w' => ∃ σ' α', w' = qw σ' α' κ ρ ∧ qI σ' α' κ ρ ∧ qFr [(86, 15), (86, 23), (86, 30), (86, 35), (86, 36), (86, 37), (86, 38), (86, 39), (86, 41), (86, 43)] [96, 109, 110, 111, 112] σ α σ' α' ∧ σ' 86 41 = 0 ∧ ∃ v : Int, r = some (.long (ql v)) ∧ ((-9223372036854775808) ≤ v ∧ v ≤ 9223372036854775807)) (207, ls, [.int (qz u53333)], qw σ25 α26 κ ρ, 0, 0) := by
                              intro ls u53333 g53330 g53331 g53332 hf53334
                              refine qr_istore _ 209 rfl (by decide) rfl rfl ?_
                              exact hJ53308 _ u53333 (qm_gk g53330 (by decide) (Or.inl (by decide))) (qm_gk g53331 (by decide) (Or.inr rfl)) (qm_ge _ _ _) (qm_gk g53332 (by decide) (Or.inl (by decide))) hf53334
                            refine qr_if_eq 205 200 rfl rfl rfl (qrg hf53328 (by decide) (by decide)) (fun h53336 => ?_) (fun h53336 => ?_)
                            · skip
                              refine qr_iload 207 rfl (qm_gk g53325 (by decide) (Or.inl (by decide))) rfl ?_
                              exact hJ53335 _ u53189 (qm_gk g53323 (by decide) (Or.inl (by decide))) (qm_gk g53324 (by decide) (Or.inl (by decide))) (qm_gk g53326 (by decide) (Or.inr rfl)) hf53192
                            · skip
                              refine qr_iload 202 rfl (qm_gk g53326 (by decide) (Or.inr rfl)) rfl ?_
                              refine qr_goto 207 rfl rfl ?_
                              exact hJ53335 _ u53191 (qm_gk g53323 (by decide) (Or.inl (by decide))) (qm_gk g53324 (by decide) (Or.inl (by decide))) (qm_gk g53326 (by decide) (Or.inr rfl)) (by omega)
                          refine qr_if_lt 188 141 rfl rfl rfl (qrg hf53192 (by decide) (by decide)) (fun h53337 => ?_) (fun h53337 => ?_)
                          · skip
                            refine qr_iconst 189 rfl rfl ?_
                            refine qr_goto 193 rfl rfl ?_
                            exact hJ53329 _ 1 g53186 g53187 g53188 g53190 (by decide)
                          · skip
                            refine qr_aload_n 142 rfl g53186 rfl ?_
                            refine qr_get 145 rfl rfl rfl (by decide) rfl ?_
                            refine qr_iload 147 rfl g53190 rfl ?_
                            refine qr_iaload 148 rfl rfl (by omega) (by decide) rfl ?_
                            refine qr_topI (fun v53338 hv53338 => ?_)
                            have hs53339 : (-2147483648) ≤ v53338 ∧ v53338 ≤ 2147483647 := by rw [hv53338]; exact hI27.2.1 112 _ (show _ < 4096 by omega)
                            refine qr_aload_n 149 rfl g53186 rfl ?_
                            refine qr_get 152 rfl rfl rfl (by decide) rfl ?_
                            refine qr_iload 154 rfl g53188 rfl ?_
                            refine qr_iaload 155 rfl rfl (by omega) (by decide) rfl ?_
                            refine qr_topI (fun v53340 hv53340 => ?_)
                            have hs53341 : (-2147483648) ≤ v53340 ∧ v53340 ≤ 2147483647 := by rw [hv53340]; exact hI27.2.1 112 _ (show _ < 4096 from qrgt hf53192 (by decide) (by decide))
                            refine qr_icmp_gt 188 158 rfl rfl rfl hs53339 hs53341 (fun h53342 => ?_) (fun h53342 => ?_)
                            · skip
                              refine qr_iconst 189 rfl rfl ?_
                              refine qr_goto 193 rfl rfl ?_
                              exact hJ53329 _ 1 g53186 g53187 g53188 g53190 (by decide)
                            · skip
                              refine qr_aload_n 159 rfl g53186 rfl ?_
                              refine qr_get 162 rfl rfl rfl (by decide) rfl ?_
                              refine qr_iload 164 rfl g53190 rfl ?_
                              refine qr_iaload 165 rfl rfl (by omega) (by decide) rfl ?_
                              refine qr_topI (fun v53343 hv53343 => ?_)
                              have hs53344 : (-2147483648) ≤ v53343 ∧ v53343 ≤ 2147483647 := by rw [hv53343]; exact hI27.2.1 112 _ (show _ < 4096 by omega)
                              refine qr_aload_n 166 rfl g53186 rfl ?_
                              refine qr_get 169 rfl rfl rfl (by decide) rfl ?_
                              refine qr_iload 171 rfl g53188 rfl ?_
                              refine qr_iaload 172 rfl rfl (by omega) (by decide) rfl ?_
                              refine qr_topI (fun v53345 hv53345 => ?_)
                              have hs53346 : (-2147483648) ≤ v53345 ∧ v53345 ≤ 2147483647 := by rw [hv53345]; exact hI27.2.1 112 _ (show _ < 4096 from qrgt hf53192 (by decide) (by decide))
                              refine qr_icmp_ne 192 175 rfl rfl rfl hs53344 hs53346 (fun h53347 => ?_) (fun h53347 => ?_)
                              · skip
                                refine qr_iconst 193 rfl rfl ?_
                                exact hJ53329 _ 0 g53186 g53187 g53188 g53190 (by decide)
                              · skip
                                refine qr_iload 177 rfl g53190 rfl ?_
                                refine qr_callN 180 rfl rfl rfl (sf_236 (d := d + 48) hI27 (qrg hf53193 (by decide) (by decide))) ?_
                                rintro _ _ ⟨rfl, v53348, rfl, hv53348⟩
                                show qr_W (qe L xs vb) (d + 49) qx_e233 _ (180, _, [.int (qz v53348)], qw σ25 α26 κ ρ, 0, 0)
                                refine qr_iload 182 rfl g53188 rfl ?_
                                refine qr_callN 185 rfl rfl rfl (sf_236 (d := d + 48) hI27 (qrg hf53192 (by decide) (by decide))) ?_
                                rintro _ _ ⟨rfl, v53349, rfl, hv53349⟩
                                show qr_W (qe L xs vb) (d + 49) qx_e233 _ (185, _, [.int (qz v53349), .int (qz v53348)], qw σ25 α26 κ ρ, 0, 0)
                                refine qr_icmp_le 192 188 rfl rfl rfl hv53348 hv53349 (fun h53350 => ?_) (fun h53350 => ?_)
                                · skip
                                  refine qr_iconst 193 rfl rfl ?_
                                  exact hJ53329 _ 0 g53186 g53187 g53188 g53190 (by decide)
                                · skip
                                  refine qr_iconst 189 rfl rfl ?_
                                  refine qr_goto 193 rfl rfl ?_
                                  exact hJ53329 _ 1 g53186 g53187 g53188 g53190 (by decide)
                        · skip
                          refine qr_goto 209 rfl rfl ?_
                          exact hJ53308 _ u53189 g53186 g53187 g53188 g53190 hf53192
                exact hL53194 ((4096 - 0 + 1 : Int)).toNat _ (-1) 0 (by omega) (qm_gk (qm_gk g46669 (by decide) (Or.inl (by decide))) (by decide) (Or.inl (by decide))) (qm_gk (qm_gk g46671 (by decide) (Or.inr rfl)) (by decide) (Or.inl (by decide))) (qm_gk (qm_ge _ _ _) (by decide) (Or.inr rfl)) (qm_ge _ _ _) (by decide) (by decide)
              · skip
                refine qr_iload 65 rfl g46671 rfl ?_
                refine qr_lload_n 66 rfl g46670 rfl ?_
                refine qr_aload_n 67 rfl g46669 rfl ?_
                refine qr_get 70 rfl rfl rfl (by decide) rfl ?_
                refine qr_iload 72 rfl g46673 rfl ?_
                refine qr_iaload 73 rfl rfl (qrgi hf46676 (by decide) (by decide)) (by decide) rfl ?_
                refine qr_topI (fun v53351 hv53351 => ?_)
                have hs53352 : 0 ≤ v53351 ∧ v53351 ≤ 31 := by rw [hv53351]; exact hI27.2.1 110 _ (show _ < 32 from qrgt hf46676 (by decide) (by decide))
                refine qr_callN 76 rfl rfl rfl (sf_226 (d := d + 48) hI27 r2 (qrg hs53352 (by decide) (by decide))) ?_
                rintro _ _ ⟨rfl, v53353, rfl, hv53353⟩
                show qr_W (qe L xs vb) (d + 49) qx_e233 _ (76, _, [.int (qz v53353), .int (qz u46672)], qw σ25 α26 κ ρ, 0, 0)
                have hJ53360 : ∀ (ls : qm_L) (u53358 : Int), qm_get ls 0 = some (.ref 86) → qm_get ls 3 = some (.long (ql x2)) → qm_get ls 7 = some (.int (qz u46674)) → (0 ≤ u53358 ∧ u53358 ≤ 2048) → qr_W (qe L xs vb) (d + 49) qx_e233 (fun r w' => ∃ σ' α', w' = qw σ' α' κ ρ ∧ qI σ' α' κ ρ ∧ qFr [(86, 15), (86, 23), (86, 30), (86, 35), (86, 36), (86, 37), (86, 38), (86, 39), (86, 41), (86, 43)] [96, 109, 110, 111, 112] σ α σ' α' ∧ σ' 86 41 = 0 ∧ ∃ v : Int, r = some (.long (ql v)) ∧ ((-9223372036854775808) ≤ v ∧ v ≤ 9223372036854775807)) (87, ls, [.int (qz u53358), .int (qz u46672)], qw σ25 α26 κ ρ, 0, 0) := by
                  intro ls u53358 g53355 g53356 g53357 hf53359
                  refine qr_ior 88 rfl rfl ?_
                  refine qy_can (fun v53361 hv53361 => ?_)
                  refine qr_istore _ 90 rfl (by decide) rfl rfl ?_
                  refine qr_iinc _ 93 rfl (qm_gk g53357 (by decide) (Or.inl (by decide))) (by decide) rfl rfl ?_
                  refine qr_goto 54 rfl rfl ?_
                  exact ih46678 _ v53361 (u46674 + 1) (by omega) (qm_gk (qm_gk g53355 (by decide) (Or.inl (by decide))) (by decide) (Or.inl (by decide))) (qm_gk (qm_gk g53356 (by decide) (Or.inl (by decide))) (by decide) (Or.inl (by decide))) (qm_gk (qm_ge _ _ _) (by decide) (Or.inr rfl)) (qm_ge _ _ _) hv53361 (by omega)
                refine qr_if_eq 86 79 rfl rfl rfl (qrg hv53353 (by decide) (by decide)) (fun h53362 => ?_) (fun h53362 => ?_)
                · skip
                  refine qr_iconst 87 rfl rfl ?_
                  exact hJ53360 _ 0 g46669 g46670 g46673 (by decide)
                · skip
                  refine qr_iconst 80 rfl rfl ?_
                  refine qr_iload 82 rfl g46673 rfl ?_
                  refine qr_ishl 83 rfl rfl ?_
                  refine qy_shl1 (N := 11) (by omega) (fun v53363 hv53363 => ?_)
                  refine qr_goto 87 rfl rfl ?_
                  exact hJ53360 _ v53363 g46669 g46670 g46673 (by omega)
          exact hL46677 ((12 - 0 + 1 : Int)).toNat _ 0 0 (by omega) rfl rfl rfl rfl (by decide) (by decide)
        · skip
          refine qr_ldc2 (-1) 41 rfl (by decide) rfl ?_
          refine qr_retL rfl rfl (by decide) (by decide) ?_
          exact ⟨_, _, rfl, hI14, hF16, (by have hw : σ12 86 41 = (σ 86 41) := (hG15.1 86 41 (by decide)).trans rfl; omega), (-1), rfl, (by decide)⟩

set_option maxHeartbeats 4000000 in
set_option maxRecDepth 20000 in
/-- OneRoofModel.rooms -/
theorem sf_238_86s {L : Nat} {xs : Nat → Int} {vb : Bool} {d : Nat} {σ α : Nat → Nat → Int} {κ : Nat → Option Nat} {ρ : Nat} {x1 : Int} {x2 : Int} {x3 : Int} (hI : qI σ α κ ρ) (r1 : (-9223372036854775808) ≤ x1 ∧ x1 ≤ 9223372036854775807) (r2 : (-2147483648) ≤ x2 ∧ x2 ≤ 2147483647) (r3 : (-2147483648) ≤ x3 ∧ x3 ≤ 2147483647) (p0 : σ 86 41 = 0) : qm_T (qe L xs vb) (d + 50) 238 [.ref 86, .long (ql x1), .int (qz x2), .int (qz x3)] (qw σ α κ ρ) (fun r w' => ∃ σ' α', w' = qw σ' α' κ ρ ∧ qI σ' α' κ ρ ∧ qFr [(86, 15), (86, 23), (86, 30), (86, 35), (86, 36), (86, 37), (86, 38), (86, 39), (86, 41), (86, 43)] [96, 109, 110, 111, 112] σ α σ' α' ∧ σ' 86 41 = 0 ∧ ∃ v : Int, r = some (.long (ql v)) ∧ ((-9223372036854775808) ≤ v ∧ v ≤ 9223372036854775807)) := by
  refine qr_start (d := d + 49) qv_e238 (Nat.le_of_ble_eq_true rfl) ?_
  show qr_W (qe L xs vb) (d + 49) qx_e238 _ (0, [(0, .ref 86), (1, .long (ql x1)), (3, .int (qz x2)), (4, .int (qz x3))], [], _, 0, 0)
  have hF0 := qFr_rf [(86, 15), (86, 23), (86, 30), (86, 35), (86, 36), (86, 37), (86, 38), (86, 39), (86, 41), (86, 43)] [96, 109, 110, 111, 112] σ α
  have hz86_41 : 0 ≤ σ 86 41 ∧ σ 86 41 ≤ 1 := hI.1 86 41
  have hz86_6 : 0 ≤ σ 86 6 ∧ σ 86 6 ≤ 32 := hI.1 86 6
  refine qr_iload_n 1 rfl rfl rfl ?_
  refine qr_callN 4 rfl rfl rfl (sf_230 (d := d + 46) hI r2) ?_
  rintro _ _ ⟨rfl, v1, rfl, hv1, hp2⟩
  show qr_W (qe L xs vb) (d + 49) qx_e238 _ (4, _, [.int (qz v1)], qw σ α κ ρ, 0, 0)
  refine qr_if_eq 28 7 rfl rfl rfl (qrg hv1 (by decide) (by decide)) (fun h3 => ?_) (fun h3 => ?_)
  · skip
    refine qr_ldc2 (-1) 31 rfl (by decide) rfl ?_
    refine qr_retL rfl rfl (by decide) (by decide) ?_
    exact ⟨_, _, rfl, hI, hF0, (by have hw : σ 86 41 = (σ 86 41) := rfl; omega), (-1), rfl, (by decide)⟩
  · skip
    refine qr_iload 9 rfl rfl rfl ?_
    refine qr_i2l 10 rfl r3 rfl ?_
    refine qr_lconst 11 rfl rfl ?_
    refine qy_vl 0 rfl ?_
    refine qr_lconst 12 rfl rfl ?_
    refine qy_vl 1 rfl ?_
    refine qr_callN 15 rfl rfl rfl (sf_176 (d := d + 48) hI (qrg r3 (by decide) (by decide)) (by decide) (by decide)) ?_
    rintro _ _ ⟨rfl, v4, rfl, hv4, hp5⟩
    show qr_W (qe L xs vb) (d + 49) qx_e238 _ (15, _, [.int (qz v4)], qw σ α κ ρ, 0, 0)
    refine qr_if_eq 28 18 rfl rfl rfl (qrg hv4 (by decide) (by decide)) (fun h6 => ?_) (fun h6 => ?_)
    · skip
      refine qr_ldc2 (-1) 31 rfl (by decide) rfl ?_
      refine qr_retL rfl rfl (by decide) (by decide) ?_
      exact ⟨_, _, rfl, hI, hF0, (by have hw : σ 86 41 = (σ 86 41) := rfl; omega), (-1), rfl, (by decide)⟩
    · skip
      refine qr_aload_n 19 rfl rfl rfl ?_
      refine qr_lload_n 20 rfl rfl rfl ?_
      refine qr_bipush 22 rfl (by decide) rfl ?_
      refine qr_callN 25 rfl rfl rfl (sf_234_86p (d := d + 47) hI r1 (by decide)) ?_
      have hs9 : 0 ≤ σ 86 6 ∧ σ 86 6 ≤ 32 := hI.1 86 6
      rintro _ _ ⟨σ10, α11, rfl, hI12, hG13, v7, rfl, hv7, hp8⟩
      have hF14 : qFr [(86, 15), (86, 23), (86, 30), (86, 35), (86, 36), (86, 37), (86, 38), (86, 39), (86, 41), (86, 43)] [96, 109, 110, 111, 112] σ α σ10 α11 := qFr_t hF0 hG13 (by decide) (by decide)
      have hs15 : 0 ≤ σ10 86 43 ∧ σ10 86 43 ≤ 32 := hI12.1 86 43
      show qr_W (qe L xs vb) (d + 49) qx_e238 _ (25, _, [.int (qz v7)], qw σ10 α11 κ ρ, 0, 0)
      refine qr_if_ne 32 28 rfl rfl rfl (qrg hv7 (by decide) (by decide)) (fun h16 => ?_) (fun h16 => ?_)
      · skip
        refine qr_aload_n 33 rfl rfl rfl ?_
        refine qr_iload_n 34 rfl rfl rfl ?_
        have hs17 : 0 ≤ σ10 86 41 ∧ σ10 86 41 ≤ 1 := hI12.1 86 41
        have hs18 : σ10 86 41 = (σ 86 41) := (hG13.1 86 41 (by decide)).trans rfl
        have hs19 : 0 ≤ σ10 86 43 ∧ σ10 86 43 ≤ 32 := hI12.1 86 43
        have hs20 : 0 ≤ σ10 86 6 ∧ σ10 86 6 ≤ 32 := hI12.1 86 6
        have hs21 : σ10 86 6 = (σ 86 6) := (hG13.1 86 6 (by decide)).trans rfl
        refine qr_callN 37 rfl rfl rfl (sf_235_86s (d := d + 0) hI12 (by omega) (by omega) (by omega) (by omega)) ?_
        rintro _ _ ⟨σ23, α24, rfl, hI25, hG26, hw22, rfl⟩
        have hF27 : qFr [(86, 15), (86, 23), (86, 30), (86, 35), (86, 36), (86, 37), (86, 38), (86, 39), (86, 41), (86, 43)] [96, 109, 110, 111, 112] σ α σ23 α24 := qFr_t hF14 hG26 (by decide) (by decide)
        have hs28 : 0 ≤ σ23 86 41 ∧ σ23 86 41 ≤ 1 := hI25.1 86 41
        show qr_W (qe L xs vb) (d + 49) qx_e238 _ (37, _, [], qw σ23 α24 κ ρ, 0, 0)
        refine qr_iconst 38 rfl rfl ?_
        refine qr_aload_n 39 rfl rfl rfl ?_
        refine qr_get 42 rfl rfl rfl (by decide) rfl ?_
        refine qy_v (σ10 86 43) ((hG26.1 86 43 (by decide)).trans rfl) ?_
        refine qr_ishl 43 rfl rfl ?_
        refine qy_shl1 (N := 12) (by omega) (fun v29 hv29 => ?_)
        refine qr_iconst 44 rfl rfl ?_
        refine qr_isub 45 rfl rfl ?_
        refine qr_istore _ 47 rfl (by decide) rfl rfl ?_
        refine qr_iconst 48 rfl rfl ?_
        refine qr_istore _ 50 rfl (by decide) rfl rfl ?_
        refine qr_iconst 51 rfl rfl ?_
        refine qr_istore _ 53 rfl (by decide) rfl rfl ?_
        refine qr_iconst 54 rfl rfl ?_
        refine qr_istore _ 56 rfl (by decide) rfl rfl ?_
        have hL6435 : ∀ (n : Nat) (ls : qm_L) (u6427 u6429 u6431 : Int), 4096 - u6431 < (n : Int) → qm_get ls 0 = some (.ref 86) → qm_get ls 4 = some (.int (qz x3)) → qm_get ls 5 = some (.int (qz (v29 - 1))) → qm_get ls 6 = some (.int (qz u6427)) → qm_get ls 7 = some (.int (qz u6429)) → qm_get ls 8 = some (.int (qz u6431)) → (0 ≤ u6427 ∧ u6427 ≤ 4095) → (0 ≤ u6429 ∧ u6429 ≤ 2147483647) → (0 ≤ u6431 ∧ u6431 ≤ 4096) → qr_W (qe L xs vb) (d + 49) qx_e238 (fun r w' => ∃ σ' α', w' = qw σ' α' κ ρ ∧ qI σ' α' κ ρ ∧ qFr [(86, 15), (86, 23), (86, 30), (86, 35), (86, 36), (86, 37), (86, 38), (86, 39), (86, 41), (86, 43)] [96, 109, 110, 111, 112] σ α σ' α' ∧ σ' 86 41 = 0 ∧ ∃ v : Int, r = some (.long (ql v)) ∧ ((-9223372036854775808) ≤ v ∧ v ≤ 9223372036854775807)) (56, ls, [], qw σ23 α24 κ ρ, 0, 0) := by
          intro n
          induction n with
          | zero => intro ls u6427 u6429 u6431 hm g6423 g6424 g6425 g6426 g6428 g6430 hf6432 hf6433 hf6434; exact False.elim (by omega)
          | succ n ih6436 =>
            intro ls u6427 u6429 u6431 hm g6423 g6424 g6425 g6426 g6428 g6430 hf6432 hf6433 hf6434
            refine qr_iload 58 rfl g6430 rfl ?_
            refine qr_iload 60 rfl g6425 rfl ?_
            refine qr_icmp_gt 187 63 rfl rfl rfl (qrg hf6434 (by decide) (by decide)) (by omega) (fun h6437 => ?_) (fun h6437 => ?_)
            · skip
              refine qr_iload 189 rfl g6424 rfl ?_
              refine qr_if_ne 198 192 rfl rfl rfl r3 (fun h6438 => ?_) (fun h6438 => ?_)
              · skip
                refine qr_aload_n 199 rfl g6423 rfl ?_
                refine qr_iload 201 rfl g6426 rfl ?_
                refine qr_callN 204 rfl rfl rfl (sf_237_86 (d := d + 48) hI25 (qrg hf6432 (by decide) (by decide))) ?_
                rintro _ _ ⟨rfl, v6439, rfl, hv6439⟩
                show qr_W (qe L xs vb) (d + 49) qx_e238 _ (204, _, [.long (ql v6439)], qw σ23 α24 κ ρ, 0, 0)
                refine qr_retL rfl rfl (by decide) (by decide) ?_
                exact ⟨_, _, rfl, hI25, hF27, (by have hw : σ23 86 41 = (σ23 86 41) := rfl; omega), v6439, rfl, hv6439⟩
              · skip
                refine qr_iload 194 rfl g6428 rfl ?_
                refine qr_i2l 195 rfl (qrg hf6433 (by decide) (by decide)) rfl ?_
                refine qr_goto 204 rfl rfl ?_
                refine qr_retL rfl rfl (by decide) (by decide) ?_
                exact ⟨_, _, rfl, hI25, hF27, (by have hw : σ23 86 41 = (σ23 86 41) := rfl; omega), u6429, rfl, (qrg hf6433 (by decide) (by decide))⟩
            · skip
              refine qr_iload 65 rfl g6425 rfl ?_
              refine qr_iload 67 rfl g6430 rfl ?_
              refine qr_iconst 68 rfl rfl ?_
              refine qr_ixor 69 rfl rfl ?_
              refine qy_can (fun v6440 hv6440 => ?_)
              refine qr_iand 70 rfl rfl ?_
              refine qy_andl (by omega) (fun v6441 hv6441 => ?_)
              refine qr_istore _ 72 rfl (by decide) rfl rfl ?_
              refine qr_iload 74 rfl (qm_ge _ _ _) rfl ?_
              refine qr_istore _ 76 rfl (by decide) rfl rfl ?_
              have hL6566 : ∀ (n : Nat) (ls : qm_L) (u6556 u6558 u6562 : Int), u6562 + 1 < (n : Int) → qm_get ls 0 = some (.ref 86) → qm_get ls 4 = some (.int (qz x3)) → qm_get ls 5 = some (.int (qz (v29 - 1))) → qm_get ls 6 = some (.int (qz u6556)) → qm_get ls 7 = some (.int (qz u6558)) → qm_get ls 8 = some (.int (qz u6431)) → qm_get ls 9 = some (.int (qz v6441)) → qm_get ls 10 = some (.int (qz u6562)) → (0 ≤ u6556 ∧ u6556 ≤ 4095) → (0 ≤ u6558 ∧ u6558 ≤ 2147483647) → ((-1) ≤ u6562 ∧ u6562 ≤ 4095) → qr_W (qe L xs vb) (d + 49) qx_e238 (fun r w' => ∃ σ' α', w' = qw σ' α' κ ρ ∧ qI σ' α' κ ρ ∧ qFr [(86, 15), (86, 23), (86, 30), (86, 35), (86, 36), (86, 37), (86, 38), (86, 39), (86, 41), (86, 43)] [96, 109, 110, 111, 112] σ α σ' α' ∧ σ' 86 41 = 0 ∧ ∃ v : Int, r = some (.long (ql v)) ∧ ((-9223372036854775808) ≤ v ∧ v ≤ 9223372036854775807)) (76, ls, [], qw σ23 α24 κ ρ, 0, 0) := by
                intro n
                induction n with
                | zero => intro ls u6556 u6558 u6562 hm g6552 g6553 g6554 g6555 g6557 g6559 g6560 g6561 hf6563 hf6564 hf6565; exact False.elim (by omega)
                | succ n ih6567 =>
                  intro ls u6556 u6558 u6562 hm g6552 g6553 g6554 g6555 g6557 g6559 g6560 g6561 hf6563 hf6564 hf6565
                  refine qr_aload_n 77 rfl g6552 rfl ?_
                  refine qr_get 80 rfl rfl rfl (by decide) rfl ?_
                  refine qr_iload 82 rfl g6559 rfl ?_
                  refine qr_iaload 83 rfl rfl (by omega) (by decide) rfl ?_
                  refine qr_topI (fun v6568 hv6568 => ?_)
                  have hs6569 : (-2147483648) ≤ v6568 ∧ v6568 ≤ 2147483647 := by rw [hv6568]; exact hI25.2.1 112 _ (show _ < 4096 by omega)
                  refine qr_if_lt 181 86 rfl rfl rfl hs6569 (fun h6570 => ?_) (fun h6570 => ?_)
                  · skip
                    refine qr_iinc _ 184 rfl g6559 (by decide) rfl rfl ?_
                    refine qr_goto 56 rfl rfl ?_
                    exact ih6436 _ u6556 u6558 (u6431 + 1) (by omega) (qm_gk g6552 (by decide) (Or.inl (by decide))) (qm_gk g6553 (by decide) (Or.inl (by decide))) (qm_gk g6554 (by decide) (Or.inl (by decide))) (qm_gk g6555 (by decide) (Or.inl (by decide))) (qm_gk g6557 (by decide) (Or.inr rfl)) (qm_ge _ _ _) hf6563 hf6564 (by omega)
                  · skip
                    refine qr_iload 88 rfl g6561 rfl ?_
                    refine qr_if_lt 181 91 rfl rfl rfl (qrg hf6565 (by decide) (by decide)) (fun h6571 => ?_) (fun h6571 => ?_)
                    · skip
                      refine qr_iinc _ 184 rfl g6559 (by decide) rfl rfl ?_
                      refine qr_goto 56 rfl rfl ?_
                      exact ih6436 _ u6556 u6558 (u6431 + 1) (by omega) (qm_gk g6552 (by decide) (Or.inl (by decide))) (qm_gk g6553 (by decide) (Or.inl (by decide))) (qm_gk g6554 (by decide) (Or.inl (by decide))) (qm_gk g6555 (by decide) (Or.inl (by decide))) (qm_gk g6557 (by decide) (Or.inr rfl)) (qm_ge _ _ _) hf6563 hf6564 (by omega)
                    · skip
                      refine qr_aload_n 92 rfl g6552 rfl ?_
                      refine qr_get 95 rfl rfl rfl (by decide) rfl ?_
                      refine qr_iload 97 rfl g6561 rfl ?_
                      refine qr_iaload 98 rfl rfl (by omega) (by decide) rfl ?_
                      refine qr_topI (fun v6572 hv6572 => ?_)
                      have hs6573 : (-2147483648) ≤ v6572 ∧ v6572 ≤ 2147483647 := by rw [hv6572]; exact hI25.2.1 112 _ (show _ < 4096 from qrgt hf6565 (by decide) (by decide))
                      refine qr_if_ge 104 101 rfl rfl rfl hs6573 (fun h6574 => ?_) (fun h6574 => ?_)
                      · skip
                        refine qr_aload_n 105 rfl g6552 rfl ?_
                        refine qr_get 108 rfl rfl rfl (by decide) rfl ?_
                        refine qr_iload 110 rfl g6559 rfl ?_
                        refine qr_iaload 111 rfl rfl (by omega) (by decide) rfl ?_
                        refine qr_topI (fun v6575 hv6575 => ?_)
                        have hs6576 : (-2147483648) ≤ v6575 ∧ v6575 ≤ 2147483647 := by rw [hv6575]; exact hI25.2.1 112 _ (show _ < 4096 by omega)
                        refine qr_aload_n 112 rfl g6552 rfl ?_
                        refine qr_get 115 rfl rfl rfl (by decide) rfl ?_
                        refine qr_iload 117 rfl g6561 rfl ?_
                        refine qr_iaload 118 rfl rfl (by omega) (by decide) rfl ?_
                        refine qr_topI (fun v6577 hv6577 => ?_)
                        have hs6578 : (-2147483648) ≤ v6577 ∧ v6577 ≤ 2147483647 := by rw [hv6577]; exact hI25.2.1 112 _ (show _ < 4096 from qrgt hf6565 (by decide) (by decide))
                        refine qr_iadd 119 rfl rfl ?_
                        refine qy_can (fun v6579 hv6579 => ?_)
                        refine qr_istore _ 121 rfl (by decide) rfl rfl ?_
                        refine qr_iload 123 rfl (qm_ge _ _ _) rfl ?_
                        refine qr_iload 125 rfl (qm_gk g6557 (by decide) (Or.inl (by decide))) rfl ?_
                        refine qr_icmp_gt 152 128 rfl rfl rfl hv6579 (qrg hf6564 (by decide) (by decide)) (fun h6580 => ?_) (fun h6580 => ?_)
                        · skip
                          refine qr_iload 154 rfl (qm_gk g6559 (by decide) (Or.inl (by decide))) rfl ?_
                          refine qr_istore _ 156 rfl (by decide) rfl rfl ?_
                          refine qr_iload 158 rfl (qm_gk (qm_ge _ _ _) (by decide) (Or.inl (by decide))) rfl ?_
                          refine qr_istore _ 160 rfl (by decide) rfl rfl ?_
                          refine qr_iload 162 rfl (qm_gk (qm_gk (qm_gk g6561 (by decide) (Or.inr rfl)) (by decide) (Or.inl (by decide))) (by decide) (Or.inl (by decide))) rfl ?_
                          refine qr_if_ne 169 165 rfl rfl rfl (qrg hf6565 (by decide) (by decide)) (fun h6581 => ?_) (fun h6581 => ?_)
                          · skip
                            refine qr_iload 171 rfl (qm_gk (qm_gk (qm_gk g6561 (by decide) (Or.inr rfl)) (by decide) (Or.inl (by decide))) (by decide) (Or.inl (by decide))) rfl ?_
                            refine qr_iconst 172 rfl rfl ?_
                            refine qr_isub 173 rfl rfl ?_
                            refine qr_iload 175 rfl (qm_gk (qm_gk (qm_gk g6560 (by decide) (Or.inl (by decide))) (by decide) (Or.inl (by decide))) (by decide) (Or.inl (by decide))) rfl ?_
                            refine qr_iand 176 rfl rfl ?_
                            refine qy_andl (by omega) (fun v6582 hv6582 => ?_)
                            refine qr_istore _ 178 rfl (by decide) rfl rfl ?_
                            refine qr_goto 76 rfl rfl ?_
                            exact ih6567 _ u6431 v6579 v6582 (by omega) (qm_gk (qm_gk (qm_gk (qm_gk g6552 (by decide) (Or.inl (by decide))) (by decide) (Or.inl (by decide))) (by decide) (Or.inl (by decide))) (by decide) (Or.inl (by decide))) (qm_gk (qm_gk (qm_gk (qm_gk g6553 (by decide) (Or.inl (by decide))) (by decide) (Or.inl (by decide))) (by decide) (Or.inl (by decide))) (by decide) (Or.inl (by decide))) (qm_gk (qm_gk (qm_gk (qm_gk g6554 (by decide) (Or.inl (by decide))) (by decide) (Or.inr rfl)) (by decide) (Or.inl (by decide))) (by decide) (Or.inl (by decide))) (qm_gk (qm_gk (qm_ge _ _ _) (by decide) (Or.inr rfl)) (by decide) (Or.inl (by decide))) (qm_gk (qm_ge _ _ _) (by decide) (Or.inl (by decide))) (qm_gk (qm_gk (qm_gk (qm_gk g6559 (by decide) (Or.inl (by decide))) (by decide) (Or.inl (by decide))) (by decide) (Or.inl (by decide))) (by decide) (Or.inl (by decide))) (qm_gk (qm_gk (qm_gk (qm_gk g6560 (by decide) (Or.inl (by decide))) (by decide) (Or.inl (by decide))) (by decide) (Or.inl (by decide))) (by decide) (Or.inr rfl)) (qm_ge _ _ _) (by omega) (by omega) (by omega)
                          · skip
                            refine qr_iconst 166 rfl rfl ?_
                            refine qr_goto 176 rfl rfl ?_
                            refine qr_istore _ 178 rfl (by decide) rfl rfl ?_
                            refine qr_goto 76 rfl rfl ?_
                            exact ih6567 _ u6431 v6579 (-1) (by omega) (qm_gk (qm_gk (qm_gk (qm_gk g6552 (by decide) (Or.inl (by decide))) (by decide) (Or.inl (by decide))) (by decide) (Or.inl (by decide))) (by decide) (Or.inl (by decide))) (qm_gk (qm_gk (qm_gk (qm_gk g6553 (by decide) (Or.inl (by decide))) (by decide) (Or.inl (by decide))) (by decide) (Or.inl (by decide))) (by decide) (Or.inl (by decide))) (qm_gk (qm_gk (qm_gk (qm_gk g6554 (by decide) (Or.inl (by decide))) (by decide) (Or.inr rfl)) (by decide) (Or.inl (by decide))) (by decide) (Or.inl (by decide))) (qm_gk (qm_gk (qm_ge _ _ _) (by decide) (Or.inr rfl)) (by decide) (Or.inl (by decide))) (qm_gk (qm_ge _ _ _) (by decide) (Or.inl (by decide))) (qm_gk (qm_gk (qm_gk (qm_gk g6559 (by decide) (Or.inl (by decide))) (by decide) (Or.inl (by decide))) (by decide) (Or.inl (by decide))) (by decide) (Or.inl (by decide))) (qm_gk (qm_gk (qm_gk (qm_gk g6560 (by decide) (Or.inl (by decide))) (by decide) (Or.inl (by decide))) (by decide) (Or.inl (by decide))) (by decide) (Or.inr rfl)) (qm_ge _ _ _) (by omega) (by omega) (by decide)
                        · skip
                          refine qr_iload 130 rfl (qm_ge _ _ _) rfl ?_
                          refine qr_iload 132 rfl (qm_gk g6557 (by decide) (Or.inl (by decide))) rfl ?_
                          refine qr_icmp_ne 160 135 rfl rfl rfl hv6579 (qrg hf6564 (by decide) (by decide)) (fun h6583 => ?_) (fun h6583 => ?_)
                          · skip
                            refine qr_iload 162 rfl (qm_gk g6561 (by decide) (Or.inr rfl)) rfl ?_
                            refine qr_if_ne 169 165 rfl rfl rfl (qrg hf6565 (by decide) (by decide)) (fun h6584 => ?_) (fun h6584 => ?_)
                            · skip
                              refine qr_iload 171 rfl (qm_gk g6561 (by decide) (Or.inr rfl)) rfl ?_
                              refine qr_iconst 172 rfl rfl ?_
                              refine qr_isub 173 rfl rfl ?_
                              refine qr_iload 175 rfl (qm_gk g6560 (by decide) (Or.inl (by decide))) rfl ?_
                              refine qr_iand 176 rfl rfl ?_
                              refine qy_andl (by omega) (fun v6585 hv6585 => ?_)
                              refine qr_istore _ 178 rfl (by decide) rfl rfl ?_
                              refine qr_goto 76 rfl rfl ?_
                              exact ih6567 _ u6556 u6558 v6585 (by omega) (qm_gk (qm_gk g6552 (by decide) (Or.inl (by decide))) (by decide) (Or.inl (by decide))) (qm_gk (qm_gk g6553 (by decide) (Or.inl (by decide))) (by decide) (Or.inl (by decide))) (qm_gk (qm_gk g6554 (by decide) (Or.inl (by decide))) (by decide) (Or.inl (by decide))) (qm_gk (qm_gk g6555 (by decide) (Or.inl (by decide))) (by decide) (Or.inl (by decide))) (qm_gk (qm_gk g6557 (by decide) (Or.inl (by decide))) (by decide) (Or.inl (by decide))) (qm_gk (qm_gk g6559 (by decide) (Or.inl (by decide))) (by decide) (Or.inl (by decide))) (qm_gk (qm_gk g6560 (by decide) (Or.inl (by decide))) (by decide) (Or.inr rfl)) (qm_ge _ _ _) hf6563 hf6564 (by omega)
                            · skip
                              refine qr_iconst 166 rfl rfl ?_
                              refine qr_goto 176 rfl rfl ?_
                              refine qr_istore _ 178 rfl (by decide) rfl rfl ?_
                              refine qr_goto 76 rfl rfl ?_
                              exact ih6567 _ u6556 u6558 (-1) (by omega) (qm_gk (qm_gk g6552 (by decide) (Or.inl (by decide))) (by decide) (Or.inl (by decide))) (qm_gk (qm_gk g6553 (by decide) (Or.inl (by decide))) (by decide) (Or.inl (by decide))) (qm_gk (qm_gk g6554 (by decide) (Or.inl (by decide))) (by decide) (Or.inl (by decide))) (qm_gk (qm_gk g6555 (by decide) (Or.inl (by decide))) (by decide) (Or.inl (by decide))) (qm_gk (qm_gk g6557 (by decide) (Or.inl (by decide))) (by decide) (Or.inl (by decide))) (qm_gk (qm_gk g6559 (by decide) (Or.inl (by decide))) (by decide) (Or.inl (by decide))) (qm_gk (qm_gk g6560 (by decide) (Or.inl (by decide))) (by decide) (Or.inr rfl)) (qm_ge _ _ _) hf6563 hf6564 (by decide)
                          · skip
                            refine qr_aload_n 136 rfl (qm_gk g6552 (by decide) (Or.inl (by decide))) rfl ?_
                            refine qr_get 139 rfl rfl rfl (by decide) rfl ?_
                            refine qr_iload 141 rfl (qm_gk g6559 (by decide) (Or.inl (by decide))) rfl ?_
                            refine qr_iaload 142 rfl rfl (by omega) (by decide) rfl ?_
                            refine qr_topI (fun v6586 hv6586 => ?_)
                            have hs6587 : (-2147483648) ≤ v6586 ∧ v6586 ≤ 2147483647 := by rw [hv6586]; exact hI25.2.1 112 _ (show _ < 4096 by omega)
                            refine qr_aload_n 143 rfl (qm_gk g6552 (by decide) (Or.inl (by decide))) rfl ?_
                            refine qr_get 146 rfl rfl rfl (by decide) rfl ?_
                            refine qr_iload 148 rfl (qm_gk g6555 (by decide) (Or.inl (by decide))) rfl ?_
                            refine qr_iaload 149 rfl rfl (qrgi hf6563 (by decide) (by decide)) (by decide) rfl ?_
                            refine qr_topI (fun v6588 hv6588 => ?_)
                            have hs6589 : (-2147483648) ≤ v6588 ∧ v6588 ≤ 2147483647 := by rw [hv6588]; exact hI25.2.1 112 _ (show _ < 4096 from qrgt hf6563 (by decide) (by decide))
                            refine qr_icmp_le 160 152 rfl rfl rfl hs6587 hs6589 (fun h6590 => ?_) (fun h6590 => ?_)
                            · skip
                              refine qr_iload 162 rfl (qm_gk g6561 (by decide) (Or.inr rfl)) rfl ?_
                              refine qr_if_ne 169 165 rfl rfl rfl (qrg hf6565 (by decide) (by decide)) (fun h6591 => ?_) (fun h6591 => ?_)
                              · skip
                                refine qr_iload 171 rfl (qm_gk g6561 (by decide) (Or.inr rfl)) rfl ?_
                                refine qr_iconst 172 rfl rfl ?_
                                refine qr_isub 173 rfl rfl ?_
                                refine qr_iload 175 rfl (qm_gk g6560 (by decide) (Or.inl (by decide))) rfl ?_
                                refine qr_iand 176 rfl rfl ?_
                                refine qy_andl (by omega) (fun v6592 hv6592 => ?_)
                                refine qr_istore _ 178 rfl (by decide) rfl rfl ?_
                                refine qr_goto 76 rfl rfl ?_
                                exact ih6567 _ u6556 u6558 v6592 (by omega) (qm_gk (qm_gk g6552 (by decide) (Or.inl (by decide))) (by decide) (Or.inl (by decide))) (qm_gk (qm_gk g6553 (by decide) (Or.inl (by decide))) (by decide) (Or.inl (by decide))) (qm_gk (qm_gk g6554 (by decide) (Or.inl (by decide))) (by decide) (Or.inl (by decide))) (qm_gk (qm_gk g6555 (by decide) (Or.inl (by decide))) (by decide) (Or.inl (by decide))) (qm_gk (qm_gk g6557 (by decide) (Or.inl (by decide))) (by decide) (Or.inl (by decide))) (qm_gk (qm_gk g6559 (by decide) (Or.inl (by decide))) (by decide) (Or.inl (by decide))) (qm_gk (qm_gk g6560 (by decide) (Or.inl (by decide))) (by decide) (Or.inr rfl)) (qm_ge _ _ _) hf6563 hf6564 (by omega)
                              · skip
                                refine qr_iconst 166 rfl rfl ?_
                                refine qr_goto 176 rfl rfl ?_
                                refine qr_istore _ 178 rfl (by decide) rfl rfl ?_
                                refine qr_goto 76 rfl rfl ?_
                                exact ih6567 _ u6556 u6558 (-1) (by omega) (qm_gk (qm_gk g6552 (by decide) (Or.inl (by decide))) (by decide) (Or.inl (by decide))) (qm_gk (qm_gk g6553 (by decide) (Or.inl (by decide))) (by decide) (Or.inl (by decide))) (qm_gk (qm_gk g6554 (by decide) (Or.inl (by decide))) (by decide) (Or.inl (by decide))) (qm_gk (qm_gk g6555 (by decide) (Or.inl (by decide))) (by decide) (Or.inl (by decide))) (qm_gk (qm_gk g6557 (by decide) (Or.inl (by decide))) (by decide) (Or.inl (by decide))) (qm_gk (qm_gk g6559 (by decide) (Or.inl (by decide))) (by decide) (Or.inl (by decide))) (qm_gk (qm_gk g6560 (by decide) (Or.inl (by decide))) (by decide) (Or.inr rfl)) (qm_ge _ _ _) hf6563 hf6564 (by decide)
                            · skip
                              refine qr_iload 154 rfl (qm_gk g6559 (by decide) (Or.inl (by decide))) rfl ?_
                              refine qr_istore _ 156 rfl (by decide) rfl rfl ?_
                              refine qr_iload 158 rfl (qm_gk (qm_ge _ _ _) (by decide) (Or.inl (by decide))) rfl ?_
                              refine qr_istore _ 160 rfl (by decide) rfl rfl ?_
                              refine qr_iload 162 rfl (qm_gk (qm_gk (qm_gk g6561 (by decide) (Or.inr rfl)) (by decide) (Or.inl (by decide))) (by decide) (Or.inl (by decide))) rfl ?_
                              refine qr_if_ne 169 165 rfl rfl rfl (qrg hf6565 (by decide) (by decide)) (fun h6593 => ?_) (fun h6593 => ?_)
                              · skip
                                refine qr_iload 171 rfl (qm_gk (qm_gk (qm_gk g6561 (by decide) (Or.inr rfl)) (by decide) (Or.inl (by decide))) (by decide) (Or.inl (by decide))) rfl ?_
                                refine qr_iconst 172 rfl rfl ?_
                                refine qr_isub 173 rfl rfl ?_
                                refine qr_iload 175 rfl (qm_gk (qm_gk (qm_gk g6560 (by decide) (Or.inl (by decide))) (by decide) (Or.inl (by decide))) (by decide) (Or.inl (by decide))) rfl ?_
                                refine qr_iand 176 rfl rfl ?_
                                refine qy_andl (by omega) (fun v6594 hv6594 => ?_)
                                refine qr_istore _ 178 rfl (by decide) rfl rfl ?_
                                refine qr_goto 76 rfl rfl ?_
                                exact ih6567 _ u6431 v6579 v6594 (by omega) (qm_gk (qm_gk (qm_gk (qm_gk g6552 (by decide) (Or.inl (by decide))) (by decide) (Or.inl (by decide))) (by decide) (Or.inl (by decide))) (by decide) (Or.inl (by decide))) (qm_gk (qm_gk (qm_gk (qm_gk g6553 (by decide) (Or.inl (by decide))) (by decide) (Or.inl (by decide))) (by decide) (Or.inl (by decide))) (by decide) (Or.inl (by decide))) (qm_gk (qm_gk (qm_gk (qm_gk g6554 (by decide) (Or.inl (by decide))) (by decide) (Or.inr rfl)) (by decide) (Or.inl (by decide))) (by decide) (Or.inl (by decide))) (qm_gk (qm_gk (qm_ge _ _ _) (by decide) (Or.inr rfl)) (by decide) (Or.inl (by decide))) (qm_gk (qm_ge _ _ _) (by decide) (Or.inl (by decide))) (qm_gk (qm_gk (qm_gk (qm_gk g6559 (by decide) (Or.inl (by decide))) (by decide) (Or.inl (by decide))) (by decide) (Or.inl (by decide))) (by decide) (Or.inl (by decide))) (qm_gk (qm_gk (qm_gk (qm_gk g6560 (by decide) (Or.inl (by decide))) (by decide) (Or.inl (by decide))) (by decide) (Or.inl (by decide))) (by decide) (Or.inr rfl)) (qm_ge _ _ _) (by omega) (by omega) (by omega)
                              · skip
                                refine qr_iconst 166 rfl rfl ?_
                                refine qr_goto 176 rfl rfl ?_
                                refine qr_istore _ 178 rfl (by decide) rfl rfl ?_
                                refine qr_goto 76 rfl rfl ?_
                                exact ih6567 _ u6431 v6579 (-1) (by omega) (qm_gk (qm_gk (qm_gk (qm_gk g6552 (by decide) (Or.inl (by decide))) (by decide) (Or.inl (by decide))) (by decide) (Or.inl (by decide))) (by decide) (Or.inl (by decide))) (qm_gk (qm_gk (qm_gk (qm_gk g6553 (by decide) (Or.inl (by decide))) (by decide) (Or.inl (by decide))) (by decide) (Or.inl (by decide))) (by decide) (Or.inl (by decide))) (qm_gk (qm_gk (qm_gk (qm_gk g6554 (by decide) (Or.inl (by decide))) (by decide) (Or.inr rfl)) (by decide) (Or.inl (by decide))) (by decide) (Or.inl (by decide))) (qm_gk (qm_gk (qm_ge _ _ _) (by decide) (Or.inr rfl)) (by decide) (Or.inl (by decide))) (qm_gk (qm_ge _ _ _) (by decide) (Or.inl (by decide))) (qm_gk (qm_gk (qm_gk (qm_gk g6559 (by decide) (Or.inl (by decide))) (by decide) (Or.inl (by decide))) (by decide) (Or.inl (by decide))) (by decide) (Or.inl (by decide))) (qm_gk (qm_gk (qm_gk (qm_gk g6560 (by decide) (Or.inl (by decide))) (by decide) (Or.inl (by decide))) (by decide) (Or.inl (by decide))) (by decide) (Or.inr rfl)) (qm_ge _ _ _) (by omega) (by omega) (by decide)
                      · skip
                        refine qr_goto 160 rfl rfl ?_
                        refine qr_iload 162 rfl g6561 rfl ?_
                        refine qr_if_ne 169 165 rfl rfl rfl (qrg hf6565 (by decide) (by decide)) (fun h6595 => ?_) (fun h6595 => ?_)
                        · skip
                          refine qr_iload 171 rfl g6561 rfl ?_
                          refine qr_iconst 172 rfl rfl ?_
                          refine qr_isub 173 rfl rfl ?_
                          refine qr_iload 175 rfl g6560 rfl ?_
                          refine qr_iand 176 rfl rfl ?_
                          refine qy_andl (by omega) (fun v6596 hv6596 => ?_)
                          refine qr_istore _ 178 rfl (by decide) rfl rfl ?_
                          refine qr_goto 76 rfl rfl ?_
                          exact ih6567 _ u6556 u6558 v6596 (by omega) (qm_gk g6552 (by decide) (Or.inl (by decide))) (qm_gk g6553 (by decide) (Or.inl (by decide))) (qm_gk g6554 (by decide) (Or.inl (by decide))) (qm_gk g6555 (by decide) (Or.inl (by decide))) (qm_gk g6557 (by decide) (Or.inl (by decide))) (qm_gk g6559 (by decide) (Or.inl (by decide))) (qm_gk g6560 (by decide) (Or.inr rfl)) (qm_ge _ _ _) hf6563 hf6564 (by omega)
                        · skip
                          refine qr_iconst 166 rfl rfl ?_
                          refine qr_goto 176 rfl rfl ?_
                          refine qr_istore _ 178 rfl (by decide) rfl rfl ?_
                          refine qr_goto 76 rfl rfl ?_
                          exact ih6567 _ u6556 u6558 (-1) (by omega) (qm_gk g6552 (by decide) (Or.inl (by decide))) (qm_gk g6553 (by decide) (Or.inl (by decide))) (qm_gk g6554 (by decide) (Or.inl (by decide))) (qm_gk g6555 (by decide) (Or.inl (by decide))) (qm_gk g6557 (by decide) (Or.inl (by decide))) (qm_gk g6559 (by decide) (Or.inl (by decide))) (qm_gk g6560 (by decide) (Or.inr rfl)) (qm_ge _ _ _) hf6563 hf6564 (by decide)
              exact hL6566 ((v6441 + 1 + 1 : Int)).toNat _ u6427 u6429 v6441 (by omega) (qm_gk (qm_gk g6423 (by decide) (Or.inl (by decide))) (by decide) (Or.inl (by decide))) (qm_gk (qm_gk g6424 (by decide) (Or.inl (by decide))) (by decide) (Or.inl (by decide))) (qm_gk (qm_gk g6425 (by decide) (Or.inl (by decide))) (by decide) (Or.inl (by decide))) (qm_gk (qm_gk g6426 (by decide) (Or.inl (by decide))) (by decide) (Or.inl (by decide))) (qm_gk (qm_gk g6428 (by decide) (Or.inl (by decide))) (by decide) (Or.inl (by decide))) (qm_gk (qm_gk g6430 (by decide) (Or.inr rfl)) (by decide) (Or.inl (by decide))) (qm_gk (qm_ge _ _ _) (by decide) (Or.inr rfl)) (qm_ge _ _ _) hf6432 hf6433 (by omega)
        exact hL6435 ((4096 - 0 + 1 : Int)).toNat _ 0 0 0 (by omega) rfl rfl rfl rfl rfl rfl (by decide) (by decide) (by decide)
      · skip
        refine qr_ldc2 (-1) 31 rfl (by decide) rfl ?_
        refine qr_retL rfl rfl (by decide) (by decide) ?_
        exact ⟨_, _, rfl, hI12, hF14, (by have hw : σ10 86 41 = (σ 86 41) := (hG13.1 86 41 (by decide)).trans rfl; omega), (-1), rfl, (by decide)⟩
end
section
/-! swords behind each call -/
theorem rs_same {σ1 α1 σ2 α2 : Nat → Nat → Int} (hy : α2 87 = α1 87 ∧ α2 88 = α1 88 ∧ α2 89 = α1 89 ∧ α2 90 = α1 90 ∧ σ2 86 5 = σ1 86 5 ∧ σ2 86 4 = σ1 86 4) (h : qRS σ1 α1) : qRS σ2 α2 := by
  unfold qRS
  rw [hy.1, hy.2.1, hy.2.2.1, hy.2.2.2.1, hy.2.2.2.2.1, hy.2.2.2.2.2]
  exact h
theorem rs_ch {σ1 α1 σ2 α2 : Nat → Nat → Int} {a w : Int} (hy : α2 87 = (qbec (α1 87, α1 88, α1 89, α1 90, σ1 86 5, σ1 86 4) a w).1 ∧ α2 88 = (qbec (α1 87, α1 88, α1 89, α1 90, σ1 86 5, σ1 86 4) a w).2.1 ∧ α2 89 = (qbec (α1 87, α1 88, α1 89, α1 90, σ1 86 5, σ1 86 4) a w).2.2.1 ∧ α2 90 = (qbec (α1 87, α1 88, α1 89, α1 90, σ1 86 5, σ1 86 4) a w).2.2.2.1 ∧ σ2 86 5 = (qbec (α1 87, α1 88, α1 89, α1 90, σ1 86 5, σ1 86 4) a w).2.2.2.2.1 ∧ σ2 86 4 = (qbec (α1 87, α1 88, α1 89, α1 90, σ1 86 5, σ1 86 4) a w).2.2.2.2.2) (hd : 0 ≤ σ1 86 5 ∧ σ1 86 5 ≤ σ1 86 4) (hv : a < 32 → 0 ≤ w ∧ w ≤ 1) (h : qRS σ1 α1) : qRS σ2 α2 := by
  have e := qdd_tup hy
  unfold qRS
  rw [e]
  exact qSW_bec hd hv h

set_option maxHeartbeats 4000000 in
theorem rs_person {σ1 α1 σ2 α2 : Nat → Nat → Int} {κ : Nat → Option Nat} {ρ : Nat} {x1 x2 x3 v2 : Int}  (hI : qI σ1 α1 κ ρ) (hd : 0 ≤ σ1 86 5 ∧ σ1 86 5 ≤ σ1 86 4 ∧ σ1 86 4 ≤ 40) (hG2 : qFr [(86, 6), (86, 15)] [87, 91, 92] σ1 α1 σ2 α2) (hy0 : ((v2 = -1 ∧ ¬ ((x1 = -1 ∨ (0 ≤ x1 ∧ x1 < σ1 86 6)) ∧ 1 ≤ x2 ∧ x2 ≤ 99 ∧ (x3 = 0 ∨ x3 = 1)) ∧ σ2 86 6 = σ1 86 6 ∧ (α2 91, α2 92, α2 87) = (α1 91, α1 92, α1 87)) ∨ (v2 = -3 ∧ ((x1 = -1 ∨ (0 ≤ x1 ∧ x1 < σ1 86 6)) ∧ 1 ≤ x2 ∧ x2 ≤ 99 ∧ (x3 = 0 ∨ x3 = 1)) ∧ 32 ≤ σ1 86 6 ∧ σ2 86 6 = σ1 86 6 ∧ (α2 91, α2 92, α2 87) = (α1 91, α1 92, α1 87)) ∨ (v2 = σ1 86 6 ∧ ((x1 = -1 ∨ (0 ≤ x1 ∧ x1 < σ1 86 6)) ∧ 1 ≤ x2 ∧ x2 ≤ 99 ∧ (x3 = 0 ∨ x3 = 1)) ∧ σ1 86 6 < 32 ∧ σ2 86 6 = σ1 86 6 + 1 ∧ (α2 91, α2 92, α2 87) = qstm (α1 91, α1 92, α1 87) (σ1 86 6) x1 x2 x3))) (h : qRS σ1 α1) : qRS σ2 α2 := by
  have b6 : 0 ≤ σ1 86 6 ∧ σ1 86 6 ≤ 32 := hI.1 86 6
  have b16 : 0 ≤ σ1 86 16 ∧ σ1 86 16 ≤ 40 := hI.1 86 16
  have b24 : 0 ≤ σ1 86 24 ∧ σ1 86 24 ≤ 60 := hI.1 86 24
  have f88 := hG2.2 88 (by decide)
  have f89 := hG2.2 89 (by decide)
  have f90 := hG2.2 90 (by decide)
  have f5 := hG2.1 86 5 (by decide)
  have f4 := hG2.1 86 4 (by decide)
  have same : α2 87 = α1 87 → qRS σ2 α2 := fun e => by
    unfold qRS
    rw [e, f88, f89, f90, f5, f4]
    exact h
  rcases hy0 with ⟨y1, y2, y3, y4⟩ | ⟨y1, y2, y3, y4, y5⟩ | ⟨y1, y2, y3, y4, y5⟩
  · exact same (congrArg (fun t => t.2.2) y4)
  · exact same (congrArg (fun t => t.2.2) y5)
  · have e : α2 87 = qzu (α1 87) (σ1 86 6 : Int).toNat x3 := congrArg (fun t => t.2.2) y5
    unfold qRS
    rw [e, f88, f89, f90, f5, f4]
    exact qSW_new (fun _ => by omega) h

set_option maxHeartbeats 4000000 in
theorem rs_people {σ1 α1 σ2 α2 : Nat → Nat → Int} {κ : Nat → Option Nat} {ρ : Nat} {x1 x2 x3 v2 : Int}  (hI : qI σ1 α1 κ ρ) (hd : 0 ≤ σ1 86 5 ∧ σ1 86 5 ≤ σ1 86 4 ∧ σ1 86 4 ≤ 40) (hG2 : qFr [(86, 6), (86, 15)] [87, 91, 92] σ1 α1 σ2 α2) (hy0 : ((v2 = -1 ∧ ¬ (0 ≤ x1 ∧ x1 ≤ 5 ∧ 1 ≤ x3 ∧ x3 ≤ 20) ∧ σ2 86 6 = σ1 86 6 ∧ (α2 91, α2 92, α2 87) = (α1 91, α1 92, α1 87)) ∨ (v2 = 0 ∧ (0 ≤ x1 ∧ x1 ≤ 5 ∧ 1 ≤ x3 ∧ x3 ≤ 20) ∧ α1 121 (x1 : Int).toNat < 0 ∧ σ2 86 6 = σ1 86 6 ∧ (α2 91, α2 92, α2 87) = (α1 91, α1 92, α1 87)) ∨ (v2 = -12 ∧ (0 ≤ x1 ∧ x1 ≤ 5 ∧ 1 ≤ x3 ∧ x3 ≤ 20) ∧ (0 ≤ α1 121 (x1 : Int).toNat ∧ ¬ α1 121 (x1 : Int).toNat = 60) ∧ σ2 86 6 = σ1 86 6 ∧ (α2 91, α2 92, α2 87) = (α1 91, α1 92, α1 87)) ∨ ((0 ≤ x1 ∧ x1 ≤ 5 ∧ 1 ≤ x3 ∧ x3 ≤ 20) ∧ α1 121 (x1 : Int).toNat = 60 ∧ (v2, σ2 86 6, (α2 91, α2 92, α2 87)) = qps qstm (α1 123) (60 * x1) (α1 122 (x1 : Int).toNat) x2 (x3 : Int).toNat 0 (σ1 86 6) (α1 91, α1 92, α1 87)))) (h : qRS σ1 α1) : qRS σ2 α2 := by
  have b6 : 0 ≤ σ1 86 6 ∧ σ1 86 6 ≤ 32 := hI.1 86 6
  have b16 : 0 ≤ σ1 86 16 ∧ σ1 86 16 ≤ 40 := hI.1 86 16
  have b24 : 0 ≤ σ1 86 24 ∧ σ1 86 24 ≤ 60 := hI.1 86 24
  have f88 := hG2.2 88 (by decide)
  have f89 := hG2.2 89 (by decide)
  have f90 := hG2.2 90 (by decide)
  have f5 := hG2.1 86 5 (by decide)
  have f4 := hG2.1 86 4 (by decide)
  have same : α2 87 = α1 87 → qRS σ2 α2 := fun e => by
    unfold qRS
    rw [e, f88, f89, f90, f5, f4]
    exact h
  rcases hy0 with ⟨y1, y2, y3, y4⟩ | ⟨y1, y2, y3, y4, y5⟩ | ⟨y1, y2, ⟨y3a, y3b⟩, y4, y5⟩ | ⟨y1, y2, y3⟩
  · exact same (congrArg (fun t => t.2.2) y4)
  · exact same (congrArg (fun t => t.2.2) y5)
  · exact same (congrArg (fun t => t.2.2) y5)
  · have hr := qps_rel (st := qstm) (st' := qstm) (R := fun _ t _ => qSW (t.2.2, α1 88, α1 89, α1 90, σ1 86 5, σ1 86 4)) (f := α1 123) (b := 60 * x1) (len := α1 122 (x1 : Int).toNat) (i := x2) (fun s t t' l w k k0 k1 k2 k3 => by
      show qSW (qzu t.2.2 s.toNat k, α1 88, α1 89, α1 90, σ1 86 5, σ1 86 4)
      exact qSW_new (fun _ => by unfold qfit at k2; omega) k3) (x3 : Int).toNat 0 (σ1 86 6) (α1 91, α1 92, α1 87) (α1 91, α1 92, α1 87) b6.1 h
    have e : α2 87 = (qps qstm (α1 123) (60 * x1) (α1 122 (x1 : Int).toNat) x2 (x3 : Int).toNat 0 (σ1 86 6) (α1 91, α1 92, α1 87)).2.2.2.2 := congrArg (fun t => t.2.2.2.2) y3
    unfold qRS
    rw [e, f88, f89, f90, f5, f4]
    exact hr.2.2

set_option maxHeartbeats 4000000 in
theorem rs_feud {σ1 α1 σ2 α2 : Nat → Nat → Int} {κ : Nat → Option Nat} {ρ : Nat} {x1 x2 x3 v2 : Int}  (hI : qI σ1 α1 κ ρ) (hd : 0 ≤ σ1 86 5 ∧ σ1 86 5 ≤ σ1 86 4 ∧ σ1 86 4 ≤ 40) (hG2 : qFr [(86, 16)] [87, 97, 98, 99, 100, 101] σ1 α1 σ2 α2) (hy0 : ((v2 = -1 ∧ ¬ (0 ≤ x1 ∧ x1 / 100 < σ1 86 6 ∧ x1 % 100 < σ1 86 6 ∧ ¬ x1 / 100 = x1 % 100 ∧ 0 ≤ x2 ∧ x2 ≤ 2399 ∧ 0 ≤ x3 ∧ x3 ≤ 3999) ∧ σ2 86 16 = σ1 86 16) ∧ α2 97 = α1 97 ∧ α2 98 = α1 98 ∧ α2 99 = α1 99 ∧ α2 100 = α1 100 ∧ α2 101 = α1 101 ∧ α2 87 = α1 87) ∨ ((v2 = -3 ∧ (0 ≤ x1 ∧ x1 / 100 < σ1 86 6 ∧ x1 % 100 < σ1 86 6 ∧ ¬ x1 / 100 = x1 % 100 ∧ 0 ≤ x2 ∧ x2 ≤ 2399 ∧ 0 ≤ x3 ∧ x3 ≤ 3999) ∧ 40 ≤ σ1 86 16 ∧ σ2 86 16 = σ1 86 16) ∧ α2 97 = α1 97 ∧ α2 98 = α1 98 ∧ α2 99 = α1 99 ∧ α2 100 = α1 100 ∧ α2 101 = α1 101 ∧ α2 87 = α1 87) ∨ ((v2 = σ1 86 16 ∧ (0 ≤ x1 ∧ x1 / 100 < σ1 86 6 ∧ x1 % 100 < σ1 86 6 ∧ ¬ x1 / 100 = x1 % 100 ∧ 0 ≤ x2 ∧ x2 ≤ 2399 ∧ 0 ≤ x3 ∧ x3 ≤ 3999) ∧ σ1 86 16 < 40 ∧ σ2 86 16 = σ1 86 16 + 1) ∧ α2 97 = qzu (α1 97) (σ1 86 16 : Int).toNat (x1 / 100) ∧ α2 98 = qzu (α1 98) (σ1 86 16 : Int).toNat (x1 % 100) ∧ α2 99 = qzu (α1 99) (σ1 86 16 : Int).toNat (x2) ∧ α2 100 = qzu (α1 100) (σ1 86 16 : Int).toNat (x3 / 1000) ∧ α2 101 = qzu (α1 101) (σ1 86 16 : Int).toNat (x3 % 1000) ∧ α2 87 = qzu (α1 87) (32 + σ1 86 16 : Int).toNat (2400))) (h : qRS σ1 α1) : qRS σ2 α2 := by
  have b6 : 0 ≤ σ1 86 6 ∧ σ1 86 6 ≤ 32 := hI.1 86 6
  have b16 : 0 ≤ σ1 86 16 ∧ σ1 86 16 ≤ 40 := hI.1 86 16
  have b24 : 0 ≤ σ1 86 24 ∧ σ1 86 24 ≤ 60 := hI.1 86 24
  have f88 := hG2.2 88 (by decide)
  have f89 := hG2.2 89 (by decide)
  have f90 := hG2.2 90 (by decide)
  have f5 := hG2.1 86 5 (by decide)
  have f4 := hG2.1 86 4 (by decide)
  have same : α2 87 = α1 87 → qRS σ2 α2 := fun e => by
    unfold qRS
    rw [e, f88, f89, f90, f5, f4]
    exact h
  rcases hy0 with ⟨⟨b1, b2, b3⟩, y97, y98, y99, y100, y101, y87⟩ | ⟨⟨b1, b2, b3, b4⟩, y97, y98, y99, y100, y101, y87⟩ | ⟨⟨b1, b2, b3, b4⟩, y97, y98, y99, y100, y101, y87⟩
  · exact same y87
  · exact same y87
  · unfold qRS
    rw [y87, f88, f89, f90, f5, f4]
    exact qSW_new (fun z => absurd z (by omega)) h

set_option maxHeartbeats 4000000 in
theorem rs_peace {σ1 α1 σ2 α2 : Nat → Nat → Int} {κ : Nat → Option Nat} {ρ : Nat} {x1 x2 x3 x4 v2 : Int}  (hI : qI σ1 α1 κ ρ) (hd : 0 ≤ σ1 86 5 ∧ σ1 86 5 ≤ σ1 86 4 ∧ σ1 86 4 ≤ 40) (hG2 : qFr [(86, 24)] [87, 102, 103, 104, 105] σ1 α1 σ2 α2) (hy0 : ((v2 = -1 ∧ ¬ (0 ≤ x1 ∧ x1 % 10 ≤ 5 ∧ x1 / 10 < σ1 86 6 ∧ 0 ≤ x2 ∧ x2 ≤ 4294967295 ∧ 0 ≤ x3 ∧ x3 / 10000 ≤ x3 % 10000 ∧ x3 % 10000 ≤ 2399 ∧ 0 ≤ x4 ∧ x4 ≤ 240) ∧ σ2 86 24 = σ1 86 24 ∧ α2 102 = α1 102 ∧ α2 103 = α1 103 ∧ α2 104 = α1 104 ∧ α2 105 = α1 105 ∧ α2 87 = α1 87) ∨ (v2 = -3 ∧ (0 ≤ x1 ∧ x1 % 10 ≤ 5 ∧ x1 / 10 < σ1 86 6 ∧ 0 ≤ x2 ∧ x2 ≤ 4294967295 ∧ 0 ≤ x3 ∧ x3 / 10000 ≤ x3 % 10000 ∧ x3 % 10000 ≤ 2399 ∧ 0 ≤ x4 ∧ x4 ≤ 240) ∧ 60 ≤ σ1 86 24 ∧ σ2 86 24 = σ1 86 24 ∧ α2 102 = α1 102 ∧ α2 103 = α1 103 ∧ α2 104 = α1 104 ∧ α2 105 = α1 105 ∧ α2 87 = α1 87) ∨ (v2 = σ1 86 24 ∧ (0 ≤ x1 ∧ x1 % 10 ≤ 5 ∧ x1 / 10 < σ1 86 6 ∧ 0 ≤ x2 ∧ x2 ≤ 4294967295 ∧ 0 ≤ x3 ∧ x3 / 10000 ≤ x3 % 10000 ∧ x3 % 10000 ≤ 2399 ∧ 0 ≤ x4 ∧ x4 ≤ 240) ∧ σ1 86 24 < 60 ∧ σ2 86 24 = σ1 86 24 + 1 ∧ α2 102 = qzu (α1 102) (σ1 86 24 : Int).toNat (x1 / 10) ∧ α2 103 = qzu (α1 103) (σ1 86 24 : Int).toNat (x3 / 10000) ∧ α2 104 = qzu (α1 104) (σ1 86 24 : Int).toNat (x3 % 10000) ∧ α2 105 = qzu (α1 105) (σ1 86 24 : Int).toNat x4 ∧ ∃ c1 c2 : Int, α2 87 = qzu (qzu (qzu (α1 87) (192 + σ1 86 24 : Int).toNat (x1 % 10)) (72 + 2 * σ1 86 24 : Int).toNat c1) (72 + 2 * σ1 86 24 + 1 : Int).toNat c2 ∧ ((-2147483648 ≤ c1 ∧ c1 ≤ 2147483647) ∧ (-2147483648 ≤ c2 ∧ c2 ≤ 2147483647)) ∧ ∀ j : Int, (0 ≤ j ∧ j < 16) → qbi c1 j = qbit x2 j ∧ qbi c2 j = qbit x2 (16 + j)))) (h : qRS σ1 α1) : qRS σ2 α2 := by
  have b6 : 0 ≤ σ1 86 6 ∧ σ1 86 6 ≤ 32 := hI.1 86 6
  have b16 : 0 ≤ σ1 86 16 ∧ σ1 86 16 ≤ 40 := hI.1 86 16
  have b24 : 0 ≤ σ1 86 24 ∧ σ1 86 24 ≤ 60 := hI.1 86 24
  have f88 := hG2.2 88 (by decide)
  have f89 := hG2.2 89 (by decide)
  have f90 := hG2.2 90 (by decide)
  have f5 := hG2.1 86 5 (by decide)
  have f4 := hG2.1 86 4 (by decide)
  have same : α2 87 = α1 87 → qRS σ2 α2 := fun e => by
    unfold qRS
    rw [e, f88, f89, f90, f5, f4]
    exact h
  rcases hy0 with ⟨b1, b2, b3, y102, y103, y104, y105, y87⟩ | ⟨b1, b2, b3, b4, y102, y103, y104, y105, y87⟩ | ⟨b1, b2, b3, b4, y102, y103, y104, y105, c1, c2, y87, yr, yc⟩
  · exact same y87
  · exact same y87
  · unfold qRS
    rw [y87, f88, f89, f90, f5, f4]
    exact qSW_new (fun z => absurd z (by omega)) (qSW_new (fun z => absurd z (by omega)) (qSW_new (fun z => absurd z (by omega)) h))

set_option maxHeartbeats 4000000 in
theorem rs_sword {σ1 α1 σ2 α2 : Nat → Nat → Int} {κ : Nat → Option Nat} {ρ : Nat} {x1 x2 v2 : Int}  (hI : qI σ1 α1 κ ρ) (hd : 0 ≤ σ1 86 5 ∧ σ1 86 5 ≤ σ1 86 4 ∧ σ1 86 4 ≤ 40) (hG2 : qFr [(86, 4), (86, 5)] [87, 88, 89, 90] σ1 α1 σ2 α2) (hy0 : ((v2 = -1 ∧ ¬ (0 ≤ x1 ∧ x1 < σ1 86 6 ∧ 0 ≤ x2 ∧ x2 ≤ 1) ∧ (α2 87 = α1 87 ∧ α2 88 = α1 88 ∧ α2 89 = α1 89 ∧ α2 90 = α1 90 ∧ σ2 86 5 = σ1 86 5 ∧ σ2 86 4 = σ1 86 4)) ∨ ((0 ≤ x1 ∧ x1 < σ1 86 6 ∧ 0 ≤ x2 ∧ x2 ≤ 1) ∧ v2 = α1 87 (0 + x1 : Int).toNat ∧ (α2 87 = (qbec (α1 87, α1 88, α1 89, α1 90, σ1 86 5, σ1 86 4) (0 + x1) x2).1 ∧ α2 88 = (qbec (α1 87, α1 88, α1 89, α1 90, σ1 86 5, σ1 86 4) (0 + x1) x2).2.1 ∧ α2 89 = (qbec (α1 87, α1 88, α1 89, α1 90, σ1 86 5, σ1 86 4) (0 + x1) x2).2.2.1 ∧ α2 90 = (qbec (α1 87, α1 88, α1 89, α1 90, σ1 86 5, σ1 86 4) (0 + x1) x2).2.2.2.1 ∧ σ2 86 5 = (qbec (α1 87, α1 88, α1 89, α1 90, σ1 86 5, σ1 86 4) (0 + x1) x2).2.2.2.2.1 ∧ σ2 86 4 = (qbec (α1 87, α1 88, α1 89, α1 90, σ1 86 5, σ1 86 4) (0 + x1) x2).2.2.2.2.2)))) (h : qRS σ1 α1) : qRS σ2 α2 := by
  have b6 : 0 ≤ σ1 86 6 ∧ σ1 86 6 ≤ 32 := hI.1 86 6
  have b16 : 0 ≤ σ1 86 16 ∧ σ1 86 16 ≤ 40 := hI.1 86 16
  have b24 : 0 ≤ σ1 86 24 ∧ σ1 86 24 ≤ 60 := hI.1 86 24
  rcases hy0 with ⟨b1, b2, b3⟩ | ⟨b1, b2, b3⟩
  · exact rs_same b3 h
  · exact rs_ch b3 ⟨hd.1, hd.2.1⟩ (fun _ => by omega) h

set_option maxHeartbeats 4000000 in
theorem rs_pay {σ1 α1 σ2 α2 : Nat → Nat → Int} {κ : Nat → Option Nat} {ρ : Nat} {x1 x2 v2 : Int}  (hI : qI σ1 α1 κ ρ) (hd : 0 ≤ σ1 86 5 ∧ σ1 86 5 ≤ σ1 86 4 ∧ σ1 86 4 ≤ 40) (hG2 : qFr [(86, 4), (86, 5)] [87, 88, 89, 90] σ1 α1 σ2 α2) (hy0 : ((v2 = -1 ∧ ¬ (0 ≤ x1 ∧ x1 < σ1 86 16 ∧ 0 ≤ x2 ∧ x2 ≤ 2400) ∧ (α2 87 = α1 87 ∧ α2 88 = α1 88 ∧ α2 89 = α1 89 ∧ α2 90 = α1 90 ∧ σ2 86 5 = σ1 86 5 ∧ σ2 86 4 = σ1 86 4)) ∨ ((0 ≤ x1 ∧ x1 < σ1 86 16 ∧ 0 ≤ x2 ∧ x2 ≤ 2400) ∧ v2 = α1 87 (32 + x1 : Int).toNat ∧ (α2 87 = (qbec (α1 87, α1 88, α1 89, α1 90, σ1 86 5, σ1 86 4) (32 + x1) x2).1 ∧ α2 88 = (qbec (α1 87, α1 88, α1 89, α1 90, σ1 86 5, σ1 86 4) (32 + x1) x2).2.1 ∧ α2 89 = (qbec (α1 87, α1 88, α1 89, α1 90, σ1 86 5, σ1 86 4) (32 + x1) x2).2.2.1 ∧ α2 90 = (qbec (α1 87, α1 88, α1 89, α1 90, σ1 86 5, σ1 86 4) (32 + x1) x2).2.2.2.1 ∧ σ2 86 5 = (qbec (α1 87, α1 88, α1 89, α1 90, σ1 86 5, σ1 86 4) (32 + x1) x2).2.2.2.2.1 ∧ σ2 86 4 = (qbec (α1 87, α1 88, α1 89, α1 90, σ1 86 5, σ1 86 4) (32 + x1) x2).2.2.2.2.2)))) (h : qRS σ1 α1) : qRS σ2 α2 := by
  have b6 : 0 ≤ σ1 86 6 ∧ σ1 86 6 ≤ 32 := hI.1 86 6
  have b16 : 0 ≤ σ1 86 16 ∧ σ1 86 16 ≤ 40 := hI.1 86 16
  have b24 : 0 ≤ σ1 86 24 ∧ σ1 86 24 ≤ 60 := hI.1 86 24
  rcases hy0 with ⟨b1, b2, b3⟩ | ⟨b1, b2, b3⟩
  · exact rs_same b3 h
  · exact rs_ch b3 ⟨hd.1, hd.2.1⟩ (fun z => absurd z (by omega)) h

set_option maxHeartbeats 4000000 in
theorem rs_cover {σ1 α1 σ2 α2 : Nat → Nat → Int} {κ : Nat → Option Nat} {ρ : Nat} {x1 x2 x3 v2 : Int}  (hI : qI σ1 α1 κ ρ) (hd : 0 ≤ σ1 86 5 ∧ σ1 86 5 ≤ σ1 86 4 ∧ σ1 86 4 ≤ 40) (hG2 : qFr [(86, 4), (86, 5)] [87, 88, 89, 90] σ1 α1 σ2 α2) (hy0 : ((v2 = -1 ∧ ¬ (0 ≤ x1 ∧ x1 < σ1 86 24 ∧ 0 ≤ x2 ∧ x2 < σ1 86 6 ∧ 0 ≤ x3 ∧ x3 ≤ 1) ∧ (α2 87 = α1 87 ∧ α2 88 = α1 88 ∧ α2 89 = α1 89 ∧ α2 90 = α1 90 ∧ σ2 86 5 = σ1 86 5 ∧ σ2 86 4 = σ1 86 4)) ∨ ((0 ≤ x1 ∧ x1 < σ1 86 24 ∧ 0 ≤ x2 ∧ x2 < σ1 86 6 ∧ 0 ≤ x3 ∧ x3 ≤ 1) ∧ v2 = qcw (α1 87) (x1 : Int).toNat x2 ∧ (α2 87 = (qbec (α1 87, α1 88, α1 89, α1 90, σ1 86 5, σ1 86 4) (72 + 2 * x1 + x2 / 16) (qcj (α1 87 (72 + 2 * x1 + x2 / 16).toNat) (x2 % 16) x3)).1 ∧ α2 88 = (qbec (α1 87, α1 88, α1 89, α1 90, σ1 86 5, σ1 86 4) (72 + 2 * x1 + x2 / 16) (qcj (α1 87 (72 + 2 * x1 + x2 / 16).toNat) (x2 % 16) x3)).2.1 ∧ α2 89 = (qbec (α1 87, α1 88, α1 89, α1 90, σ1 86 5, σ1 86 4) (72 + 2 * x1 + x2 / 16) (qcj (α1 87 (72 + 2 * x1 + x2 / 16).toNat) (x2 % 16) x3)).2.2.1 ∧ α2 90 = (qbec (α1 87, α1 88, α1 89, α1 90, σ1 86 5, σ1 86 4) (72 + 2 * x1 + x2 / 16) (qcj (α1 87 (72 + 2 * x1 + x2 / 16).toNat) (x2 % 16) x3)).2.2.2.1 ∧ σ2 86 5 = (qbec (α1 87, α1 88, α1 89, α1 90, σ1 86 5, σ1 86 4) (72 + 2 * x1 + x2 / 16) (qcj (α1 87 (72 + 2 * x1 + x2 / 16).toNat) (x2 % 16) x3)).2.2.2.2.1 ∧ σ2 86 4 = (qbec (α1 87, α1 88, α1 89, α1 90, σ1 86 5, σ1 86 4) (72 + 2 * x1 + x2 / 16) (qcj (α1 87 (72 + 2 * x1 + x2 / 16).toNat) (x2 % 16) x3)).2.2.2.2.2)))) (h : qRS σ1 α1) : qRS σ2 α2 := by
  have b6 : 0 ≤ σ1 86 6 ∧ σ1 86 6 ≤ 32 := hI.1 86 6
  have b16 : 0 ≤ σ1 86 16 ∧ σ1 86 16 ≤ 40 := hI.1 86 16
  have b24 : 0 ≤ σ1 86 24 ∧ σ1 86 24 ≤ 60 := hI.1 86 24
  rcases hy0 with ⟨b1, b2, b3⟩ | ⟨b1, b2, b3⟩
  · exact rs_same b3 h
  · exact rs_ch b3 ⟨hd.1, hd.2.1⟩ (fun z => absurd z (by omega)) h

set_option maxHeartbeats 4000000 in
theorem rs_undo {σ1 α1 σ2 α2 : Nat → Nat → Int} {κ : Nat → Option Nat} {ρ : Nat} { v2 : Int}  (hI : qI σ1 α1 κ ρ) (hd : 0 ≤ σ1 86 5 ∧ σ1 86 5 ≤ σ1 86 4 ∧ σ1 86 4 ≤ 40) (hG2 : qFr [(86, 5)] [87] σ1 α1 σ2 α2) (hy0 : ((v2 = -5 ∧ σ1 86 5 = 0 ∧ α2 87 = α1 87 ∧ σ2 86 5 = σ1 86 5) ∨ (v2 = σ1 86 5 - 1 ∧ 0 < σ1 86 5 ∧ α2 87 = qzu (α1 87) (α1 88 (σ1 86 5 - 1 : Int).toNat).toNat (α1 89 (σ1 86 5 - 1 : Int).toNat) ∧ σ2 86 5 = σ1 86 5 - 1))) (h : qRS σ1 α1) : qRS σ2 α2 := by
  have b6 : 0 ≤ σ1 86 6 ∧ σ1 86 6 ≤ 32 := hI.1 86 6
  have b16 : 0 ≤ σ1 86 16 ∧ σ1 86 16 ≤ 40 := hI.1 86 16
  have b24 : 0 ≤ σ1 86 24 ∧ σ1 86 24 ≤ 60 := hI.1 86 24
  have f88 := hG2.2 88 (by decide)
  have f89 := hG2.2 89 (by decide)
  have f90 := hG2.2 90 (by decide)
  have f4 := hG2.1 86 4 (by decide)
  rcases hy0 with ⟨b1, b2, b3, b4⟩ | ⟨b1, b2, b3, b4⟩
  · exact rs_same ⟨b3, f88, f89, f90, b4, f4⟩ h
  · have e : ((α2 87, α2 88, α2 89, α2 90, σ2 86 5, σ2 86 4) : qHS) = qund (α1 87, α1 88, α1 89, α1 90, σ1 86 5, σ1 86 4) := by
      rw [b3, f88, f89, f90, f4, b4]
      rfl
    unfold qRS
    rw [e]
    exact qSW_und (by show 0 < σ1 86 5 ∧ σ1 86 5 ≤ σ1 86 4; omega) h

set_option maxHeartbeats 4000000 in
theorem rs_redo {σ1 α1 σ2 α2 : Nat → Nat → Int} {κ : Nat → Option Nat} {ρ : Nat} { v2 : Int}  (hI : qI σ1 α1 κ ρ) (hd : 0 ≤ σ1 86 5 ∧ σ1 86 5 ≤ σ1 86 4 ∧ σ1 86 4 ≤ 40) (hG2 : qFr [(86, 5)] [87] σ1 α1 σ2 α2) (hy0 : ((v2 = -5 ∧ σ1 86 5 = σ1 86 4 ∧ α2 87 = α1 87 ∧ σ2 86 5 = σ1 86 5) ∨ (v2 = σ1 86 4 - σ1 86 5 - 1 ∧ ¬ σ1 86 5 = σ1 86 4 ∧ α2 87 = qzu (α1 87) (α1 88 (σ1 86 5 : Int).toNat).toNat (α1 90 (σ1 86 5 : Int).toNat) ∧ σ2 86 5 = σ1 86 5 + 1))) (h : qRS σ1 α1) : qRS σ2 α2 := by
  have b6 : 0 ≤ σ1 86 6 ∧ σ1 86 6 ≤ 32 := hI.1 86 6
  have b16 : 0 ≤ σ1 86 16 ∧ σ1 86 16 ≤ 40 := hI.1 86 16
  have b24 : 0 ≤ σ1 86 24 ∧ σ1 86 24 ≤ 60 := hI.1 86 24
  have f88 := hG2.2 88 (by decide)
  have f89 := hG2.2 89 (by decide)
  have f90 := hG2.2 90 (by decide)
  have f4 := hG2.1 86 4 (by decide)
  rcases hy0 with ⟨b1, b2, b3, b4⟩ | ⟨b1, b2, b3, b4⟩
  · exact rs_same ⟨b3, f88, f89, f90, b4, f4⟩ h
  · have e : ((α2 87, α2 88, α2 89, α2 90, σ2 86 5, σ2 86 4) : qHS) = qred (α1 87, α1 88, α1 89, α1 90, σ1 86 5, σ1 86 4) := by
      rw [b3, f88, f89, f90, f4, b4]
      rfl
    unfold qRS
    rw [e]
    exact qSW_red (by show 0 ≤ σ1 86 5 ∧ σ1 86 5 < σ1 86 4; omega) h

set_option maxHeartbeats 4000000 in
theorem rs_strike {σ1 α1 σ2 α2 : Nat → Nat → Int} {κ : Nat → Option Nat} {ρ : Nat} {x1 x2 x3 x4 v2 : Int} {g0 g1 : (Nat → Int) → Int} (hI : qI σ1 α1 κ ρ) (hd : 0 ≤ σ1 86 5 ∧ σ1 86 5 ≤ σ1 86 4 ∧ σ1 86 4 ≤ 40) (hG2 : qFr [(86, 4), (86, 5), (86, 10), (86, 15), (86, 23), (86, 29), (86, 30), (86, 35), (86, 36), (86, 37), (86, 38), (86, 39), (86, 50), (86, 51)] [87, 88, 89, 90, 96, 109, 115, 116] σ1 α1 σ2 α2) (hy0 : ((v2 = -1 ∧ ¬ (0 ≤ x1 ∧ x1 / 100 < σ1 86 6 ∧ x1 % 100 < σ1 86 6 ∧ ¬ x1 / 100 = x1 % 100 ∧ qst x2 (σ1 86 6) ∧ 0 ≤ x3 ∧ x3 ≤ 2399 ∧ 0 ≤ x4 ∧ x4 ≤ 1 ∧ qbit (ql_and x2 (ql_xor (σ1 86 10) (-1))) (x1 / 100) = 1 ∧ qbit (ql_and x2 (ql_xor (σ1 86 10) (-1))) (x1 % 100) = 1) ∧ α2 87 = α1 87 ∧ α2 88 = α1 88 ∧ α2 89 = α1 89 ∧ α2 90 = α1 90 ∧ σ2 86 5 = σ1 86 5 ∧ σ2 86 4 = σ1 86 4 ∧ σ2 86 10 = σ1 86 10 ∧ σ2 86 50 = σ1 86 50 ∧ σ2 86 51 = σ1 86 51 ∧ α2 115 = α1 115 ∧ α2 116 = α1 116 ∧ σ2 86 29 = σ1 86 29) ∨ ((0 ≤ x1 ∧ x1 / 100 < σ1 86 6 ∧ x1 % 100 < σ1 86 6 ∧ ¬ x1 / 100 = x1 % 100 ∧ qst x2 (σ1 86 6) ∧ 0 ≤ x3 ∧ x3 ≤ 2399 ∧ 0 ≤ x4 ∧ x4 ≤ 1 ∧ qbit (ql_and x2 (ql_xor (σ1 86 10) (-1))) (x1 / 100) = 1 ∧ qbit (ql_and x2 (ql_xor (σ1 86 10) (-1))) (x1 % 100) = 1) ∧ v2 = ((qFINm σ1 α1 g0 g1 x3 (ql_and x2 (ql_xor (σ1 86 10) (-1))) x1).1.length : Int) ∧ qTe σ2 α2 (qFINm σ1 α1 g0 g1 x3 (ql_and x2 (ql_xor (σ1 86 10) (-1))) x1) ∧ ((x4 = 0 ∧ σ2 86 10 = σ1 86 10 ∧ (α2 87 = α1 87 ∧ α2 88 = α1 88 ∧ α2 89 = α1 89 ∧ α2 90 = α1 90 ∧ σ2 86 5 = σ1 86 5 ∧ σ2 86 4 = σ1 86 4) ∧ σ2 86 29 = 0) ∨ (x4 = 1 ∧ σ2 86 10 = ql_or (σ1 86 10) (ql_and (ql_and x2 (ql_xor (σ1 86 10) (-1))) (ql_xor (qFINm σ1 α1 g0 g1 x3 (ql_and x2 (ql_xor (σ1 86 10) (-1))) x1).2.1 (-1))) ∧ ((α2 87, α2 88, α2 89, α2 90, σ2 86 5, σ2 86 4) : qHS) = qkn (qFINm σ1 α1 g0 g1 x3 (ql_and x2 (ql_xor (σ1 86 10) (-1))) x1).2.2.2 ((α1 87, α1 88, α1 89, α1 90, σ1 86 5, σ1 86 4) : qHS) ∧ σ2 86 29 = 0))))) (h : qRS σ1 α1) : qRS σ2 α2 := by
  have b6 : 0 ≤ σ1 86 6 ∧ σ1 86 6 ≤ 32 := hI.1 86 6
  have b16 : 0 ≤ σ1 86 16 ∧ σ1 86 16 ≤ 40 := hI.1 86 16
  have b24 : 0 ≤ σ1 86 24 ∧ σ1 86 24 ≤ 60 := hI.1 86 24
  rcases hy0 with ⟨b1, b2, b3, b4, b5, b6', b7, b8, b9, b10, b11, b12, b13, b14⟩ | ⟨b1, b2, b3, b4⟩
  · exact rs_same ⟨b3, b4, b5, b6', b7, b8⟩ h
  · rcases b4 with ⟨y4a, y4b, y4c, y4d⟩ | ⟨y4a, y4b, y4c, y4d⟩
    · exact rs_same y4c h
    · unfold qRS
      rw [y4c]
      exact qSW_kn _ _ (fun x hx => (qtell_mem 30 _ (qland_mem (fun x hx => absurd hx (List.not_mem_nil))) x hx).1) ⟨hd.1, hd.2.1⟩ h

/-- what both sides hold alike, all of it -/
def qRR (σ α : Nat → Nat → Int) (κ : Nat → Option Nat) (ρ : Nat) : Prop := qR σ α ∧ qR2 σ α ∧ qTp α ∧ qRF σ α ∧ qRP σ α ∧ qRH σ α ∧ qRL σ α ∧ qRN σ α ∧ qRT σ α ∧ qRC σ α κ ρ ∧ qSt σ α ∧ qRS σ α
theorem qR_0 (s g : Nat → Nat → Int) : qR (qJ_s s) (qJ_r g) := by
  refine ⟨rfl, rfl, rfl, rfl, rfl, rfl, rfl, fun d hd => ?_, fun d i hd hi => ?_⟩
  · have h6 : d = 0 ∨ d = 1 ∨ d = 2 ∨ d = 3 ∨ d = 4 ∨ d = 5 := by omega
    rcases h6 with rfl | rfl | rfl | rfl | rfl | rfl <;> exact Or.inl ⟨rfl, rfl⟩
  · have e : qJ_r g 46 d = 0 := rfl
    rw [e] at hi
    omega
theorem qRH_0 (s g : Nat → Nat → Int) : qRH (qJ_s s) (qJ_r g) := by
  have e : ∀ i, qbi 0 i = 0 := fun i => by
    rw [qbi_if, show qlz 0 = 0 by decide +kernel, Nat.zero_testBit]
    exact if_neg (by decide)
  refine ⟨⟨⟨⟨fun _ _ => rfl, fun _ _ => rfl, fun _ _ => rfl, fun k _ p hp => ?_, fun k _ => ?_⟩, fun k hk => ?_⟩, ⟨rfl, rfl⟩, ?_, fun j hj => ?_⟩, ⟨trivial, trivial⟩⟩
  · show qbit 0 p = if p < 32 then qbi 0 (p % 16) else 0
    rw [qbit_0, e]
    split <;> rfl
  · show (-2147483648 : Int) ≤ 0 ∧ (0 : Int) ≤ 2147483647
    decide
  · have h0 : (k : Int) < 0 := hk
    omega
  · show (0 : Int) ≤ 0 ∧ (0 : Int) ≤ 0 ∧ (0 : Int) ≤ 40
    decide
  · have h0 : (j : Int) < 0 := hj
    omega
theorem qRR_0 {s g : Nat → Nat → Int} (hok : qo_ok s g) (hcu : qo_cu s g) : qRR (qJ_s s) (qJ_r g) qo_k 82 := by
  refine ⟨qR_0 s g, qR2_0 hok, qTp_0 s g, ⟨rfl, rfl, rfl, rfl, rfl, fun f hf => ?_⟩, ⟨rfl, rfl, rfl, rfl, fun k hk => ?_⟩, qRH_0 s g, fun p hp => ?_, ⟨rfl, rfl, rfl, rfl, rfl, rfl⟩, ⟨rfl, fun i hi => ?_, Or.inl ⟨rfl, rfl⟩⟩, qRC_0 hcu, ⟨fun _ _ => (show (0 : Int) ≤ 0 by decide), fun _ _ => (show (0 : Int) ≤ 0 by decide)⟩, ⟨fun _ _ => (show (0 : Int) ≤ 0 ∧ (0 : Int) ≤ 1 by decide), fun j hj _ => ?_⟩⟩
  · have h0 : (f : Int) < 0 := hf
    omega
  · have h0 : (k : Int) < 0 := hk
    omega
  · have h0 : (p : Int) < 0 := hp
    omega
  · have h0 : (i : Int) < 0 := hi
    omega
  · have h0 : (j : Int) < 0 := hj
    omega
end
section
/-! answers -/
theorem qNVc_o {σ σ1 α : Nat → Nat → Int} {hr : Int} (e11 : σ1 58 11 = hr) (e17 : σ1 17 6 = σ 17 6) (e26 : σ1 27 6 = σ 27 6) (e27 : σ1 27 7 = σ 27 7) (e34 : σ1 34 7 = σ 34 7) : qNVc σ1 α = qNVc (qw_s σ 58 11 hr) α := by
  have x11 : qw_s σ 58 11 hr 58 11 = hr := rfl
  unfold qNVc
  rw [e11, e17, e26, e27, e34]
  rfl
end
section
/-! hours one after another: where nothing turns, all is as an hour ago -/
theorem qNVc_sk {σ α : Nat → Nat → Int} {h : Int} (hf : ∀ i : Nat, (i : Int) < σ 27 7 → ¬ (α 30 i = h ∨ α 33 i = h)) (hp : ∀ i : Nat, (i : Int) < σ 34 7 → ¬ (α 37 i = h ∨ α 40 i + 1 = h)) (b p q st th : Int) : qNVc (qw_s σ 58 11 h) α b p q st th = qNVc (qw_s σ 58 11 (h - 1)) α b p q st th := by
  have e1 : qnF (qTb (α 24)) (α 28) (α 29) (α 31) (α 30) (α 33) (σ 27 6) (σ 27 7) p q h = qnF (qTb (α 24)) (α 28) (α 29) (α 31) (α 30) (α 33) (σ 27 6) (σ 27 7) p q (h - 1) := by
    unfold qnF
    refine qnk_eq _ (fun k hk => ⟨?_, rfl⟩)
    show qop (α 30 k) (α 33 k) (qbit (σ 27 6) (k : Int)) h = qop (α 30 k) (α 33 k) (qbit (σ 27 6) (k : Int)) (h - 1)
    have h1 := hf k (by omega)
    have c1 := qop_c (α 30 k) (α 33 k) (qbit (σ 27 6) (k : Int)) h
    have c2 := qop_c (α 30 k) (α 33 k) (qbit (σ 27 6) (k : Int)) (h - 1)
    omega
  have e2 : qsm (qhG b (qhF (α 35) (α 36) (α 37) (α 40) (qcv (α 41)) (qlw (α 22)) p q h)) (σ 34 7 : Int).toNat = qsm (qhG b (qhF (α 35) (α 36) (α 37) (α 40) (qcv (α 41)) (qlw (α 22)) p q (h - 1))) (σ 34 7 : Int).toNat := by
    refine qsm_eq _ (fun k hk => ?_)
    have h1 := hp k (by omega)
    have e3 : qhF (α 35) (α 36) (α 37) (α 40) (qcv (α 41)) (qlw (α 22)) p q h k = qhF (α 35) (α 36) (α 37) (α 40) (qcv (α 41)) (qlw (α 22)) p q (h - 1) k := by
      show qho (α 35 k) (α 36 k) (α 37 k) (α 40 k) (qcv (α 41) k p) (qcv (α 41) k q) (qlw (α 22) p (α 36 k)) (qlw (α 22) q (α 36 k)) p q h = qho (α 35 k) (α 36 k) (α 37 k) (α 40 k) (qcv (α 41) k p) (qcv (α 41) k q) (qlw (α 22) p (α 36 k)) (qlw (α 22) q (α 36 k)) p q (h - 1)
      have c : (α 35 k < 0 ∨ 5 < α 35 k ∨ h < α 37 k ∨ α 40 k < h) ↔ (α 35 k < 0 ∨ 5 < α 35 k ∨ h - 1 < α 37 k ∨ α 40 k < h - 1) := by omega
      unfold qho
      by_cases d : α 35 k < 0 ∨ 5 < α 35 k ∨ h < α 37 k ∨ α 40 k < h
      · rw [if_pos d, if_pos (c.mp d)]
      · rw [if_neg d, if_neg (fun z => d (c.mpr z))]
    unfold qhG
    rw [e3]
  show qnv (qnF1 (qnF (qTb (α 24)) (α 28) (α 29) (α 31) (α 30) (α 33) (σ 27 6) (σ 27 7) p q h)) (qnF (qTb (α 24)) (α 28) (α 29) (α 31) (α 30) (α 33) (σ 27 6) (σ 27 7) p q h / 64) (qsm (qhG b (qhF (α 35) (α 36) (α 37) (α 40) (qcv (α 41)) (qlw (α 22)) p q h)) (σ 34 7 : Int).toNat) (α 20 (p : Int).toNat) (α 20 (q : Int).toNat) (qbit (α 22 (p : Int).toNat) q) (qm9 (qTb (α 24) p q)) (qsm (qshF (α 18) p th) (σ 17 6 : Int).toNat) (if st = -1 then 0 else qm9 (qTb (α 24) p st)) = _
  rw [e1, e2]
  rfl
theorem qNVc_hf {S : List (Nat × Nat)} {R : List Nat} {σ α σ' α' : Nat → Nat → Int} {h : Int} (hG : qFr S R σ α σ' α') (hs : [(17, 6), (27, 6), (27, 7), (34, 7)].all (fun x => !S.contains x) = true) (hr : [18, 20, 22, 24, 28, 29, 30, 31, 33, 35, 36, 37, 40, 41].all (fun x => !R.contains x) = true) (e : σ' 58 11 = h) : qNVc σ' α' = qNVc (qw_s σ 58 11 h) α := by
  have es : ∀ a k, (a, k) ∈ [(17, 6), (27, 6), (27, 7), (34, 7)] → σ' a k = σ a k := fun a k hm => hG.1 a k (fun hn => by
    have h1 := List.all_eq_true.mp hs (a, k) hm
    rw [List.contains_iff_mem.mpr hn] at h1
    exact absurd h1 (by decide))
  have er : ∀ a, a ∈ [18, 20, 22, 24, 28, 29, 30, 31, 33, 35, 36, 37, 40, 41] → α' a = α a := fun a hm => hG.2 a (fun hn => by
    have h1 := List.all_eq_true.mp hr a hm
    rw [List.contains_iff_mem.mpr hn] at h1
    exact absurd h1 (by decide))
  have h3 : qNVc σ' α' = qNVc σ' α := by
    unfold qNVc
    rw [er 18 (by decide), er 20 (by decide), er 22 (by decide), er 24 (by decide), er 28 (by decide), er 29 (by decide), er 30 (by decide), er 31 (by decide), er 33 (by decide), er 35 (by decide), er 36 (by decide), er 37 (by decide), er 40 (by decide), er 41 (by decide)]
  rw [h3]
  exact qNVc_o e (es 17 6 (by decide)) (es 27 6 (by decide)) (es 27 7 (by decide)) (es 34 7 (by decide))
theorem qhr_0 {B : Int → Prop} {a : Int} : ∀ x : Int, a ≤ x → x < a → ¬ B x := fun _ h1 h2 => False.elim (by omega)
theorem qhr_s {B : Int → Prop} {a j : Int} (h : ∀ x : Int, a ≤ x → x < j → ¬ B x) (g : ¬ B j) : ∀ x : Int, a ≤ x → x < j + 1 → ¬ B x := fun x h1 h2 => by
  by_cases d : x < j
  · exact h x h1 d
  · have e : x = j := by omega
    rw [e]
    exact g
theorem ql_or_c (a b : Int) : ql_or a b = ql_or b a := qbit_ext (ql_or_r _ _) (ql_or_r _ _) (fun i _ _ => by
  rw [qbit_or, qbit_or]
  by_cases c : qbit a i = 1 ∨ qbit b i = 1
  · rw [if_pos c, if_pos c.symm]
  · rw [if_neg c, if_neg (fun z => c z.symm)])
/-- whether one must strike another one, these two alone: the class -/
def qMaC (σ α : Nat → Nat → Int) (f : (Nat → Int) → Int) (h p q : Int) : Prop := ¬ f (qNVc (qw_s σ 58 11 h) α 0 p q (-1) (ql_or (ql_shl 1 p) (ql_shl 1 q))) = 0
/-- the reference -/
def qMaM (σ α : Nat → Nat → Int) (g : (Nat → Int) → Int) (t h p q : Int) : Prop := ¬ g (qNVr σ α 0 0 p q (-1) t h) = 0
def qBaM (σ α : Nat → Nat → Int) (g : (Nat → Int) → Int) (p q a b : Int) : Prop := ∃ h : Int, (a ≤ h ∧ h ≤ b) ∧ (qMaM σ α g (ql_or (ql_shl 1 p) (ql_shl 1 q)) h p q ∨ qMaM σ α g (ql_or (ql_shl 1 p) (ql_shl 1 q)) h q p)
theorem qNVr_ad {S : List (Nat × Nat)} {R : List Nat} {σ α σ' α' : Nat → Nat → Int} (hG : qFr S R σ α σ' α') (hs : [(86, 6), (86, 11), (86, 16), (86, 22), (86, 24)].all (fun x => !S.contains x) = true) (hr : [87, 91, 94, 95, 97, 98, 99, 100, 102, 103, 104, 105].all (fun x => !R.contains x) = true) (h1 : σ' 86 41 = 1) (h0 : σ 86 41 = 0) (b de p q st t h : Int) : qNVr σ' α' b de p q st t h = qNVr σ α b 0 p q st t h := by
  have es : ∀ a k, (a, k) ∈ [(86, 6), (86, 11), (86, 16), (86, 22), (86, 24)] → σ' a k = σ a k := fun a k hm => hG.1 a k (fun hn => by
    have h1 := List.all_eq_true.mp hs (a, k) hm
    rw [List.contains_iff_mem.mpr hn] at h1
    exact absurd h1 (by decide))
  have er : ∀ a, a ∈ [87, 91, 94, 95, 97, 98, 99, 100, 102, 103, 104, 105] → α' a = α a := fun a hm => hG.2 a (fun hn => by
    have h1 := List.all_eq_true.mp hr a hm
    rw [List.contains_iff_mem.mpr hn] at h1
    exact absurd h1 (by decide))
  have e : ∀ n : Nat, qsm (qshD (α 91) p t de 1) n = qsm (qshD (α 91) p t 0 0) n := fun n => qsm_eq n (fun k hk => by
    have c1 := qshD_c (α 91) p t de 1 (i := (k : Int)) (by omega)
    have c2 := qshD_c (α 91) p t 0 0 (i := (k : Int)) (by omega)
    have c6 := qbit_0 (k : Int)
    rw [Int.toNat_natCast] at c1 c2
    omega)
  unfold qNVr
  rw [es 86 6 (by decide), es 86 11 (by decide), es 86 16 (by decide), es 86 22 (by decide), es 86 24 (by decide), er 87 (by decide), er 91 (by decide), er 94 (by decide), er 95 (by decide), er 97 (by decide), er 98 (by decide), er 99 (by decide), er 100 (by decide), er 102 (by decide), er 103 (by decide), er 104 (by decide), er 105 (by decide), h1, h0, e]
set_option maxHeartbeats 4000000 in
set_option maxRecDepth 20000 in
/-- OneRoof$Feuds.turnsAt -/
theorem sf_102_27x {L : Nat} {xs : Nat → Int} {vb : Bool} {d : Nat} {σ α : Nat → Nat → Int} {κ : Nat → Option Nat} {ρ : Nat} {x1 : Int} (hI : qI σ α κ ρ) (r1 : (-2147483648) ≤ x1 ∧ x1 ≤ 2147483647) : qm_T (qe L xs vb) (d + 1) 102 [.ref 27, .int (qz x1)] (qw σ α κ ρ) (fun r w' => w' = qw σ α κ ρ ∧ ∃ v : Int, r = some (.int (qz v)) ∧ (0 ≤ v ∧ v ≤ 1) ∧ (v = 0 → (∀ i : Nat, (i : Int) < σ 27 7 → ¬ (α 30 i = x1 ∨ α 33 i = x1)))) := by
  refine qr_start (d := d + 0) qv_e102 (Nat.le_of_ble_eq_true rfl) ?_
  show qr_W (qe L xs vb) (d + 0) qx_e102 _ (0, [(0, .ref 27), (1, .int (qz x1))], [], _, 0, 0)
  refine qr_iconst 1 rfl rfl ?_
  refine qr_istore_n _ 2 rfl (by decide) rfl rfl ?_
  have hL178 : ∀ (n : Nat) (ls : qm_L) (u175 : Int), 40 - u175 < (n : Int) → qm_get ls 0 = some (.ref 27) → qm_get ls 1 = some (.int (qz x1)) → qm_get ls 2 = some (.int (qz u175)) → (0 ≤ u175 ∧ u175 ≤ 40) → (∀ i : Nat, (i : Int) < u175 → ¬ (α 30 i = x1 ∨ α 33 i = x1)) → qr_W (qe L xs vb) (d + 0) qx_e102 (fun r w' => w' = qw σ α κ ρ ∧ ∃ v : Int, r = some (.int (qz v)) ∧ (0 ≤ v ∧ v ≤ 1) ∧ (v = 0 → (∀ i : Nat, (i : Int) < σ 27 7 → ¬ (α 30 i = x1 ∨ α 33 i = x1)))) (2, ls, [], qw σ α κ ρ, 0, 0) := by
    intro n
    induction n with
    | zero => intro ls u175 hm g172 g173 g174 hf176 hx177; exact False.elim (by omega)
    | succ n ih179 =>
      intro ls u175 hm g172 g173 g174 hf176 hx177
      refine qr_iload_n 3 rfl g174 rfl ?_
      refine qr_aload_n 4 rfl g172 rfl ?_
      refine qr_get 7 rfl rfl rfl (by decide) rfl ?_
      have hs180 : 0 ≤ σ 27 7 ∧ σ 27 7 ≤ 40 := hI.1 27 7
      refine qr_icmp_ge 38 10 rfl rfl rfl (qrg hf176 (by decide) (by decide)) (qrg hs180 (by decide) (by decide)) (fun h181 => ?_) (fun h181 => ?_)
      · skip
        refine qr_iconst 39 rfl rfl ?_
        refine qr_retZ rfl rfl (Or.inl rfl) (by decide) (by decide) ?_
        exact ⟨rfl, 0, rfl, (by decide), (fun _ i hi => hx177 i (by omega))⟩
      · skip
        refine qr_aload_n 11 rfl g172 rfl ?_
        refine qr_get 14 rfl rfl rfl (by decide) rfl ?_
        refine qr_iload_n 15 rfl g174 rfl ?_
        refine qr_iaload 16 rfl rfl (by omega) (by decide) rfl ?_
        refine qr_topI (fun v182 hv182 => ?_)
        have hs183 : (-2147483648) ≤ v182 ∧ v182 ≤ 2147483647 := by rw [hv182]; exact hI.2.1 30 _ (show _ < 40 by omega)
        refine qr_iload_n 17 rfl g173 rfl ?_
        refine qr_icmp_eq 30 20 rfl rfl rfl hs183 r1 (fun h184 => ?_) (fun h184 => ?_)
        · skip
          refine qr_iconst 31 rfl rfl ?_
          refine qr_retZ rfl rfl (Or.inr rfl) (by decide) (by decide) ?_
          exact ⟨rfl, 1, rfl, (by decide), (fun hz => absurd hz (by decide))⟩
        · skip
          refine qr_aload_n 21 rfl g172 rfl ?_
          refine qr_get 24 rfl rfl rfl (by decide) rfl ?_
          refine qr_iload_n 25 rfl g174 rfl ?_
          refine qr_iaload 26 rfl rfl (by omega) (by decide) rfl ?_
          refine qr_topI (fun v185 hv185 => ?_)
          have hs186 : (-2147483648) ≤ v185 ∧ v185 ≤ 2147483647 := by rw [hv185]; exact hI.2.1 33 _ (show _ < 40 by omega)
          refine qr_iload_n 27 rfl g173 rfl ?_
          refine qr_icmp_ne 32 30 rfl rfl rfl hs186 r1 (fun h187 => ?_) (fun h187 => ?_)
          · skip
            refine qr_iinc _ 35 rfl g174 (by decide) rfl rfl ?_
            refine qr_goto 2 rfl rfl ?_
            exact ih179 _ (u175 + 1) (by omega) (qm_gk g172 (by decide) (Or.inl (by decide))) (qm_gk g173 (by decide) (Or.inr rfl)) (qm_ge _ _ _) (by omega) (qfs_n (by omega) hx177 (fun hc => hc.elim (fun hc => (by have hw : v182 = α 30 (u175 : Int).toNat := hv182; omega)) (fun hc => (by have hw : v185 = α 33 (u175 : Int).toNat := hv185; omega))))
          · skip
            refine qr_iconst 31 rfl rfl ?_
            refine qr_retZ rfl rfl (Or.inr rfl) (by decide) (by decide) ?_
            exact ⟨rfl, 1, rfl, (by decide), (fun hz => absurd hz (by decide))⟩
  exact hL178 ((40 - 0 + 1 : Int)).toNat _ 0 (by omega) rfl rfl rfl (by decide) qfs_k

set_option maxHeartbeats 4000000 in
set_option maxRecDepth 20000 in
/-- OneRoof$Peaces.turnsAt -/
theorem sf_103_34x {L : Nat} {xs : Nat → Int} {vb : Bool} {d : Nat} {σ α : Nat → Nat → Int} {κ : Nat → Option Nat} {ρ : Nat} {x1 : Int} (hI : qI σ α κ ρ) (r1 : (-2147483648) ≤ x1 ∧ x1 ≤ 2147483647) : qm_T (qe L xs vb) (d + 1) 103 [.ref 34, .int (qz x1)] (qw σ α κ ρ) (fun r w' => w' = qw σ α κ ρ ∧ ∃ v : Int, r = some (.int (qz v)) ∧ (0 ≤ v ∧ v ≤ 1) ∧ (v = 0 → (∀ i : Nat, (i : Int) < σ 34 7 → ¬ (α 37 i = x1 ∨ α 40 i + 1 = x1)))) := by
  refine qr_start (d := d + 0) qv_e103 (Nat.le_of_ble_eq_true rfl) ?_
  show qr_W (qe L xs vb) (d + 0) qx_e103 _ (0, [(0, .ref 34), (1, .int (qz x1))], [], _, 0, 0)
  refine qr_iconst 1 rfl rfl ?_
  refine qr_istore_n _ 2 rfl (by decide) rfl rfl ?_
  have hL247 : ∀ (n : Nat) (ls : qm_L) (u244 : Int), 60 - u244 < (n : Int) → qm_get ls 0 = some (.ref 34) → qm_get ls 1 = some (.int (qz x1)) → qm_get ls 2 = some (.int (qz u244)) → (0 ≤ u244 ∧ u244 ≤ 60) → (∀ i : Nat, (i : Int) < u244 → ¬ (α 37 i = x1 ∨ α 40 i + 1 = x1)) → qr_W (qe L xs vb) (d + 0) qx_e103 (fun r w' => w' = qw σ α κ ρ ∧ ∃ v : Int, r = some (.int (qz v)) ∧ (0 ≤ v ∧ v ≤ 1) ∧ (v = 0 → (∀ i : Nat, (i : Int) < σ 34 7 → ¬ (α 37 i = x1 ∨ α 40 i + 1 = x1)))) (2, ls, [], qw σ α κ ρ, 0, 0) := by
    intro n
    induction n with
    | zero => intro ls u244 hm g241 g242 g243 hf245 hx246; exact False.elim (by omega)
    | succ n ih248 =>
      intro ls u244 hm g241 g242 g243 hf245 hx246
      refine qr_iload_n 3 rfl g243 rfl ?_
      refine qr_aload_n 4 rfl g241 rfl ?_
      refine qr_get 7 rfl rfl rfl (by decide) rfl ?_
      have hs249 : 0 ≤ σ 34 7 ∧ σ 34 7 ≤ 60 := hI.1 34 7
      refine qr_icmp_ge 40 10 rfl rfl rfl (qrg hf245 (by decide) (by decide)) (qrg hs249 (by decide) (by decide)) (fun h250 => ?_) (fun h250 => ?_)
      · skip
        refine qr_iconst 41 rfl rfl ?_
        refine qr_retZ rfl rfl (Or.inl rfl) (by decide) (by decide) ?_
        exact ⟨rfl, 0, rfl, (by decide), (fun _ i hi => hx246 i (by omega))⟩
      · skip
        refine qr_aload_n 11 rfl g241 rfl ?_
        refine qr_get 14 rfl rfl rfl (by decide) rfl ?_
        refine qr_iload_n 15 rfl g243 rfl ?_
        refine qr_iaload 16 rfl rfl (by omega) (by decide) rfl ?_
        refine qr_topI (fun v251 hv251 => ?_)
        have hs252 : (-2147483648) ≤ v251 ∧ v251 ≤ 2147483647 := by rw [hv251]; exact hI.2.1 37 _ (show _ < 60 by omega)
        refine qr_iload_n 17 rfl g242 rfl ?_
        refine qr_icmp_eq 32 20 rfl rfl rfl hs252 r1 (fun h253 => ?_) (fun h253 => ?_)
        · skip
          refine qr_iconst 33 rfl rfl ?_
          refine qr_retZ rfl rfl (Or.inr rfl) (by decide) (by decide) ?_
          exact ⟨rfl, 1, rfl, (by decide), (fun hz => absurd hz (by decide))⟩
        · skip
          refine qr_aload_n 21 rfl g241 rfl ?_
          refine qr_get 24 rfl rfl rfl (by decide) rfl ?_
          refine qr_iload_n 25 rfl g243 rfl ?_
          refine qr_iaload 26 rfl rfl (by omega) (by decide) rfl ?_
          refine qr_topI (fun v254 hv254 => ?_)
          have hs255 : (-2147483648) ≤ v254 ∧ v254 ≤ 2147483647 := by rw [hv254]; exact hI.2.1 40 _ (show _ < 60 by omega)
          refine qr_iconst 27 rfl rfl ?_
          refine qr_iadd 28 rfl rfl ?_
          refine qy_canE (fun v256 hv256 hev256 => ?_)
          refine qr_iload_n 29 rfl g242 rfl ?_
          refine qr_icmp_ne 34 32 rfl rfl rfl hv256 r1 (fun h257 => ?_) (fun h257 => ?_)
          · skip
            refine qr_iinc _ 37 rfl g243 (by decide) rfl rfl ?_
            refine qr_goto 2 rfl rfl ?_
            exact ih248 _ (u244 + 1) (by omega) (qm_gk g241 (by decide) (Or.inl (by decide))) (qm_gk g242 (by decide) (Or.inr rfl)) (qm_ge _ _ _) (by omega) (qfs_n (by omega) hx246 (fun hc => hc.elim (fun hc => (by have hw : v251 = α 37 (u244 : Int).toNat := hv251; omega)) (fun hc => (by have hw : v254 = α 40 (u244 : Int).toNat := hv254; have hq := qz_val (hev256.trans (congrArg qz (show v254 + 1 = x1 by omega))) (by omega) (by omega); omega))))
          · skip
            refine qr_iconst 33 rfl rfl ?_
            refine qr_retZ rfl rfl (Or.inr rfl) (by decide) (by decide) ?_
            exact ⟨rfl, 1, rfl, (by decide), (fun hz => absurd hz (by decide))⟩
  exact hL247 ((60 - 0 + 1 : Int)).toNat _ 0 (by omega) rfl rfl rfl (by decide) qfs_k

set_option maxHeartbeats 4000000 in
set_option maxRecDepth 20000 in
/-- OneRoof$Moment.turnsAt -/
theorem sf_101_58x {L : Nat} {xs : Nat → Int} {vb : Bool} {d : Nat} {σ α : Nat → Nat → Int} {κ : Nat → Option Nat} {ρ : Nat} {x1 : Int} (hI : qI σ α κ ρ) (r1 : (-2147483648) ≤ x1 ∧ x1 ≤ 2147483647) : qm_T (qe L xs vb) (d + 2) 101 [.ref 58, .int (qz x1)] (qw σ α κ ρ) (fun r w' => w' = qw σ α κ ρ ∧ ∃ v : Int, r = some (.int (qz v)) ∧ (0 ≤ v ∧ v ≤ 1) ∧ (v = 0 → (∀ i : Nat, (i : Int) < σ 27 7 → ¬ (α 30 i = x1 ∨ α 33 i = x1)) ∧ (∀ i : Nat, (i : Int) < σ 34 7 → ¬ (α 37 i = x1 ∨ α 40 i + 1 = x1)))) := by
  refine qr_start (d := d + 1) qv_e101 (Nat.le_of_ble_eq_true rfl) ?_
  show qr_W (qe L xs vb) (d + 1) qx_e101 _ (0, [(0, .ref 58), (1, .int (qz x1))], [], _, 0, 0)
  refine qr_aload_n 1 rfl rfl rfl ?_
  refine qr_get 4 rfl rfl rfl (by decide) rfl ?_
  refine qr_iload_n 5 rfl rfl rfl ?_
  refine qr_callN 8 rfl rfl rfl (sf_102_27x (d := d + 0) hI r1) ?_
  rintro _ _ ⟨rfl, v1, rfl, hv1, hx2⟩
  show qr_W (qe L xs vb) (d + 1) qx_e101 _ (8, _, [.int (qz v1)], qw σ α κ ρ, 0, 0)
  refine qr_if_ne 22 11 rfl rfl rfl (qrg hv1 (by decide) (by decide)) (fun h3 => ?_) (fun h3 => ?_)
  · skip
    refine qr_iconst 23 rfl rfl ?_
    refine qr_goto 27 rfl rfl ?_
    refine qr_retZ rfl rfl (Or.inr rfl) (by decide) (by decide) ?_
    exact ⟨rfl, 1, rfl, (by decide), (fun hz => absurd hz (by decide))⟩
  · skip
    refine qr_aload_n 12 rfl rfl rfl ?_
    refine qr_get 15 rfl rfl rfl (by decide) rfl ?_
    refine qr_iload_n 16 rfl rfl rfl ?_
    refine qr_callN 19 rfl rfl rfl (sf_103_34x (d := d + 0) hI r1) ?_
    rintro _ _ ⟨rfl, v4, rfl, hv4, hx5⟩
    show qr_W (qe L xs vb) (d + 1) qx_e101 _ (19, _, [.int (qz v4)], qw σ α κ ρ, 0, 0)
    refine qr_if_eq 26 22 rfl rfl rfl (qrg hv4 (by decide) (by decide)) (fun h6 => ?_) (fun h6 => ?_)
    · skip
      refine qr_iconst 27 rfl rfl ?_
      refine qr_retZ rfl rfl (Or.inl rfl) (by decide) (by decide) ?_
      exact ⟨rfl, 0, rfl, (by decide), (fun _ => ⟨hx2 (by omega), hx5 (by omega)⟩)⟩
    · skip
      refine qr_iconst 23 rfl rfl ?_
      refine qr_goto 27 rfl rfl ?_
      refine qr_retZ rfl rfl (Or.inr rfl) (by decide) (by decide) ?_
      exact ⟨rfl, 1, rfl, (by decide), (fun hz => absurd hz (by decide))⟩

set_option maxHeartbeats 4000000 in
set_option maxRecDepth 20000 in
/-- OneRoof$Moment.mustAlone -/
theorem sf_107_58x {L : Nat} {xs : Nat → Int} {vb : Bool} {d : Nat} {σ α : Nat → Nat → Int} {κ : Nat → Option Nat} {ρ : Nat} {x1 : Int} {x2 : Int} {f : (Nat → Int) → Int} (hI : qI σ α κ ρ) (r1 : 0 ≤ x1 ∧ x1 ≤ 31) (r2 : 0 ≤ x2 ∧ x2 ≤ 31) (p0 : ¬ x1 = x2) (p1 : qPW σ α κ (0 : Int).toNat f) (p2 : qCaN (α 60) (α 61) (σ 58 12) (fun p q => qnF (qTb (α 24)) (α 28) (α 29) (α 31) (α 30) (α 33) (σ 27 6) (σ 27 7) p q (σ 58 11))) (p3 : qCaN (α 62) (α 63) (σ 58 12) (fun p q => qbs (qhF (α 35) (α 36) (α 37) (α 40) (qcv (α 41)) (qlw (α 22)) p q (σ 58 11)) (σ 34 7 : Int).toNat)) (p4 : qZp σ α) : qm_T (qe L xs vb) (d + 5) 107 [.ref 58, .int (qz x1), .int (qz x2)] (qw σ α κ ρ) (fun r w' => ∃ α', w' = qw σ α' κ ρ ∧ qI σ α' κ ρ ∧ qFr [] [53, 57, 59, 60, 61, 62, 63, 85] σ α σ α' ∧ ∃ v : Int, r = some (.int (qz v)) ∧ (0 ≤ v ∧ v ≤ 1) ∧ ((v = 1 ∧ ¬ f (qNVc σ α (σ 58 10) x1 x2 (-1) (ql_or (ql_shl 1 x1) (ql_shl 1 x2))) = 0) ∨ (v = 0 ∧ f (qNVc σ α (σ 58 10) x1 x2 (-1) (ql_or (ql_shl 1 x1) (ql_shl 1 x2))) = 0)) ∧ qCaN (α' 60) (α' 61) (σ 58 12) (fun p q => qnF (qTb (α 24)) (α 28) (α 29) (α 31) (α 30) (α 33) (σ 27 6) (σ 27 7) p q (σ 58 11)) ∧ qCaN (α' 62) (α' 63) (σ 58 12) (fun p q => qbs (qhF (α 35) (α 36) (α 37) (α 40) (qcv (α 41)) (qlw (α 22)) p q (σ 58 11)) (σ 34 7 : Int).toNat)) := by
  refine qr_start (d := d + 4) qv_e107 (Nat.le_of_ble_eq_true rfl) ?_
  show qr_W (qe L xs vb) (d + 4) qx_e107 _ (0, [(0, .ref 58), (1, .int (qz x1)), (2, .int (qz x2))], [], _, 0, 0)
  have hF0 := qFr_rf [] [53, 57, 59, 60, 61, 62, 63, 85] σ α
  have hz58_12 : (-2147483648) ≤ σ 58 12 ∧ σ 58 12 ≤ 2147483647 := hI.1 58 12
  have hz27_6 : (-9223372036854775808) ≤ σ 27 6 ∧ σ 27 6 ≤ 9223372036854775807 := hI.1 27 6
  have hz27_7 : 0 ≤ σ 27 7 ∧ σ 27 7 ≤ 40 := hI.1 27 7
  have hz58_11 : (-2147483648) ≤ σ 58 11 ∧ σ 58 11 ≤ 2147483647 := hI.1 58 11
  have hz34_7 : 0 ≤ σ 34 7 ∧ σ 34 7 ≤ 60 := hI.1 34 7
  have hz58_10 : (-9223372036854775808) ≤ σ 58 10 ∧ σ 58 10 ≤ 9223372036854775807 := hI.1 58 10
  have hz17_6 : 0 ≤ σ 17 6 ∧ σ 17 6 ≤ 32 := hI.1 17 6
  refine qr_aload_n 1 rfl rfl rfl ?_
  refine qr_iconst 2 rfl rfl ?_
  refine qr_iload_n 3 rfl rfl rfl ?_
  refine qr_iload_n 4 rfl rfl rfl ?_
  refine qr_iconst 5 rfl rfl ?_
  refine qr_lconst 6 rfl rfl ?_
  refine qy_vl 1 rfl ?_
  refine qr_iload_n 7 rfl rfl rfl ?_
  refine qr_lshl 8 rfl rfl ?_
  refine qy_canlE (fun v1 hv1 hev1 => ?_)
  refine qr_lconst 9 rfl rfl ?_
  refine qy_vl 1 rfl ?_
  refine qr_iload_n 10 rfl rfl rfl ?_
  refine qr_lshl 11 rfl rfl ?_
  refine qy_canlE (fun v2 hv2 hev2 => ?_)
  refine qr_lor 12 rfl rfl ?_
  refine qy_canlE (fun v3 hv3 hev3 => ?_)
  have hT4 : v3 = (ql_or (ql_shl 1 x1) (ql_shl 1 x2)) := by rw [ql_val hev3 (by omega) (ql_or_r _ _), ql_val hev2 (by omega) (ql_shl_r _ _), ql_val hev1 (by omega) (ql_shl_r _ _)]
  have hs5 : (-9223372036854775808) ≤ σ 27 6 ∧ σ 27 6 ≤ 9223372036854775807 := hI.1 27 6
  have hs6 : 0 ≤ σ 27 7 ∧ σ 27 7 ≤ 40 := hI.1 27 7
  have hs7 : 0 ≤ σ 34 7 ∧ σ 34 7 ≤ 60 := hI.1 34 7
  have hs8 : (-2147483648) ≤ σ 58 11 ∧ σ 58 11 ≤ 2147483647 := hI.1 58 11
  have hs9 : (-2147483648) ≤ σ 58 12 ∧ σ 58 12 ≤ 2147483647 := hI.1 58 12
  refine qr_callN 15 rfl rfl rfl (sf_90_58x (d := d + 0) hI (by decide) r1 r2 (by decide) hv3 (by omega) p1 p2 p3 p4) ?_
  rintro _ _ ⟨α14, rfl, hI15, hG16, v10, rfl, hv10, hx11, hx12, hx13⟩
  have hF17 : qFr [] [53, 57, 59, 60, 61, 62, 63, 85] σ α σ α14 := qFr_t hF0 hG16 (by decide) (by decide)
  show qr_W (qe L xs vb) (d + 4) qx_e107 _ (15, _, [.int (qz v10)], qw σ α14 κ ρ, 0, 0)
  rw [hT4] at hx11
  refine qr_if_eq 22 18 rfl rfl rfl hv10 (fun h18 => ?_) (fun h18 => ?_)
  · skip
    refine qr_iconst 23 rfl rfl ?_
    refine qr_retZ rfl rfl (Or.inl rfl) (by decide) (by decide) ?_
    exact ⟨_, rfl, hI15, hF17, 0, rfl, (by decide), (by have hw := hx11; rw [← hw]; omega), hx12, hx13⟩
  · skip
    refine qr_iconst 19 rfl rfl ?_
    refine qr_goto 23 rfl rfl ?_
    refine qr_retZ rfl rfl (Or.inr rfl) (by decide) (by decide) ?_
    exact ⟨_, rfl, hI15, hF17, 1, rfl, (by decide), (by have hw := hx11; rw [← hw]; omega), hx12, hx13⟩

set_option maxHeartbeats 4000000 in
set_option maxRecDepth 20000 in
/-- OneRoofModel.doBar -/
theorem sf_232_86x {L : Nat} {xs : Nat → Int} {vb : Bool} {d : Nat} {σ α : Nat → Nat → Int} {κ : Nat → Option Nat} {ρ : Nat} {x1 : Int} {x2 : Int} {x3 : Int} {g : (Nat → Int) → Int} (hI : qI σ α κ ρ) (r1 : 0 ≤ x1 ∧ x1 ≤ 31) (r2 : 0 ≤ x2 ∧ x2 ≤ 31) (r3 : 0 ≤ x3 ∧ x3 ≤ 23999999) (p0 : ¬ x1 = x2) (p1 : qPG σ α 0 g) (p2 : qZf σ α) (p3 : qZk σ α) (p4 : σ 86 29 = 0) (p5 : σ 86 41 = 0) (p6 : x1 < σ 86 6 ∧ x2 < σ 86 6) : qm_T (qe L xs vb) (d + 48) 232 [.ref 86, .int (qz x1), .int (qz x2), .int (qz x3)] (qw σ α κ ρ) (fun r w' => ∃ σ' α', w' = qw σ' α' κ ρ ∧ qI σ' α' κ ρ ∧ qFr [(86, 15), (86, 23), (86, 30), (86, 35), (86, 36), (86, 37), (86, 38), (86, 39), (86, 41)] [96, 109] σ α σ' α' ∧ σ' 86 41 = 0 ∧ ∃ v : Int, r = some (.int (qz v)) ∧ (0 ≤ v ∧ v ≤ 1) ∧ ((v = 1 ∧ qBaM σ α g x1 x2 (x3 / 10000) (x3 % 10000)) ∨ (v = 0 ∧ ¬ qBaM σ α g x1 x2 (x3 / 10000) (x3 % 10000)))) := by
  refine qr_start (d := d + 47) qv_e232 (Nat.le_of_ble_eq_true rfl) ?_
  show qr_W (qe L xs vb) (d + 47) qx_e232 _ (0, [(0, .ref 86), (1, .int (qz x1)), (2, .int (qz x2)), (3, .int (qz x3))], [], _, 0, 0)
  have hF0 := qFr_rf [(86, 15), (86, 23), (86, 30), (86, 35), (86, 36), (86, 37), (86, 38), (86, 39), (86, 41)] [96, 109] σ α
  have hz86_29 : (-9223372036854775808) ≤ σ 86 29 ∧ σ 86 29 ≤ 9223372036854775807 := hI.1 86 29
  have hz86_41 : 0 ≤ σ 86 41 ∧ σ 86 41 ≤ 1 := hI.1 86 41
  have hz86_6 : 0 ≤ σ 86 6 ∧ σ 86 6 ≤ 32 := hI.1 86 6
  have hz86_10 : (-9223372036854775808) ≤ σ 86 10 ∧ σ 86 10 ≤ 9223372036854775807 := hI.1 86 10
  have hz86_24 : 0 ≤ σ 86 24 ∧ σ 86 24 ≤ 60 := hI.1 86 24
  refine qr_lconst 1 rfl rfl ?_
  refine qy_vl 1 rfl ?_
  refine qr_iload_n 2 rfl rfl rfl ?_
  refine qr_lshl 3 rfl rfl ?_
  refine qy_canlE (fun v1 hv1 hev1 => ?_)
  refine qr_lconst 4 rfl rfl ?_
  refine qy_vl 1 rfl ?_
  refine qr_iload_n 5 rfl rfl rfl ?_
  refine qr_lshl 6 rfl rfl ?_
  refine qy_canlE (fun v2 hv2 hev2 => ?_)
  refine qr_lor 7 rfl rfl ?_
  refine qy_canlE (fun v3 hv3 hev3 => ?_)
  refine qr_lstore _ 9 rfl (by decide) rfl rfl ?_
  have hT4 : v3 = (ql_or (ql_shl 1 x1) (ql_shl 1 x2)) := by rw [ql_val hev3 (by omega) (ql_or_r _ _), ql_val hev2 (by omega) (ql_shl_r _ _), ql_val hev1 (by omega) (ql_shl_r _ _)]
  refine qr_iconst 10 rfl rfl ?_
  refine qr_istore _ 12 rfl (by decide) rfl rfl ?_
  refine qr_aload_n 13 rfl rfl rfl ?_
  refine qr_iconst 14 rfl rfl ?_
  refine qr_put 17 rfl (by decide) rfl (Nat.le_of_ble_eq_true rfl) (Nat.le_of_ble_eq_true rfl) (Or.inl rfl) (qr_fitZ rfl (Or.inr rfl)) rfl ?_
  refine qy_wS (qw_s σ 86 41 1) rfl (fun σ5 e6 => ?_)
  have hI7 : qI σ5 α κ ρ := by rw [e6]; exact qI_s hI 86 41 rfl (show 0 ≤ 1 ∧ 1 ≤ 1 by omega)
  have hF8 : qFr [(86, 15), (86, 23), (86, 30), (86, 35), (86, 36), (86, 37), (86, 38), (86, 39), (86, 41)] [96, 109] σ α σ5 α := by rw [e6]; exact qFr_s hF0 86 41 _ (by decide)
  refine qr_iload_n 18 rfl rfl rfl ?_
  refine qr_sipush 21 rfl (by decide) rfl ?_
  refine qr_idiv 22 rfl (qrg r3 (by decide) (by decide)) (by decide) rfl ?_
  refine qr_istore _ 24 rfl (by decide) rfl rfl ?_
  have hL448 : ∀ (n : Nat) (ls : qm_L) (u431 u433 : Int) (σ434 α435 : Nat → Nat → Int), 10000 - u433 < (n : Int) → qm_get ls 0 = some (.ref 86) → qm_get ls 1 = some (.int (qz x1)) → qm_get ls 2 = some (.int (qz x2)) → qm_get ls 3 = some (.int (qz x3)) → qm_get ls 4 = some (.long (ql v3)) → qm_get ls 6 = some (.int (qz u431)) → qm_get ls 7 = some (.int (qz u433)) → (0 ≤ u431 ∧ u431 ≤ 1) → (0 ≤ u433 ∧ u433 ≤ 10000) → qI σ434 α435 κ ρ → qFr [(86, 15), (86, 23), (86, 30), (86, 35), (86, 36), (86, 37), (86, 38), (86, 39), (86, 41)] [96, 109] σ α σ434 α435 → σ434 86 6 = (σ 86 6) → σ434 86 10 = (σ 86 10) → σ434 86 24 = (σ 86 24) → σ434 86 29 = (σ 86 29) → σ434 86 41 = 1 → ((u431 = 0 ∧ ∀ x : Int, x3 / 10000 ≤ x → x < u433 → ¬ (qMaM σ α g (ql_or (ql_shl 1 x1) (ql_shl 1 x2)) x x1 x2 ∨ qMaM σ α g (ql_or (ql_shl 1 x1) (ql_shl 1 x2)) x x2 x1)) ∨ (u431 = 1 ∧ ∃ x : Int, (x3 / 10000 ≤ x ∧ x ≤ x3 % 10000) ∧ (qMaM σ α g (ql_or (ql_shl 1 x1) (ql_shl 1 x2)) x x1 x2 ∨ qMaM σ α g (ql_or (ql_shl 1 x1) (ql_shl 1 x2)) x x2 x1))) → σ434 86 41 = 1 → (x3 / 10000) ≤ u433 → qr_W (qe L xs vb) (d + 47) qx_e232 (fun r w' => ∃ σ' α', w' = qw σ' α' κ ρ ∧ qI σ' α' κ ρ ∧ qFr [(86, 15), (86, 23), (86, 30), (86, 35), (86, 36), (86, 37), (86, 38), (86, 39), (86, 41)] [96, 109] σ α σ' α' ∧ σ' 86 41 = 0 ∧ ∃ v : Int, r = some (.int (qz v)) ∧ (0 ≤ v ∧ v ≤ 1) ∧ ((v = 1 ∧ qBaM σ α g x1 x2 (x3 / 10000) (x3 % 10000)) ∨ (v = 0 ∧ ¬ qBaM σ α g x1 x2 (x3 / 10000) (x3 % 10000)))) (24, ls, [], qw σ434 α435 κ ρ, 0, 0) := by
    intro n
    induction n with
    | zero => intro ls u431 u433 σ434 α435 hm g425 g426 g427 g428 g429 g430 g432 hf443 hf444 hI436 hF437 hk438 hk439 hk440 hk441 hk442 hx445 hx446 hx447; exact False.elim (by omega)
    | succ n ih449 =>
      intro ls u431 u433 σ434 α435 hm g425 g426 g427 g428 g429 g430 g432 hf443 hf444 hI436 hF437 hk438 hk439 hk440 hk441 hk442 hx445 hx446 hx447
      have hs450 : 0 ≤ σ434 86 41 ∧ σ434 86 41 ≤ 1 := hI436.1 86 41
      refine qr_iload 26 rfl g432 rfl ?_
      refine qr_iload_n 27 rfl g428 rfl ?_
      refine qr_sipush 30 rfl (by decide) rfl ?_
      refine qr_irem 31 rfl (qrg r3 (by decide) (by decide)) (by decide) rfl ?_
      refine qr_icmp_gt 78 34 rfl rfl rfl (qrg hf444 (by decide) (by decide)) (by omega) (fun h451 => ?_) (fun h451 => ?_)
      · skip
        refine qr_aload_n 79 rfl g425 rfl ?_
        refine qr_iconst 80 rfl rfl ?_
        refine qr_put 83 rfl (by decide) rfl (Nat.le_of_ble_eq_true rfl) (Nat.le_of_ble_eq_true rfl) (Or.inl rfl) (qr_fitZ rfl (Or.inl rfl)) rfl ?_
        refine qy_wS (qw_s σ434 86 41 0) rfl (fun σ452 e453 => ?_)
        have hI454 : qI σ452 α435 κ ρ := by rw [e453]; exact qI_s hI436 86 41 rfl (show 0 ≤ 0 ∧ 0 ≤ 1 by omega)
        have hF455 : qFr [(86, 15), (86, 23), (86, 30), (86, 35), (86, 36), (86, 37), (86, 38), (86, 39), (86, 41)] [96, 109] σ α σ452 α435 := by rw [e453]; exact qFr_s hF437 86 41 _ (by decide)
        refine qr_iload 85 rfl g430 rfl ?_
        refine qr_retZ rfl rfl (by omega) (by decide) (by decide) ?_
        exact ⟨_, _, rfl, hI454, hF455, (by have hw : σ452 86 41 = 0 := (congrFun (congrFun e453 86) 41).trans rfl; omega), u431, rfl, hf443, (by rcases hx445 with hq | hq; (exact Or.inr ⟨hq.1, fun ⟨h, h1, h2⟩ => hq.2 h h1.1 (by omega) h2⟩); (exact Or.inl ⟨hq.1, hq.2⟩))⟩
      · skip
        refine qr_iload 36 rfl g430 rfl ?_
        refine qr_if_ne 78 39 rfl rfl rfl (qrg hf443 (by decide) (by decide)) (fun h456 => ?_) (fun h456 => ?_)
        · skip
          refine qr_aload_n 79 rfl g425 rfl ?_
          refine qr_iconst 80 rfl rfl ?_
          refine qr_put 83 rfl (by decide) rfl (Nat.le_of_ble_eq_true rfl) (Nat.le_of_ble_eq_true rfl) (Or.inl rfl) (qr_fitZ rfl (Or.inl rfl)) rfl ?_
          refine qy_wS (qw_s σ434 86 41 0) rfl (fun σ457 e458 => ?_)
          have hI459 : qI σ457 α435 κ ρ := by rw [e458]; exact qI_s hI436 86 41 rfl (show 0 ≤ 0 ∧ 0 ≤ 1 by omega)
          have hF460 : qFr [(86, 15), (86, 23), (86, 30), (86, 35), (86, 36), (86, 37), (86, 38), (86, 39), (86, 41)] [96, 109] σ α σ457 α435 := by rw [e458]; exact qFr_s hF437 86 41 _ (by decide)
          refine qr_iload 85 rfl g430 rfl ?_
          refine qr_retZ rfl rfl (by omega) (by decide) (by decide) ?_
          exact ⟨_, _, rfl, hI459, hF460, (by have hw : σ457 86 41 = 0 := (congrFun (congrFun e458 86) 41).trans rfl; omega), u431, rfl, hf443, (by rcases hx445 with hq | hq; (exact Or.inr ⟨hq.1, fun ⟨h, h1, h2⟩ => hq.2 h h1.1 (by omega) h2⟩); (exact Or.inl ⟨hq.1, hq.2⟩))⟩
        · skip
          refine qr_aload_n 40 rfl g425 rfl ?_
          refine qr_iload_n 41 rfl g426 rfl ?_
          refine qr_iload_n 42 rfl g427 rfl ?_
          refine qr_lload 44 rfl g429 rfl ?_
          refine qr_iload 46 rfl g432 rfl ?_
          have hs461 : 0 ≤ σ434 86 6 ∧ σ434 86 6 ≤ 32 := hI436.1 86 6
          have hs462 : σ434 86 6 = (σ 86 6) := (hk438).trans rfl
          refine qr_callN 49 rfl rfl rfl (sf_227_86x (d := d + 0) hI436 r1 r2 hv3 (qrg hf444 (by decide) (by decide)) (by omega) (qPG_fr hF437 (by decide) (by decide) p1) (qZf_fr hF437 (by decide) (by decide) p2) (qZk_fr hF437 (by decide) (by decide) p3) (by omega)) ?_
          rintro _ _ ⟨σ465, α466, rfl, hI467, hG468, v463, rfl, hv463, hx464⟩
          have hF469 : qFr [(86, 15), (86, 23), (86, 30), (86, 35), (86, 36), (86, 37), (86, 38), (86, 39), (86, 41)] [96, 109] σ α σ465 α466 := qFr_t hF437 hG468 (by decide) (by decide)
          rw [hF437.1 86 10 (by decide), hF437.1 86 29 (by decide)] at hx464
          show qr_W (qe L xs vb) (d + 47) qx_e232 _ (49, _, [.int (qz v463)], qw σ465 α466 κ ρ, 0, 0)
          simp only [qNVr_ad hF437 (by decide) (by decide) (show σ434 86 41 = 1 from (hk442).trans rfl) p5, hT4, p4] at hx464
          refine qr_if_ne 65 52 rfl rfl rfl hv463 (fun h470 => ?_) (fun h470 => ?_)
          · skip
            refine qr_iconst 66 rfl rfl ?_
            refine qr_goto 70 rfl rfl ?_
            refine qr_istore _ 72 rfl (by decide) rfl rfl ?_
            refine qr_iinc _ 75 rfl (qm_gk g432 (by decide) (Or.inl (by decide))) (by decide) rfl rfl ?_
            refine qr_goto 24 rfl rfl ?_
            exact ih449 _ 1 (u433 + 1) σ465 α466 (by omega) (qm_gk (qm_gk g425 (by decide) (Or.inl (by decide))) (by decide) (Or.inl (by decide))) (qm_gk (qm_gk g426 (by decide) (Or.inl (by decide))) (by decide) (Or.inl (by decide))) (qm_gk (qm_gk g427 (by decide) (Or.inl (by decide))) (by decide) (Or.inl (by decide))) (qm_gk (qm_gk g428 (by decide) (Or.inl (by decide))) (by decide) (Or.inl (by decide))) (qm_gk (qm_gk g429 (by decide) (Or.inl (by decide))) (by decide) (Or.inl (by decide))) (qm_gk (qm_ge _ _ _) (by decide) (Or.inr rfl)) (qm_ge _ _ _) (by decide) (by omega) hI467 hF469 ((hG468.1 86 6 (by decide)).trans ((hk438).trans rfl)) ((hG468.1 86 10 (by decide)).trans ((hk439).trans rfl)) ((hG468.1 86 24 (by decide)).trans ((hk440).trans rfl)) ((hG468.1 86 29 (by decide)).trans ((hk441).trans rfl)) ((hG468.1 86 41 (by decide)).trans ((hk442).trans rfl)) (Or.inr ⟨rfl, u433, ⟨by omega, by omega⟩, Or.inl (fun hz => by rw [← hx464] at hz; omega)⟩) ((hG468.1 86 41 (by decide)).trans ((hk442).trans rfl)) (by omega)
          · skip
            refine qr_aload_n 53 rfl g425 rfl ?_
            refine qr_iload_n 54 rfl g427 rfl ?_
            refine qr_iload_n 55 rfl g426 rfl ?_
            refine qr_lload 57 rfl g429 rfl ?_
            refine qr_iload 59 rfl g432 rfl ?_
            have hs471 : 0 ≤ σ465 86 6 ∧ σ465 86 6 ≤ 32 := hI467.1 86 6
            have hs472 : σ465 86 6 = (σ 86 6) := (hG468.1 86 6 (by decide)).trans ((hk438).trans rfl)
            refine qr_callN 62 rfl rfl rfl (sf_227_86x (d := d + 0) hI467 r2 r1 hv3 (qrg hf444 (by decide) (by decide)) (by omega) (qPG_fr hF469 (by decide) (by decide) p1) (qZf_fr hF469 (by decide) (by decide) p2) (qZk_fr hF469 (by decide) (by decide) p3) (by omega)) ?_
            rintro _ _ ⟨σ475, α476, rfl, hI477, hG478, v473, rfl, hv473, hx474⟩
            have hF479 : qFr [(86, 15), (86, 23), (86, 30), (86, 35), (86, 36), (86, 37), (86, 38), (86, 39), (86, 41)] [96, 109] σ α σ475 α476 := qFr_t hF469 hG478 (by decide) (by decide)
            rw [hF469.1 86 10 (by decide), hF469.1 86 29 (by decide)] at hx474
            show qr_W (qe L xs vb) (d + 47) qx_e232 _ (62, _, [.int (qz v473)], qw σ475 α476 κ ρ, 0, 0)
            simp only [qNVr_ad hF469 (by decide) (by decide) (show σ465 86 41 = 1 from (hG468.1 86 41 (by decide)).trans ((hk442).trans rfl)) p5, hT4, p4] at hx474
            refine qr_if_eq 69 65 rfl rfl rfl hv473 (fun h480 => ?_) (fun h480 => ?_)
            · skip
              refine qr_iconst 70 rfl rfl ?_
              refine qr_istore _ 72 rfl (by decide) rfl rfl ?_
              refine qr_iinc _ 75 rfl (qm_gk g432 (by decide) (Or.inl (by decide))) (by decide) rfl rfl ?_
              refine qr_goto 24 rfl rfl ?_
              exact ih449 _ 0 (u433 + 1) σ475 α476 (by omega) (qm_gk (qm_gk g425 (by decide) (Or.inl (by decide))) (by decide) (Or.inl (by decide))) (qm_gk (qm_gk g426 (by decide) (Or.inl (by decide))) (by decide) (Or.inl (by decide))) (qm_gk (qm_gk g427 (by decide) (Or.inl (by decide))) (by decide) (Or.inl (by decide))) (qm_gk (qm_gk g428 (by decide) (Or.inl (by decide))) (by decide) (Or.inl (by decide))) (qm_gk (qm_gk g429 (by decide) (Or.inl (by decide))) (by decide) (Or.inl (by decide))) (qm_gk (qm_ge _ _ _) (by decide) (Or.inr rfl)) (qm_ge _ _ _) (by decide) (by omega) hI477 hF479 ((hG478.1 86 6 (by decide)).trans ((hG468.1 86 6 (by decide)).trans ((hk438).trans rfl))) ((hG478.1 86 10 (by decide)).trans ((hG468.1 86 10 (by decide)).trans ((hk439).trans rfl))) ((hG478.1 86 24 (by decide)).trans ((hG468.1 86 24 (by decide)).trans ((hk440).trans rfl))) ((hG478.1 86 29 (by decide)).trans ((hG468.1 86 29 (by decide)).trans ((hk441).trans rfl))) ((hG478.1 86 41 (by decide)).trans ((hG468.1 86 41 (by decide)).trans ((hk442).trans rfl))) (by rcases hx445 with hq | hq; (exact Or.inl ⟨rfl, qhr_s (B := fun x => (qMaM σ α g (ql_or (ql_shl 1 x1) (ql_shl 1 x2)) x x1 x2 ∨ qMaM σ α g (ql_or (ql_shl 1 x1) (ql_shl 1 x2)) x x2 x1)) hq.2 (fun hc => hc.elim (fun hz => hz (by rw [← hx464]; omega)) (fun hz => hz (by rw [← hx474]; omega)))⟩); (omega)) ((hG478.1 86 41 (by decide)).trans ((hG468.1 86 41 (by decide)).trans ((hk442).trans rfl))) (by omega)
            · skip
              refine qr_iconst 66 rfl rfl ?_
              refine qr_goto 70 rfl rfl ?_
              refine qr_istore _ 72 rfl (by decide) rfl rfl ?_
              refine qr_iinc _ 75 rfl (qm_gk g432 (by decide) (Or.inl (by decide))) (by decide) rfl rfl ?_
              refine qr_goto 24 rfl rfl ?_
              exact ih449 _ 1 (u433 + 1) σ475 α476 (by omega) (qm_gk (qm_gk g425 (by decide) (Or.inl (by decide))) (by decide) (Or.inl (by decide))) (qm_gk (qm_gk g426 (by decide) (Or.inl (by decide))) (by decide) (Or.inl (by decide))) (qm_gk (qm_gk g427 (by decide) (Or.inl (by decide))) (by decide) (Or.inl (by decide))) (qm_gk (qm_gk g428 (by decide) (Or.inl (by decide))) (by decide) (Or.inl (by decide))) (qm_gk (qm_gk g429 (by decide) (Or.inl (by decide))) (by decide) (Or.inl (by decide))) (qm_gk (qm_ge _ _ _) (by decide) (Or.inr rfl)) (qm_ge _ _ _) (by decide) (by omega) hI477 hF479 ((hG478.1 86 6 (by decide)).trans ((hG468.1 86 6 (by decide)).trans ((hk438).trans rfl))) ((hG478.1 86 10 (by decide)).trans ((hG468.1 86 10 (by decide)).trans ((hk439).trans rfl))) ((hG478.1 86 24 (by decide)).trans ((hG468.1 86 24 (by decide)).trans ((hk440).trans rfl))) ((hG478.1 86 29 (by decide)).trans ((hG468.1 86 29 (by decide)).trans ((hk441).trans rfl))) ((hG478.1 86 41 (by decide)).trans ((hG468.1 86 41 (by decide)).trans ((hk442).trans rfl))) (Or.inr ⟨rfl, u433, ⟨by omega, by omega⟩, Or.inr (fun hz => by rw [← hx474] at hz; omega)⟩) ((hG478.1 86 41 (by decide)).trans ((hG468.1 86 41 (by decide)).trans ((hk442).trans rfl))) (by omega)
  exact hL448 ((10000 - (x3 / 10000) + 1 : Int)).toNat _ 0 (x3 / 10000) σ5 α (by omega) rfl rfl rfl rfl rfl rfl rfl (by decide) (by omega) hI7 hF8 ((congrFun (congrFun e6 86) 6).trans rfl) ((congrFun (congrFun e6 86) 10).trans rfl) ((congrFun (congrFun e6 86) 24).trans rfl) ((congrFun (congrFun e6 86) 29).trans rfl) ((congrFun (congrFun e6 86) 41).trans rfl) (Or.inl ⟨rfl, qhr_0 (B := fun x => (qMaM σ α g (ql_or (ql_shl 1 x1) (ql_shl 1 x2)) x x1 x2 ∨ qMaM σ α g (ql_or (ql_shl 1 x1) (ql_shl 1 x2)) x x2 x1))⟩) ((congrFun (congrFun e6 86) 41).trans rfl) (by omega)
end
section
/-! those told by their places, and sets of places -/
section QYG
variable {X : qm_X} {d : Nat} {x : qs_Ent} {Q : Option Value → qm_W → Prop} {pc : Nat} {ls : qm_L} {st : List Value} {w : qm_W} {c n : Nat}
theorem qy_shl1E {b : Int} {N : Nat} (h : 0 ≤ b ∧ b ≤ (N : Int) ∧ N ≤ 12) (k : ∀ v : Int, (1 ≤ v ∧ v ≤ ((2 ^ N : Nat) : Int)) → v = qz_shl 1 b → qr_W X d x Q (pc, ls, .int (qz v) :: st, w, c, n)) : qr_W X d x Q (pc, ls, .int (qz (qz_shl 1 b)) :: st, w, c, n) := by
  obtain ⟨m, rfl⟩ : ∃ m : Nat, b = m := ⟨b.toNat, by omega⟩
  have e : ∀ q : Fin 13, qz_shl 1 ((q : Nat) : Int) = ((2 ^ (q : Nat) : Nat) : Int) := by decide
  have h1 := e ⟨m, by omega⟩
  have h2 : 2 ^ m ≤ 2 ^ N := Nat.pow_le_pow_right (by decide) (by omega)
  have h3 : 1 ≤ 2 ^ m := Nat.one_le_two_pow
  refine k _ ?_ rfl
  show 1 ≤ qz_shl 1 (m : Int) ∧ qz_shl 1 (m : Int) ≤ _
  rw [show qz_shl 1 (m : Int) = ((2 ^ m : Nat) : Int) from h1]
  omega
end QYG
theorem qshl_r {n : Int} (h : 0 ≤ n ∧ n ≤ 12) : 1 ≤ qz_shl 1 n ∧ qz_shl 1 n ≤ 4096 := by
  obtain ⟨m, rfl⟩ : ∃ m : Nat, n = m := ⟨n.toNat, by omega⟩
  have e : ∀ q : Fin 13, 1 ≤ qz_shl 1 ((q : Nat) : Int) ∧ qz_shl 1 ((q : Nat) : Int) ≤ 4096 := by decide
  exact e ⟨m, by omega⟩
theorem qsm_up {Q : Nat → Int} (h01 : ∀ k, 0 ≤ Q k ∧ Q k ≤ 1) (n : Nat) : ∀ m : Nat, qsm Q n ≤ qsm Q (n + m)
  | 0 => Int.le_refl _
  | m + 1 => by
    have h1 := qsm_up h01 n m
    have h2 := h01 (n + m)
    show qsm Q n ≤ qsm Q (n + m) + Q (n + m)
    omega
theorem qGa_end {x u c : Int} {r : Nat → Int} (h : qLs r c ([] ++ qBr (fun k : Nat => qbit x (k : Int)) u.toNat)) (hc : c = qsm (fun k : Nat => qbit x (k : Int)) u.toNat) (hu : 0 ≤ u ∧ u ≤ 32) (h12 : qcn x 64 ≤ 12) (he : 32 ≤ u ∨ 12 ≤ c) : qLs r c (qBr (fun k : Nat => qbit x (k : Int)) 32) := by
  have h01 : ∀ k : Nat, 0 ≤ qbit x (k : Int) ∧ qbit x (k : Int) ≤ 1 := fun k => qbit_r x (k : Int)
  have h1 := qcn_sm x 64
  have h2 : qcn x ((64 : Nat) : Int) = qcn x 64 := rfl
  have h3 := qsm_up (Q := fun k : Nat => qbit x (k : Int)) h01 32 32
  have e := qBr_st (Q := fun k : Nat => qbit x (k : Int)) h01 32 u.toNat (by omega) (by
    by_cases c : 32 ≤ u
    · rw [show u.toNat = 32 by omega]
      exact Int.le_refl _
    · have h4 : qsm (fun k : Nat => qbit x (k : Int)) (32 + 32) = qsm (fun k : Nat => qbit x (k : Int)) 64 := rfl
      omega)
  rw [← e]
  exact h
/-- a set of places as people -/
def qap (ls : Nat → Int) (x : Int) : Nat → Int
  | 0 => 0
  | n + 1 => if qbi x (n : Int) = 1 then ql_or (qap ls x n) (ql_shl 1 (ls n)) else qap ls x n
theorem qap_y {ls : Nat → Int} {x i v : Int} (h : 0 ≤ i) (hb : qbi x i = 1) (hv : v = ql_or (qap ls x i.toNat) (ql_shl 1 (ls i.toNat))) : v = qap ls x (i + 1).toNat := by
  obtain ⟨m, rfl⟩ : ∃ m : Nat, i = m := ⟨i.toNat, by omega⟩
  rw [show ((m : Int) + 1).toNat = m + 1 by omega, hv, Int.toNat_natCast]
  exact (if_pos hb).symm
theorem qap_n {ls : Nat → Int} {x i v : Int} (h : 0 ≤ i) (hb : ¬ qbi x i = 1) (hv : v = qap ls x i.toNat) : v = qap ls x (i + 1).toNat := by
  obtain ⟨m, rfl⟩ : ∃ m : Nat, i = m := ⟨i.toNat, by omega⟩
  rw [show ((m : Int) + 1).toNat = m + 1 by omega, hv, Int.toNat_natCast]
  exact (if_neg hb).symm
/-- how many places of a set -/
def qpn (x : Int) : Int := ((qbN x.toNat 12 : Nat) : Int)
theorem qpn_low {x : Int} (h : 1 ≤ x ∧ x ≤ 4095) : qpn (qz_and x (x - 1)) = qpn x - 1 := by
  obtain ⟨m, rfl⟩ : ∃ m : Nat, x = m := ⟨x.toNat, by omega⟩
  have key : ∀ q r : Fin 64, 64 * (q : Nat) + (r : Nat) = 0 ∨ qpn (qz_and ((64 * (q : Nat) + (r : Nat) : Nat) : Int) (((64 * (q : Nat) + (r : Nat) : Nat) : Int) - 1)) = qpn ((64 * (q : Nat) + (r : Nat) : Nat) : Int) - 1 := by decide +kernel
  have h1 := key ⟨m / 64, by omega⟩ ⟨m % 64, by omega⟩
  rw [show 64 * ((⟨m / 64, by omega⟩ : Fin 64) : Nat) + ((⟨m % 64, by omega⟩ : Fin 64) : Nat) = m by show 64 * (m / 64) + m % 64 = m; omega] at h1
  omega
theorem qpn_r {x : Int} (h : 0 ≤ x ∧ x ≤ 4095) : 0 ≤ qpn x ∧ qpn x ≤ 12 := by
  obtain ⟨m, rfl⟩ : ∃ m : Nat, x = m := ⟨x.toNat, by omega⟩
  have key : ∀ q r : Fin 64, 0 ≤ qpn ((64 * (q : Nat) + (r : Nat) : Nat) : Int) ∧ qpn ((64 * (q : Nat) + (r : Nat) : Nat) : Int) ≤ 12 := by decide +kernel
  have h1 := key ⟨m / 64, by omega⟩ ⟨m % 64, by omega⟩
  rw [show 64 * ((⟨m / 64, by omega⟩ : Fin 64) : Nat) + ((⟨m % 64, by omega⟩ : Fin 64) : Nat) = m by show 64 * (m / 64) + m % 64 = m; omega] at h1
  exact h1

set_option maxHeartbeats 4000000 in
set_option maxRecDepth 20000 in
/-- OneRoof.isGathering -/
theorem sf_109x {L : Nat} {xs : Nat → Int} {vb : Bool} {d : Nat} {σ α : Nat → Nat → Int} {κ : Nat → Option Nat} {ρ : Nat} {x0 : Int} {x1 : Int} (hI : qI σ α κ ρ) (r0 : (-9223372036854775808) ≤ x0 ∧ x0 ≤ 9223372036854775807) (r1 : (-2147483648) ≤ x1 ∧ x1 ≤ 2147483647) : qm_T (qe L xs vb) (d + 2) 109 [.long (ql x0), .int (qz x1)] (qw σ α κ ρ) (fun r w' => w' = qw σ α κ ρ ∧ ∃ v : Int, r = some (.int (qz v)) ∧ (0 ≤ v ∧ v ≤ 1) ∧ ((v = 1 ∧ (¬ x0 = 0 ∧ qcn x0 64 ≤ x1)) ∨ (v = 0 ∧ ¬ ((¬ x0 = 0 ∧ qcn x0 64 ≤ x1))))) := by
  refine qr_start (d := d + 1) qv_e109 (Nat.le_of_ble_eq_true rfl) ?_
  show qr_W (qe L xs vb) (d + 1) qx_e109 _ (0, [(0, .long (ql x0)), (2, .int (qz x1))], [], _, 0, 0)
  refine qr_lload_n 1 rfl rfl rfl ?_
  refine qr_lconst 2 rfl rfl ?_
  refine qy_vl 0 rfl ?_
  refine qr_lc_eq 18 6 rfl rfl rfl rfl r0 (by decide) (fun h1 => ?_) (fun h1 => ?_)
  · skip
    refine qr_iconst 19 rfl rfl ?_
    refine qr_retZ rfl rfl (Or.inl rfl) (by decide) (by decide) ?_
    exact ⟨rfl, 0, rfl, (by decide), by omega⟩
  · skip
    refine qr_lload_n 7 rfl rfl rfl ?_
    refine qr_callN 10 rfl rfl rfl (sf_74c (d := d + 0) hI r0) ?_
    rintro _ _ ⟨rfl, v2, rfl, hv2, hp3⟩
    show qr_W (qe L xs vb) (d + 1) qx_e109 _ (10, _, [.int (qz v2)], qw σ α κ ρ, 0, 0)
    refine qr_iload_n 11 rfl rfl rfl ?_
    refine qr_icmp_gt 18 14 rfl rfl rfl (qrg hv2 (by decide) (by decide)) r1 (fun h4 => ?_) (fun h4 => ?_)
    · skip
      refine qr_iconst 19 rfl rfl ?_
      refine qr_retZ rfl rfl (Or.inl rfl) (by decide) (by decide) ?_
      exact ⟨rfl, 0, rfl, (by decide), by omega⟩
    · skip
      refine qr_iconst 15 rfl rfl ?_
      refine qr_goto 19 rfl rfl ?_
      refine qr_retZ rfl rfl (Or.inr rfl) (by decide) (by decide) ?_
      exact ⟨rfl, 1, rfl, (by decide), by omega⟩

set_option maxHeartbeats 4000000 in
set_option maxRecDepth 20000 in
/-- OneRoof$Guests.gather -/
theorem sf_110_64x {L : Nat} {xs : Nat → Int} {vb : Bool} {d : Nat} {σ α : Nat → Nat → Int} {κ : Nat → Option Nat} {ρ : Nat} {x1 : Int} (hI : qI σ α κ ρ) (r1 : (-9223372036854775808) ≤ x1 ∧ x1 ≤ 9223372036854775807) (p0 : qcn x1 64 ≤ 12) : qm_T (qe L xs vb) (d + 2) 110 [.ref 64, .long (ql x1)] (qw σ α κ ρ) (fun r w' => ∃ σ' α', w' = qw σ' α' κ ρ ∧ qI σ' α' κ ρ ∧ qFr [(64, 2)] [65] σ α σ' α' ∧ r = none ∧ qLs (α' 65) (σ' 64 2) (qBr (fun k : Nat => qbit x1 (k : Int)) 32)) := by
  refine qr_start (d := d + 1) qv_e110 (Nat.le_of_ble_eq_true rfl) ?_
  show qr_W (qe L xs vb) (d + 1) qx_e110 _ (0, [(0, .ref 64), (1, .long (ql x1))], [], _, 0, 0)
  have hF0 := qFr_rf [(64, 2)] [65] σ α
  have hz64_2 : 0 ≤ σ 64 2 ∧ σ 64 2 ≤ 12 := hI.1 64 2
  refine qr_aload_n 1 rfl rfl rfl ?_
  refine qr_iconst 2 rfl rfl ?_
  refine qr_put 5 rfl (by decide) rfl (Nat.le_of_ble_eq_true rfl) (Nat.le_of_ble_eq_true rfl) (Or.inl rfl) (qr_fitI rfl _) rfl ?_
  refine qy_wS (qw_s σ 64 2 0) rfl (fun σ1 e2 => ?_)
  have hI3 : qI σ1 α κ ρ := by rw [e2]; exact qI_g0 hI
  have hF4 : qFr [(64, 2)] [65] σ α σ1 α := by rw [e2]; exact qFr_s hF0 64 2 _ (by decide)
  refine qr_iconst 6 rfl rfl ?_
  refine qr_istore_n _ 7 rfl (by decide) rfl rfl ?_
  have hL227 : ∀ (n : Nat) (ls : qm_L) (u218 : Int) (σ219 α220 : Nat → Nat → Int), 32 - u218 < (n : Int) → qm_get ls 0 = some (.ref 64) → qm_get ls 1 = some (.long (ql x1)) → qm_get ls 3 = some (.int (qz u218)) → (0 ≤ u218 ∧ u218 ≤ 32) → qI σ219 α220 κ ρ → qFr [(64, 2)] [65] σ α σ219 α220 → (∀ j : Nat, (j : Int) < σ219 64 2 → α220 65 j < u218) → qLs (α220 65) (σ219 64 2) ([] ++ qBr (fun k : Nat => qbit x1 (k : Int)) (u218 : Int).toNat) → σ219 64 2 = qsm (fun k : Nat => qbit x1 (k : Int)) (u218 : Int).toNat → qr_W (qe L xs vb) (d + 1) qx_e110 (fun r w' => ∃ σ' α', w' = qw σ' α' κ ρ ∧ qI σ' α' κ ρ ∧ qFr [(64, 2)] [65] σ α σ' α' ∧ r = none ∧ qLs (α' 65) (σ' 64 2) (qBr (fun k : Nat => qbit x1 (k : Int)) 32)) (7, ls, [], qw σ219 α220 κ ρ, 0, 0) := by
    intro n
    induction n with
    | zero => intro ls u218 σ219 α220 hm g215 g216 g217 hf223 hI221 hF222 hx224 hx225 hx226; exact False.elim (by omega)
    | succ n ih228 =>
      intro ls u218 σ219 α220 hm g215 g216 g217 hf223 hI221 hF222 hx224 hx225 hx226
      have hs229 : 0 ≤ σ219 64 2 ∧ σ219 64 2 ≤ 12 := hI221.1 64 2
      refine qr_iload_n 8 rfl g217 rfl ?_
      refine qr_bipush 10 rfl (by decide) rfl ?_
      refine qr_icmp_ge 56 13 rfl rfl rfl (qrg hf223 (by decide) (by decide)) (by decide) (fun h230 => ?_) (fun h230 => ?_)
      · skip
        refine qr_retV rfl rfl (by decide) (by decide) ?_
        exact ⟨_, _, rfl, hI221, hF222, rfl, (qGa_end hx225 hx226 (by omega) p0 (by omega))⟩
      · skip
        refine qr_aload_n 14 rfl g215 rfl ?_
        refine qr_get 17 rfl rfl rfl (by decide) rfl ?_
        refine qr_aload_n 18 rfl g215 rfl ?_
        refine qr_get 21 rfl rfl rfl (by decide) rfl ?_
        refine qr_alen 22 rfl rfl (by first | exact Or.inl (by decide) | exact Or.inr (Or.inl rfl) | exact Or.inr (Or.inr (Or.inl rfl)) | exact Or.inr (Or.inr (Or.inr (Or.inl rfl)))) rfl ?_
        refine qy_v 12 rfl ?_
        refine qr_icmp_ge 56 25 rfl rfl rfl (by omega) (by decide) (fun h231 => ?_) (fun h231 => ?_)
        · skip
          refine qr_retV rfl rfl (by decide) (by decide) ?_
          exact ⟨_, _, rfl, hI221, hF222, rfl, (qGa_end hx225 hx226 (by omega) p0 (by omega))⟩
        · skip
          refine qr_lload_n 26 rfl g216 rfl ?_
          refine qr_iload_n 27 rfl g217 rfl ?_
          refine qr_callN 30 rfl rfl rfl (sf_50b (d := d + 0) hI221 r1 (qrg hf223 (by decide) (by decide))) ?_
          rintro _ _ ⟨rfl, v232, rfl, hv232, hp233⟩
          show qr_W (qe L xs vb) (d + 1) qx_e110 _ (30, _, [.int (qz v232)], qw σ219 α220 κ ρ, 0, 0)
          refine qr_if_eq 50 33 rfl rfl rfl (qrg hv232 (by decide) (by decide)) (fun h234 => ?_) (fun h234 => ?_)
          · skip
            refine qr_iinc _ 53 rfl g217 (by decide) rfl rfl ?_
            refine qr_goto 7 rfl rfl ?_
            exact ih228 _ (u218 + 1) σ219 α220 (by omega) (qm_gk g215 (by decide) (Or.inl (by decide))) (qm_gk g216 (by decide) (Or.inl (by decide))) (qm_ge _ _ _) (by omega) hI221 hF222 (fun j hj => by have hg := hx224 j hj; omega) (qLs_bn (by omega) (by show ¬ qbit x1 (((u218 : Int).toNat : Nat) : Int) = 1; rw [show (((u218 : Int).toNat : Nat) : Int) = u218 by omega]; omega) hx225) (by have hq := qsm_b x1 (i := u218) (by omega); have hx := hx226; have hw : σ219 64 2 = (σ219 64 2) := rfl; omega)
          · skip
            refine qr_aload_n 34 rfl g215 rfl ?_
            refine qr_get 37 rfl rfl rfl (by decide) rfl ?_
            refine qr_aload_n 38 rfl g215 rfl ?_
            refine qr_dup 39 rfl rfl rfl ?_
            refine qr_get 42 rfl rfl rfl (by decide) rfl ?_
            refine qr_dup_x1 43 rfl rfl rfl rfl ?_
            refine qr_iconst 44 rfl rfl ?_
            refine qr_iadd 45 rfl rfl ?_
            refine qr_put 48 rfl (by decide) rfl (Nat.le_of_ble_eq_true rfl) (Nat.le_of_ble_eq_true rfl) (Or.inl rfl) (qr_fitI rfl _) rfl ?_
            refine qy_wS (qw_s σ219 64 2 ((σ219 64 2) + 1)) rfl (fun σ235 e236 => ?_)
            have hF238 : qFr [(64, 2)] [65] σ α σ235 α220 := by rw [e236]; exact qFr_s hF222 64 2 _ (by decide)
            refine qr_iload_n 49 rfl g217 rfl ?_
            refine qr_iastore 50 rfl (by decide) rfl (by omega) (by decide) rfl ?_
            refine qy_wA (qw_r α220 65 (qzu (α220 65) ((σ219 64 2) : Int).toNat u218)) rfl (fun α239 e240 => ?_)
            have hI241 : qI σ235 α239 κ ρ := by rw [e240, e236]; exact qI_g1 hI221 _ (by omega) (by omega) (show 0 ≤ u218 ∧ u218 ≤ 31 by omega) (fun j hj => by have hg := hx224 j hj; omega)
            have hF242 : qFr [(64, 2)] [65] σ α σ235 α239 := by rw [e240]; exact qFr_r hF238 65 _ (by decide)
            refine qr_iinc _ 53 rfl g217 (by decide) rfl rfl ?_
            refine qr_goto 7 rfl rfl ?_
            exact ih228 _ (u218 + 1) σ235 α239 (by omega) (qm_gk g215 (by decide) (Or.inl (by decide))) (qm_gk g216 (by decide) (Or.inl (by decide))) (qm_ge _ _ _) (by omega) hI241 hF242 (fun j hj => by have hw : σ235 64 2 = ((σ219 64 2) + 1) := (congrFun (congrFun e236 64) 2).trans rfl; rw [e240, qw_r_eq]; unfold qzu; split; (omega); (have hg := hx224 j (by omega); omega)) (qLs_by (by omega) (by show qbit x1 (((u218 : Int).toNat : Nat) : Int) = 1; rw [show (((u218 : Int).toNat : Nat) : Int) = u218 by omega]; omega) (((congrFun e240 65).trans (qw_r_eq.trans (congrArg (fun f => qzu f ((σ219 64 2) : Int).toNat u218) rfl)))) ((congrFun (congrFun e236 64) 2).trans rfl) hx225) (by have hq := qsm_b x1 (i := u218) (by omega); have hx := hx226; have hw : σ235 64 2 = ((σ219 64 2) + 1) := (congrFun (congrFun e236 64) 2).trans rfl; omega)
  exact hL227 ((32 - 0 + 1 : Int)).toNat _ 0 σ1 α (by omega) rfl rfl rfl (by decide) hI3 hF4 (fun j hj => by have hw : σ1 64 2 = 0 := (congrFun (congrFun e2 64) 2).trans rfl; omega) (qLs_in rfl ((congrFun (congrFun e2 64) 2).trans rfl) (qLs_0 _)) (((congrFun (congrFun e2 64) 2).trans rfl).trans rfl)

set_option maxHeartbeats 4000000 in
set_option maxRecDepth 20000 in
/-- OneRoofModel.lists -/
theorem sf_234_86x {L : Nat} {xs : Nat → Int} {vb : Bool} {d : Nat} {σ α : Nat → Nat → Int} {κ : Nat → Option Nat} {ρ : Nat} {x1 : Int} {x2 : Int} (hI : qI σ α κ ρ) (r1 : (-9223372036854775808) ≤ x1 ∧ x1 ≤ 9223372036854775807) (r2 : 0 ≤ x2 ∧ x2 ≤ 12) : qm_T (qe L xs vb) (d + 2) 234 [.ref 86, .long (ql x1), .int (qz x2)] (qw σ α κ ρ) (fun r w' => ∃ σ' α', w' = qw σ' α' κ ρ ∧ qI σ' α' κ ρ ∧ qFr [(86, 43)] [110] σ α σ' α' ∧ ∃ v : Int, r = some (.int (qz v)) ∧ (0 ≤ v ∧ v ≤ 1) ∧ (v = 0 ∨ (v = 1 ∧ 1 ≤ σ' 86 43 ∧ σ' 86 43 ≤ x2 ∧ 1 ≤ σ 86 6)) ∧ ((v = 0 ∧ ¬ (qst x1 (σ 86 6) ∧ 1 ≤ qsm (fun k : Nat => qbit (ql_and x1 (ql_xor (σ 86 10) (-1))) (k : Int)) (σ 86 6 : Int).toNat ∧ qsm (fun k : Nat => qbit (ql_and x1 (ql_xor (σ 86 10) (-1))) (k : Int)) (σ 86 6 : Int).toNat ≤ x2)) ∨ (v = 1 ∧ (qst x1 (σ 86 6) ∧ 1 ≤ qsm (fun k : Nat => qbit (ql_and x1 (ql_xor (σ 86 10) (-1))) (k : Int)) (σ 86 6 : Int).toNat ∧ qsm (fun k : Nat => qbit (ql_and x1 (ql_xor (σ 86 10) (-1))) (k : Int)) (σ 86 6 : Int).toNat ≤ x2) ∧ qLs (α' 110) (σ' 86 43) (qBr (fun k : Nat => qbit (ql_and x1 (ql_xor (σ 86 10) (-1))) (k : Int)) (σ 86 6 : Int).toNat)))) := by
  refine qr_start (d := d + 1) qv_e234 (Nat.le_of_ble_eq_true rfl) ?_
  show qr_W (qe L xs vb) (d + 1) qx_e234 _ (0, [(0, .ref 86), (1, .long (ql x1)), (3, .int (qz x2))], [], _, 0, 0)
  have hF0 := qFr_rf [(86, 43)] [110] σ α
  have hz86_6 : 0 ≤ σ 86 6 ∧ σ 86 6 ≤ 32 := hI.1 86 6
  have hz86_10 : (-9223372036854775808) ≤ σ 86 10 ∧ σ 86 10 ≤ 9223372036854775807 := hI.1 86 10
  have hz86_43 : 0 ≤ σ 86 43 ∧ σ 86 43 ≤ 32 := hI.1 86 43
  refine qr_aload_n 1 rfl rfl rfl ?_
  refine qr_iconst 2 rfl rfl ?_
  refine qr_put 5 rfl (by decide) rfl (Nat.le_of_ble_eq_true rfl) (Nat.le_of_ble_eq_true rfl) (Or.inl rfl) (qr_fitI rfl _) rfl ?_
  refine qy_wS (qw_s σ 86 43 0) rfl (fun σ1 e2 => ?_)
  have hI3 : qI σ1 α κ ρ := by rw [e2]; exact qI_s hI 86 43 rfl (show 0 ≤ 0 ∧ 0 ≤ 32 by omega)
  have hF4 : qFr [(86, 43)] [110] σ α σ1 α := by rw [e2]; exact qFr_s hF0 86 43 _ (by decide)
  refine qr_iconst 6 rfl rfl ?_
  refine qr_istore _ 8 rfl (by decide) rfl rfl ?_
  have hL547 : ∀ (n : Nat) (ls : qm_L) (u534 : Int) (σ535 α536 : Nat → Nat → Int), 32 - u534 < (n : Int) → qm_get ls 0 = some (.ref 86) → qm_get ls 1 = some (.long (ql x1)) → qm_get ls 3 = some (.int (qz x2)) → qm_get ls 4 = some (.int (qz u534)) → (0 ≤ u534 ∧ u534 ≤ 32) → qI σ535 α536 κ ρ → qFr [(86, 43)] [110] σ α σ535 α536 → σ535 86 6 = (σ 86 6) → σ535 86 10 = (σ 86 10) → qLs (α536 110) (σ535 86 43) ([] ++ qBr (fun k : Nat => qbit (ql_and x1 (ql_xor (σ 86 10) (-1))) (k : Int)) (u534 : Int).toNat) → σ535 86 43 = qsm (fun k : Nat => qbit (ql_and x1 (ql_xor (σ 86 10) (-1))) (k : Int)) (u534 : Int).toNat → σ535 86 43 ≤ u534 → (σ535 86 43 = 0 ∨ 1 ≤ σ 86 6) → u534 ≤ σ 86 6 → qr_W (qe L xs vb) (d + 1) qx_e234 (fun r w' => ∃ σ' α', w' = qw σ' α' κ ρ ∧ qI σ' α' κ ρ ∧ qFr [(86, 43)] [110] σ α σ' α' ∧ ∃ v : Int, r = some (.int (qz v)) ∧ (0 ≤ v ∧ v ≤ 1) ∧ (v = 0 ∨ (v = 1 ∧ 1 ≤ σ' 86 43 ∧ σ' 86 43 ≤ x2 ∧ 1 ≤ σ 86 6)) ∧ ((v = 0 ∧ ¬ (qst x1 (σ 86 6) ∧ 1 ≤ qsm (fun k : Nat => qbit (ql_and x1 (ql_xor (σ 86 10) (-1))) (k : Int)) (σ 86 6 : Int).toNat ∧ qsm (fun k : Nat => qbit (ql_and x1 (ql_xor (σ 86 10) (-1))) (k : Int)) (σ 86 6 : Int).toNat ≤ x2)) ∨ (v = 1 ∧ (qst x1 (σ 86 6) ∧ 1 ≤ qsm (fun k : Nat => qbit (ql_and x1 (ql_xor (σ 86 10) (-1))) (k : Int)) (σ 86 6 : Int).toNat ∧ qsm (fun k : Nat => qbit (ql_and x1 (ql_xor (σ 86 10) (-1))) (k : Int)) (σ 86 6 : Int).toNat ≤ x2) ∧ qLs (α' 110) (σ' 86 43) (qBr (fun k : Nat => qbit (ql_and x1 (ql_xor (σ 86 10) (-1))) (k : Int)) (σ 86 6 : Int).toNat)))) (8, ls, [], qw σ535 α536 κ ρ, 0, 0) := by
    intro n
    induction n with
    | zero => intro ls u534 σ535 α536 hm g530 g531 g532 g533 hf541 hI537 hF538 hk539 hk540 hx542 hx543 hx544 hx545 hx546; exact False.elim (by omega)
    | succ n ih548 =>
      intro ls u534 σ535 α536 hm g530 g531 g532 g533 hf541 hI537 hF538 hk539 hk540 hx542 hx543 hx544 hx545 hx546
      have hs549 : 0 ≤ σ535 86 43 ∧ σ535 86 43 ≤ 32 := hI537.1 86 43
      refine qr_iload 10 rfl g533 rfl ?_
      refine qr_aload_n 11 rfl g530 rfl ?_
      refine qr_get 14 rfl rfl rfl (by decide) rfl ?_
      refine qy_v (σ 86 6) ((hk539).trans rfl) ?_
      refine qr_icmp_ge 70 17 rfl rfl rfl (qrg hf541 (by decide) (by decide)) (qrg hz86_6 (by decide) (by decide)) (fun h550 => ?_) (fun h550 => ?_)
      · skip
        refine qr_aload_n 71 rfl g530 rfl ?_
        refine qr_lload_n 72 rfl g531 rfl ?_
        refine qr_callN 75 rfl rfl rfl (sf_225_86x (d := d + 0) hI537 r1) ?_
        have hs553 : 0 ≤ σ535 86 6 ∧ σ535 86 6 ≤ 32 := hI537.1 86 6
        have hs554 : σ535 86 6 = (σ 86 6) := (hk539).trans rfl
        rintro _ _ ⟨rfl, v551, rfl, hv551, hp552⟩
        rw [hF538.1 86 6 (by decide)] at hp552
        show qr_W (qe L xs vb) (d + 1) qx_e234 _ (75, _, [.int (qz v551)], qw σ535 α536 κ ρ, 0, 0)
        refine qr_if_eq 96 78 rfl rfl rfl (qrg hv551 (by decide) (by decide)) (fun h555 => ?_) (fun h555 => ?_)
        · skip
          refine qr_iconst 97 rfl rfl ?_
          refine qr_retZ rfl rfl (Or.inl rfl) (by decide) (by decide) ?_
          have hw556 : σ535 86 43 = (σ535 86 43) := rfl
          exact ⟨_, _, rfl, hI537, hF538, 0, rfl, (by decide), by omega, (Or.inl ⟨rfl, fun hc => by have h2 := hx543; rw [show u534 = σ 86 6 by omega] at h2; rcases hp552 with hz | hz; (omega); (exact hz.2 hc.1)⟩)⟩
        · skip
          refine qr_aload_n 79 rfl g530 rfl ?_
          refine qr_get 82 rfl rfl rfl (by decide) rfl ?_
          refine qr_i2l 83 rfl (by omega) rfl ?_
          refine qr_lconst 84 rfl rfl ?_
          refine qy_vl 1 rfl ?_
          refine qr_iload_n 85 rfl g532 rfl ?_
          refine qr_i2l 86 rfl (qrg r2 (by decide) (by decide)) rfl ?_
          refine qr_callN 89 rfl rfl rfl (sf_176 (d := d + 0) hI537 (by omega) (by decide) (qrg r2 (by decide) (by decide))) ?_
          rintro _ _ ⟨rfl, v557, rfl, hv557, hp558⟩
          show qr_W (qe L xs vb) (d + 1) qx_e234 _ (89, _, [.int (qz v557)], qw σ535 α536 κ ρ, 0, 0)
          refine qr_if_eq 96 92 rfl rfl rfl (qrg hv557 (by decide) (by decide)) (fun h559 => ?_) (fun h559 => ?_)
          · skip
            refine qr_iconst 97 rfl rfl ?_
            refine qr_retZ rfl rfl (Or.inl rfl) (by decide) (by decide) ?_
            have hw560 : σ535 86 43 = (σ535 86 43) := rfl
            exact ⟨_, _, rfl, hI537, hF538, 0, rfl, (by decide), by omega, (Or.inl ⟨rfl, fun hc => by have h2 := hx543; rw [show u534 = σ 86 6 by omega] at h2; rcases hp552 with hz | hz; (omega); (exact hz.2 hc.1)⟩)⟩
          · skip
            refine qr_iconst 93 rfl rfl ?_
            refine qr_goto 97 rfl rfl ?_
            refine qr_retZ rfl rfl (Or.inr rfl) (by decide) (by decide) ?_
            have hw561 : σ535 86 43 = (σ535 86 43) := rfl
            exact ⟨_, _, rfl, hI537, hF538, 1, rfl, (by decide), by omega, (by have h1 := hx542; have h2 := hx543; rw [show u534 = σ 86 6 by omega] at h1 h2; exact Or.inr ⟨rfl, ⟨(by rcases hp552 with hy | hy; (exact hy.2); (omega)), by omega, by omega⟩, h1⟩)⟩
      · skip
        refine qr_aload_n 18 rfl g530 rfl ?_
        refine qr_lload_n 19 rfl g531 rfl ?_
        refine qr_callN 22 rfl rfl rfl (sf_225_86x (d := d + 0) hI537 r1) ?_
        have hs564 : 0 ≤ σ535 86 6 ∧ σ535 86 6 ≤ 32 := hI537.1 86 6
        have hs565 : σ535 86 6 = (σ 86 6) := (hk539).trans rfl
        rintro _ _ ⟨rfl, v562, rfl, hv562, hp563⟩
        rw [hF538.1 86 6 (by decide)] at hp563
        show qr_W (qe L xs vb) (d + 1) qx_e234 _ (22, _, [.int (qz v562)], qw σ535 α536 κ ρ, 0, 0)
        refine qr_if_eq 70 25 rfl rfl rfl (qrg hv562 (by decide) (by decide)) (fun h566 => ?_) (fun h566 => ?_)
        · skip
          refine qr_aload_n 71 rfl g530 rfl ?_
          refine qr_lload_n 72 rfl g531 rfl ?_
          refine qr_callN 75 rfl rfl rfl (sf_225_86x (d := d + 0) hI537 r1) ?_
          have hs569 : 0 ≤ σ535 86 6 ∧ σ535 86 6 ≤ 32 := hI537.1 86 6
          have hs570 : σ535 86 6 = (σ 86 6) := (hk539).trans rfl
          rintro _ _ ⟨rfl, v567, rfl, hv567, hp568⟩
          rw [hF538.1 86 6 (by decide)] at hp568
          show qr_W (qe L xs vb) (d + 1) qx_e234 _ (75, _, [.int (qz v567)], qw σ535 α536 κ ρ, 0, 0)
          refine qr_if_eq 96 78 rfl rfl rfl (qrg hv567 (by decide) (by decide)) (fun h571 => ?_) (fun h571 => ?_)
          · skip
            refine qr_iconst 97 rfl rfl ?_
            refine qr_retZ rfl rfl (Or.inl rfl) (by decide) (by decide) ?_
            have hw572 : σ535 86 43 = (σ535 86 43) := rfl
            exact ⟨_, _, rfl, hI537, hF538, 0, rfl, (by decide), by omega, (Or.inl ⟨rfl, fun hc => by rcases hp563 with hz | hz; (omega); (exact hz.2 hc.1)⟩)⟩
          · skip
            refine qr_aload_n 79 rfl g530 rfl ?_
            refine qr_get 82 rfl rfl rfl (by decide) rfl ?_
            refine qr_i2l 83 rfl (by omega) rfl ?_
            refine qr_lconst 84 rfl rfl ?_
            refine qy_vl 1 rfl ?_
            refine qr_iload_n 85 rfl g532 rfl ?_
            refine qr_i2l 86 rfl (qrg r2 (by decide) (by decide)) rfl ?_
            refine qr_callN 89 rfl rfl rfl (sf_176 (d := d + 0) hI537 (by omega) (by decide) (qrg r2 (by decide) (by decide))) ?_
            rintro _ _ ⟨rfl, v573, rfl, hv573, hp574⟩
            show qr_W (qe L xs vb) (d + 1) qx_e234 _ (89, _, [.int (qz v573)], qw σ535 α536 κ ρ, 0, 0)
            refine qr_if_eq 96 92 rfl rfl rfl (qrg hv573 (by decide) (by decide)) (fun h575 => ?_) (fun h575 => ?_)
            · skip
              refine qr_iconst 97 rfl rfl ?_
              refine qr_retZ rfl rfl (Or.inl rfl) (by decide) (by decide) ?_
              have hw576 : σ535 86 43 = (σ535 86 43) := rfl
              exact ⟨_, _, rfl, hI537, hF538, 0, rfl, (by decide), by omega, (Or.inl ⟨rfl, fun hc => by rcases hp563 with hz | hz; (omega); (exact hz.2 hc.1)⟩)⟩
            · skip
              refine qr_iconst 93 rfl rfl ?_
              refine qr_goto 97 rfl rfl ?_
              refine qr_retZ rfl rfl (Or.inr rfl) (by decide) (by decide) ?_
              have hw577 : σ535 86 43 = (σ535 86 43) := rfl
              exact ⟨_, _, rfl, hI537, hF538, 1, rfl, (by decide), by omega, (by rcases hp563 with hz | hz; (omega); (rcases hp568 with hy | hy; (exact absurd hy.2 hz.2); (omega)))⟩
        · skip
          refine qr_lload_n 26 rfl g531 rfl ?_
          refine qr_aload_n 27 rfl g530 rfl ?_
          refine qr_get 30 rfl rfl rfl (by decide) rfl ?_
          refine qy_vl (σ 86 10) ((hk540).trans rfl) ?_
          refine qr_ldc2 (-1) 33 rfl (by decide) rfl ?_
          refine qr_lxor 34 rfl rfl ?_
          refine qy_canlE (fun v578 hv578 hev578 => ?_)
          refine qr_land 35 rfl rfl ?_
          refine qy_canlE (fun v579 hv579 hev579 => ?_)
          refine qr_iload 37 rfl g533 rfl ?_
          have hL580 : v579 = (ql_and x1 (ql_xor (σ 86 10) (-1))) := by rw [ql_val hev579 (by omega) (ql_and_r _ _), ql_val hev578 (by omega) (ql_xor_r _ _)]
          refine qr_callN 40 rfl rfl rfl (sf_226x (d := d + 0) hI537 hv579 (by omega)) ?_
          rintro _ _ ⟨rfl, v581, rfl, hv581, hp582⟩
          show qr_W (qe L xs vb) (d + 1) qx_e234 _ (40, _, [.int (qz v581)], qw σ535 α536 κ ρ, 0, 0)
          rw [hL580] at hp582
          refine qr_if_eq 64 43 rfl rfl rfl (qrg hv581 (by decide) (by decide)) (fun h583 => ?_) (fun h583 => ?_)
          · skip
            refine qr_iinc _ 67 rfl g533 (by decide) rfl rfl ?_
            refine qr_goto 8 rfl rfl ?_
            exact ih548 _ (u534 + 1) σ535 α536 (by omega) (qm_gk g530 (by decide) (Or.inl (by decide))) (qm_gk g531 (by decide) (Or.inl (by decide))) (qm_gk g532 (by decide) (Or.inr rfl)) (qm_ge _ _ _) (by omega) hI537 hF538 ((hk539).trans rfl) ((hk540).trans rfl) (qLs_bn (by omega) (by show ¬ qbit (ql_and x1 (ql_xor (σ 86 10) (-1))) (((u534 : Int).toNat : Nat) : Int) = 1; rw [show (((u534 : Int).toNat : Nat) : Int) = u534 by omega]; omega) hx542) (by have hq := qsm_b (ql_and x1 (ql_xor (σ 86 10) (-1))) (i := u534) (by omega); have hx := hx543; have hw : σ535 86 43 = (σ535 86 43) := rfl; omega) (by have hw : σ535 86 43 = (σ535 86 43) := rfl; omega) (by have hw : σ535 86 43 = (σ535 86 43) := rfl; omega) (by omega)
          · skip
            refine qr_aload_n 44 rfl g530 rfl ?_
            refine qr_get 47 rfl rfl rfl (by decide) rfl ?_
            refine qr_aload_n 48 rfl g530 rfl ?_
            refine qr_get 51 rfl rfl rfl (by decide) rfl ?_
            refine qr_iload 53 rfl g533 rfl ?_
            refine qr_iastore 54 rfl (by decide) rfl (by omega) (by decide) rfl ?_
            refine qy_wA (qw_r α536 110 (qzu (α536 110) ((σ535 86 43) : Int).toNat u534)) rfl (fun α584 e585 => ?_)
            have hI586 : qI σ535 α584 κ ρ := by rw [e585]; exact qI_r hI537 110 _ rfl (show 0 ≤ u534 ∧ u534 ≤ 31 by omega)
            have hF587 : qFr [(86, 43)] [110] σ α σ535 α584 := by rw [e585]; exact qFr_r hF538 110 _ (by decide)
            refine qr_aload_n 55 rfl g530 rfl ?_
            refine qr_dup 56 rfl rfl rfl ?_
            refine qr_get 59 rfl rfl rfl (by decide) rfl ?_
            refine qr_iconst 60 rfl rfl ?_
            refine qr_iadd 61 rfl rfl ?_
            refine qr_put 64 rfl (by decide) rfl (Nat.le_of_ble_eq_true rfl) (Nat.le_of_ble_eq_true rfl) (Or.inl rfl) (qr_fitI rfl _) rfl ?_
            refine qy_wS (qw_s σ535 86 43 ((σ535 86 43) + 1)) rfl (fun σ588 e589 => ?_)
            have hI590 : qI σ588 α584 κ ρ := by rw [e589]; exact qI_s hI586 86 43 rfl (show 0 ≤ ((σ535 86 43) + 1) ∧ ((σ535 86 43) + 1) ≤ 32 by omega)
            have hF591 : qFr [(86, 43)] [110] σ α σ588 α584 := by rw [e589]; exact qFr_s hF587 86 43 _ (by decide)
            refine qr_iinc _ 67 rfl g533 (by decide) rfl rfl ?_
            refine qr_goto 8 rfl rfl ?_
            exact ih548 _ (u534 + 1) σ588 α584 (by omega) (qm_gk g530 (by decide) (Or.inl (by decide))) (qm_gk g531 (by decide) (Or.inl (by decide))) (qm_gk g532 (by decide) (Or.inr rfl)) (qm_ge _ _ _) (by omega) hI590 hF591 ((congrFun (congrFun e589 86) 6).trans ((hk539).trans rfl)) ((congrFun (congrFun e589 86) 10).trans ((hk540).trans rfl)) (qLs_by (by omega) (by show qbit (ql_and x1 (ql_xor (σ 86 10) (-1))) (((u534 : Int).toNat : Nat) : Int) = 1; rw [show (((u534 : Int).toNat : Nat) : Int) = u534 by omega]; omega) (((congrFun e585 110).trans (qw_r_eq.trans (congrArg (fun f => qzu f ((σ535 86 43) : Int).toNat u534) rfl)))) ((congrFun (congrFun e589 86) 43).trans rfl) hx542) (by have hq := qsm_b (ql_and x1 (ql_xor (σ 86 10) (-1))) (i := u534) (by omega); have hx := hx543; have hw : σ588 86 43 = ((σ535 86 43) + 1) := (congrFun (congrFun e589 86) 43).trans rfl; omega) (by have hw : σ588 86 43 = ((σ535 86 43) + 1) := (congrFun (congrFun e589 86) 43).trans rfl; omega) (by have hw : σ588 86 43 = ((σ535 86 43) + 1) := (congrFun (congrFun e589 86) 43).trans rfl; omega) (by omega)
  exact hL547 ((32 - 0 + 1 : Int)).toNat _ 0 σ1 α (by omega) rfl rfl rfl rfl (by decide) hI3 hF4 ((congrFun (congrFun e2 86) 6).trans rfl) ((congrFun (congrFun e2 86) 10).trans rfl) (qLs_in rfl ((congrFun (congrFun e2 86) 43).trans rfl) (qLs_0 _)) (((congrFun (congrFun e2 86) 43).trans rfl).trans rfl) (by have hw : σ1 86 43 = 0 := (congrFun (congrFun e2 86) 43).trans rfl; omega) (by have hw : σ1 86 43 = 0 := (congrFun (congrFun e2 86) 43).trans rfl; omega) (by omega)

set_option maxHeartbeats 4000000 in
set_option maxRecDepth 20000 in
/-- OneRoofModel.bitsOf -/
theorem sf_236x {L : Nat} {xs : Nat → Int} {vb : Bool} {d : Nat} {σ α : Nat → Nat → Int} {κ : Nat → Option Nat} {ρ : Nat} {x0 : Int} (hI : qI σ α κ ρ) (r0 : 0 ≤ x0 ∧ x0 ≤ 4095) : qm_T (qe L xs vb) (d + 1) 236 [.int (qz x0)] (qw σ α κ ρ) (fun r w' => w' = qw σ α κ ρ ∧ ∃ v : Int, r = some (.int (qz v)) ∧ ((-2147483648) ≤ v ∧ v ≤ 2147483647) ∧ v = qpn x0) := by
  refine qr_start (d := d + 0) qv_e236 (Nat.le_of_ble_eq_true rfl) ?_
  show qr_W (qe L xs vb) (d + 0) qx_e236 _ (0, [(0, .int (qz x0))], [], _, 0, 0)
  refine qr_iconst 1 rfl rfl ?_
  refine qr_istore_n _ 2 rfl (by decide) rfl rfl ?_
  refine qr_iload_n 3 rfl rfl rfl ?_
  refine qr_istore_n _ 4 rfl (by decide) rfl rfl ?_
  have hL263 : ∀ (n : Nat) (ls : qm_L) (u257 u259 : Int), u259 < (n : Int) → qm_get ls 1 = some (.int (qz u257)) → qm_get ls 2 = some (.int (qz u259)) → ((-2147483648) ≤ u257 ∧ u257 ≤ 2147483647) → (0 ≤ u259 ∧ u259 ≤ 4095) → (0 ≤ u257 ∧ u257 + qpn u259 = qpn x0) → qr_W (qe L xs vb) (d + 0) qx_e236 (fun r w' => w' = qw σ α κ ρ ∧ ∃ v : Int, r = some (.int (qz v)) ∧ ((-2147483648) ≤ v ∧ v ≤ 2147483647) ∧ v = qpn x0) (4, ls, [], qw σ α κ ρ, 0, 0) := by
    intro n
    induction n with
    | zero => intro ls u257 u259 hm g256 g258 hf260 hf261 hx262; exact False.elim (by omega)
    | succ n ih264 =>
      intro ls u257 u259 hm g256 g258 hf260 hf261 hx262
      refine qr_iload_n 5 rfl g258 rfl ?_
      refine qr_if_eq 20 8 rfl rfl rfl (qrg hf261 (by decide) (by decide)) (fun h265 => ?_) (fun h265 => ?_)
      · skip
        refine qr_iload_n 21 rfl g256 rfl ?_
        refine qr_retI rfl rfl (by decide) (by decide) ?_
        exact ⟨rfl, u257, rfl, hf260, (by have hx := hx262; have hz : qpn u259 = 0 := (by rw [show u259 = 0 by omega]; decide); omega)⟩
      · skip
        refine qy_iincE 11 rfl g256 (by decide) rfl (fun v266 hv266 hev266 => ?_)
        refine qr_iload_n 12 rfl (qm_gk g258 (by decide) (Or.inl (by decide))) rfl ?_
        refine qr_iload_n 13 rfl (qm_gk g258 (by decide) (Or.inl (by decide))) rfl ?_
        refine qr_iconst 14 rfl rfl ?_
        refine qr_isub 15 rfl rfl ?_
        refine qr_iand 16 rfl rfl ?_
        refine qy_andrE (by omega) (fun v267 hv267 hev267 => ?_)
        refine qr_istore_n _ 17 rfl (by decide) rfl rfl ?_
        refine qr_goto 4 rfl rfl ?_
        exact ih264 _ v266 v267 (by omega) (qm_gk (qm_ge _ _ _) (by decide) (Or.inr rfl)) (qm_ge _ _ _) (by omega) (by omega) (by have hx := hx262; have hb := qpn_r (x := x0) (by omega); have hb2 := qpn_r (x := u259) (by omega); have hw := qz_val hev266 (by omega) (by omega); have hl := qpn_low (x := u259) (by omega); rw [← hev267] at hl; have hb3 := qpn_r (x := v267) (by omega); omega)
  exact hL263 ((x0 + 1 : Int)).toNat _ 0 x0 (by omega) rfl rfl (by decide) r0 ⟨by decide, by omega⟩
end
section
/-! the most -/
def qNB (need : Int) (ls : Nat → Int) (t i : Int) : Prop := ∀ k : Int, 0 ≤ k → k < 32 → (qbi need k = 1 ↔ (k < i ∧ qbit t (ls k.toNat) = 1))
theorem qNB_0 (ls : Nat → Int) (t : Int) : qNB 0 ls t 0 := fun k h1 _ => by
  rw [qbi_0]
  exact ⟨fun z => absurd z (by decide), fun z => absurd z.1 (by omega)⟩
theorem qNB_n {need t i : Int} {ls : Nat → Int} (h : qNB need ls t i) (hb : ¬ qbit t (ls i.toNat) = 1) : qNB need ls t (i + 1) := fun k h1 h2 => by
  rw [h k h1 h2]
  constructor
  · rintro ⟨a, b⟩
    exact ⟨by omega, b⟩
  · rintro ⟨a, b⟩
    by_cases e : k = i
    · rw [e] at b
      exact absurd b hb
    · exact ⟨by omega, b⟩
theorem qNB_y {need t i v : Int} {ls : Nat → Int} (h : qNB need ls t i) (h0 : 0 ≤ i ∧ i < 32) (hb : qbit t (ls i.toNat) = 1) (hv : v = qz_or need (qz_shl 1 i)) : qNB v ls t (i + 1) := fun k h1 h2 => by
  have hk := h k h1 h2
  rw [hv, qbi_or, qbi_shl h0 h1]
  by_cases e : k = i
  · rw [if_pos e, if_pos (Or.inr rfl)]
    exact ⟨fun _ => ⟨by omega, by rw [e]; exact hb⟩, fun _ => rfl⟩
  · rw [if_neg e]
    by_cases c : qbi need k = 1
    · rw [if_pos (Or.inl c)]
      exact ⟨fun _ => ⟨by have := (hk.mp c).1; omega, (hk.mp c).2⟩, fun _ => rfl⟩
    · rw [if_neg (fun z => z.elim c (fun y => absurd y (by decide)))]
      exact ⟨fun z => absurd z (by decide), fun z => absurd (hk.mpr ⟨by omega, z.2⟩) c⟩
/-- the best of all below b: the greatest by c, of like ones the first; -1: none -/
def qmB (D : Int → Prop) (c : Int → Int) (b w : Int) : Prop := (w = -1 ∧ ∀ u : Int, 0 ≤ u → u < b → ¬ D u) ∨ ((0 ≤ w ∧ w < b) ∧ D w ∧ ∀ u : Int, 0 ≤ u → u < b → D u → c u ≤ c w ∧ (u < w → c u < c w))
theorem qmB_0 (D : Int → Prop) (c : Int → Int) : qmB D c 0 (-1) := Or.inl ⟨rfl, fun u a b => absurd b (by omega)⟩
theorem qmB_no {D : Int → Prop} {c : Int → Int} {b w : Int} (hn : ¬ D b) (h : qmB D c b w) : qmB D c (b + 1) w := by
  rcases h with ⟨h1, h2⟩ | ⟨h1, h2, h3⟩
  · refine Or.inl ⟨h1, fun u a k => ?_⟩
    by_cases e : u = b
    · rw [e]; exact hn
    · exact h2 u a (by omega)
  · refine Or.inr ⟨by omega, h2, fun u a k hd => ?_⟩
    by_cases e : u = b
    · rw [e] at hd; exact absurd hd hn
    · exact h3 u a (by omega) hd
theorem qmB_lo {D : Int → Prop} {c : Int → Int} {b w : Int} (hw : 0 ≤ w) (hc : c b ≤ c w) (h : qmB D c b w) : qmB D c (b + 1) w := by
  rcases h with ⟨h1, h2⟩ | ⟨h1, h2, h3⟩
  · omega
  · refine Or.inr ⟨by omega, h2, fun u a k hd => ?_⟩
    by_cases e : u = b
    · rw [e]; exact ⟨hc, fun z => by omega⟩
    · exact h3 u a (by omega) hd
theorem qmB_hi {D : Int → Prop} {c : Int → Int} {b w : Int} (hb : 0 ≤ b) (hD : D b) (hc : w = -1 ∨ c w < c b) (h : qmB D c b w) : qmB D c (b + 1) b := by
  refine Or.inr ⟨by omega, hD, fun u a k hd => ?_⟩
  by_cases e : u = b
  · rw [e]; exact ⟨Int.le_refl _, fun z => by omega⟩
  · rcases h with ⟨h1, h2⟩ | ⟨h1, h2, h3⟩
    · exact absurd hd (h2 u a (by omega))
    · have h4 := (h3 u a (by omega) hd).1
      rcases hc with hc | hc
      · omega
      · exact ⟨by omega, fun _ => by omega⟩
theorem qNVr_f4 {S : List (Nat × Nat)} {R : List Nat} {σ α σ' α' : Nat → Nat → Int} (hG : qFr S R σ α σ' α') (hs : [(86, 6), (86, 11), (86, 16), (86, 22), (86, 24)].all (fun x => !S.contains x) = true) (hr : [87, 91, 94, 95, 97, 98, 99, 100, 102, 103, 104, 105].all (fun x => !R.contains x) = true) (h1 : σ' 86 41 = σ 86 41) : qNVr σ' α' = qNVr σ α := by
  have es : ∀ a k, (a, k) ∈ [(86, 6), (86, 11), (86, 16), (86, 22), (86, 24)] → σ' a k = σ a k := fun a k hm => hG.1 a k (fun hn => by
    have h1 := List.all_eq_true.mp hs (a, k) hm
    rw [List.contains_iff_mem.mpr hn] at h1
    exact absurd h1 (by decide))
  have er : ∀ a, a ∈ [87, 91, 94, 95, 97, 98, 99, 100, 102, 103, 104, 105] → α' a = α a := fun a hm => hG.2 a (fun hn => by
    have h1 := List.all_eq_true.mp hr a hm
    rw [List.contains_iff_mem.mpr hn] at h1
    exact absurd h1 (by decide))
  unfold qNVr
  rw [es 86 6 (by decide), es 86 11 (by decide), es 86 16 (by decide), es 86 22 (by decide), es 86 24 (by decide), er 87 (by decide), er 91 (by decide), er 94 (by decide), er 95 (by decide), er 97 (by decide), er 98 (by decide), er 99 (by decide), er 100 (by decide), er 102 (by decide), er 103 (by decide), er 104 (by decide), er 105 (by decide), h1]
theorem qBaM_f4 {S : List (Nat × Nat)} {R : List Nat} {σ α σ' α' : Nat → Nat → Int} (hG : qFr S R σ α σ' α') (hs : [(86, 6), (86, 11), (86, 16), (86, 22), (86, 24)].all (fun x => !S.contains x) = true) (hr : [87, 91, 94, 95, 97, 98, 99, 100, 102, 103, 104, 105].all (fun x => !R.contains x) = true) (h1 : σ' 86 41 = σ 86 41) : qBaM σ' α' = qBaM σ α := by
  funext g p q a b
  unfold qBaM qMaM
  rw [qNVr_f4 hG hs hr h1]
/-- a row of people: of m people, one behind the other -/
def qSr (r : Nat → Int) (n m : Int) : Prop := (∀ i : Nat, (i : Int) < n → 0 ≤ r i ∧ r i < m) ∧ ∀ i j : Nat, i < j → (j : Int) < n → r i < r j
theorem qBr_so {Q : Nat → Int} : ∀ (n : Nat), (∀ (i : Nat) (h : i < (qBr Q n).length), 0 ≤ (qBr Q n)[i] ∧ (qBr Q n)[i] < (n : Int)) ∧ ∀ (i j : Nat) (hij : i < j) (h : j < (qBr Q n).length), (qBr Q n)[i]'(by omega) < (qBr Q n)[j]
  | 0 => ⟨fun i h => absurd h (Nat.not_lt_zero i), fun i j _ h => absurd h (Nat.not_lt_zero j)⟩
  | n + 1 => by
    have ih := qBr_so (Q := Q) n
    by_cases c : Q n = 1
    · have e : qBr Q (n + 1) = qBr Q n ++ [(n : Int)] := if_pos c
      refine ⟨fun i h => ?_, fun i j hij h => ?_⟩
      · have h' : i < (qBr Q n ++ [(n : Int)]).length := by rw [← e]; exact h
        have e2 : (qBr Q (n + 1))[i] = (qBr Q n ++ [(n : Int)])[i]'h' := by simp only [e]
        rw [e2, List.getElem_append]
        split
        · next hl => have := ih.1 i hl; omega
        · next hl =>
          rw [List.getElem_singleton]
          omega
      · have h' : j < (qBr Q n ++ [(n : Int)]).length := by rw [← e]; exact h
        have e1 : (qBr Q (n + 1))[i]'(by omega) = (qBr Q n ++ [(n : Int)])[i]'(by omega) := by simp only [e]
        have e2 : (qBr Q (n + 1))[j] = (qBr Q n ++ [(n : Int)])[j]'h' := by simp only [e]
        rw [List.length_append] at h'
        have h1 : i < (qBr Q n).length := by
          have : ([(n : Int)] : List Int).length = 1 := rfl
          omega
        rw [e1, e2, List.getElem_append_left h1, List.getElem_append]
        split
        · next hl => exact ih.2 i j hij hl
        · next hl =>
          rw [List.getElem_singleton]
          exact (ih.1 i h1).2
    · have e : qBr Q (n + 1) = qBr Q n := if_neg c
      refine ⟨fun i h => ?_, fun i j hij h => ?_⟩
      · have h' : i < (qBr Q n).length := by rw [← e]; exact h
        have e2 : (qBr Q (n + 1))[i] = (qBr Q n)[i]'h' := by simp only [e]
        rw [e2]
        have := ih.1 i h'
        omega
      · have h' : j < (qBr Q n).length := by rw [← e]; exact h
        have e1 : (qBr Q (n + 1))[i]'(by omega) = (qBr Q n)[i]'(by omega) := by simp only [e]
        have e2 : (qBr Q (n + 1))[j] = (qBr Q n)[j]'h' := by simp only [e]
        rw [e1, e2]
        exact ih.2 i j hij h'
theorem qSr_of {r : Nat → Int} {n m : Int} {Q : Nat → Int} (hm : 0 ≤ m) (h : qLs r n (qBr Q m.toNat)) : qSr r n m := by
  have s := qBr_so (Q := Q) m.toNat
  have h1 := h.1
  refine ⟨fun i hi => ?_, fun i j hij hj => ?_⟩
  · rw [h.2 i (by omega)]
    have := s.1 i (by omega)
    omega
  · rw [h.2 i (by omega), h.2 j (by omega)]
    exact s.2 i j hij (by omega)
theorem qgl_0 {x d n : Int} (h : qst x n) (hn : 0 ≤ n ∧ n ≤ 32) : ∀ k : Nat, n.toNat ≤ k → qbit (ql_and x d) (k : Int) = 0 := fun k hk => by
  have h1 := qst_bit h (by omega) (i := (k : Int)) (by omega)
  have h2 := qband_c x d (k : Int)
  omega
theorem qgl_len {x d n : Int} (h : qst x n) (hn : 0 ≤ n ∧ n ≤ 32) : qcn (ql_and x d) 64 = qsm (fun k : Nat => qbit (ql_and x d) (k : Int)) n.toNat := by
  have h1 := qcn_sm (ql_and x d) 64
  have h2 : qcn (ql_and x d) ((64 : Nat) : Int) = qcn (ql_and x d) 64 := rfl
  have h3 := qsm_z (f := fun k : Nat => qbit (ql_and x d) (k : Int)) (n := n.toNat) (qgl_0 h hn) (64 - n.toNat)
  rw [show n.toNat + (64 - n.toNat) = 64 by omega] at h3
  omega
theorem qgl_ls {x d n : Int} (h : qst x n) (hn : 0 ≤ n ∧ n ≤ 32) : qBr (fun k : Nat => qbit (ql_and x d) (k : Int)) 32 = qBr (fun k : Nat => qbit (ql_and x d) (k : Int)) n.toNat := by
  have h3 := qBr_stop (Q := fun k : Nat => qbit (ql_and x d) (k : Int)) (n := n.toNat) (fun k hk => by
    have := qgl_0 (d := d) h hn k hk
    omega) (32 - n.toNat)
  rw [show n.toNat + (32 - n.toNat) = 32 by omega] at h3
  exact h3
theorem qgl_nz {L : Int} (hr : -9223372036854775808 ≤ L ∧ L ≤ 9223372036854775807) : ¬ L = 0 ↔ 1 ≤ qcn L 64 := by
  constructor
  · intro h
    by_cases c : ∃ i : Int, (0 ≤ i ∧ i < 64) ∧ qbit L i = 1
    · obtain ⟨i, hi, hb⟩ := c
      exact qcn_1 hi hb
    · exact absurd (qbit_ext hr (by decide) (fun i h0 h1 => by
        rw [qbit_0]
        have hb := qbit_r L i
        have hn : ¬ qbit L i = 1 := fun z => c ⟨i, ⟨h0, h1⟩, z⟩
        omega)) h
  · intro h e
    rw [e, qcn_z] at h
    omega
/-- the rows of those told are alike -/
theorem qgr_ls {r r' : Nat → Int} {n m : Int} {l : List Int} (h : qLs r n l) (g : qLs r' m l) : n = m ∧ ∀ k : Nat, (k : Int) < n → r k = r' k := by
  have h1 := h.1
  have g1 := g.1
  refine ⟨by omega, fun k hk => ?_⟩
  rw [h.2 k (by omega), g.2 k (by omega)]
theorem qrr_w {σ α : Nat → Nat → Int} {κ : Nat → Option Nat} {ρ : Nat} (hI : qI σ α κ ρ) (hR : qR σ α) : ∀ p : Nat, p < 32 → 0 ≤ α 92 p ∧ α 92 p ≤ 99 := fun p hp => by
  rw [← hR.2.2.2.2.1]
  exact hI.2.1 19 p hp
end
section
/-! two rooms -/
theorem qsh_eq {n : Int} (h : 0 ≤ n ∧ n ≤ 12) : qz_shl 1 n = ((2 ^ n.toNat : Nat) : Int) := by
  obtain ⟨m, rfl⟩ : ∃ m : Nat, n = m := ⟨n.toNat, by omega⟩
  have e : ∀ q : Fin 13, qz_shl 1 ((q : Nat) : Int) = ((2 ^ (q : Nat) : Nat) : Int) := by decide
  exact e ⟨m, by omega⟩
theorem qlz_nt {x : Int} (h : 0 ≤ x ∧ x ≤ 2147483647) : qlz x = x.toNat := by
  have h1 := qlz_nn (a := x) h
  omega
theorem qbi_hin {x n k : Int} (hn : 0 ≤ n ∧ n ≤ 12) (hx : 0 ≤ x ∧ x < qz_shl 1 n) (hk : n ≤ k) : qbi x k = 0 := by
  have h1 := qshl_r hn
  rw [qsh_eq hn] at hx
  rw [qbi_if, qlz_nt (by rw [qsh_eq hn] at h1; omega), Nat.testBit_lt_two_pow (Nat.lt_of_lt_of_le (show x.toNat < 2 ^ n.toNat by omega) (Nat.pow_le_pow_right (by decide) (show n.toNat ≤ k.toNat by omega)))]
  exact if_neg (by decide)
theorem qbi_lt {x n : Int} (hn : 0 ≤ n ∧ n ≤ 12) (hr : -2147483648 ≤ x ∧ x ≤ 2147483647) (h : ∀ k : Int, n ≤ k → k < 32 → qbi x k = 0) : 0 ≤ x ∧ x < qz_shl 1 n := by
  have ht : ∀ i : Nat, n.toNat ≤ i → (qlz x).testBit i = false := fun i hi => by
    by_cases h32 : i < 32
    · have h1 := h (i : Int) (by omega) (by omega)
      by_cases c : (qlz x).testBit i = true
      · rw [qbi_if, Int.toNat_natCast, if_pos c] at h1
        exact absurd h1 (by decide)
      · exact Bool.eq_false_iff.mpr c
    · exact qlz_hi x (by omega)
  have hlt : qlz x < 2 ^ n.toNat := Nat.lt_pow_two_of_testBit _ (fun i hi => ht i hi)
  have h12 : 2 ^ n.toNat ≤ 2 ^ 12 := Nat.pow_le_pow_right (by decide) (by omega)
  have h13 : (2 : Nat) ^ 12 = 4096 := by decide
  have hm : (qz x).toBitVec.msb = false := by
    rw [BitVec.msb_eq_decide, decide_eq_false_iff_not]
    have : (qz x).toBitVec.toNat < 2 ^ n.toNat := hlt
    show ¬ 2 ^ 31 ≤ (qz x).toBitVec.toNat
    have h31 : (2 : Nat) ^ 31 = 2147483648 := by decide
    omega
  have h1 : (qz x).toInt = x := qz_ti hr
  have h3 : (qz x).toInt = ((qz x).toBitVec.toNat : Int) := BitVec.toInt_eq_toNat_of_msb hm
  have h4 : qlz x = (qz x).toBitVec.toNat := rfl
  rw [qsh_eq hn]
  omega
def qsub (x y : Int) : Prop := ∀ k : Int, 0 ≤ k → k < 32 → qbi x k = 1 → qbi y k = 1
theorem qsm_1 {f g : Nat → Int} {l : Nat} {c : Int} (hl : f l = g l + c) (hk : ∀ k : Nat, ¬ k = l → f k = g k) : ∀ n : Nat, l < n → qsm f n = qsm g n + c
  | 0, h => absurd h (Nat.not_lt_zero l)
  | n + 1, h => by
    show qsm f n + f n = qsm g n + g n + c
    by_cases e : l = n
    · have h1 : qsm f n = qsm g n := qsm_eq n (fun k hkn => hk k (by omega))
      rw [h1, ← e, hl]
      omega
    · have ih := qsm_1 hl hk n (by omega)
      rw [ih, hk n (by omega)]
      omega
section QYNT
variable {X : qm_X} {d : Nat} {x : qs_Ent} {Q : Option Value → qm_W → Prop} {pc : Nat} {ls : qm_L} {st : List Value} {w : qm_W} {c n : Nat}
end QYNT
end
