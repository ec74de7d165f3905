set_option maxHeartbeats 4000000 in
set_option maxRecDepth 20000 in
/-- OneRoofModel.feed -/
theorem sf_211_86f {L : Nat} {xs : Nat → Int} {vb : Bool} {d : Nat} {σ α : Nat → Nat → Int} {κ : Nat → Option Nat} {ρ : Nat} {x1 : Int} {x2 : Int} (hI : qI σ α κ ρ) (r1 : (-2147483648) ≤ x1 ∧ x1 ≤ 2147483647) (r2 : (-2147483648) ≤ x2 ∧ x2 ≤ 2147483647) : qm_T (qe L xs vb) (d + 2) 211 [.ref 86, .int (qz x1), .int (qz x2)] (qw σ α κ ρ) (fun r w' => ∃ σ' α', w' = qw σ' α' κ ρ ∧ qI σ' α' κ ρ ∧ qFr [(86, 32)] [106] σ α σ' α' ∧ ∃ v : Int, r = some (.int (qz v)) ∧ ((-2147483648) ≤ v ∧ v ≤ 2147483647) ∧ ((v = -1 ∧ ¬ (1 ≤ x1 ∧ x1 ≤ 4) ∧ σ' 86 32 = σ 86 32) ∨ (v = -3 ∧ (1 ≤ x1 ∧ x1 ≤ 4) ∧ 120 < σ 86 32 + x1 ∧ σ' 86 32 = σ 86 32) ∨ ((1 ≤ x1 ∧ x1 ≤ 4) ∧ σ 86 32 + x1 ≤ 120 ∧ v = σ 86 32 + x1 ∧ σ' 86 32 = v))) := by
  refine qr_start (d := d + 1) qv_e211 (Nat.le_of_ble_eq_true rfl) ?_
  show qr_W (qe L xs vb) (d + 1) qx_e211 _ (0, [(0, .ref 86), (1, .int (qz x1)), (2, .int (qz x2))], [], _, 0, 0)
  have hF0 := qFr_rf [(86, 32)] [106] σ α
  have hz86_32 : 0 ≤ σ 86 32 ∧ σ 86 32 ≤ 120 := hI.1 86 32
  have hz86_6 : 0 ≤ σ 86 6 ∧ σ 86 6 ≤ 32 := hI.1 86 6
  refine qr_iload_n 1 rfl rfl rfl ?_
  refine qr_i2l 2 rfl (by omega) rfl ?_
  refine qr_lconst 3 rfl rfl ?_
  refine qy_vl 1 rfl ?_
  refine qr_ldc2 4 6 rfl (by decide) rfl ?_
  refine qr_callN 9 rfl rfl rfl (sf_176 (d := d + 0) hI (by omega) (by omega) (by omega)) ?_
  rintro _ _ ⟨rfl, v1, rfl, hv1, hp2⟩
  show qr_W (qe L xs vb) (d + 1) qx_e211 _ (9, _, [.int (qz v1)], qw σ α κ ρ, 0, 0)
  refine qr_if_ne 14 12 rfl rfl rfl (by omega) (fun h3 => ?_) (fun h3 => ?_)
  · skip
    refine qr_aload_n 15 rfl rfl rfl ?_
    refine qr_get 18 rfl rfl rfl (by decide) rfl ?_
    refine qr_iload_n 19 rfl rfl rfl ?_
    refine qr_iadd 20 rfl rfl ?_
    refine qr_bipush 22 rfl (by decide) rfl ?_
    refine qr_icmp_le 28 25 rfl rfl rfl (by omega) (by omega) (fun h4 => ?_) (fun h4 => ?_)
    · skip
      refine qr_iconst 29 rfl rfl ?_
      refine qr_istore_n _ 30 rfl (by decide) rfl rfl ?_
      have hL123 : ∀ (n : Nat) (ls : qm_L) (u114 : Int) (σ115 α116 : Nat → Nat → Int), 4 - u114 < (n : Int) → qm_get ls 0 = some (.ref 86) → qm_get ls 1 = some (.int (qz x1)) → qm_get ls 2 = some (.int (qz x2)) → qm_get ls 3 = some (.int (qz u114)) → (0 ≤ u114 ∧ u114 ≤ 4) → qI σ115 α116 κ ρ → qFr [(86, 32)] [106] σ α σ115 α116 → σ115 86 6 = (σ 86 6) → σ115 86 32 = σ 86 32 + u114 → u114 ≤ x1 → qr_W (qe L xs vb) (d + 1) qx_e211 (fun r w' => ∃ σ' α', w' = qw σ' α' κ ρ ∧ qI σ' α' κ ρ ∧ qFr [(86, 32)] [106] σ α σ' α' ∧ ∃ v : Int, r = some (.int (qz v)) ∧ ((-2147483648) ≤ v ∧ v ≤ 2147483647) ∧ ((v = -1 ∧ ¬ (1 ≤ x1 ∧ x1 ≤ 4) ∧ σ' 86 32 = σ 86 32) ∨ (v = -3 ∧ (1 ≤ x1 ∧ x1 ≤ 4) ∧ 120 < σ 86 32 + x1 ∧ σ' 86 32 = σ 86 32) ∨ ((1 ≤ x1 ∧ x1 ≤ 4) ∧ σ 86 32 + x1 ≤ 120 ∧ v = σ 86 32 + x1 ∧ σ' 86 32 = v))) (30, ls, [], qw σ115 α116 κ ρ, 0, 0) := by
        intro n
        induction n with
        | zero => intro ls u114 σ115 α116 hm g110 g111 g112 g113 hf120 hI117 hF118 hk119 hx121 hx122; exact False.elim (by omega)
        | succ n ih124 =>
          intro ls u114 σ115 α116 hm g110 g111 g112 g113 hf120 hI117 hF118 hk119 hx121 hx122
          have hs125 : 0 ≤ σ115 86 32 ∧ σ115 86 32 ≤ 120 := hI117.1 86 32
          refine qr_iload_n 31 rfl g113 rfl ?_
          refine qr_iload_n 32 rfl g111 rfl ?_
          refine qr_icmp_ge 70 35 rfl rfl rfl (by omega) (by omega) (fun h126 => ?_) (fun h126 => ?_)
          · skip
            refine qr_aload_n 71 rfl g110 rfl ?_
            refine qr_get 74 rfl rfl rfl (by decide) rfl ?_
            refine qr_retI rfl rfl (by decide) (by decide) ?_
            have hw127 : σ115 86 32 = (σ115 86 32) := rfl
            exact ⟨_, _, rfl, hI117, hF118, (σ115 86 32), rfl, by omega, by omega⟩
          · skip
            refine qr_aload_n 36 rfl g110 rfl ?_
            refine qr_get 39 rfl rfl rfl (by decide) rfl ?_
            refine qr_aload_n 40 rfl g110 rfl ?_
            refine qr_get 43 rfl rfl rfl (by decide) rfl ?_
            refine qr_iload_n 44 rfl g112 rfl ?_
            refine qr_bipush 46 rfl (by decide) rfl ?_
            refine qr_iload_n 47 rfl g113 rfl ?_
            refine qr_imul 48 rfl rfl ?_
            refine qr_ishr 49 rfl rfl ?_
            refine qy_can (fun v128 hv128 => ?_)
            refine qr_sipush 52 rfl (by decide) rfl ?_
            refine qr_iand 53 rfl rfl ?_
            refine qy_andr (by omega) (fun v129 hv129 => ?_)
            refine qr_iastore 54 rfl (by decide) rfl (by omega) (by decide) rfl ?_
            refine qy_wA (qw_r α116 106 (qzu (α116 106) ((σ115 86 32) : Int).toNat v129)) rfl (fun α130 e131 => ?_)
            have hI132 : qI σ115 α130 κ ρ := by rw [e131]; exact qI_r hI117 106 _ rfl (show (-2147483648) ≤ v129 ∧ v129 ≤ 2147483647 by omega)
            have hF133 : qFr [(86, 32)] [106] σ α σ115 α130 := by rw [e131]; exact qFr_r hF118 106 _ (by decide)
            refine qr_aload_n 55 rfl g110 rfl ?_
            refine qr_dup 56 rfl rfl rfl ?_
            refine qr_get 59 rfl rfl rfl (by decide) rfl ?_
            refine qr_iconst 60 rfl rfl ?_
            refine qr_iadd 61 rfl rfl ?_
            refine qr_put 64 rfl (by decide) rfl (Nat.le_of_ble_eq_true rfl) (Nat.le_of_ble_eq_true rfl) (Or.inl rfl) (qr_fitI rfl _) rfl ?_
            refine qy_wS (qw_s σ115 86 32 ((σ115 86 32) + 1)) rfl (fun σ134 e135 => ?_)
            have hI136 : qI σ134 α130 κ ρ := by rw [e135]; exact qI_s hI132 86 32 rfl (show 0 ≤ ((σ115 86 32) + 1) ∧ ((σ115 86 32) + 1) ≤ 120 by omega)
            have hF137 : qFr [(86, 32)] [106] σ α σ134 α130 := by rw [e135]; exact qFr_s hF133 86 32 _ (by decide)
            refine qr_iinc _ 67 rfl g113 (by decide) rfl rfl ?_
            refine qr_goto 30 rfl rfl ?_
            exact ih124 _ (u114 + 1) σ134 α130 (by omega) (qm_gk g110 (by decide) (Or.inl (by decide))) (qm_gk g111 (by decide) (Or.inl (by decide))) (qm_gk g112 (by decide) (Or.inr rfl)) (qm_ge _ _ _) (by omega) hI136 hF137 ((congrFun (congrFun e135 86) 6).trans ((hk119).trans rfl)) (by have hw : σ134 86 32 = ((σ115 86 32) + 1) := (congrFun (congrFun e135 86) 32).trans rfl; omega) (by have hw : σ134 86 32 = ((σ115 86 32) + 1) := (congrFun (congrFun e135 86) 32).trans rfl; omega)
      exact hL123 ((4 - 0 + 1 : Int)).toNat _ 0 σ α (by omega) rfl rfl rfl rfl (by omega) hI hF0 (rfl) (by have hw : σ 86 32 = (σ 86 32) := rfl; omega) (by have hw : σ 86 32 = (σ 86 32) := rfl; omega)
    · skip
      refine qr_bipush 27 rfl (by decide) rfl ?_
      refine qr_retI rfl rfl (by decide) (by decide) ?_
      have hw138 : σ 86 32 = (σ 86 32) := rfl
      exact ⟨_, _, rfl, hI, hF0, (-3), rfl, by omega, by omega⟩
  · skip
    refine qr_iconst 13 rfl rfl ?_
    refine qr_retI rfl rfl (by decide) (by decide) ?_
    have hw139 : σ 86 32 = (σ 86 32) := rfl
    exact ⟨_, _, rfl, hI, hF0, (-1), rfl, by omega, by omega⟩

set_option maxHeartbeats 4000000 in
set_option maxRecDepth 20000 in
/-- OneRoofModel.custom -/
theorem sf_212_86f {L : Nat} {xs : Nat → Int} {vb : Bool} {d : Nat} {σ α : Nat → Nat → Int} {κ : Nat → Option Nat} {ρ : Nat} {x1 : Int} (hI : qI σ α κ ρ) (r1 : (-2147483648) ≤ x1 ∧ x1 ≤ 2147483647) : qm_T (qe L xs vb) (d + 45) 212 [.ref 86, .int (qz x1)] (qw σ α κ ρ) (fun r w' => ∃ σ' α', w' = qw σ' α' κ ρ ∧ qI σ' α' κ ρ ∧ qFr [(86, 32), (86, 35), (86, 36), (86, 37), (86, 38), (86, 39)] [107, 108] σ α σ' α' ∧ ∃ v : Int, r = some (.int (qz v)) ∧ ((-2147483648) ≤ v ∧ v ≤ 2147483647) ∧ (((x1 = 0 ∨ x1 = 1) ∧ σ' 86 32 = 0) ∨ (¬ (x1 = 0 ∨ x1 = 1) ∧ σ' 86 32 = σ 86 32))) := by
  refine qr_start (d := d + 44) qv_e212 (Nat.le_of_ble_eq_true rfl) ?_
  show qr_W (qe L xs vb) (d + 44) qx_e212 _ (0, [(0, .ref 86), (1, .int (qz x1))], [], _, 0, 0)
  have hF0 := qFr_rf [(86, 32), (86, 35), (86, 36), (86, 37), (86, 38), (86, 39)] [107, 108] σ α
  have hz86_32 : 0 ≤ σ 86 32 ∧ σ 86 32 ≤ 120 := hI.1 86 32
  have hz86_6 : 0 ≤ σ 86 6 ∧ σ 86 6 ≤ 32 := hI.1 86 6
  refine qr_iload_n 1 rfl rfl rfl ?_
  refine qr_i2l 2 rfl (by omega) rfl ?_
  refine qr_lconst 3 rfl rfl ?_
  refine qy_vl 0 rfl ?_
  refine qr_lconst 4 rfl rfl ?_
  refine qy_vl 1 rfl ?_
  refine qr_callN 7 rfl rfl rfl (sf_176 (d := d + 43) hI (by omega) (by omega) (by omega)) ?_
  rintro _ _ ⟨rfl, v1, rfl, hv1, hp2⟩
  show qr_W (qe L xs vb) (d + 44) qx_e212 _ (7, _, [.int (qz v1)], qw σ α κ ρ, 0, 0)
  refine qr_if_ne 12 10 rfl rfl rfl (by omega) (fun h3 => ?_) (fun h3 => ?_)
  · skip
    refine qr_aload_n 13 rfl rfl rfl ?_
    refine qr_iconst 14 rfl rfl ?_
    refine qr_aload_n 15 rfl rfl rfl ?_
    refine qr_get 18 rfl rfl rfl (by decide) rfl ?_
    refine qr_callN 21 rfl rfl rfl (sf_213_86 (d := d + 0) hI (by omega) (by omega)) ?_
    rintro _ _ ⟨σ5, rfl, hI6, hG7, v4, rfl, hv4⟩
    have hF8 : qFr [(86, 32), (86, 35), (86, 36), (86, 37), (86, 38), (86, 39)] [107, 108] σ α σ5 α := qFr_t hF0 hG7 (by decide) (by decide)
    show qr_W (qe L xs vb) (d + 44) qx_e212 _ (21, _, [.int (qz v4)], qw σ5 α κ ρ, 0, 0)
    refine qr_istore_n _ 22 rfl (by decide) rfl rfl ?_
    refine qr_aload_n 23 rfl rfl rfl ?_
    refine qr_get 26 rfl rfl rfl (by decide) rfl ?_
    refine qy_v (σ 86 32) ((hG7.1 86 32 (by decide)).trans rfl) ?_
    refine qr_istore_n _ 27 rfl (by decide) rfl rfl ?_
    refine qr_aload_n 28 rfl rfl rfl ?_
    refine qr_iconst 29 rfl rfl ?_
    refine qr_put 32 rfl (by decide) rfl (Nat.le_of_ble_eq_true rfl) (Nat.le_of_ble_eq_true rfl) (Or.inl rfl) (qr_fitI rfl _) rfl ?_
    refine qy_wS (qw_s σ5 86 32 0) rfl (fun σ9 e10 => ?_)
    have hI11 : qI σ9 α κ ρ := by rw [e10]; exact qI_s hI6 86 32 rfl (show 0 ≤ 0 ∧ 0 ≤ 120 by omega)
    have hF12 : qFr [(86, 32), (86, 35), (86, 36), (86, 37), (86, 38), (86, 39)] [107, 108] σ α σ9 α := by rw [e10]; exact qFr_s hF8 86 32 _ (by decide)
    refine qr_aload_n 33 rfl rfl rfl ?_
    refine qr_get 36 rfl rfl rfl (by decide) rfl ?_
    have hs13 : (-1) ≤ σ9 86 38 ∧ σ9 86 38 ≤ 120 := hI11.1 86 38
    refine qr_if_lt 47 39 rfl rfl rfl (by omega) (fun h14 => ?_) (fun h14 => ?_)
    · skip
      refine qr_iconst 48 rfl rfl ?_
      refine qr_istore _ 50 rfl (by decide) rfl rfl ?_
      have hL645 : ∀ (n : Nat) (ls : qm_L) (u639 : Int) (α641 : Nat → Nat → Int), 120 - u639 < (n : Int) → qm_get ls 0 = some (.ref 86) → qm_get ls 1 = some (.int (qz x1)) → qm_get ls 3 = some (.int (qz (σ 86 32))) → qm_get ls 4 = some (.int (qz u639)) → (0 ≤ u639 ∧ u639 ≤ 120) → qI σ9 α641 κ ρ → qFr [(86, 32), (86, 35), (86, 36), (86, 37), (86, 38), (86, 39)] [107, 108] σ α σ9 α641 → qr_W (qe L xs vb) (d + 44) qx_e212 (fun r w' => ∃ σ' α', w' = qw σ' α' κ ρ ∧ qI σ' α' κ ρ ∧ qFr [(86, 32), (86, 35), (86, 36), (86, 37), (86, 38), (86, 39)] [107, 108] σ α σ' α' ∧ ∃ v : Int, r = some (.int (qz v)) ∧ ((-2147483648) ≤ v ∧ v ≤ 2147483647) ∧ (((x1 = 0 ∨ x1 = 1) ∧ σ' 86 32 = 0) ∨ (¬ (x1 = 0 ∨ x1 = 1) ∧ σ' 86 32 = σ 86 32))) (50, ls, [], qw σ9 α641 κ ρ, 0, 0) := by
        intro n
        induction n with
        | zero => intro ls u639 α641 hm g635 g636 g637 g638 hf644 hI642 hF643; exact False.elim (by omega)
        | succ n ih646 =>
          intro ls u639 α641 hm g635 g636 g637 g638 hf644 hI642 hF643
          refine qr_iload 52 rfl g638 rfl ?_
          refine qr_iload_n 53 rfl g637 rfl ?_
          refine qr_icmp_ge 81 56 rfl rfl rfl (by omega) (by omega) (fun h653 => ?_) (fun h653 => ?_)
          · skip
            refine qr_aload_n 82 rfl g635 rfl ?_
            refine qr_get 85 rfl rfl rfl (by decide) rfl ?_
            refine qr_iload_n 86 rfl g636 rfl ?_
            refine qr_iload_n 87 rfl g637 rfl ?_
            refine qr_iastore 88 rfl (by decide) rfl (by omega) (by decide) rfl ?_
            refine qy_wA (qw_r α641 108 (qzu (α641 108) (x1 : Int).toNat (σ 86 32))) rfl (fun α654 e655 => ?_)
            have hI656 : qI σ9 α654 κ ρ := by rw [e655]; exact qI_r hI642 108 _ rfl (show (-1) ≤ (σ 86 32) ∧ (σ 86 32) ≤ 120 by omega)
            have hF657 : qFr [(86, 32), (86, 35), (86, 36), (86, 37), (86, 38), (86, 39)] [107, 108] σ α σ9 α654 := by rw [e655]; exact qFr_r hF643 108 _ (by decide)
            refine qr_iconst 89 rfl rfl ?_
            refine qr_retI rfl rfl (by decide) (by decide) ?_
            have hw658 : σ9 86 32 = 0 := (congrFun (congrFun e10 86) 32).trans rfl
            exact ⟨_, _, rfl, hI656, hF657, 1, rfl, by omega, by omega⟩
          · skip
            refine qr_aload_n 57 rfl g635 rfl ?_
            refine qr_get 60 rfl rfl rfl (by decide) rfl ?_
            refine qr_bipush 62 rfl (by decide) rfl ?_
            refine qr_iload_n 63 rfl g636 rfl ?_
            refine qr_imul 64 rfl rfl ?_
            refine qr_iload 66 rfl g638 rfl ?_
            refine qr_iadd 67 rfl rfl ?_
            refine qr_aload_n 68 rfl g635 rfl ?_
            refine qr_get 71 rfl rfl rfl (by decide) rfl ?_
            refine qr_iload 73 rfl g638 rfl ?_
            refine qr_iaload 74 rfl rfl (by omega) (by decide) rfl ?_
            refine qr_topI (fun v659 hv659 => ?_)
            have hs660 : (-2147483648) ≤ v659 ∧ v659 ≤ 2147483647 := by rw [hv659]; exact hI642.2.1 106 _ (show _ < 120 by omega)
            refine qr_iastore 75 rfl (by decide) rfl (by omega) (by decide) rfl ?_
            refine qy_wA (qw_r α641 107 (qzu (α641 107) (((120 * x1) + u639) : Int).toNat v659)) rfl (fun α661 e662 => ?_)
            have hI663 : qI σ9 α661 κ ρ := by rw [e662]; exact qI_r hI642 107 _ rfl (show (-2147483648) ≤ v659 ∧ v659 ≤ 2147483647 by omega)
            have hF664 : qFr [(86, 32), (86, 35), (86, 36), (86, 37), (86, 38), (86, 39)] [107, 108] σ α σ9 α661 := by rw [e662]; exact qFr_r hF643 107 _ (by decide)
            refine qr_iinc _ 78 rfl g638 (by decide) rfl rfl ?_
            refine qr_goto 50 rfl rfl ?_
            exact ih646 _ (u639 + 1) α661 (by omega) (qm_gk g635 (by decide) (Or.inl (by decide))) (qm_gk g636 (by decide) (Or.inl (by decide))) (qm_gk g637 (by decide) (Or.inr rfl)) (qm_ge _ _ _) (by omega) hI663 hF664
      exact hL645 ((120 - 0 + 1 : Int)).toNat _ 0 α (by omega) rfl rfl rfl rfl (by omega) hI11 hF12
    · skip
      refine qr_bipush 41 rfl (by decide) rfl ?_
      refine qr_aload_n 42 rfl rfl rfl ?_
      refine qr_get 45 rfl rfl rfl (by decide) rfl ?_
      refine qr_isub 46 rfl rfl ?_
      refine qr_retI rfl rfl (by decide) (by decide) ?_
      have hw665 : σ9 86 32 = 0 := (congrFun (congrFun e10 86) 32).trans rfl
      exact ⟨_, _, rfl, hI11, hF12, ((-100) - (σ9 86 38)), rfl, by omega, by omega⟩
  · skip
    refine qr_iconst 11 rfl rfl ?_
    refine qr_retI rfl rfl (by decide) (by decide) ?_
    have hw666 : σ 86 32 = (σ 86 32) := rfl
    exact ⟨_, _, rfl, hI, hF0, (-1), rfl, by omega, by omega⟩
