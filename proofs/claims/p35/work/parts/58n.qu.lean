section
theorem sq_E6 {L : Nat} {xs : Nat → Int} {vb : Bool} {d : Nat} {σ α : Nat → Nat → Int} {κ : Nat → Option Nat} {ρ : Nat} (hI : qI σ α κ ρ) (p0 : σ 86 36 ≤ σ 86 37) (p1 : σ 86 38 = -1) (p2 : σ 86 39 = 0) : qm_T (qe L xs vb) (d + 44) 214 [.ref 86] (qw σ α κ ρ) (fun r w' => ∃ σ', w' = qw σ' α κ ρ ∧ qI σ' α κ ρ ∧ qFr [(86, 36), (86, 38), (86, 39)] [] σ α σ' α ∧ ∃ v : Int, r = some (.int (qz v)) ∧ ((-2147483648) ≤ v ∧ v ≤ 2147483647) ∧ (σ 86 36 ≤ σ' 86 36 ∧ σ' 86 36 ≤ σ 86 37 ∧ σ 86 39 ≤ σ' 86 39 ∧ ((σ' 86 38 = -1 ∧ σ' 86 39 = σ 86 39 ∧ σ 86 36 < σ' 86 36) ∨ σ' 86 38 = σ' 86 36)) ∧ qRes ((qtx_E (qtT (α 106) (α 107) (σ 86 35)) (σ 86 37) (α 109) 6) (σ 86 36)) v (σ' 86 36) (σ' 86 38)) :=
  (sq_all (d := d) 6).2 hI p0 p1 (by omega)

set_option maxHeartbeats 4000000 in
set_option maxRecDepth 20000 in
/-- OneRoofModel.workOut -/
theorem sf_213_86x {L : Nat} {xs : Nat → Int} {vb : Bool} {d : Nat} {σ α : Nat → Nat → Int} {κ : Nat → Option Nat} {ρ : Nat} {x1 : Int} {x2 : Int} (hI : qI σ α κ ρ) (r1 : (-1) ≤ x1 ∧ x1 ≤ 120) (r2 : 0 ≤ x2 ∧ x2 ≤ 120) : qm_T (qe L xs vb) (d + 45) 213 [.ref 86, .int (qz x1), .int (qz x2)] (qw σ α κ ρ) (fun r w' => ∃ σ', w' = qw σ' α κ ρ ∧ qI σ' α κ ρ ∧ qFr [(86, 35), (86, 36), (86, 37), (86, 38), (86, 39)] [] σ α σ' α ∧ ∃ v : Int, r = some (.int (qz v)) ∧ ((-2147483648) ≤ v ∧ v ≤ 2147483647) ∧ -1 ≤ σ' 86 38 ∧ qReW (qtx_W (qtT (α 106) (α 107) x1) x2 (α 109)) v (σ' 86 38)) := by
  refine qr_start (d := d + 44) qv_e213 (Nat.le_of_ble_eq_true rfl) ?_
  show qr_W (qe L xs vb) (d + 44) qx_e213 _ (0, [(0, .ref 86), (1, .int (qz x1)), (2, .int (qz x2))], [], _, 0, 0)
  have hF0 := qFr_rf [(86, 35), (86, 36), (86, 37), (86, 38), (86, 39)] [] σ α
  have hz86_35 : (-1) ≤ σ 86 35 ∧ σ 86 35 ≤ 120 := hI.1 86 35
  have hz86_36 : 0 ≤ σ 86 36 ∧ σ 86 36 ≤ 120 := hI.1 86 36
  have hz86_37 : 0 ≤ σ 86 37 ∧ σ 86 37 ≤ 120 := hI.1 86 37
  have hz86_38 : (-1) ≤ σ 86 38 ∧ σ 86 38 ≤ 120 := hI.1 86 38
  have hz86_39 : 0 ≤ σ 86 39 ∧ σ 86 39 ≤ 6 := hI.1 86 39
  refine qr_aload_n 1 rfl rfl rfl ?_
  refine qr_iload_n 2 rfl rfl rfl ?_
  refine qr_put 5 rfl (by decide) rfl (Nat.le_of_ble_eq_true rfl) (Nat.le_of_ble_eq_true rfl) (Or.inl rfl) (qr_fitI rfl _) rfl ?_
  refine qy_wS (qw_s σ 86 35 x1) rfl (fun σ1 e2 => ?_)
  have hI3 : qI σ1 α κ ρ := by rw [e2]; exact qI_s hI 86 35 rfl (show (-1) ≤ x1 ∧ x1 ≤ 120 by omega)
  have hF4 : qFr [(86, 35), (86, 36), (86, 37), (86, 38), (86, 39)] [] σ α σ1 α := by rw [e2]; exact qFr_s hF0 86 35 _ (by decide)
  refine qr_aload_n 6 rfl rfl rfl ?_
  refine qr_iconst 7 rfl rfl ?_
  refine qr_put 10 rfl (by decide) rfl (Nat.le_of_ble_eq_true rfl) (Nat.le_of_ble_eq_true rfl) (Or.inl rfl) (qr_fitI rfl _) rfl ?_
  refine qy_wS (qw_s σ1 86 36 0) rfl (fun σ5 e6 => ?_)
  have hI7 : qI σ5 α κ ρ := by rw [e6]; exact qI_s hI3 86 36 rfl (show 0 ≤ 0 ∧ 0 ≤ 120 by omega)
  have hF8 : qFr [(86, 35), (86, 36), (86, 37), (86, 38), (86, 39)] [] σ α σ5 α := by rw [e6]; exact qFr_s hF4 86 36 _ (by decide)
  refine qr_aload_n 11 rfl rfl rfl ?_
  refine qr_iload_n 12 rfl rfl rfl ?_
  refine qr_put 15 rfl (by decide) rfl (Nat.le_of_ble_eq_true rfl) (Nat.le_of_ble_eq_true rfl) (Or.inl rfl) (qr_fitI rfl _) rfl ?_
  refine qy_wS (qw_s σ5 86 37 x2) rfl (fun σ9 e10 => ?_)
  have hI11 : qI σ9 α κ ρ := by rw [e10]; exact qI_s hI7 86 37 rfl (show 0 ≤ x2 ∧ x2 ≤ 120 by omega)
  have hF12 : qFr [(86, 35), (86, 36), (86, 37), (86, 38), (86, 39)] [] σ α σ9 α := by rw [e10]; exact qFr_s hF8 86 37 _ (by decide)
  refine qr_aload_n 16 rfl rfl rfl ?_
  refine qr_iconst 17 rfl rfl ?_
  refine qr_put 20 rfl (by decide) rfl (Nat.le_of_ble_eq_true rfl) (Nat.le_of_ble_eq_true rfl) (Or.inl rfl) (qr_fitI rfl _) rfl ?_
  refine qy_wS (qw_s σ9 86 38 (-1)) rfl (fun σ13 e14 => ?_)
  have hI15 : qI σ13 α κ ρ := by rw [e14]; exact qI_s hI11 86 38 rfl (show (-1) ≤ (-1) ∧ (-1) ≤ 120 by omega)
  have hF16 : qFr [(86, 35), (86, 36), (86, 37), (86, 38), (86, 39)] [] σ α σ13 α := by rw [e14]; exact qFr_s hF12 86 38 _ (by decide)
  refine qr_aload_n 21 rfl rfl rfl ?_
  refine qr_iconst 22 rfl rfl ?_
  refine qr_put 25 rfl (by decide) rfl (Nat.le_of_ble_eq_true rfl) (Nat.le_of_ble_eq_true rfl) (Or.inl rfl) (qr_fitI rfl _) rfl ?_
  refine qy_wS (qw_s σ13 86 39 0) rfl (fun σ17 e18 => ?_)
  have hI19 : qI σ17 α κ ρ := by rw [e18]; exact qI_s hI15 86 39 rfl (show 0 ≤ 0 ∧ 0 ≤ 6 by omega)
  have hF20 : qFr [(86, 35), (86, 36), (86, 37), (86, 38), (86, 39)] [] σ α σ17 α := by rw [e18]; exact qFr_s hF16 86 39 _ (by decide)
  refine qr_iconst 26 rfl rfl ?_
  refine qr_istore_n _ 27 rfl (by decide) rfl rfl ?_
  refine qr_iconst 28 rfl rfl ?_
  refine qr_istore _ 30 rfl (by decide) rfl rfl ?_
  refine qr_iconst 31 rfl rfl ?_
  refine qr_istore _ 33 rfl (by decide) rfl rfl ?_
  have hL993 : ∀ (n : Nat) (ls : qm_L) (u977 u979 u981 : Int) (σ982 : Nat → Nat → Int), 2 * ((120 - σ982 86 36).toNat : Int) + u981 < (n : Int) → qm_get ls 0 = some (.ref 86) → qm_get ls 3 = some (.int (qz u977)) → qm_get ls 4 = some (.int (qz u979)) → qm_get ls 5 = some (.int (qz u981)) → (0 ≤ u977 ∧ u977 ≤ 1) → ((-2147483648) ≤ u979 ∧ u979 ≤ 2147483647) → (0 ≤ u981 ∧ u981 ≤ 1) → qI σ982 α κ ρ → qFr [(86, 35), (86, 36), (86, 37), (86, 38), (86, 39)] [] σ α σ982 α → σ982 86 35 = x1 → σ982 86 37 = x2 → qWI (qtT (α 106) (α 107) x1) x2 (qtx_E (qtT (α 106) (α 107) x1) x2 (α 109) 6) (qtx_W (qtT (α 106) (α 107) x1) x2 (α 109)) u977 u979 u981 (σ982 86 36) (σ982 86 38) → (σ982 86 36 ≤ x2 ∧ (σ982 86 38 = -1 ∨ σ982 86 38 = σ982 86 36 ∨ 0 ≤ σ982 86 38) ∧ (u981 = 1 → σ982 86 38 = -1 ∧ σ982 86 39 = 0) ∧ (u977 = 0 ∨ u977 = 1)) → qr_W (qe L xs vb) (d + 44) qx_e213 (fun r w' => ∃ σ', w' = qw σ' α κ ρ ∧ qI σ' α κ ρ ∧ qFr [(86, 35), (86, 36), (86, 37), (86, 38), (86, 39)] [] σ α σ' α ∧ ∃ v : Int, r = some (.int (qz v)) ∧ ((-2147483648) ≤ v ∧ v ≤ 2147483647) ∧ -1 ≤ σ' 86 38 ∧ qReW (qtx_W (qtT (α 106) (α 107) x1) x2 (α 109)) v (σ' 86 38)) (33, ls, [], qw σ982 α κ ρ, 0, 0) := by
    intro n
    induction n with
    | zero => intro ls u977 u979 u981 σ982 hm g975 g976 g978 g980 hf988 hf989 hf990 hI984 hF985 hk986 hk987 hx991 hx992; exact False.elim (by omega)
    | succ n ih994 =>
      intro ls u977 u979 u981 σ982 hm g975 g976 g978 g980 hf988 hf989 hf990 hI984 hF985 hk986 hk987 hx991 hx992
      have hs995 : 0 ≤ σ982 86 36 ∧ σ982 86 36 ≤ 120 := hI984.1 86 36
      have hs996 : (-1) ≤ σ982 86 38 ∧ σ982 86 38 ≤ 120 := hI984.1 86 38
      have hs997 : 0 ≤ σ982 86 39 ∧ σ982 86 39 ≤ 6 := hI984.1 86 39
      refine qr_iload 35 rfl g980 rfl ?_
      refine qr_if_eq 107 38 rfl rfl rfl (qrg hf990 (by decide) (by decide)) (fun h998 => ?_) (fun h998 => ?_)
      · skip
        refine qr_aload_n 108 rfl g975 rfl ?_
        refine qr_get 111 rfl rfl rfl (by decide) rfl ?_
        refine qr_if_ge 130 114 rfl rfl rfl (by omega) (fun h999 => ?_) (fun h999 => ?_)
        · skip
          refine qr_iload 132 rfl g978 rfl ?_
          refine qr_retI rfl rfl (by decide) (by decide) ?_
          have hw1000 : σ982 86 38 = (σ982 86 38) := rfl
          exact ⟨_, rfl, hI984, hF985, u979, rfl, hf989, by omega, (by exact qWI_e2 (by have h9 := hx991; rw [show u981 = 0 by omega] at h9; exact h9) (by omega))⟩
        · skip
          refine qr_aload_n 115 rfl g975 rfl ?_
          refine qr_get 118 rfl rfl rfl (by decide) rfl ?_
          refine qr_aload_n 119 rfl g975 rfl ?_
          refine qr_get 122 rfl rfl rfl (by decide) rfl ?_
          refine qy_v x2 ((hk987).trans rfl) ?_
          refine qr_icmp_ge 130 125 rfl rfl rfl (by omega) (qrg r2 (by decide) (by decide)) (fun h1001 => ?_) (fun h1001 => ?_)
          · skip
            refine qr_iload 132 rfl g978 rfl ?_
            refine qr_retI rfl rfl (by decide) (by decide) ?_
            have hw1002 : σ982 86 38 = (σ982 86 38) := rfl
            exact ⟨_, rfl, hI984, hF985, u979, rfl, hf989, by omega, (by exact qWI_e2 (by have h9 := hx991; rw [show u981 = 0 by omega] at h9; exact h9) (by omega))⟩
          · skip
            refine qr_aload_n 126 rfl g975 rfl ?_
            refine qr_callN 129 rfl rfl rfl (sf_221_86x (d := d + 43) hI984 ) ?_
            have hs1005 : 0 ≤ σ982 86 36 ∧ σ982 86 36 ≤ 120 := hI984.1 86 36
            have hs1006 : (-1) ≤ σ982 86 38 ∧ σ982 86 38 ≤ 120 := hI984.1 86 38
            rintro _ _ ⟨σ1007, rfl, hI1008, hG1009, v1003, rfl, hv1003, hp1004⟩
            have hF1010 : qFr [(86, 35), (86, 36), (86, 37), (86, 38), (86, 39)] [] σ α σ1007 α := qFr_t hF985 hG1009 (by decide) (by decide)
            have hs1011 : (-1) ≤ σ1007 86 38 ∧ σ1007 86 38 ≤ 120 := hI1008.1 86 38
            show qr_W (qe L xs vb) (d + 44) qx_e213 _ (129, _, [.int (qz v1003)], qw σ1007 α κ ρ, 0, 0)
            refine qr_retI rfl rfl (by decide) (by decide) ?_
            have hw1012 : σ1007 86 38 = (σ1007 86 38) := rfl
            exact ⟨_, rfl, hI1008, hF1010, v1003, rfl, (qrg hv1003 (by decide) (by decide)), by omega, (by rw [show σ1007 86 38 = σ982 86 36 by omega]; exact qWI_e1 _ (by have h9 := hx991; rw [show u981 = 0 by omega, show σ982 86 38 = -1 by omega] at h9; exact h9) (by omega))⟩
      · skip
        refine qr_aload_n 39 rfl g975 rfl ?_
        have hs1013 : 0 ≤ σ982 86 36 ∧ σ982 86 36 ≤ 120 := hI984.1 86 36
        have hs1014 : 0 ≤ σ982 86 37 ∧ σ982 86 37 ≤ 120 := hI984.1 86 37
        have hs1015 : σ982 86 37 = x2 := (hk987).trans rfl
        have hs1016 : (-1) ≤ σ982 86 38 ∧ σ982 86 38 ≤ 120 := hI984.1 86 38
        have hs1017 : 0 ≤ σ982 86 39 ∧ σ982 86 39 ≤ 6 := hI984.1 86 39
        refine qr_callN 42 rfl rfl rfl (sq_E6 (d := d + 0) hI984 (by omega) (by omega) (by omega)) ?_
        have hs1021 : 0 ≤ σ982 86 36 ∧ σ982 86 36 ≤ 120 := hI984.1 86 36
        have hs1022 : 0 ≤ σ982 86 37 ∧ σ982 86 37 ≤ 120 := hI984.1 86 37
        have hs1023 : σ982 86 37 = x2 := (hk987).trans rfl
        have hs1024 : 0 ≤ σ982 86 39 ∧ σ982 86 39 ≤ 6 := hI984.1 86 39
        rintro _ _ ⟨σ1025, rfl, hI1026, hG1027, v1018, rfl, hv1018, hp1019, hx1020⟩
        have hF1028 : qFr [(86, 35), (86, 36), (86, 37), (86, 38), (86, 39)] [] σ α σ1025 α := qFr_t hF985 hG1027 (by decide) (by decide)
        have hs1029 : 0 ≤ σ1025 86 36 ∧ σ1025 86 36 ≤ 120 := hI1026.1 86 36
        have hs1030 : (-1) ≤ σ1025 86 38 ∧ σ1025 86 38 ≤ 120 := hI1026.1 86 38
        have hs1031 : 0 ≤ σ1025 86 39 ∧ σ1025 86 39 ≤ 6 := hI1026.1 86 39
        rw [(show σ982 86 37 = x2 from (hk987).trans rfl)] at hp1019
        rw [(show σ982 86 35 = x1 from (hk986).trans rfl), (show σ982 86 37 = x2 from (hk987).trans rfl)] at hx1020
        show qr_W (qe L xs vb) (d + 44) qx_e213 _ (42, _, [.int (qz v1018)], qw σ1025 α κ ρ, 0, 0)
        refine qr_istore _ 44 rfl (by decide) rfl rfl ?_
        refine qr_iconst 45 rfl rfl ?_
        refine qr_istore _ 47 rfl (by decide) rfl rfl ?_
        refine qr_aload_n 48 rfl (qm_gk (qm_gk g975 (by decide) (Or.inl (by decide))) (by decide) (Or.inl (by decide))) rfl ?_
        refine qr_bipush 50 rfl (by decide) rfl ?_
        refine qr_callN 53 rfl rfl rfl (sf_222_86x (d := d + 42) hI1026 (by decide) (by omega)) ?_
        have hs1034 : (-1) ≤ σ1025 86 35 ∧ σ1025 86 35 ≤ 120 := hI1026.1 86 35
        have hs1035 : σ1025 86 35 = x1 := (hG1027.1 86 35 (by decide)).trans ((hk986).trans rfl)
        have hs1036 : 0 ≤ σ1025 86 36 ∧ σ1025 86 36 ≤ 120 := hI1026.1 86 36
        have hs1037 : 0 ≤ σ1025 86 37 ∧ σ1025 86 37 ≤ 120 := hI1026.1 86 37
        have hs1038 : σ1025 86 37 = x2 := (hG1027.1 86 37 (by decide)).trans ((hk987).trans rfl)
        have hs1039 : (-1) ≤ σ1025 86 38 ∧ σ1025 86 38 ≤ 120 := hI1026.1 86 38
        rintro _ _ ⟨σ1040, rfl, hI1041, hG1042, v1032, rfl, hv1032, hp1033⟩
        have hF1043 : qFr [(86, 35), (86, 36), (86, 37), (86, 38), (86, 39)] [] σ α σ1040 α := qFr_t hF1028 hG1042 (by decide) (by decide)
        have hs1044 : 0 ≤ σ1040 86 36 ∧ σ1040 86 36 ≤ 120 := hI1041.1 86 36
        rw [(show σ1025 86 35 = x1 from (hG1027.1 86 35 (by decide)).trans ((hk986).trans rfl)), (show σ1025 86 37 = x2 from (hG1027.1 86 37 (by decide)).trans ((hk987).trans rfl))] at hp1033
        show qr_W (qe L xs vb) (d + 44) qx_e213 _ (53, _, [.int (qz v1032)], qw σ1040 α κ ρ, 0, 0)
        refine qr_if_eq 74 56 rfl rfl rfl (qrg hv1032 (by decide) (by decide)) (fun h1045 => ?_) (fun h1045 => ?_)
        · skip
          refine qr_aload_n 75 rfl (qm_gk (qm_gk g975 (by decide) (Or.inl (by decide))) (by decide) (Or.inl (by decide))) rfl ?_
          refine qr_get 78 rfl rfl rfl (by decide) rfl ?_
          refine qy_v (σ1025 86 38) ((hG1042.1 86 38 (by decide)).trans rfl) ?_
          refine qr_if_ge 96 81 rfl rfl rfl (by omega) (fun h1046 => ?_) (fun h1046 => ?_)
          · skip
            refine qr_aload_n 97 rfl (qm_gk (qm_gk g975 (by decide) (Or.inl (by decide))) (by decide) (Or.inl (by decide))) rfl ?_
            refine qr_bipush 99 rfl (by decide) rfl ?_
            refine qr_callN 102 rfl rfl rfl (sf_222_86x (d := d + 42) hI1041 (by decide) (by omega)) ?_
            have hs1049 : (-1) ≤ σ1040 86 35 ∧ σ1040 86 35 ≤ 120 := hI1041.1 86 35
            have hs1050 : σ1040 86 35 = x1 := (hG1042.1 86 35 (by decide)).trans ((hG1027.1 86 35 (by decide)).trans ((hk986).trans rfl))
            have hs1051 : 0 ≤ σ1040 86 36 ∧ σ1040 86 36 ≤ 120 := hI1041.1 86 36
            have hs1052 : 0 ≤ σ1040 86 37 ∧ σ1040 86 37 ≤ 120 := hI1041.1 86 37
            have hs1053 : σ1040 86 37 = x2 := (hG1042.1 86 37 (by decide)).trans ((hG1027.1 86 37 (by decide)).trans ((hk987).trans rfl))
            have hs1054 : (-1) ≤ σ1040 86 38 ∧ σ1040 86 38 ≤ 120 := hI1041.1 86 38
            have hs1055 : σ1040 86 38 = (σ1025 86 38) := (hG1042.1 86 38 (by decide)).trans rfl
            rintro _ _ ⟨σ1056, rfl, hI1057, hG1058, v1047, rfl, hv1047, hp1048⟩
            have hF1059 : qFr [(86, 35), (86, 36), (86, 37), (86, 38), (86, 39)] [] σ α σ1056 α := qFr_t hF1043 hG1058 (by decide) (by decide)
            have hs1060 : 0 ≤ σ1056 86 36 ∧ σ1056 86 36 ≤ 120 := hI1057.1 86 36
            rw [(show σ1040 86 35 = x1 from (hG1042.1 86 35 (by decide)).trans ((hG1027.1 86 35 (by decide)).trans ((hk986).trans rfl))), (show σ1040 86 37 = x2 from (hG1042.1 86 37 (by decide)).trans ((hG1027.1 86 37 (by decide)).trans ((hk987).trans rfl))), (show σ1040 86 38 = (σ1025 86 38) from (hG1042.1 86 38 (by decide)).trans rfl)] at hp1048
            show qr_W (qe L xs vb) (d + 44) qx_e213 _ (102, _, [.int (qz v1047)], qw σ1056 α κ ρ, 0, 0)
            refine qr_istore _ 104 rfl (by decide) rfl rfl ?_
            refine qr_goto 33 rfl rfl ?_
            exact ih994 _ u977 u979 v1047 σ1056 (by omega) (qm_gk (qm_gk (qm_gk g975 (by decide) (Or.inl (by decide))) (by decide) (Or.inl (by decide))) (by decide) (Or.inl (by decide))) (qm_gk (qm_gk (qm_gk g976 (by decide) (Or.inl (by decide))) (by decide) (Or.inl (by decide))) (by decide) (Or.inl (by decide))) (qm_gk (qm_gk (qm_gk g978 (by decide) (Or.inl (by decide))) (by decide) (Or.inl (by decide))) (by decide) (Or.inr rfl)) (qm_ge _ _ _) hf988 hf989 hv1047 hI1057 hF1059 ((hG1058.1 86 35 (by decide)).trans ((hG1042.1 86 35 (by decide)).trans ((hG1027.1 86 35 (by decide)).trans ((hk986).trans rfl)))) ((hG1058.1 86 37 (by decide)).trans ((hG1042.1 86 37 (by decide)).trans ((hG1027.1 86 37 (by decide)).trans ((hk987).trans rfl)))) (by rw [show σ1056 86 38 = (σ1025 86 38) from (hG1058.1 86 38 (by decide)).trans ((hG1042.1 86 38 (by decide)).trans rfl)]; exact qWI_s (h := 1) (v := v1018) (a := σ1025 86 36) (by have h9 := hx991; rw [show u981 = 1 by omega, show σ982 86 38 = -1 by omega] at h9; exact h9) (by omega) (qL_1 hx1020 (by omega) (by omega)) (by omega) (by omega) (fun hf => ⟨by unfold qtx_gi; split <;> omega, by unfold qtx_ge; repeat' split; all_goals omega⟩) (by rw [show σ1025 86 36 = σ1040 86 36 by omega]; omega)) (by have hw1 : σ1056 86 38 = (σ1025 86 38) := (hG1058.1 86 38 (by decide)).trans ((hG1042.1 86 38 (by decide)).trans rfl); have hw2 : σ1056 86 39 = (σ1025 86 39) := (hG1058.1 86 39 (by decide)).trans ((hG1042.1 86 39 (by decide)).trans rfl); omega)
          · skip
            refine qr_iload 83 rfl (qm_ge _ _ _) rfl ?_
            refine qr_if_eq 96 86 rfl rfl rfl (by decide) (fun h => False.elim (by omega)) (fun h1061 => ?_)
            refine qr_iload_n 87 rfl (qm_gk (qm_gk g976 (by decide) (Or.inl (by decide))) (by decide) (Or.inl (by decide))) rfl ?_
            refine qr_if_ne 96 90 rfl rfl rfl (qrg hf988 (by decide) (by decide)) (fun h1062 => ?_) (fun h1062 => ?_)
            · skip
              refine qr_aload_n 97 rfl (qm_gk (qm_gk g975 (by decide) (Or.inl (by decide))) (by decide) (Or.inl (by decide))) rfl ?_
              refine qr_bipush 99 rfl (by decide) rfl ?_
              refine qr_callN 102 rfl rfl rfl (sf_222_86x (d := d + 42) hI1041 (by decide) (by omega)) ?_
              have hs1065 : (-1) ≤ σ1040 86 35 ∧ σ1040 86 35 ≤ 120 := hI1041.1 86 35
              have hs1066 : σ1040 86 35 = x1 := (hG1042.1 86 35 (by decide)).trans ((hG1027.1 86 35 (by decide)).trans ((hk986).trans rfl))
              have hs1067 : 0 ≤ σ1040 86 36 ∧ σ1040 86 36 ≤ 120 := hI1041.1 86 36
              have hs1068 : 0 ≤ σ1040 86 37 ∧ σ1040 86 37 ≤ 120 := hI1041.1 86 37
              have hs1069 : σ1040 86 37 = x2 := (hG1042.1 86 37 (by decide)).trans ((hG1027.1 86 37 (by decide)).trans ((hk987).trans rfl))
              have hs1070 : (-1) ≤ σ1040 86 38 ∧ σ1040 86 38 ≤ 120 := hI1041.1 86 38
              have hs1071 : σ1040 86 38 = (σ1025 86 38) := (hG1042.1 86 38 (by decide)).trans rfl
              rintro _ _ ⟨σ1072, rfl, hI1073, hG1074, v1063, rfl, hv1063, hp1064⟩
              have hF1075 : qFr [(86, 35), (86, 36), (86, 37), (86, 38), (86, 39)] [] σ α σ1072 α := qFr_t hF1043 hG1074 (by decide) (by decide)
              have hs1076 : 0 ≤ σ1072 86 36 ∧ σ1072 86 36 ≤ 120 := hI1073.1 86 36
              rw [(show σ1040 86 35 = x1 from (hG1042.1 86 35 (by decide)).trans ((hG1027.1 86 35 (by decide)).trans ((hk986).trans rfl))), (show σ1040 86 37 = x2 from (hG1042.1 86 37 (by decide)).trans ((hG1027.1 86 37 (by decide)).trans ((hk987).trans rfl))), (show σ1040 86 38 = (σ1025 86 38) from (hG1042.1 86 38 (by decide)).trans rfl)] at hp1064
              show qr_W (qe L xs vb) (d + 44) qx_e213 _ (102, _, [.int (qz v1063)], qw σ1072 α κ ρ, 0, 0)
              refine qr_istore _ 104 rfl (by decide) rfl rfl ?_
              refine qr_goto 33 rfl rfl ?_
              exact ih994 _ u977 u979 v1063 σ1072 (by omega) (qm_gk (qm_gk (qm_gk g975 (by decide) (Or.inl (by decide))) (by decide) (Or.inl (by decide))) (by decide) (Or.inl (by decide))) (qm_gk (qm_gk (qm_gk g976 (by decide) (Or.inl (by decide))) (by decide) (Or.inl (by decide))) (by decide) (Or.inl (by decide))) (qm_gk (qm_gk (qm_gk g978 (by decide) (Or.inl (by decide))) (by decide) (Or.inl (by decide))) (by decide) (Or.inr rfl)) (qm_ge _ _ _) hf988 hf989 hv1063 hI1073 hF1075 ((hG1074.1 86 35 (by decide)).trans ((hG1042.1 86 35 (by decide)).trans ((hG1027.1 86 35 (by decide)).trans ((hk986).trans rfl)))) ((hG1074.1 86 37 (by decide)).trans ((hG1042.1 86 37 (by decide)).trans ((hG1027.1 86 37 (by decide)).trans ((hk987).trans rfl)))) (by rw [show σ1072 86 38 = (σ1025 86 38) from (hG1074.1 86 38 (by decide)).trans ((hG1042.1 86 38 (by decide)).trans rfl)]; exact qWI_s (h := 1) (v := v1018) (a := σ1025 86 36) (by have h9 := hx991; rw [show u981 = 1 by omega, show σ982 86 38 = -1 by omega] at h9; exact h9) (by omega) (qL_1 hx1020 (by omega) (by omega)) (by omega) (by omega) (fun hf => ⟨by unfold qtx_gi; split <;> omega, by unfold qtx_ge; repeat' split; all_goals omega⟩) (by rw [show σ1025 86 36 = σ1040 86 36 by omega]; omega)) (by have hw1 : σ1072 86 38 = (σ1025 86 38) := (hG1074.1 86 38 (by decide)).trans ((hG1042.1 86 38 (by decide)).trans rfl); have hw2 : σ1072 86 39 = (σ1025 86 39) := (hG1074.1 86 39 (by decide)).trans ((hG1042.1 86 39 (by decide)).trans rfl); omega)
            · skip
              refine qr_iconst 91 rfl rfl ?_
              refine qr_istore_n _ 92 rfl (by decide) rfl rfl ?_
              refine qr_iload 94 rfl (qm_gk (qm_gk (qm_ge _ _ _) (by decide) (Or.inr rfl)) (by decide) (Or.inl (by decide))) rfl ?_
              refine qr_istore _ 96 rfl (by decide) rfl rfl ?_
              refine qr_aload_n 97 rfl (qm_gk (qm_gk (qm_gk (qm_gk g975 (by decide) (Or.inl (by decide))) (by decide) (Or.inl (by decide))) (by decide) (Or.inl (by decide))) (by decide) (Or.inl (by decide))) rfl ?_
              refine qr_bipush 99 rfl (by decide) rfl ?_
              refine qr_callN 102 rfl rfl rfl (sf_222_86x (d := d + 42) hI1041 (by decide) (by omega)) ?_
              have hs1079 : (-1) ≤ σ1040 86 35 ∧ σ1040 86 35 ≤ 120 := hI1041.1 86 35
              have hs1080 : σ1040 86 35 = x1 := (hG1042.1 86 35 (by decide)).trans ((hG1027.1 86 35 (by decide)).trans ((hk986).trans rfl))
              have hs1081 : 0 ≤ σ1040 86 36 ∧ σ1040 86 36 ≤ 120 := hI1041.1 86 36
              have hs1082 : 0 ≤ σ1040 86 37 ∧ σ1040 86 37 ≤ 120 := hI1041.1 86 37
              have hs1083 : σ1040 86 37 = x2 := (hG1042.1 86 37 (by decide)).trans ((hG1027.1 86 37 (by decide)).trans ((hk987).trans rfl))
              have hs1084 : (-1) ≤ σ1040 86 38 ∧ σ1040 86 38 ≤ 120 := hI1041.1 86 38
              have hs1085 : σ1040 86 38 = (σ1025 86 38) := (hG1042.1 86 38 (by decide)).trans rfl
              rintro _ _ ⟨σ1086, rfl, hI1087, hG1088, v1077, rfl, hv1077, hp1078⟩
              have hF1089 : qFr [(86, 35), (86, 36), (86, 37), (86, 38), (86, 39)] [] σ α σ1086 α := qFr_t hF1043 hG1088 (by decide) (by decide)
              have hs1090 : 0 ≤ σ1086 86 36 ∧ σ1086 86 36 ≤ 120 := hI1087.1 86 36
              rw [(show σ1040 86 35 = x1 from (hG1042.1 86 35 (by decide)).trans ((hG1027.1 86 35 (by decide)).trans ((hk986).trans rfl))), (show σ1040 86 37 = x2 from (hG1042.1 86 37 (by decide)).trans ((hG1027.1 86 37 (by decide)).trans ((hk987).trans rfl))), (show σ1040 86 38 = (σ1025 86 38) from (hG1042.1 86 38 (by decide)).trans rfl)] at hp1078
              show qr_W (qe L xs vb) (d + 44) qx_e213 _ (102, _, [.int (qz v1077)], qw σ1086 α κ ρ, 0, 0)
              refine qr_istore _ 104 rfl (by decide) rfl rfl ?_
              refine qr_goto 33 rfl rfl ?_
              exact ih994 _ 1 v1018 v1077 σ1086 (by omega) (qm_gk (qm_gk (qm_gk (qm_gk (qm_gk g975 (by decide) (Or.inl (by decide))) (by decide) (Or.inl (by decide))) (by decide) (Or.inl (by decide))) (by decide) (Or.inl (by decide))) (by decide) (Or.inl (by decide))) (qm_gk (qm_gk (qm_ge _ _ _) (by decide) (Or.inr rfl)) (by decide) (Or.inl (by decide))) (qm_gk (qm_ge _ _ _) (by decide) (Or.inr rfl)) (qm_ge _ _ _) (by decide) hv1018 hv1077 hI1087 hF1089 ((hG1088.1 86 35 (by decide)).trans ((hG1042.1 86 35 (by decide)).trans ((hG1027.1 86 35 (by decide)).trans ((hk986).trans rfl)))) ((hG1088.1 86 37 (by decide)).trans ((hG1042.1 86 37 (by decide)).trans ((hG1027.1 86 37 (by decide)).trans ((hk987).trans rfl)))) (by rw [show σ1086 86 38 = (σ1025 86 38) from (hG1088.1 86 38 (by decide)).trans ((hG1042.1 86 38 (by decide)).trans rfl)]; exact qWI_s (h := 1) (v := v1018) (a := σ1025 86 36) (by have h9 := hx991; rw [show u981 = 1 by omega, show σ982 86 38 = -1 by omega] at h9; exact h9) (by omega) (qL_1 hx1020 (by omega) (by omega)) (by omega) (by omega) (fun hf => ⟨by unfold qtx_gi; split <;> omega, by unfold qtx_ge; repeat' split; all_goals omega⟩) (by rw [show σ1025 86 36 = σ1040 86 36 by omega]; omega)) (by have hw1 : σ1086 86 38 = (σ1025 86 38) := (hG1088.1 86 38 (by decide)).trans ((hG1042.1 86 38 (by decide)).trans rfl); have hw2 : σ1086 86 39 = (σ1025 86 39) := (hG1088.1 86 39 (by decide)).trans ((hG1042.1 86 39 (by decide)).trans rfl); omega)
        · skip
          refine qr_iload 58 rfl (qm_gk (qm_ge _ _ _) (by decide) (Or.inr rfl)) rfl ?_
          refine qr_if_eq 65 61 rfl rfl rfl hv1018 (fun h1091 => ?_) (fun h1091 => ?_)
          · skip
            refine qr_iconst 66 rfl rfl ?_
            refine qr_istore _ 68 rfl (by decide) rfl rfl ?_
            refine qr_aload_n 69 rfl (qm_gk (qm_gk (qm_gk g975 (by decide) (Or.inl (by decide))) (by decide) (Or.inl (by decide))) (by decide) (Or.inl (by decide))) rfl ?_
            have hs1092 : 0 ≤ σ1040 86 36 ∧ σ1040 86 36 ≤ 120 := hI1041.1 86 36
            have hs1093 : 0 ≤ σ1040 86 37 ∧ σ1040 86 37 ≤ 120 := hI1041.1 86 37
            have hs1094 : σ1040 86 37 = x2 := (hG1042.1 86 37 (by decide)).trans ((hG1027.1 86 37 (by decide)).trans ((hk987).trans rfl))
            have hs1095 : (-1) ≤ σ1040 86 38 ∧ σ1040 86 38 ≤ 120 := hI1041.1 86 38
            have hs1096 : σ1040 86 38 = (σ1025 86 38) := (hG1042.1 86 38 (by decide)).trans rfl
            have hs1097 : 0 ≤ σ1040 86 39 ∧ σ1040 86 39 ≤ 6 := hI1041.1 86 39
            have hs1098 : σ1040 86 39 = (σ1025 86 39) := (hG1042.1 86 39 (by decide)).trans rfl
            refine qr_callN 72 rfl rfl rfl (sq_E6 (d := d + 0) hI1041 (by omega) (by omega) (by omega)) ?_
            have hs1102 : 0 ≤ σ1040 86 36 ∧ σ1040 86 36 ≤ 120 := hI1041.1 86 36
            have hs1103 : 0 ≤ σ1040 86 37 ∧ σ1040 86 37 ≤ 120 := hI1041.1 86 37
            have hs1104 : σ1040 86 37 = x2 := (hG1042.1 86 37 (by decide)).trans ((hG1027.1 86 37 (by decide)).trans ((hk987).trans rfl))
            have hs1105 : 0 ≤ σ1040 86 39 ∧ σ1040 86 39 ≤ 6 := hI1041.1 86 39
            have hs1106 : σ1040 86 39 = (σ1025 86 39) := (hG1042.1 86 39 (by decide)).trans rfl
            rintro _ _ ⟨σ1107, rfl, hI1108, hG1109, v1099, rfl, hv1099, hp1100, hx1101⟩
            have hF1110 : qFr [(86, 35), (86, 36), (86, 37), (86, 38), (86, 39)] [] σ α σ1107 α := qFr_t hF1043 hG1109 (by decide) (by decide)
            have hs1111 : 0 ≤ σ1107 86 36 ∧ σ1107 86 36 ≤ 120 := hI1108.1 86 36
            have hs1112 : (-1) ≤ σ1107 86 38 ∧ σ1107 86 38 ≤ 120 := hI1108.1 86 38
            have hs1113 : 0 ≤ σ1107 86 39 ∧ σ1107 86 39 ≤ 6 := hI1108.1 86 39
            rw [(show σ1040 86 37 = x2 from (hG1042.1 86 37 (by decide)).trans ((hG1027.1 86 37 (by decide)).trans ((hk987).trans rfl))), (show σ1040 86 39 = (σ1025 86 39) from (hG1042.1 86 39 (by decide)).trans rfl)] at hp1100
            rw [(show σ1040 86 35 = x1 from (hG1042.1 86 35 (by decide)).trans ((hG1027.1 86 35 (by decide)).trans ((hk986).trans rfl))), (show σ1040 86 37 = x2 from (hG1042.1 86 37 (by decide)).trans ((hG1027.1 86 37 (by decide)).trans ((hk987).trans rfl)))] at hx1101
            show qr_W (qe L xs vb) (d + 44) qx_e213 _ (72, _, [.int (qz v1099)], qw σ1107 α κ ρ, 0, 0)
            refine qr_istore _ 74 rfl (by decide) rfl rfl ?_
            refine qr_aload_n 75 rfl (qm_gk (qm_gk (qm_gk (qm_gk g975 (by decide) (Or.inl (by decide))) (by decide) (Or.inl (by decide))) (by decide) (Or.inl (by decide))) (by decide) (Or.inl (by decide))) rfl ?_
            refine qr_get 78 rfl rfl rfl (by decide) rfl ?_
            refine qr_if_ge 96 81 rfl rfl rfl (by omega) (fun h1114 => ?_) (fun h1114 => ?_)
            · skip
              refine qr_aload_n 97 rfl (qm_gk (qm_gk (qm_gk (qm_gk g975 (by decide) (Or.inl (by decide))) (by decide) (Or.inl (by decide))) (by decide) (Or.inl (by decide))) (by decide) (Or.inl (by decide))) rfl ?_
              refine qr_bipush 99 rfl (by decide) rfl ?_
              refine qr_callN 102 rfl rfl rfl (sf_222_86x (d := d + 42) hI1108 (by decide) (by omega)) ?_
              have hs1117 : (-1) ≤ σ1107 86 35 ∧ σ1107 86 35 ≤ 120 := hI1108.1 86 35
              have hs1118 : σ1107 86 35 = x1 := (hG1109.1 86 35 (by decide)).trans ((hG1042.1 86 35 (by decide)).trans ((hG1027.1 86 35 (by decide)).trans ((hk986).trans rfl)))
              have hs1119 : 0 ≤ σ1107 86 36 ∧ σ1107 86 36 ≤ 120 := hI1108.1 86 36
              have hs1120 : 0 ≤ σ1107 86 37 ∧ σ1107 86 37 ≤ 120 := hI1108.1 86 37
              have hs1121 : σ1107 86 37 = x2 := (hG1109.1 86 37 (by decide)).trans ((hG1042.1 86 37 (by decide)).trans ((hG1027.1 86 37 (by decide)).trans ((hk987).trans rfl)))
              have hs1122 : (-1) ≤ σ1107 86 38 ∧ σ1107 86 38 ≤ 120 := hI1108.1 86 38
              rintro _ _ ⟨σ1123, rfl, hI1124, hG1125, v1115, rfl, hv1115, hp1116⟩
              have hF1126 : qFr [(86, 35), (86, 36), (86, 37), (86, 38), (86, 39)] [] σ α σ1123 α := qFr_t hF1110 hG1125 (by decide) (by decide)
              have hs1127 : 0 ≤ σ1123 86 36 ∧ σ1123 86 36 ≤ 120 := hI1124.1 86 36
              rw [(show σ1107 86 35 = x1 from (hG1109.1 86 35 (by decide)).trans ((hG1042.1 86 35 (by decide)).trans ((hG1027.1 86 35 (by decide)).trans ((hk986).trans rfl)))), (show σ1107 86 37 = x2 from (hG1109.1 86 37 (by decide)).trans ((hG1042.1 86 37 (by decide)).trans ((hG1027.1 86 37 (by decide)).trans ((hk987).trans rfl))))] at hp1116
              show qr_W (qe L xs vb) (d + 44) qx_e213 _ (102, _, [.int (qz v1115)], qw σ1123 α κ ρ, 0, 0)
              refine qr_istore _ 104 rfl (by decide) rfl rfl ?_
              refine qr_goto 33 rfl rfl ?_
              exact ih994 _ u977 u979 v1115 σ1123 (by omega) (qm_gk (qm_gk (qm_gk (qm_gk (qm_gk g975 (by decide) (Or.inl (by decide))) (by decide) (Or.inl (by decide))) (by decide) (Or.inl (by decide))) (by decide) (Or.inl (by decide))) (by decide) (Or.inl (by decide))) (qm_gk (qm_gk (qm_gk (qm_gk (qm_gk g976 (by decide) (Or.inl (by decide))) (by decide) (Or.inl (by decide))) (by decide) (Or.inl (by decide))) (by decide) (Or.inl (by decide))) (by decide) (Or.inl (by decide))) (qm_gk (qm_gk (qm_gk (qm_gk (qm_gk g978 (by decide) (Or.inl (by decide))) (by decide) (Or.inl (by decide))) (by decide) (Or.inl (by decide))) (by decide) (Or.inl (by decide))) (by decide) (Or.inr rfl)) (qm_ge _ _ _) hf988 hf989 hv1115 hI1124 hF1126 ((hG1125.1 86 35 (by decide)).trans ((hG1109.1 86 35 (by decide)).trans ((hG1042.1 86 35 (by decide)).trans ((hG1027.1 86 35 (by decide)).trans ((hk986).trans rfl))))) ((hG1125.1 86 37 (by decide)).trans ((hG1109.1 86 37 (by decide)).trans ((hG1042.1 86 37 (by decide)).trans ((hG1027.1 86 37 (by decide)).trans ((hk987).trans rfl))))) (by rw [show σ1123 86 38 = (σ1107 86 38) from (hG1125.1 86 38 (by decide)).trans rfl]; exact qWI_s (h := 0) (v := v1099) (a := σ1107 86 36) (by have h9 := hx991; rw [show u981 = 1 by omega, show σ982 86 38 = -1 by omega] at h9; exact h9) (by omega) (qL_2 (by have h9 := hx1020; rw [show σ1025 86 38 = -1 by omega] at h9; exact h9) (by omega) (by omega) (by have h8 := hx1101; rwa [show σ1040 86 36 = σ1025 86 36 + 1 by omega] at h8) (by omega)) (by omega) (by omega) (fun hf => ⟨by unfold qtx_gi; split <;> omega, by unfold qtx_ge; repeat' split; all_goals omega⟩) (by omega)) (by have hw1 : σ1123 86 38 = (σ1107 86 38) := (hG1125.1 86 38 (by decide)).trans rfl; have hw2 : σ1123 86 39 = (σ1107 86 39) := (hG1125.1 86 39 (by decide)).trans rfl; omega)
            · skip
              refine qr_iload 83 rfl (qm_gk (qm_ge _ _ _) (by decide) (Or.inl (by decide))) rfl ?_
              refine qr_if_eq 96 86 rfl rfl rfl (by decide) (fun h1128 => ?_) (fun h => False.elim (by omega))
              refine qr_aload_n 97 rfl (qm_gk (qm_gk (qm_gk (qm_gk g975 (by decide) (Or.inl (by decide))) (by decide) (Or.inl (by decide))) (by decide) (Or.inl (by decide))) (by decide) (Or.inl (by decide))) rfl ?_
              refine qr_bipush 99 rfl (by decide) rfl ?_
              refine qr_callN 102 rfl rfl rfl (sf_222_86x (d := d + 42) hI1108 (by decide) (by omega)) ?_
              have hs1131 : (-1) ≤ σ1107 86 35 ∧ σ1107 86 35 ≤ 120 := hI1108.1 86 35
              have hs1132 : σ1107 86 35 = x1 := (hG1109.1 86 35 (by decide)).trans ((hG1042.1 86 35 (by decide)).trans ((hG1027.1 86 35 (by decide)).trans ((hk986).trans rfl)))
              have hs1133 : 0 ≤ σ1107 86 36 ∧ σ1107 86 36 ≤ 120 := hI1108.1 86 36
              have hs1134 : 0 ≤ σ1107 86 37 ∧ σ1107 86 37 ≤ 120 := hI1108.1 86 37
              have hs1135 : σ1107 86 37 = x2 := (hG1109.1 86 37 (by decide)).trans ((hG1042.1 86 37 (by decide)).trans ((hG1027.1 86 37 (by decide)).trans ((hk987).trans rfl)))
              have hs1136 : (-1) ≤ σ1107 86 38 ∧ σ1107 86 38 ≤ 120 := hI1108.1 86 38
              rintro _ _ ⟨σ1137, rfl, hI1138, hG1139, v1129, rfl, hv1129, hp1130⟩
              have hF1140 : qFr [(86, 35), (86, 36), (86, 37), (86, 38), (86, 39)] [] σ α σ1137 α := qFr_t hF1110 hG1139 (by decide) (by decide)
              have hs1141 : 0 ≤ σ1137 86 36 ∧ σ1137 86 36 ≤ 120 := hI1138.1 86 36
              rw [(show σ1107 86 35 = x1 from (hG1109.1 86 35 (by decide)).trans ((hG1042.1 86 35 (by decide)).trans ((hG1027.1 86 35 (by decide)).trans ((hk986).trans rfl)))), (show σ1107 86 37 = x2 from (hG1109.1 86 37 (by decide)).trans ((hG1042.1 86 37 (by decide)).trans ((hG1027.1 86 37 (by decide)).trans ((hk987).trans rfl))))] at hp1130
              show qr_W (qe L xs vb) (d + 44) qx_e213 _ (102, _, [.int (qz v1129)], qw σ1137 α κ ρ, 0, 0)
              refine qr_istore _ 104 rfl (by decide) rfl rfl ?_
              refine qr_goto 33 rfl rfl ?_
              exact ih994 _ u977 u979 v1129 σ1137 (by omega) (qm_gk (qm_gk (qm_gk (qm_gk (qm_gk g975 (by decide) (Or.inl (by decide))) (by decide) (Or.inl (by decide))) (by decide) (Or.inl (by decide))) (by decide) (Or.inl (by decide))) (by decide) (Or.inl (by decide))) (qm_gk (qm_gk (qm_gk (qm_gk (qm_gk g976 (by decide) (Or.inl (by decide))) (by decide) (Or.inl (by decide))) (by decide) (Or.inl (by decide))) (by decide) (Or.inl (by decide))) (by decide) (Or.inl (by decide))) (qm_gk (qm_gk (qm_gk (qm_gk (qm_gk g978 (by decide) (Or.inl (by decide))) (by decide) (Or.inl (by decide))) (by decide) (Or.inl (by decide))) (by decide) (Or.inl (by decide))) (by decide) (Or.inr rfl)) (qm_ge _ _ _) hf988 hf989 hv1129 hI1138 hF1140 ((hG1139.1 86 35 (by decide)).trans ((hG1109.1 86 35 (by decide)).trans ((hG1042.1 86 35 (by decide)).trans ((hG1027.1 86 35 (by decide)).trans ((hk986).trans rfl))))) ((hG1139.1 86 37 (by decide)).trans ((hG1109.1 86 37 (by decide)).trans ((hG1042.1 86 37 (by decide)).trans ((hG1027.1 86 37 (by decide)).trans ((hk987).trans rfl))))) (by rw [show σ1137 86 38 = (σ1107 86 38) from (hG1139.1 86 38 (by decide)).trans rfl]; exact qWI_s (h := 0) (v := v1099) (a := σ1107 86 36) (by have h9 := hx991; rw [show u981 = 1 by omega, show σ982 86 38 = -1 by omega] at h9; exact h9) (by omega) (qL_2 (by have h9 := hx1020; rw [show σ1025 86 38 = -1 by omega] at h9; exact h9) (by omega) (by omega) (by have h8 := hx1101; rwa [show σ1040 86 36 = σ1025 86 36 + 1 by omega] at h8) (by omega)) (by omega) (by omega) (fun hf => ⟨by unfold qtx_gi; split <;> omega, by unfold qtx_ge; repeat' split; all_goals omega⟩) (by omega)) (by have hw1 : σ1137 86 38 = (σ1107 86 38) := (hG1139.1 86 38 (by decide)).trans rfl; have hw2 : σ1137 86 39 = (σ1107 86 39) := (hG1139.1 86 39 (by decide)).trans rfl; omega)
          · skip
            refine qr_iconst 62 rfl rfl ?_
            refine qr_goto 66 rfl rfl ?_
            refine qr_istore _ 68 rfl (by decide) rfl rfl ?_
            refine qr_aload_n 69 rfl (qm_gk (qm_gk (qm_gk g975 (by decide) (Or.inl (by decide))) (by decide) (Or.inl (by decide))) (by decide) (Or.inl (by decide))) rfl ?_
            have hs1142 : 0 ≤ σ1040 86 36 ∧ σ1040 86 36 ≤ 120 := hI1041.1 86 36
            have hs1143 : 0 ≤ σ1040 86 37 ∧ σ1040 86 37 ≤ 120 := hI1041.1 86 37
            have hs1144 : σ1040 86 37 = x2 := (hG1042.1 86 37 (by decide)).trans ((hG1027.1 86 37 (by decide)).trans ((hk987).trans rfl))
            have hs1145 : (-1) ≤ σ1040 86 38 ∧ σ1040 86 38 ≤ 120 := hI1041.1 86 38
            have hs1146 : σ1040 86 38 = (σ1025 86 38) := (hG1042.1 86 38 (by decide)).trans rfl
            have hs1147 : 0 ≤ σ1040 86 39 ∧ σ1040 86 39 ≤ 6 := hI1041.1 86 39
            have hs1148 : σ1040 86 39 = (σ1025 86 39) := (hG1042.1 86 39 (by decide)).trans rfl
            refine qr_callN 72 rfl rfl rfl (sq_E6 (d := d + 0) hI1041 (by omega) (by omega) (by omega)) ?_
            have hs1152 : 0 ≤ σ1040 86 36 ∧ σ1040 86 36 ≤ 120 := hI1041.1 86 36
            have hs1153 : 0 ≤ σ1040 86 37 ∧ σ1040 86 37 ≤ 120 := hI1041.1 86 37
            have hs1154 : σ1040 86 37 = x2 := (hG1042.1 86 37 (by decide)).trans ((hG1027.1 86 37 (by decide)).trans ((hk987).trans rfl))
            have hs1155 : 0 ≤ σ1040 86 39 ∧ σ1040 86 39 ≤ 6 := hI1041.1 86 39
            have hs1156 : σ1040 86 39 = (σ1025 86 39) := (hG1042.1 86 39 (by decide)).trans rfl
            rintro _ _ ⟨σ1157, rfl, hI1158, hG1159, v1149, rfl, hv1149, hp1150, hx1151⟩
            have hF1160 : qFr [(86, 35), (86, 36), (86, 37), (86, 38), (86, 39)] [] σ α σ1157 α := qFr_t hF1043 hG1159 (by decide) (by decide)
            have hs1161 : 0 ≤ σ1157 86 36 ∧ σ1157 86 36 ≤ 120 := hI1158.1 86 36
            have hs1162 : (-1) ≤ σ1157 86 38 ∧ σ1157 86 38 ≤ 120 := hI1158.1 86 38
            have hs1163 : 0 ≤ σ1157 86 39 ∧ σ1157 86 39 ≤ 6 := hI1158.1 86 39
            rw [(show σ1040 86 37 = x2 from (hG1042.1 86 37 (by decide)).trans ((hG1027.1 86 37 (by decide)).trans ((hk987).trans rfl))), (show σ1040 86 39 = (σ1025 86 39) from (hG1042.1 86 39 (by decide)).trans rfl)] at hp1150
            rw [(show σ1040 86 35 = x1 from (hG1042.1 86 35 (by decide)).trans ((hG1027.1 86 35 (by decide)).trans ((hk986).trans rfl))), (show σ1040 86 37 = x2 from (hG1042.1 86 37 (by decide)).trans ((hG1027.1 86 37 (by decide)).trans ((hk987).trans rfl)))] at hx1151
            show qr_W (qe L xs vb) (d + 44) qx_e213 _ (72, _, [.int (qz v1149)], qw σ1157 α κ ρ, 0, 0)
            refine qr_istore _ 74 rfl (by decide) rfl rfl ?_
            refine qr_aload_n 75 rfl (qm_gk (qm_gk (qm_gk (qm_gk g975 (by decide) (Or.inl (by decide))) (by decide) (Or.inl (by decide))) (by decide) (Or.inl (by decide))) (by decide) (Or.inl (by decide))) rfl ?_
            refine qr_get 78 rfl rfl rfl (by decide) rfl ?_
            refine qr_if_ge 96 81 rfl rfl rfl (by omega) (fun h1164 => ?_) (fun h1164 => ?_)
            · skip
              refine qr_aload_n 97 rfl (qm_gk (qm_gk (qm_gk (qm_gk g975 (by decide) (Or.inl (by decide))) (by decide) (Or.inl (by decide))) (by decide) (Or.inl (by decide))) (by decide) (Or.inl (by decide))) rfl ?_
              refine qr_bipush 99 rfl (by decide) rfl ?_
              refine qr_callN 102 rfl rfl rfl (sf_222_86x (d := d + 42) hI1158 (by decide) (by omega)) ?_
              have hs1167 : (-1) ≤ σ1157 86 35 ∧ σ1157 86 35 ≤ 120 := hI1158.1 86 35
              have hs1168 : σ1157 86 35 = x1 := (hG1159.1 86 35 (by decide)).trans ((hG1042.1 86 35 (by decide)).trans ((hG1027.1 86 35 (by decide)).trans ((hk986).trans rfl)))
              have hs1169 : 0 ≤ σ1157 86 36 ∧ σ1157 86 36 ≤ 120 := hI1158.1 86 36
              have hs1170 : 0 ≤ σ1157 86 37 ∧ σ1157 86 37 ≤ 120 := hI1158.1 86 37
              have hs1171 : σ1157 86 37 = x2 := (hG1159.1 86 37 (by decide)).trans ((hG1042.1 86 37 (by decide)).trans ((hG1027.1 86 37 (by decide)).trans ((hk987).trans rfl)))
              have hs1172 : (-1) ≤ σ1157 86 38 ∧ σ1157 86 38 ≤ 120 := hI1158.1 86 38
              rintro _ _ ⟨σ1173, rfl, hI1174, hG1175, v1165, rfl, hv1165, hp1166⟩
              have hF1176 : qFr [(86, 35), (86, 36), (86, 37), (86, 38), (86, 39)] [] σ α σ1173 α := qFr_t hF1160 hG1175 (by decide) (by decide)
              have hs1177 : 0 ≤ σ1173 86 36 ∧ σ1173 86 36 ≤ 120 := hI1174.1 86 36
              rw [(show σ1157 86 35 = x1 from (hG1159.1 86 35 (by decide)).trans ((hG1042.1 86 35 (by decide)).trans ((hG1027.1 86 35 (by decide)).trans ((hk986).trans rfl)))), (show σ1157 86 37 = x2 from (hG1159.1 86 37 (by decide)).trans ((hG1042.1 86 37 (by decide)).trans ((hG1027.1 86 37 (by decide)).trans ((hk987).trans rfl))))] at hp1166
              show qr_W (qe L xs vb) (d + 44) qx_e213 _ (102, _, [.int (qz v1165)], qw σ1173 α κ ρ, 0, 0)
              refine qr_istore _ 104 rfl (by decide) rfl rfl ?_
              refine qr_goto 33 rfl rfl ?_
              exact ih994 _ u977 u979 v1165 σ1173 (by omega) (qm_gk (qm_gk (qm_gk (qm_gk (qm_gk g975 (by decide) (Or.inl (by decide))) (by decide) (Or.inl (by decide))) (by decide) (Or.inl (by decide))) (by decide) (Or.inl (by decide))) (by decide) (Or.inl (by decide))) (qm_gk (qm_gk (qm_gk (qm_gk (qm_gk g976 (by decide) (Or.inl (by decide))) (by decide) (Or.inl (by decide))) (by decide) (Or.inl (by decide))) (by decide) (Or.inl (by decide))) (by decide) (Or.inl (by decide))) (qm_gk (qm_gk (qm_gk (qm_gk (qm_gk g978 (by decide) (Or.inl (by decide))) (by decide) (Or.inl (by decide))) (by decide) (Or.inl (by decide))) (by decide) (Or.inl (by decide))) (by decide) (Or.inr rfl)) (qm_ge _ _ _) hf988 hf989 hv1165 hI1174 hF1176 ((hG1175.1 86 35 (by decide)).trans ((hG1159.1 86 35 (by decide)).trans ((hG1042.1 86 35 (by decide)).trans ((hG1027.1 86 35 (by decide)).trans ((hk986).trans rfl))))) ((hG1175.1 86 37 (by decide)).trans ((hG1159.1 86 37 (by decide)).trans ((hG1042.1 86 37 (by decide)).trans ((hG1027.1 86 37 (by decide)).trans ((hk987).trans rfl))))) (by rw [show σ1173 86 38 = (σ1157 86 38) from (hG1175.1 86 38 (by decide)).trans rfl]; exact qWI_s (h := 1) (v := v1149) (a := σ1157 86 36) (by have h9 := hx991; rw [show u981 = 1 by omega, show σ982 86 38 = -1 by omega] at h9; exact h9) (by omega) (qL_2 (by have h9 := hx1020; rw [show σ1025 86 38 = -1 by omega] at h9; exact h9) (by omega) (by omega) (by have h8 := hx1151; rwa [show σ1040 86 36 = σ1025 86 36 + 1 by omega] at h8) (by omega)) (by omega) (by omega) (fun hf => ⟨by unfold qtx_gi; split <;> omega, by unfold qtx_ge; repeat' split; all_goals omega⟩) (by omega)) (by have hw1 : σ1173 86 38 = (σ1157 86 38) := (hG1175.1 86 38 (by decide)).trans rfl; have hw2 : σ1173 86 39 = (σ1157 86 39) := (hG1175.1 86 39 (by decide)).trans rfl; omega)
            · skip
              refine qr_iload 83 rfl (qm_gk (qm_ge _ _ _) (by decide) (Or.inl (by decide))) rfl ?_
              refine qr_if_eq 96 86 rfl rfl rfl (by decide) (fun h => False.elim (by omega)) (fun h1178 => ?_)
              refine qr_iload_n 87 rfl (qm_gk (qm_gk (qm_gk (qm_gk g976 (by decide) (Or.inl (by decide))) (by decide) (Or.inl (by decide))) (by decide) (Or.inl (by decide))) (by decide) (Or.inl (by decide))) rfl ?_
              refine qr_if_ne 96 90 rfl rfl rfl (qrg hf988 (by decide) (by decide)) (fun h1179 => ?_) (fun h1179 => ?_)
              · skip
                refine qr_aload_n 97 rfl (qm_gk (qm_gk (qm_gk (qm_gk g975 (by decide) (Or.inl (by decide))) (by decide) (Or.inl (by decide))) (by decide) (Or.inl (by decide))) (by decide) (Or.inl (by decide))) rfl ?_
                refine qr_bipush 99 rfl (by decide) rfl ?_
                refine qr_callN 102 rfl rfl rfl (sf_222_86x (d := d + 42) hI1158 (by decide) (by omega)) ?_
                have hs1182 : (-1) ≤ σ1157 86 35 ∧ σ1157 86 35 ≤ 120 := hI1158.1 86 35
                have hs1183 : σ1157 86 35 = x1 := (hG1159.1 86 35 (by decide)).trans ((hG1042.1 86 35 (by decide)).trans ((hG1027.1 86 35 (by decide)).trans ((hk986).trans rfl)))
                have hs1184 : 0 ≤ σ1157 86 36 ∧ σ1157 86 36 ≤ 120 := hI1158.1 86 36
                have hs1185 : 0 ≤ σ1157 86 37 ∧ σ1157 86 37 ≤ 120 := hI1158.1 86 37
                have hs1186 : σ1157 86 37 = x2 := (hG1159.1 86 37 (by decide)).trans ((hG1042.1 86 37 (by decide)).trans ((hG1027.1 86 37 (by decide)).trans ((hk987).trans rfl)))
                have hs1187 : (-1) ≤ σ1157 86 38 ∧ σ1157 86 38 ≤ 120 := hI1158.1 86 38
                rintro _ _ ⟨σ1188, rfl, hI1189, hG1190, v1180, rfl, hv1180, hp1181⟩
                have hF1191 : qFr [(86, 35), (86, 36), (86, 37), (86, 38), (86, 39)] [] σ α σ1188 α := qFr_t hF1160 hG1190 (by decide) (by decide)
                have hs1192 : 0 ≤ σ1188 86 36 ∧ σ1188 86 36 ≤ 120 := hI1189.1 86 36
                rw [(show σ1157 86 35 = x1 from (hG1159.1 86 35 (by decide)).trans ((hG1042.1 86 35 (by decide)).trans ((hG1027.1 86 35 (by decide)).trans ((hk986).trans rfl)))), (show σ1157 86 37 = x2 from (hG1159.1 86 37 (by decide)).trans ((hG1042.1 86 37 (by decide)).trans ((hG1027.1 86 37 (by decide)).trans ((hk987).trans rfl))))] at hp1181
                show qr_W (qe L xs vb) (d + 44) qx_e213 _ (102, _, [.int (qz v1180)], qw σ1188 α κ ρ, 0, 0)
                refine qr_istore _ 104 rfl (by decide) rfl rfl ?_
                refine qr_goto 33 rfl rfl ?_
                exact ih994 _ u977 u979 v1180 σ1188 (by omega) (qm_gk (qm_gk (qm_gk (qm_gk (qm_gk g975 (by decide) (Or.inl (by decide))) (by decide) (Or.inl (by decide))) (by decide) (Or.inl (by decide))) (by decide) (Or.inl (by decide))) (by decide) (Or.inl (by decide))) (qm_gk (qm_gk (qm_gk (qm_gk (qm_gk g976 (by decide) (Or.inl (by decide))) (by decide) (Or.inl (by decide))) (by decide) (Or.inl (by decide))) (by decide) (Or.inl (by decide))) (by decide) (Or.inl (by decide))) (qm_gk (qm_gk (qm_gk (qm_gk (qm_gk g978 (by decide) (Or.inl (by decide))) (by decide) (Or.inl (by decide))) (by decide) (Or.inl (by decide))) (by decide) (Or.inl (by decide))) (by decide) (Or.inr rfl)) (qm_ge _ _ _) hf988 hf989 hv1180 hI1189 hF1191 ((hG1190.1 86 35 (by decide)).trans ((hG1159.1 86 35 (by decide)).trans ((hG1042.1 86 35 (by decide)).trans ((hG1027.1 86 35 (by decide)).trans ((hk986).trans rfl))))) ((hG1190.1 86 37 (by decide)).trans ((hG1159.1 86 37 (by decide)).trans ((hG1042.1 86 37 (by decide)).trans ((hG1027.1 86 37 (by decide)).trans ((hk987).trans rfl))))) (by rw [show σ1188 86 38 = (σ1157 86 38) from (hG1190.1 86 38 (by decide)).trans rfl]; exact qWI_s (h := 1) (v := v1149) (a := σ1157 86 36) (by have h9 := hx991; rw [show u981 = 1 by omega, show σ982 86 38 = -1 by omega] at h9; exact h9) (by omega) (qL_2 (by have h9 := hx1020; rw [show σ1025 86 38 = -1 by omega] at h9; exact h9) (by omega) (by omega) (by have h8 := hx1151; rwa [show σ1040 86 36 = σ1025 86 36 + 1 by omega] at h8) (by omega)) (by omega) (by omega) (fun hf => ⟨by unfold qtx_gi; split <;> omega, by unfold qtx_ge; repeat' split; all_goals omega⟩) (by omega)) (by have hw1 : σ1188 86 38 = (σ1157 86 38) := (hG1190.1 86 38 (by decide)).trans rfl; have hw2 : σ1188 86 39 = (σ1157 86 39) := (hG1190.1 86 39 (by decide)).trans rfl; omega)
              · skip
                refine qr_iconst 91 rfl rfl ?_
                refine qr_istore_n _ 92 rfl (by decide) rfl rfl ?_
                refine qr_iload 94 rfl (qm_gk (qm_ge _ _ _) (by decide) (Or.inl (by decide))) rfl ?_
                refine qr_istore _ 96 rfl (by decide) rfl rfl ?_
                refine qr_aload_n 97 rfl (qm_gk (qm_gk (qm_gk (qm_gk (qm_gk (qm_gk g975 (by decide) (Or.inl (by decide))) (by decide) (Or.inl (by decide))) (by decide) (Or.inl (by decide))) (by decide) (Or.inl (by decide))) (by decide) (Or.inl (by decide))) (by decide) (Or.inl (by decide))) rfl ?_
                refine qr_bipush 99 rfl (by decide) rfl ?_
                refine qr_callN 102 rfl rfl rfl (sf_222_86x (d := d + 42) hI1158 (by decide) (by omega)) ?_
                have hs1195 : (-1) ≤ σ1157 86 35 ∧ σ1157 86 35 ≤ 120 := hI1158.1 86 35
                have hs1196 : σ1157 86 35 = x1 := (hG1159.1 86 35 (by decide)).trans ((hG1042.1 86 35 (by decide)).trans ((hG1027.1 86 35 (by decide)).trans ((hk986).trans rfl)))
                have hs1197 : 0 ≤ σ1157 86 36 ∧ σ1157 86 36 ≤ 120 := hI1158.1 86 36
                have hs1198 : 0 ≤ σ1157 86 37 ∧ σ1157 86 37 ≤ 120 := hI1158.1 86 37
                have hs1199 : σ1157 86 37 = x2 := (hG1159.1 86 37 (by decide)).trans ((hG1042.1 86 37 (by decide)).trans ((hG1027.1 86 37 (by decide)).trans ((hk987).trans rfl)))
                have hs1200 : (-1) ≤ σ1157 86 38 ∧ σ1157 86 38 ≤ 120 := hI1158.1 86 38
                rintro _ _ ⟨σ1201, rfl, hI1202, hG1203, v1193, rfl, hv1193, hp1194⟩
                have hF1204 : qFr [(86, 35), (86, 36), (86, 37), (86, 38), (86, 39)] [] σ α σ1201 α := qFr_t hF1160 hG1203 (by decide) (by decide)
                have hs1205 : 0 ≤ σ1201 86 36 ∧ σ1201 86 36 ≤ 120 := hI1202.1 86 36
                rw [(show σ1157 86 35 = x1 from (hG1159.1 86 35 (by decide)).trans ((hG1042.1 86 35 (by decide)).trans ((hG1027.1 86 35 (by decide)).trans ((hk986).trans rfl)))), (show σ1157 86 37 = x2 from (hG1159.1 86 37 (by decide)).trans ((hG1042.1 86 37 (by decide)).trans ((hG1027.1 86 37 (by decide)).trans ((hk987).trans rfl))))] at hp1194
                show qr_W (qe L xs vb) (d + 44) qx_e213 _ (102, _, [.int (qz v1193)], qw σ1201 α κ ρ, 0, 0)
                refine qr_istore _ 104 rfl (by decide) rfl rfl ?_
                refine qr_goto 33 rfl rfl ?_
                exact ih994 _ 1 v1149 v1193 σ1201 (by omega) (qm_gk (qm_gk (qm_gk (qm_gk (qm_gk (qm_gk (qm_gk g975 (by decide) (Or.inl (by decide))) (by decide) (Or.inl (by decide))) (by decide) (Or.inl (by decide))) (by decide) (Or.inl (by decide))) (by decide) (Or.inl (by decide))) (by decide) (Or.inl (by decide))) (by decide) (Or.inl (by decide))) (qm_gk (qm_gk (qm_ge _ _ _) (by decide) (Or.inr rfl)) (by decide) (Or.inl (by decide))) (qm_gk (qm_ge _ _ _) (by decide) (Or.inr rfl)) (qm_ge _ _ _) (by decide) hv1149 hv1193 hI1202 hF1204 ((hG1203.1 86 35 (by decide)).trans ((hG1159.1 86 35 (by decide)).trans ((hG1042.1 86 35 (by decide)).trans ((hG1027.1 86 35 (by decide)).trans ((hk986).trans rfl))))) ((hG1203.1 86 37 (by decide)).trans ((hG1159.1 86 37 (by decide)).trans ((hG1042.1 86 37 (by decide)).trans ((hG1027.1 86 37 (by decide)).trans ((hk987).trans rfl))))) (by rw [show σ1201 86 38 = (σ1157 86 38) from (hG1203.1 86 38 (by decide)).trans rfl]; exact qWI_s (h := 1) (v := v1149) (a := σ1157 86 36) (by have h9 := hx991; rw [show u981 = 1 by omega, show σ982 86 38 = -1 by omega] at h9; exact h9) (by omega) (qL_2 (by have h9 := hx1020; rw [show σ1025 86 38 = -1 by omega] at h9; exact h9) (by omega) (by omega) (by have h8 := hx1151; rwa [show σ1040 86 36 = σ1025 86 36 + 1 by omega] at h8) (by omega)) (by omega) (by omega) (fun hf => ⟨by unfold qtx_gi; split <;> omega, by unfold qtx_ge; repeat' split; all_goals omega⟩) (by omega)) (by have hw1 : σ1201 86 38 = (σ1157 86 38) := (hG1203.1 86 38 (by decide)).trans rfl; have hw2 : σ1201 86 39 = (σ1157 86 39) := (hG1203.1 86 39 (by decide)).trans rfl; omega)
  exact hL993 ((2 * ((120 - σ17 86 36).toNat : Int) + 1 + 1 : Int)).toNat _ 0 0 1 σ17 (by omega) rfl rfl rfl rfl (by decide) (by decide) (by decide) hI19 hF20 ((congrFun (congrFun e18 86) 35).trans ((congrFun (congrFun e14 86) 35).trans ((congrFun (congrFun e10 86) 35).trans ((congrFun (congrFun e6 86) 35).trans ((congrFun (congrFun e2 86) 35).trans rfl))))) ((congrFun (congrFun e18 86) 37).trans ((congrFun (congrFun e14 86) 37).trans ((congrFun (congrFun e10 86) 37).trans rfl))) (by rw [show σ17 86 36 = 0 from (congrFun (congrFun e18 86) 36).trans ((congrFun (congrFun e14 86) 36).trans ((congrFun (congrFun e10 86) 36).trans ((congrFun (congrFun e6 86) 36).trans rfl))), show σ17 86 38 = (-1) from (congrFun (congrFun e18 86) 38).trans ((congrFun (congrFun e14 86) 38).trans rfl)]; exact Or.inl ⟨rfl, rfl, 121, rfl, by omega⟩) (by have hw0 : σ17 86 36 = 0 := (congrFun (congrFun e18 86) 36).trans ((congrFun (congrFun e14 86) 36).trans ((congrFun (congrFun e10 86) 36).trans ((congrFun (congrFun e6 86) 36).trans rfl))); have hw1 : σ17 86 38 = (-1) := (congrFun (congrFun e18 86) 38).trans ((congrFun (congrFun e14 86) 38).trans rfl); have hw2 : σ17 86 39 = 0 := (congrFun (congrFun e18 86) 39).trans rfl; omega)
end
section
/-! the reference's customs, safe: out of the exact contract -/
theorem sf_213_86 {L : Nat} {xs : Nat → Int} {vb : Bool} {d : Nat} {σ α : Nat → Nat → Int} {κ : Nat → Option Nat} {ρ : Nat} {x1 : Int} {x2 : Int} (hI : qI σ α κ ρ) (r1 : (-1) ≤ x1 ∧ x1 ≤ 120) (r2 : 0 ≤ x2 ∧ x2 ≤ 120) : qm_T (qe L xs vb) (d + 45) 213 [.ref 86, .int (qz x1), .int (qz x2)] (qw σ α κ ρ) (fun r w' => ∃ σ', w' = qw σ' α κ ρ ∧ qI σ' α κ ρ ∧ qFr [(86, 35), (86, 36), (86, 37), (86, 38), (86, 39)] [] σ α σ' α ∧ ∃ v : Int, r = some (.int (qz v)) ∧ ((-2147483648) ≤ v ∧ v ≤ 2147483647)) := by
  refine qr_mono (sf_213_86x (d := d) hI r1 r2) ?_
  rintro r w' ⟨σ', h1, h2, h3, v, h4, h5, h6, h7⟩
  exact ⟨σ', h1, h2, h3, v, h4, h5⟩

set_option maxHeartbeats 4000000 in
set_option maxRecDepth 20000 in
/-- OneRoofModel.gives -/
theorem sf_228_86 {L : Nat} {xs : Nat → Int} {vb : Bool} {d : Nat} {σ α : Nat → Nat → Int} {κ : Nat → Option Nat} {ρ : Nat} {x1 : Int} {x2 : Int} {x3 : Int} {x4 : Int} {x5 : Int} {x6 : Int} (hI : qI σ α κ ρ) (r1 : 0 ≤ x1 ∧ x1 ≤ 1) (r2 : 0 ≤ x2 ∧ x2 ≤ 31) (r3 : 0 ≤ x3 ∧ x3 ≤ 31) (r4 : (-1) ≤ x4 ∧ x4 ≤ 31) (r5 : (-9223372036854775808) ≤ x5 ∧ x5 ≤ 9223372036854775807) (r6 : (-2147483648) ≤ x6 ∧ x6 ≤ 2147483647) (p0 : 1 ≤ σ 86 6) : qm_T (qe L xs vb) (d + 46) 228 [.ref 86, .int (qz x1), .int (qz x2), .int (qz x3), .int (qz x4), .long (ql x5), .int (qz x6)] (qw σ α κ ρ) (fun r w' => ∃ σ' α', w' = qw σ' α' κ ρ ∧ qI σ' α' κ ρ ∧ qFr [(86, 15), (86, 23), (86, 30), (86, 35), (86, 36), (86, 37), (86, 38), (86, 39)] [96, 109] σ α σ' α' ∧ ∃ v : Int, r = some (.int (qz v)) ∧ ((-2147483648) ≤ v ∧ v ≤ 2147483647)) := by
  refine qr_start (d := d + 45) qv_e228 (Nat.le_of_ble_eq_true rfl) ?_
  show qr_W (qe L xs vb) (d + 45) qx_e228 _ (0, [(0, .ref 86), (1, .int (qz x1)), (2, .int (qz x2)), (3, .int (qz x3)), (4, .int (qz x4)), (5, .long (ql x5)), (7, .int (qz x6))], [], _, 0, 0)
  have hF0 := qFr_rf [(86, 15), (86, 23), (86, 30), (86, 35), (86, 36), (86, 37), (86, 38), (86, 39)] [96, 109] σ α
  have hz86_6 : 0 ≤ σ 86 6 ∧ σ 86 6 ≤ 32 := hI.1 86 6
  refine qr_aload_n 1 rfl rfl rfl ?_
  refine qr_iload_n 2 rfl rfl rfl ?_
  refine qr_iload_n 3 rfl rfl rfl ?_
  refine qr_iload 5 rfl rfl rfl ?_
  refine qr_callN 8 rfl rfl rfl (sf_195_86 (d := d + 40) hI r2 r3 r6) ?_
  rintro _ _ ⟨σ2, α3, rfl, hI4, hG5, v1, rfl, hv1⟩
  have hF6 : qFr [(86, 15), (86, 23), (86, 30), (86, 35), (86, 36), (86, 37), (86, 38), (86, 39)] [96, 109] σ α σ2 α3 := qFr_t hF0 hG5 (by decide) (by decide)
  show qr_W (qe L xs vb) (d + 45) qx_e228 _ (8, _, [.int (qz v1)], qw σ2 α3 κ ρ, 0, 0)
  refine qr_istore _ 10 rfl (by decide) rfl rfl ?_
  refine qr_aload_n 11 rfl rfl rfl ?_
  refine qr_get 14 rfl rfl rfl (by decide) rfl ?_
  refine qr_iconst 15 rfl rfl ?_
  refine qr_iload 17 rfl rfl rfl ?_
  refine qr_bipush 19 rfl (by decide) rfl ?_
  have hJ17 : ∀ (ls : qm_L) (u15 : Int), qm_get ls 0 = some (.ref 86) → qm_get ls 1 = some (.int (qz x1)) → qm_get ls 2 = some (.int (qz x2)) → qm_get ls 3 = some (.int (qz x3)) → qm_get ls 4 = some (.int (qz x4)) → qm_get ls 5 = some (.long (ql x5)) → qm_get ls 7 = some (.int (qz x6)) → qm_get ls 8 = some (.int (qz v1)) → (0 ≤ u15 ∧ u15 ≤ 1) → qr_W (qe L xs vb) (d + 45) qx_e228 (fun r w' => ∃ σ' α', w' = qw σ' α' κ ρ ∧ qI σ' α' κ ρ ∧ qFr [(86, 15), (86, 23), (86, 30), (86, 35), (86, 36), (86, 37), (86, 38), (86, 39)] [96, 109] σ α σ' α' ∧ ∃ v : Int, r = some (.int (qz v)) ∧ ((-2147483648) ≤ v ∧ v ≤ 2147483647)) (27, ls, [.int (qz u15), .int (qz 0), .ref 109], qw σ2 α3 κ ρ, 0, 0) := by
    intro ls u15 g7 g8 g9 g10 g11 g12 g13 g14 hf16
    refine qr_iastore 28 rfl (by decide) rfl (by decide) (by decide) rfl ?_
    refine qy_wA (qw_r α3 109 (qzu (α3 109) (0 : Int).toNat u15)) rfl (fun α18 e19 => ?_)
    have hI20 : qI σ2 α18 κ ρ := by rw [e19]; exact qI_r hI4 109 _ rfl (show (-2147483648) ≤ u15 ∧ u15 ≤ 2147483647 by omega)
    have hF21 : qFr [(86, 15), (86, 23), (86, 30), (86, 35), (86, 36), (86, 37), (86, 38), (86, 39)] [96, 109] σ α σ2 α18 := by rw [e19]; exact qFr_r hF6 109 _ (by decide)
    refine qr_aload_n 29 rfl g7 rfl ?_
    refine qr_get 32 rfl rfl rfl (by decide) rfl ?_
    refine qr_iconst 33 rfl rfl ?_
    refine qr_iload 35 rfl g14 rfl ?_
    refine qr_bipush 37 rfl (by decide) rfl ?_
    have hJ31 : ∀ (ls : qm_L) (u29 : Int), qm_get ls 0 = some (.ref 86) → qm_get ls 1 = some (.int (qz x1)) → qm_get ls 2 = some (.int (qz x2)) → qm_get ls 3 = some (.int (qz x3)) → qm_get ls 4 = some (.int (qz x4)) → qm_get ls 5 = some (.long (ql x5)) → qm_get ls 7 = some (.int (qz x6)) → ((-2147483648) ≤ u29 ∧ u29 ≤ 2147483647) → qr_W (qe L xs vb) (d + 45) qx_e228 (fun r w' => ∃ σ' α', w' = qw σ' α' κ ρ ∧ qI σ' α' κ ρ ∧ qFr [(86, 15), (86, 23), (86, 30), (86, 35), (86, 36), (86, 37), (86, 38), (86, 39)] [96, 109] σ α σ' α' ∧ ∃ v : Int, r = some (.int (qz v)) ∧ ((-2147483648) ≤ v ∧ v ≤ 2147483647)) (47, ls, [.int (qz u29), .int (qz 1), .ref 109], qw σ2 α18 κ ρ, 0, 0) := by
      intro ls u29 g22 g23 g24 g25 g26 g27 g28 hf30
      refine qr_iastore 48 rfl (by decide) rfl (by decide) (by decide) rfl ?_
      refine qy_wA (qw_r α18 109 (qzu (α18 109) (1 : Int).toNat u29)) rfl (fun α32 e33 => ?_)
      have hI34 : qI σ2 α32 κ ρ := by rw [e33]; exact qI_r hI20 109 _ rfl (show (-2147483648) ≤ u29 ∧ u29 ≤ 2147483647 by omega)
      have hF35 : qFr [(86, 15), (86, 23), (86, 30), (86, 35), (86, 36), (86, 37), (86, 38), (86, 39)] [96, 109] σ α σ2 α32 := by rw [e33]; exact qFr_r hF21 109 _ (by decide)
      refine qr_aload_n 49 rfl g22 rfl ?_
      refine qr_get 52 rfl rfl rfl (by decide) rfl ?_
      refine qr_iconst 53 rfl rfl ?_
      refine qr_aload_n 54 rfl g22 rfl ?_
      refine qr_iload_n 55 rfl g24 rfl ?_
      refine qr_iload_n 56 rfl g25 rfl ?_
      refine qr_iload 58 rfl g28 rfl ?_
      have hs36 : 0 ≤ σ2 86 6 ∧ σ2 86 6 ≤ 32 := hI34.1 86 6
      have hs37 : σ2 86 6 = (σ 86 6) := (hG5.1 86 6 (by decide)).trans rfl
      refine qr_callN 61 rfl rfl rfl (sf_209_86 (d := d + 41) hI34 r2 r3 r6 (by omega)) ?_
      rintro _ _ ⟨σ39, rfl, hI40, hG41, v38, rfl, hv38⟩
      have hF42 : qFr [(86, 15), (86, 23), (86, 30), (86, 35), (86, 36), (86, 37), (86, 38), (86, 39)] [96, 109] σ α σ39 α32 := qFr_t hF35 hG41 (by decide) (by decide)
      show qr_W (qe L xs vb) (d + 45) qx_e228 _ (61, _, [.int (qz v38), .int (qz 2), .ref 109], qw σ39 α32 κ ρ, 0, 0)
      refine qr_iastore 62 rfl (by decide) rfl (by decide) (by decide) rfl ?_
      refine qy_wA (qw_r α32 109 (qzu (α32 109) (2 : Int).toNat v38)) rfl (fun α43 e44 => ?_)
      have hI45 : qI σ39 α43 κ ρ := by rw [e44]; exact qI_r hI40 109 _ rfl (show (-2147483648) ≤ v38 ∧ v38 ≤ 2147483647 by omega)
      have hF46 : qFr [(86, 15), (86, 23), (86, 30), (86, 35), (86, 36), (86, 37), (86, 38), (86, 39)] [96, 109] σ α σ39 α43 := by rw [e44]; exact qFr_r hF42 109 _ (by decide)
      refine qr_aload_n 63 rfl g22 rfl ?_
      refine qr_get 66 rfl rfl rfl (by decide) rfl ?_
      refine qr_iconst 67 rfl rfl ?_
      refine qr_aload_n 68 rfl g22 rfl ?_
      refine qr_get 71 rfl rfl rfl (by decide) rfl ?_
      refine qr_iconst 72 rfl rfl ?_
      refine qr_iload_n 73 rfl g24 rfl ?_
      refine qr_iadd 74 rfl rfl ?_
      refine qr_iaload 75 rfl rfl (by omega) (by decide) rfl ?_
      refine qr_topI (fun v47 hv47 => ?_)
      have hs48 : (-2147483648) ≤ v47 ∧ v47 ≤ 2147483647 := by rw [hv47]; exact hI45.2.1 87 _ (show _ < 252 by omega)
      refine qr_iastore 76 rfl (by decide) rfl (by decide) (by decide) rfl ?_
      refine qy_wA (qw_r α43 109 (qzu (α43 109) (3 : Int).toNat v47)) rfl (fun α49 e50 => ?_)
      have hI51 : qI σ39 α49 κ ρ := by rw [e50]; exact qI_r hI45 109 _ rfl (show (-2147483648) ≤ v47 ∧ v47 ≤ 2147483647 by omega)
      have hF52 : qFr [(86, 15), (86, 23), (86, 30), (86, 35), (86, 36), (86, 37), (86, 38), (86, 39)] [96, 109] σ α σ39 α49 := by rw [e50]; exact qFr_r hF46 109 _ (by decide)
      refine qr_aload_n 77 rfl g22 rfl ?_
      refine qr_get 80 rfl rfl rfl (by decide) rfl ?_
      refine qr_iconst 81 rfl rfl ?_
      refine qr_aload_n 82 rfl g22 rfl ?_
      refine qr_get 85 rfl rfl rfl (by decide) rfl ?_
      refine qr_iconst 86 rfl rfl ?_
      refine qr_iload_n 87 rfl g25 rfl ?_
      refine qr_iadd 88 rfl rfl ?_
      refine qr_iaload 89 rfl rfl (by omega) (by decide) rfl ?_
      refine qr_topI (fun v53 hv53 => ?_)
      have hs54 : (-2147483648) ≤ v53 ∧ v53 ≤ 2147483647 := by rw [hv53]; exact hI51.2.1 87 _ (show _ < 252 by omega)
      refine qr_iastore 90 rfl (by decide) rfl (by decide) (by decide) rfl ?_
      refine qy_wA (qw_r α49 109 (qzu (α49 109) (4 : Int).toNat v53)) rfl (fun α55 e56 => ?_)
      have hI57 : qI σ39 α55 κ ρ := by rw [e56]; exact qI_r hI51 109 _ rfl (show (-2147483648) ≤ v53 ∧ v53 ≤ 2147483647 by omega)
      have hF58 : qFr [(86, 15), (86, 23), (86, 30), (86, 35), (86, 36), (86, 37), (86, 38), (86, 39)] [96, 109] σ α σ39 α55 := by rw [e56]; exact qFr_r hF52 109 _ (by decide)
      refine qr_aload_n 91 rfl g22 rfl ?_
      refine qr_get 94 rfl rfl rfl (by decide) rfl ?_
      refine qr_iconst 95 rfl rfl ?_
      refine qr_aload_n 96 rfl g22 rfl ?_
      refine qr_iload_n 97 rfl g25 rfl ?_
      refine qr_iload_n 98 rfl g24 rfl ?_
      have hs59 : 0 ≤ σ39 86 6 ∧ σ39 86 6 ≤ 32 := hI57.1 86 6
      have hs60 : σ39 86 6 = (σ 86 6) := (hG41.1 86 6 (by decide)).trans ((hG5.1 86 6 (by decide)).trans rfl)
      refine qr_callN 101 rfl rfl rfl (sf_207_86 (d := d + 44) hI57 (qrg r3 (by decide) (by decide)) r2 (by omega)) ?_
      rintro _ _ ⟨rfl, v61, rfl, hv61⟩
      show qr_W (qe L xs vb) (d + 45) qx_e228 _ (101, _, [.int (qz v61), .int (qz 5), .ref 109], qw σ39 α55 κ ρ, 0, 0)
      have hJ70 : ∀ (ls : qm_L) (u68 : Int), qm_get ls 0 = some (.ref 86) → qm_get ls 1 = some (.int (qz x1)) → qm_get ls 2 = some (.int (qz x2)) → qm_get ls 3 = some (.int (qz x3)) → qm_get ls 4 = some (.int (qz x4)) → qm_get ls 5 = some (.long (ql x5)) → (0 ≤ u68 ∧ u68 ≤ 1) → qr_W (qe L xs vb) (d + 45) qx_e228 (fun r w' => ∃ σ' α', w' = qw σ' α' κ ρ ∧ qI σ' α' κ ρ ∧ qFr [(86, 15), (86, 23), (86, 30), (86, 35), (86, 36), (86, 37), (86, 38), (86, 39)] [96, 109] σ α σ' α' ∧ ∃ v : Int, r = some (.int (qz v)) ∧ ((-2147483648) ≤ v ∧ v ≤ 2147483647)) (109, ls, [.int (qz u68), .int (qz 5), .ref 109], qw σ39 α55 κ ρ, 0, 0) := by
        intro ls u68 g62 g63 g64 g65 g66 g67 hf69
        refine qr_iastore 110 rfl (by decide) rfl (by decide) (by decide) rfl ?_
        refine qy_wA (qw_r α55 109 (qzu (α55 109) (5 : Int).toNat u68)) rfl (fun α71 e72 => ?_)
        have hI73 : qI σ39 α71 κ ρ := by rw [e72]; exact qI_r hI57 109 _ rfl (show (-2147483648) ≤ u68 ∧ u68 ≤ 2147483647 by omega)
        have hF74 : qFr [(86, 15), (86, 23), (86, 30), (86, 35), (86, 36), (86, 37), (86, 38), (86, 39)] [96, 109] σ α σ39 α71 := by rw [e72]; exact qFr_r hF58 109 _ (by decide)
        refine qr_aload_n 111 rfl g62 rfl ?_
        refine qr_get 114 rfl rfl rfl (by decide) rfl ?_
        refine qr_bipush 116 rfl (by decide) rfl ?_
        refine qr_aload_n 117 rfl g62 rfl ?_
        refine qr_iload_n 118 rfl g64 rfl ?_
        refine qr_iload_n 119 rfl g65 rfl ?_
        refine qr_callN 122 rfl rfl rfl (sf_187_86 (d := d + 42) hI73 r2 r3) ?_
        rintro _ _ ⟨σ78, α79, rfl, hI80, hG81, hw77, v75, rfl, hv75, hp76⟩
        have hF82 : qFr [(86, 15), (86, 23), (86, 30), (86, 35), (86, 36), (86, 37), (86, 38), (86, 39)] [96, 109] σ α σ78 α79 := qFr_t hF74 hG81 (by decide) (by decide)
        have hs83 : 0 ≤ σ78 86 15 ∧ σ78 86 15 ≤ 1 := hI80.1 86 15
        show qr_W (qe L xs vb) (d + 45) qx_e228 _ (122, _, [.int (qz v75), .int (qz 6), .ref 109], qw σ78 α79 κ ρ, 0, 0)
        refine qr_bipush 124 rfl (by decide) rfl ?_
        have hJ105 : ∀ (ls : qm_L) (u98 : Int) (σ99 α100 : Nat → Nat → Int), qm_get ls 0 = some (.ref 86) → qm_get ls 1 = some (.int (qz x1)) → qm_get ls 2 = some (.int (qz x2)) → qm_get ls 4 = some (.int (qz x4)) → qm_get ls 5 = some (.long (ql x5)) → (0 ≤ u98 ∧ u98 ≤ 99) → qI σ99 α100 κ ρ → qFr [(86, 15), (86, 23), (86, 30), (86, 35), (86, 36), (86, 37), (86, 38), (86, 39)] [96, 109] σ α σ99 α100 → σ99 86 6 = (σ 86 6) → qr_W (qe L xs vb) (d + 45) qx_e228 (fun r w' => ∃ σ' α', w' = qw σ' α' κ ρ ∧ qI σ' α' κ ρ ∧ qFr [(86, 15), (86, 23), (86, 30), (86, 35), (86, 36), (86, 37), (86, 38), (86, 39)] [96, 109] σ α σ' α' ∧ ∃ v : Int, r = some (.int (qz v)) ∧ ((-2147483648) ≤ v ∧ v ≤ 2147483647)) (138, ls, [.int (qz u98), .int (qz 6), .ref 109], qw σ99 α100 κ ρ, 0, 0) := by
          intro ls u98 σ99 α100 g93 g94 g95 g96 g97 hf104 hI101 hF102 hk103
          refine qr_iastore 139 rfl (by decide) rfl (by decide) (by decide) rfl ?_
          refine qy_wA (qw_r α100 109 (qzu (α100 109) (6 : Int).toNat u98)) rfl (fun α106 e107 => ?_)
          have hI108 : qI σ99 α106 κ ρ := by rw [e107]; exact qI_r hI101 109 _ rfl (show (-2147483648) ≤ u98 ∧ u98 ≤ 2147483647 by omega)
          have hF109 : qFr [(86, 15), (86, 23), (86, 30), (86, 35), (86, 36), (86, 37), (86, 38), (86, 39)] [96, 109] σ α σ99 α106 := by rw [e107]; exact qFr_r hF102 109 _ (by decide)
          refine qr_aload_n 140 rfl g93 rfl ?_
          refine qr_get 143 rfl rfl rfl (by decide) rfl ?_
          refine qr_bipush 145 rfl (by decide) rfl ?_
          refine qr_iconst 146 rfl rfl ?_
          refine qr_iastore 147 rfl (by decide) rfl (by decide) (by decide) rfl ?_
          refine qy_wA (qw_r α106 109 (qzu (α106 109) (7 : Int).toNat 0)) rfl (fun α110 e111 => ?_)
          have hI112 : qI σ99 α110 κ ρ := by rw [e111]; exact qI_r hI108 109 _ rfl (show (-2147483648) ≤ 0 ∧ 0 ≤ 2147483647 by omega)
          have hF113 : qFr [(86, 15), (86, 23), (86, 30), (86, 35), (86, 36), (86, 37), (86, 38), (86, 39)] [96, 109] σ α σ99 α110 := by rw [e111]; exact qFr_r hF109 109 _ (by decide)
          refine qr_iconst 148 rfl rfl ?_
          refine qr_istore _ 150 rfl (by decide) rfl rfl ?_
          have hL3049 : ∀ (n : Nat) (ls : qm_L) (u3043 : Int) (α3045 : Nat → Nat → Int), 32 - u3043 < (n : Int) → qm_get ls 0 = some (.ref 86) → qm_get ls 1 = some (.int (qz x1)) → qm_get ls 2 = some (.int (qz x2)) → qm_get ls 4 = some (.int (qz x4)) → qm_get ls 5 = some (.long (ql x5)) → qm_get ls 9 = some (.int (qz u3043)) → (0 ≤ u3043 ∧ u3043 ≤ 32) → qI σ99 α3045 κ ρ → qFr [(86, 15), (86, 23), (86, 30), (86, 35), (86, 36), (86, 37), (86, 38), (86, 39)] [96, 109] σ α σ99 α3045 → qr_W (qe L xs vb) (d + 45) qx_e228 (fun r w' => ∃ σ' α', w' = qw σ' α' κ ρ ∧ qI σ' α' κ ρ ∧ qFr [(86, 15), (86, 23), (86, 30), (86, 35), (86, 36), (86, 37), (86, 38), (86, 39)] [96, 109] σ α σ' α' ∧ ∃ v : Int, r = some (.int (qz v)) ∧ ((-2147483648) ≤ v ∧ v ≤ 2147483647)) (150, ls, [], qw σ99 α3045 κ ρ, 0, 0) := by
            intro n
            induction n with
            | zero => intro ls u3043 α3045 hm g3037 g3038 g3039 g3040 g3041 g3042 hf3048 hI3046 hF3047; exact False.elim (by omega)
            | succ n ih3050 =>
              intro ls u3043 α3045 hm g3037 g3038 g3039 g3040 g3041 g3042 hf3048 hI3046 hF3047
              refine qr_iload 152 rfl g3042 rfl ?_
              refine qr_aload_n 153 rfl g3037 rfl ?_
              refine qr_get 156 rfl rfl rfl (by decide) rfl ?_
              refine qy_v (σ 86 6) ((hk103).trans rfl) ?_
              refine qr_icmp_ge 251 159 rfl rfl rfl (qrg hf3048 (by decide) (by decide)) (qrg hz86_6 (by decide) (by decide)) (fun h3114 => ?_) (fun h3114 => ?_)
              · skip
                refine qr_aload_n 252 rfl g3037 rfl ?_
                refine qr_get 255 rfl rfl rfl (by decide) rfl ?_
                refine qr_bipush 257 rfl (by decide) rfl ?_
                refine qr_iload 259 rfl g3040 rfl ?_
                have hJ3142 : ∀ (ls : qm_L) (u3135 : Int) (σ3136 α3137 : Nat → Nat → Int), qm_get ls 0 = some (.ref 86) → qm_get ls 1 = some (.int (qz x1)) → (0 ≤ u3135 ∧ u3135 ≤ 99) → qI σ3136 α3137 κ ρ → qFr [(86, 15), (86, 23), (86, 30), (86, 35), (86, 36), (86, 37), (86, 38), (86, 39)] [96, 109] σ α σ3136 α3137 → σ3136 86 6 = (σ 86 6) → qr_W (qe L xs vb) (d + 45) qx_e228 (fun r w' => ∃ σ' α', w' = qw σ' α' κ ρ ∧ qI σ' α' κ ρ ∧ qFr [(86, 15), (86, 23), (86, 30), (86, 35), (86, 36), (86, 37), (86, 38), (86, 39)] [96, 109] σ α σ' α' ∧ ∃ v : Int, r = some (.int (qz v)) ∧ ((-2147483648) ≤ v ∧ v ≤ 2147483647)) (290, ls, [.int (qz u3135), .int (qz 8), .ref 109], qw σ3136 α3137 κ ρ, 0, 0) := by
                  intro ls u3135 σ3136 α3137 g3133 g3134 hf3141 hI3138 hF3139 hk3140
                  refine qr_iastore 291 rfl (by decide) rfl (by decide) (by decide) rfl ?_
                  refine qy_wA (qw_r α3137 109 (qzu (α3137 109) (8 : Int).toNat u3135)) rfl (fun α3143 e3144 => ?_)
                  have hI3145 : qI σ3136 α3143 κ ρ := by rw [e3144]; exact qI_r hI3138 109 _ rfl (show (-2147483648) ≤ u3135 ∧ u3135 ≤ 2147483647 by omega)
                  have hF3146 : qFr [(86, 15), (86, 23), (86, 30), (86, 35), (86, 36), (86, 37), (86, 38), (86, 39)] [96, 109] σ α σ3136 α3143 := by rw [e3144]; exact qFr_r hF3139 109 _ (by decide)
                  refine qr_aload_n 292 rfl g3133 rfl ?_
                  refine qr_get 295 rfl rfl rfl (by decide) rfl ?_
                  refine qr_iload_n 296 rfl g3134 rfl ?_
                  refine qr_iaload 297 rfl rfl (qrgi r1 (by decide) (by decide)) (by decide) rfl ?_
                  refine qr_topI (fun v3147 hv3147 => ?_)
                  have hs3148 : (-1) ≤ v3147 ∧ v3147 ≤ 120 := by rw [hv3147]; exact hI3145.2.1 108 _ (show _ < 2 from qrgt r1 (by decide) (by decide))
                  refine qr_if_lt 315 300 rfl rfl rfl (qrg hs3148 (by decide) (by decide)) (fun h3149 => ?_) (fun h3149 => ?_)
                  · skip
                    refine qr_iload_n 316 rfl g3134 rfl ?_
                    have hJ3160 : ∀ (ls : qm_L) (u3158 : Int), (0 ≤ u3158 ∧ u3158 ≤ 1) → qr_W (qe L xs vb) (d + 45) qx_e228 (fun r w' => ∃ σ' α', w' = qw σ' α' κ ρ ∧ qI σ' α' κ ρ ∧ qFr [(86, 15), (86, 23), (86, 30), (86, 35), (86, 36), (86, 37), (86, 38), (86, 39)] [96, 109] σ α σ' α' ∧ ∃ v : Int, r = some (.int (qz v)) ∧ ((-2147483648) ≤ v ∧ v ≤ 2147483647)) (372, ls, [.int (qz u3158)], qw σ3136 α3143 κ ρ, 0, 0) := by
                      intro ls u3158 hf3159
                      refine qr_istore _ 374 rfl (by decide) rfl rfl ?_
                      refine qr_iload 376 rfl (qm_ge _ _ _) rfl ?_
                      refine qr_if_eq 383 379 rfl rfl rfl (qrg hf3159 (by decide) (by decide)) (fun h3161 => ?_) (fun h3161 => ?_)
                      · skip
                        refine qr_iconst 384 rfl rfl ?_
                        refine qr_retI rfl rfl (by decide) (by decide) ?_
                        exact ⟨_, _, rfl, hI3145, hF3146, 0, rfl, (by decide)⟩
                      · skip
                        refine qr_iconst 380 rfl rfl ?_
                        refine qr_goto 384 rfl rfl ?_
                        refine qr_retI rfl rfl (by decide) (by decide) ?_
                        exact ⟨_, _, rfl, hI3145, hF3146, 1, rfl, (by decide)⟩
                    refine qr_if_ne 346 319 rfl rfl rfl (qrg r1 (by decide) (by decide)) (fun h3162 => ?_) (fun h3162 => ?_)
                    · skip
                      refine qr_aload_n 347 rfl g3133 rfl ?_
                      refine qr_get 350 rfl rfl rfl (by decide) rfl ?_
                      refine qr_bipush 352 rfl (by decide) rfl ?_
                      refine qr_iaload 353 rfl rfl (by decide) (by decide) rfl ?_
                      refine qr_topI (fun v3163 hv3163 => ?_)
                      have hs3164 : (-2147483648) ≤ v3163 ∧ v3163 ≤ 2147483647 := by rw [hv3163]; exact hI3145.2.1 109 _ (show _ < 9 by decide)
                      refine qr_iconst 354 rfl rfl ?_
                      refine qr_icmp_ge 371 357 rfl rfl rfl hs3164 (by decide) (fun h3165 => ?_) (fun h3165 => ?_)
                      · skip
                        refine qr_iconst 372 rfl rfl ?_
                        exact hJ3160 _ 0 (by decide)
                      · skip
                        refine qr_aload_n 358 rfl g3133 rfl ?_
                        refine qr_get 361 rfl rfl rfl (by decide) rfl ?_
                        refine qr_iconst 362 rfl rfl ?_
                        refine qr_iaload 363 rfl rfl (by decide) (by decide) rfl ?_
                        refine qr_topI (fun v3166 hv3166 => ?_)
                        have hs3167 : (-2147483648) ≤ v3166 ∧ v3166 ≤ 2147483647 := by rw [hv3166]; exact hI3145.2.1 109 _ (show _ < 9 by decide)
                        refine qr_iconst 364 rfl rfl ?_
                        refine qr_icmp_ne 371 367 rfl rfl rfl hs3167 (by decide) (fun h3168 => ?_) (fun h3168 => ?_)
                        · skip
                          refine qr_iconst 372 rfl rfl ?_
                          exact hJ3160 _ 0 (by decide)
                        · skip
                          refine qr_iconst 368 rfl rfl ?_
                          refine qr_goto 372 rfl rfl ?_
                          exact hJ3160 _ 1 (by decide)
                    · skip
                      refine qr_aload_n 320 rfl g3133 rfl ?_
                      refine qr_get 323 rfl rfl rfl (by decide) rfl ?_
                      refine qr_iconst 324 rfl rfl ?_
                      refine qr_iaload 325 rfl rfl (by decide) (by decide) rfl ?_
                      refine qr_topI (fun v3169 hv3169 => ?_)
                      have hs3170 : (-2147483648) ≤ v3169 ∧ v3169 ≤ 2147483647 := by rw [hv3169]; exact hI3145.2.1 109 _ (show _ < 9 by decide)
                      refine qr_iconst 326 rfl rfl ?_
                      refine qr_icmp_ne 342 329 rfl rfl rfl hs3170 (by decide) (fun h3171 => ?_) (fun h3171 => ?_)
                      · skip
                        refine qr_iconst 343 rfl rfl ?_
                        refine qr_goto 372 rfl rfl ?_
                        exact hJ3160 _ 0 (by decide)
                      · skip
                        refine qr_aload_n 330 rfl g3133 rfl ?_
                        refine qr_get 333 rfl rfl rfl (by decide) rfl ?_
                        refine qr_iconst 334 rfl rfl ?_
                        refine qr_iaload 335 rfl rfl (by decide) (by decide) rfl ?_
                        refine qr_topI (fun v3172 hv3172 => ?_)
                        have hs3173 : (-2147483648) ≤ v3172 ∧ v3172 ≤ 2147483647 := by rw [hv3172]; exact hI3145.2.1 109 _ (show _ < 9 by decide)
                        refine qr_if_ne 342 338 rfl rfl rfl hs3173 (fun h3174 => ?_) (fun h3174 => ?_)
                        · skip
                          refine qr_iconst 343 rfl rfl ?_
                          refine qr_goto 372 rfl rfl ?_
                          exact hJ3160 _ 0 (by decide)
                        · skip
                          refine qr_iconst 339 rfl rfl ?_
                          refine qr_goto 372 rfl rfl ?_
                          exact hJ3160 _ 1 (by decide)
                  · skip
                    refine qr_aload_n 301 rfl g3133 rfl ?_
                    refine qr_bipush 303 rfl (by decide) rfl ?_
                    refine qr_iload_n 304 rfl g3134 rfl ?_
                    refine qr_imul 305 rfl rfl ?_
                    refine qr_aload_n 306 rfl g3133 rfl ?_
                    refine qr_get 309 rfl rfl rfl (by decide) rfl ?_
                    refine qr_iload_n 310 rfl g3134 rfl ?_
                    refine qr_iaload 311 rfl rfl (qrgi r1 (by decide) (by decide)) (by decide) rfl ?_
                    refine qr_topI (fun v3175 hv3175 => ?_)
                    have hs3176 : (-1) ≤ v3175 ∧ v3175 ≤ 120 := by rw [hv3175]; exact hI3145.2.1 108 _ (show _ < 2 from qrgt r1 (by decide) (by decide))
                    refine qr_callN 314 rfl rfl rfl (sf_213_86 (d := d + 0) hI3145 (by omega) (by omega)) ?_
                    rintro _ _ ⟨σ3178, rfl, hI3179, hG3180, v3177, rfl, hv3177⟩
                    have hF3181 : qFr [(86, 15), (86, 23), (86, 30), (86, 35), (86, 36), (86, 37), (86, 38), (86, 39)] [96, 109] σ α σ3178 α3143 := qFr_t hF3146 hG3180 (by decide) (by decide)
                    show qr_W (qe L xs vb) (d + 45) qx_e228 _ (314, _, [.int (qz v3177)], qw σ3178 α3143 κ ρ, 0, 0)
                    refine qr_retI rfl rfl (by decide) (by decide) ?_
                    exact ⟨_, _, rfl, hI3179, hF3181, v3177, rfl, hv3177⟩
                refine qr_if_ge 266 262 rfl rfl rfl (qrg r4 (by decide) (by decide)) (fun h3182 => ?_) (fun h3182 => ?_)
                · skip
                  refine qr_aload_n 267 rfl g3037 rfl ?_
                  refine qr_iload_n 268 rfl g3039 rfl ?_
                  refine qr_iload 270 rfl g3040 rfl ?_
                  refine qr_callN 273 rfl rfl rfl (sf_187_86 (d := d + 42) hI3046 r2 (by omega)) ?_
                  rintro _ _ ⟨σ3186, α3187, rfl, hI3188, hG3189, hw3185, v3183, rfl, hv3183, hp3184⟩
                  have hF3190 : qFr [(86, 15), (86, 23), (86, 30), (86, 35), (86, 36), (86, 37), (86, 38), (86, 39)] [96, 109] σ α σ3186 α3187 := qFr_t hF3047 hG3189 (by decide) (by decide)
                  have hs3191 : 0 ≤ σ3186 86 15 ∧ σ3186 86 15 ≤ 1 := hI3188.1 86 15
                  show qr_W (qe L xs vb) (d + 45) qx_e228 _ (273, _, [.int (qz v3183), .int (qz 8), .ref 109], qw σ3186 α3187 κ ρ, 0, 0)
                  refine qr_bipush 275 rfl (by decide) rfl ?_
                  refine qr_icmp_ne 283 278 rfl rfl rfl (qrg hv3183 (by decide) (by decide)) (by decide) (fun h3192 => ?_) (fun h3192 => ?_)
                  · skip
                    refine qr_aload_n 284 rfl g3037 rfl ?_
                    refine qr_iload_n 285 rfl g3039 rfl ?_
                    refine qr_iload 287 rfl g3040 rfl ?_
                    refine qr_callN 290 rfl rfl rfl (sf_187_86 (d := d + 42) hI3188 r2 (by omega)) ?_
                    rintro _ _ ⟨σ3196, α3197, rfl, hI3198, hG3199, hw3195, v3193, rfl, hv3193, hp3194⟩
                    have hF3200 : qFr [(86, 15), (86, 23), (86, 30), (86, 35), (86, 36), (86, 37), (86, 38), (86, 39)] [96, 109] σ α σ3196 α3197 := qFr_t hF3190 hG3199 (by decide) (by decide)
                    have hs3201 : 0 ≤ σ3196 86 15 ∧ σ3196 86 15 ≤ 1 := hI3198.1 86 15
                    show qr_W (qe L xs vb) (d + 45) qx_e228 _ (290, _, [.int (qz v3193), .int (qz 8), .ref 109], qw σ3196 α3197 κ ρ, 0, 0)
                    exact hJ3142 _ v3193 σ3196 α3197 g3037 g3038 hv3193 hI3198 hF3200 ((hG3199.1 86 6 (by decide)).trans ((hG3189.1 86 6 (by decide)).trans ((hk103).trans rfl)))
                  · skip
                    refine qr_bipush 280 rfl (by decide) rfl ?_
                    refine qr_goto 290 rfl rfl ?_
                    exact hJ3142 _ 9 σ3186 α3187 g3037 g3038 (by decide) hI3188 hF3190 ((hG3189.1 86 6 (by decide)).trans ((hk103).trans rfl))
                · skip
                  refine qr_iconst 263 rfl rfl ?_
                  refine qr_goto 290 rfl rfl ?_
                  exact hJ3142 _ 0 σ99 α3045 g3037 g3038 (by decide) hI3046 hF3047 ((hk103).trans rfl)
              · skip
                refine qr_lload 161 rfl g3041 rfl ?_
                refine qr_iload 163 rfl g3042 rfl ?_
                refine qr_lshr 164 rfl rfl ?_
                refine qy_canl (fun v3202 hv3202 => ?_)
                refine qr_lconst 165 rfl rfl ?_
                refine qy_vl 1 rfl ?_
                refine qr_land 166 rfl rfl ?_
                refine qy_canl (fun v3203 hv3203 => ?_)
                refine qr_lconst 167 rfl rfl ?_
                refine qy_vl 1 rfl ?_
                have hJ3232 : ∀ (ls : qm_L) (u3230 : Int), qm_get ls 0 = some (.ref 86) → qm_get ls 1 = some (.int (qz x1)) → qm_get ls 2 = some (.int (qz x2)) → qm_get ls 4 = some (.int (qz x4)) → qm_get ls 5 = some (.long (ql x5)) → qm_get ls 9 = some (.int (qz u3043)) → (0 ≤ u3230 ∧ u3230 ≤ 1) → qr_W (qe L xs vb) (d + 45) qx_e228 (fun r w' => ∃ σ' α', w' = qw σ' α' κ ρ ∧ qI σ' α' κ ρ ∧ qFr [(86, 15), (86, 23), (86, 30), (86, 35), (86, 36), (86, 37), (86, 38), (86, 39)] [96, 109] σ α σ' α' ∧ ∃ v : Int, r = some (.int (qz v)) ∧ ((-2147483648) ≤ v ∧ v ≤ 2147483647)) (223, ls, [.int (qz u3230)], qw σ99 α3045 κ ρ, 0, 0) := by
                  intro ls u3230 g3224 g3225 g3226 g3227 g3228 g3229 hf3231
                  refine qr_istore _ 225 rfl (by decide) rfl rfl ?_
                  refine qr_aload_n 226 rfl (qm_gk g3224 (by decide) (Or.inl (by decide))) rfl ?_
                  refine qr_get 229 rfl rfl rfl (by decide) rfl ?_
                  refine qr_bipush 231 rfl (by decide) rfl ?_
                  refine qr_dup2 232 rfl rfl rfl rfl ?_
                  refine qr_iaload 233 rfl rfl (by decide) (by decide) rfl ?_
                  refine qr_topI (fun v3233 hv3233 => ?_)
                  have hs3234 : (-2147483648) ≤ v3233 ∧ v3233 ≤ 2147483647 := by rw [hv3233]; exact hI3046.2.1 109 _ (show _ < 9 by decide)
                  refine qr_iload 235 rfl (qm_ge _ _ _) rfl ?_
                  have hJ3243 : ∀ (ls : qm_L) (u3241 : Int), qm_get ls 0 = some (.ref 86) → qm_get ls 1 = some (.int (qz x1)) → qm_get ls 2 = some (.int (qz x2)) → qm_get ls 4 = some (.int (qz x4)) → qm_get ls 5 = some (.long (ql x5)) → qm_get ls 9 = some (.int (qz u3043)) → (0 ≤ u3241 ∧ u3241 ≤ 1) → qr_W (qe L xs vb) (d + 45) qx_e228 (fun r w' => ∃ σ' α', w' = qw σ' α' κ ρ ∧ qI σ' α' κ ρ ∧ qFr [(86, 15), (86, 23), (86, 30), (86, 35), (86, 36), (86, 37), (86, 38), (86, 39)] [96, 109] σ α σ' α' ∧ ∃ v : Int, r = some (.int (qz v)) ∧ ((-2147483648) ≤ v ∧ v ≤ 2147483647)) (243, ls, [.int (qz u3241), .int (qz v3233), .int (qz 7), .ref 109], qw σ99 α3045 κ ρ, 0, 0) := by
                    intro ls u3241 g3235 g3236 g3237 g3238 g3239 g3240 hf3242
                    refine qr_iadd 244 rfl rfl ?_
                    refine qy_can (fun v3244 hv3244 => ?_)
                    refine qr_iastore 245 rfl (by decide) rfl (by decide) (by decide) rfl ?_
                    refine qy_wA (qw_r α3045 109 (qzu (α3045 109) (7 : Int).toNat v3244)) rfl (fun α3245 e3246 => ?_)
                    have hI3247 : qI σ99 α3245 κ ρ := by rw [e3246]; exact qI_r hI3046 109 _ rfl (show (-2147483648) ≤ v3244 ∧ v3244 ≤ 2147483647 by omega)
                    have hF3248 : qFr [(86, 15), (86, 23), (86, 30), (86, 35), (86, 36), (86, 37), (86, 38), (86, 39)] [96, 109] σ α σ99 α3245 := by rw [e3246]; exact qFr_r hF3047 109 _ (by decide)
                    refine qr_iinc _ 248 rfl g3240 (by decide) rfl rfl ?_
                    refine qr_goto 150 rfl rfl ?_
                    exact ih3050 _ (u3043 + 1) α3245 (by omega) (qm_gk g3235 (by decide) (Or.inl (by decide))) (qm_gk g3236 (by decide) (Or.inl (by decide))) (qm_gk g3237 (by decide) (Or.inl (by decide))) (qm_gk g3238 (by decide) (Or.inl (by decide))) (qm_gk g3239 (by decide) (Or.inl (by decide))) (qm_ge _ _ _) (by omega) hI3247 hF3248
                  refine qr_if_eq 242 238 rfl rfl rfl (qrg hf3231 (by decide) (by decide)) (fun h3249 => ?_) (fun h3249 => ?_)
                  · skip
                    refine qr_iconst 243 rfl rfl ?_
                    exact hJ3243 _ 0 (qm_gk g3224 (by decide) (Or.inl (by decide))) (qm_gk g3225 (by decide) (Or.inl (by decide))) (qm_gk g3226 (by decide) (Or.inl (by decide))) (qm_gk g3227 (by decide) (Or.inl (by decide))) (qm_gk g3228 (by decide) (Or.inl (by decide))) (qm_gk g3229 (by decide) (Or.inr rfl)) (by decide)
                  · skip
                    refine qr_iconst 239 rfl rfl ?_
                    refine qr_goto 243 rfl rfl ?_
                    exact hJ3243 _ 1 (qm_gk g3224 (by decide) (Or.inl (by decide))) (qm_gk g3225 (by decide) (Or.inl (by decide))) (qm_gk g3226 (by decide) (Or.inl (by decide))) (qm_gk g3227 (by decide) (Or.inl (by decide))) (qm_gk g3228 (by decide) (Or.inl (by decide))) (qm_gk g3229 (by decide) (Or.inr rfl)) (by decide)
                refine qr_lc_ne 222 171 rfl rfl rfl rfl hv3203 (by decide) (fun h3250 => ?_) (fun h3250 => ?_)
                · skip
                  refine qr_iconst 223 rfl rfl ?_
                  exact hJ3232 _ 0 g3037 g3038 g3039 g3040 g3041 g3042 (by decide)
                · skip
                  refine qr_aload_n 172 rfl g3037 rfl ?_
                  refine qr_get 175 rfl rfl rfl (by decide) rfl ?_
                  have hs3251 : 0 ≤ σ99 86 41 ∧ σ99 86 41 ≤ 1 := hI3046.1 86 41
                  refine qr_if_ne 187 178 rfl rfl rfl (qrg hs3251 (by decide) (by decide)) (fun h3252 => ?_) (fun h3252 => ?_)
                  · skip
                    refine qr_iload 189 rfl g3042 rfl ?_
                    refine qr_iload_n 190 rfl g3039 rfl ?_
                    refine qr_icmp_eq 218 193 rfl rfl rfl (qrg hf3048 (by decide) (by decide)) (qrg r2 (by decide) (by decide)) (fun h3253 => ?_) (fun h3253 => ?_)
                    · skip
                      refine qr_iconst 219 rfl rfl ?_
                      refine qr_goto 223 rfl rfl ?_
                      exact hJ3232 _ 1 g3037 g3038 g3039 g3040 g3041 g3042 (by decide)
                    · skip
                      refine qr_aload_n 194 rfl g3037 rfl ?_
                      refine qr_get 197 rfl rfl rfl (by decide) rfl ?_
                      refine qr_iload_n 198 rfl g3039 rfl ?_
                      refine qr_iaload 199 rfl rfl (qrgi r2 (by decide) (by decide)) (by decide) rfl ?_
                      refine qr_topI (fun v3254 hv3254 => ?_)
                      have hs3255 : (-1) ≤ v3254 ∧ v3254 ≤ 31 := by rw [hv3254]; exact hI3046.2.1 91 _ (show _ < 32 from qrgt r2 (by decide) (by decide))
                      have hs3256 := hI3046.2.2.2.2.2.2.1 (x2 : Int).toNat (by omega)
                      refine qr_if_lt 222 202 rfl rfl rfl (qrg hs3255 (by decide) (by decide)) (fun h3257 => ?_) (fun h3257 => ?_)
                      · skip
                        refine qr_iconst 223 rfl rfl ?_
                        exact hJ3232 _ 0 g3037 g3038 g3039 g3040 g3041 g3042 (by decide)
                      · skip
                        refine qr_aload_n 203 rfl g3037 rfl ?_
                        refine qr_get 206 rfl rfl rfl (by decide) rfl ?_
                        refine qr_iload 208 rfl g3042 rfl ?_
                        refine qr_iaload 209 rfl rfl (by omega) (by decide) rfl ?_
                        refine qr_topI (fun v3258 hv3258 => ?_)
                        have hs3259 : (-1) ≤ v3258 ∧ v3258 ≤ 31 := by rw [hv3258]; exact hI3046.2.1 91 _ (show _ < 32 by omega)
                        have hs3260 := hI3046.2.2.2.2.2.2.1 (u3043 : Int).toNat (by omega)
                        refine qr_aload_n 210 rfl g3037 rfl ?_
                        refine qr_get 213 rfl rfl rfl (by decide) rfl ?_
                        refine qr_iload_n 214 rfl g3039 rfl ?_
                        refine qr_iaload 215 rfl rfl (qrgi r2 (by decide) (by decide)) (by decide) rfl ?_
                        refine qr_topI (fun v3261 hv3261 => ?_)
                        have hs3262 : (-1) ≤ v3261 ∧ v3261 ≤ 31 := by rw [hv3261]; exact hI3046.2.1 91 _ (show _ < 32 from qrgt r2 (by decide) (by decide))
                        have hs3263 := hI3046.2.2.2.2.2.2.1 (x2 : Int).toNat (by omega)
                        refine qr_icmp_ne 222 218 rfl rfl rfl (qrg hs3259 (by decide) (by decide)) (qrg hs3262 (by decide) (by decide)) (fun h3264 => ?_) (fun h3264 => ?_)
                        · skip
                          refine qr_iconst 223 rfl rfl ?_
                          exact hJ3232 _ 0 g3037 g3038 g3039 g3040 g3041 g3042 (by decide)
                        · skip
                          refine qr_iconst 219 rfl rfl ?_
                          refine qr_goto 223 rfl rfl ?_
                          exact hJ3232 _ 1 g3037 g3038 g3039 g3040 g3041 g3042 (by decide)
                  · skip
                    refine qr_aload_n 179 rfl g3037 rfl ?_
                    refine qr_iload 181 rfl g3042 rfl ?_
                    refine qr_callN 184 rfl rfl rfl (sf_181_86 (d := d + 44) hI3046 (qrg hf3048 (by decide) (by decide))) ?_
                    rintro _ _ ⟨rfl, v3265, rfl, hv3265⟩
                    show qr_W (qe L xs vb) (d + 45) qx_e228 _ (184, _, [.int (qz v3265)], qw σ99 α3045 κ ρ, 0, 0)
                    refine qr_if_ne 222 187 rfl rfl rfl (qrg hv3265 (by decide) (by decide)) (fun h3266 => ?_) (fun h3266 => ?_)
                    · skip
                      refine qr_iconst 223 rfl rfl ?_
                      exact hJ3232 _ 0 g3037 g3038 g3039 g3040 g3041 g3042 (by decide)
                    · skip
                      refine qr_iload 189 rfl g3042 rfl ?_
                      refine qr_iload_n 190 rfl g3039 rfl ?_
                      refine qr_icmp_eq 218 193 rfl rfl rfl (qrg hf3048 (by decide) (by decide)) (qrg r2 (by decide) (by decide)) (fun h3267 => ?_) (fun h3267 => ?_)
                      · skip
                        refine qr_iconst 219 rfl rfl ?_
                        refine qr_goto 223 rfl rfl ?_
                        exact hJ3232 _ 1 g3037 g3038 g3039 g3040 g3041 g3042 (by decide)
                      · skip
                        refine qr_aload_n 194 rfl g3037 rfl ?_
                        refine qr_get 197 rfl rfl rfl (by decide) rfl ?_
                        refine qr_iload_n 198 rfl g3039 rfl ?_
                        refine qr_iaload 199 rfl rfl (qrgi r2 (by decide) (by decide)) (by decide) rfl ?_
                        refine qr_topI (fun v3268 hv3268 => ?_)
                        have hs3269 : (-1) ≤ v3268 ∧ v3268 ≤ 31 := by rw [hv3268]; exact hI3046.2.1 91 _ (show _ < 32 from qrgt r2 (by decide) (by decide))
                        have hs3270 := hI3046.2.2.2.2.2.2.1 (x2 : Int).toNat (by omega)
                        refine qr_if_lt 222 202 rfl rfl rfl (qrg hs3269 (by decide) (by decide)) (fun h3271 => ?_) (fun h3271 => ?_)
                        · skip
                          refine qr_iconst 223 rfl rfl ?_
                          exact hJ3232 _ 0 g3037 g3038 g3039 g3040 g3041 g3042 (by decide)
                        · skip
                          refine qr_aload_n 203 rfl g3037 rfl ?_
                          refine qr_get 206 rfl rfl rfl (by decide) rfl ?_
                          refine qr_iload 208 rfl g3042 rfl ?_
                          refine qr_iaload 209 rfl rfl (by omega) (by decide) rfl ?_
                          refine qr_topI (fun v3272 hv3272 => ?_)
                          have hs3273 : (-1) ≤ v3272 ∧ v3272 ≤ 31 := by rw [hv3272]; exact hI3046.2.1 91 _ (show _ < 32 by omega)
                          have hs3274 := hI3046.2.2.2.2.2.2.1 (u3043 : Int).toNat (by omega)
                          refine qr_aload_n 210 rfl g3037 rfl ?_
                          refine qr_get 213 rfl rfl rfl (by decide) rfl ?_
                          refine qr_iload_n 214 rfl g3039 rfl ?_
                          refine qr_iaload 215 rfl rfl (qrgi r2 (by decide) (by decide)) (by decide) rfl ?_
                          refine qr_topI (fun v3275 hv3275 => ?_)
                          have hs3276 : (-1) ≤ v3275 ∧ v3275 ≤ 31 := by rw [hv3275]; exact hI3046.2.1 91 _ (show _ < 32 from qrgt r2 (by decide) (by decide))
                          have hs3277 := hI3046.2.2.2.2.2.2.1 (x2 : Int).toNat (by omega)
                          refine qr_icmp_ne 222 218 rfl rfl rfl (qrg hs3273 (by decide) (by decide)) (qrg hs3276 (by decide) (by decide)) (fun h3278 => ?_) (fun h3278 => ?_)
                          · skip
                            refine qr_iconst 223 rfl rfl ?_
                            exact hJ3232 _ 0 g3037 g3038 g3039 g3040 g3041 g3042 (by decide)
                          · skip
                            refine qr_iconst 219 rfl rfl ?_
                            refine qr_goto 223 rfl rfl ?_
                            exact hJ3232 _ 1 g3037 g3038 g3039 g3040 g3041 g3042 (by decide)
          exact hL3049 ((32 - 0 + 1 : Int)).toNat _ 0 α110 (by omega) (qm_gk g93 (by decide) (Or.inl (by decide))) (qm_gk g94 (by decide) (Or.inl (by decide))) (qm_gk g95 (by decide) (Or.inl (by decide))) (qm_gk g96 (by decide) (Or.inl (by decide))) (qm_gk g97 (by decide) (Or.inl (by decide))) (qm_ge _ _ _) (by decide) hI112 hF113
        refine qr_icmp_ne 132 127 rfl rfl rfl (qrg hv75 (by decide) (by decide)) (by decide) (fun h3279 => ?_) (fun h3279 => ?_)
        · skip
          refine qr_aload_n 133 rfl g62 rfl ?_
          refine qr_iload_n 134 rfl g64 rfl ?_
          refine qr_iload_n 135 rfl g65 rfl ?_
          refine qr_callN 138 rfl rfl rfl (sf_187_86 (d := d + 42) hI80 r2 r3) ?_
          rintro _ _ ⟨σ3283, α3284, rfl, hI3285, hG3286, hw3282, v3280, rfl, hv3280, hp3281⟩
          have hF3287 : qFr [(86, 15), (86, 23), (86, 30), (86, 35), (86, 36), (86, 37), (86, 38), (86, 39)] [96, 109] σ α σ3283 α3284 := qFr_t hF82 hG3286 (by decide) (by decide)
          have hs3288 : 0 ≤ σ3283 86 15 ∧ σ3283 86 15 ≤ 1 := hI3285.1 86 15
          show qr_W (qe L xs vb) (d + 45) qx_e228 _ (138, _, [.int (qz v3280), .int (qz 6), .ref 109], qw σ3283 α3284 κ ρ, 0, 0)
          exact hJ105 _ v3280 σ3283 α3284 g62 g63 g64 g66 g67 hv3280 hI3285 hF3287 ((hG3286.1 86 6 (by decide)).trans ((hG81.1 86 6 (by decide)).trans ((hG41.1 86 6 (by decide)).trans ((hG5.1 86 6 (by decide)).trans rfl))))
        · skip
          refine qr_bipush 129 rfl (by decide) rfl ?_
          refine qr_goto 138 rfl rfl ?_
          exact hJ105 _ 9 σ78 α79 g62 g63 g64 g66 g67 (by decide) hI80 hF82 ((hG81.1 86 6 (by decide)).trans ((hG41.1 86 6 (by decide)).trans ((hG5.1 86 6 (by decide)).trans rfl)))
      refine qr_if_eq 108 104 rfl rfl rfl (qrg hv61 (by decide) (by decide)) (fun h3289 => ?_) (fun h3289 => ?_)
      · skip
        refine qr_iconst 109 rfl rfl ?_
        exact hJ70 _ 0 g22 g23 g24 g25 g26 g27 (by decide)
      · skip
        refine qr_iconst 105 rfl rfl ?_
        refine qr_goto 109 rfl rfl ?_
        exact hJ70 _ 1 g22 g23 g24 g25 g26 g27 (by decide)
    refine qr_icmp_ne 45 40 rfl rfl rfl hv1 (by decide) (fun h3290 => ?_) (fun h3290 => ?_)
    · skip
      refine qr_iload 47 rfl g14 rfl ?_
      exact hJ31 _ v1 g7 g8 g9 g10 g11 g12 g13 hv1
    · skip
      refine qr_bipush 42 rfl (by decide) rfl ?_
      refine qr_goto 47 rfl rfl ?_
      exact hJ31 _ 9 g7 g8 g9 g10 g11 g12 g13 (by decide)
  refine qr_icmp_ne 26 22 rfl rfl rfl hv1 (by decide) (fun h3291 => ?_) (fun h3291 => ?_)
  · skip
    refine qr_iconst 27 rfl rfl ?_
    exact hJ17 _ 1 rfl rfl rfl rfl rfl rfl rfl rfl (by decide)
  · skip
    refine qr_iconst 23 rfl rfl ?_
    refine qr_goto 27 rfl rfl ?_
    exact hJ17 _ 0 rfl rfl rfl rfl rfl rfl rfl rfl (by decide)

set_option maxHeartbeats 4000000 in
set_option maxRecDepth 20000 in
/-- OneRoofModel.mustNow -/
theorem sf_227_86 {L : Nat} {xs : Nat → Int} {vb : Bool} {d : Nat} {σ α : Nat → Nat → Int} {κ : Nat → Option Nat} {ρ : Nat} {x1 : Int} {x2 : Int} {x3 : Int} {x4 : Int} (hI : qI σ α κ ρ) (r1 : 0 ≤ x1 ∧ x1 ≤ 31) (r2 : 0 ≤ x2 ∧ x2 ≤ 31) (r3 : (-9223372036854775808) ≤ x3 ∧ x3 ≤ 9223372036854775807) (r4 : (-2147483648) ≤ x4 ∧ x4 ≤ 2147483647) (p0 : 1 ≤ σ 86 6) : qm_T (qe L xs vb) (d + 47) 227 [.ref 86, .int (qz x1), .int (qz x2), .long (ql x3), .int (qz x4)] (qw σ α κ ρ) (fun r w' => ∃ σ' α', w' = qw σ' α' κ ρ ∧ qI σ' α' κ ρ ∧ qFr [(86, 15), (86, 23), (86, 30), (86, 35), (86, 36), (86, 37), (86, 38), (86, 39)] [96, 109] σ α σ' α' ∧ ∃ v : Int, r = some (.int (qz v)) ∧ ((-2147483648) ≤ v ∧ v ≤ 2147483647)) := by
  refine qr_start (d := d + 46) qv_e227 (Nat.le_of_ble_eq_true rfl) ?_
  show qr_W (qe L xs vb) (d + 46) qx_e227 _ (0, [(0, .ref 86), (1, .int (qz x1)), (2, .int (qz x2)), (3, .long (ql x3)), (5, .int (qz x4))], [], _, 0, 0)
  have hF0 := qFr_rf [(86, 15), (86, 23), (86, 30), (86, 35), (86, 36), (86, 37), (86, 38), (86, 39)] [96, 109] σ α
  have hz86_6 : 0 ≤ σ 86 6 ∧ σ 86 6 ≤ 32 := hI.1 86 6
  refine qr_aload_n 1 rfl rfl rfl ?_
  refine qr_iconst 2 rfl rfl ?_
  refine qr_iload_n 3 rfl rfl rfl ?_
  refine qr_iload_n 4 rfl rfl rfl ?_
  refine qr_iconst 5 rfl rfl ?_
  refine qr_lload_n 6 rfl rfl rfl ?_
  refine qr_iload 8 rfl rfl rfl ?_
  have hs1 : 0 ≤ σ 86 6 ∧ σ 86 6 ≤ 32 := hI.1 86 6
  refine qr_callN 11 rfl rfl rfl (sf_228_86 (d := d + 0) hI (by decide) r1 r2 (by decide) r3 r4 (by omega)) ?_
  rintro _ _ ⟨σ3, α4, rfl, hI5, hG6, v2, rfl, hv2⟩
  have hF7 : qFr [(86, 15), (86, 23), (86, 30), (86, 35), (86, 36), (86, 37), (86, 38), (86, 39)] [96, 109] σ α σ3 α4 := qFr_t hF0 hG6 (by decide) (by decide)
  show qr_W (qe L xs vb) (d + 46) qx_e227 _ (11, _, [.int (qz v2)], qw σ3 α4 κ ρ, 0, 0)
  refine qr_retI rfl rfl (by decide) (by decide) ?_
  exact ⟨_, _, rfl, hI5, hF7, v2, rfl, hv2⟩

set_option maxHeartbeats 4000000 in
set_option maxRecDepth 20000 in
/-- OneRoofModel.must -/
theorem sf_224_86 {L : Nat} {xs : Nat → Int} {vb : Bool} {d : Nat} {σ α : Nat → Nat → Int} {κ : Nat → Option Nat} {ρ : Nat} {x1 : Int} {x2 : Int} {x3 : Int} (hI : qI σ α κ ρ) (r1 : (-2147483648) ≤ x1 ∧ x1 ≤ 2147483647) (r2 : (-9223372036854775808) ≤ x2 ∧ x2 ≤ 9223372036854775807) (r3 : (-2147483648) ≤ x3 ∧ x3 ≤ 2147483647) : qm_T (qe L xs vb) (d + 48) 224 [.ref 86, .int (qz x1), .long (ql x2), .int (qz x3)] (qw σ α κ ρ) (fun r w' => ∃ σ' α', w' = qw σ' α' κ ρ ∧ qI σ' α' κ ρ ∧ qFr [(86, 15), (86, 23), (86, 30), (86, 35), (86, 36), (86, 37), (86, 38), (86, 39)] [96, 109] σ α σ' α' ∧ ∃ v : Int, r = some (.int (qz v)) ∧ ((-2147483648) ≤ v ∧ v ≤ 2147483647)) := by
  refine qr_start (d := d + 47) qv_e224 (Nat.le_of_ble_eq_true rfl) ?_
  show qr_W (qe L xs vb) (d + 47) qx_e224 _ (0, [(0, .ref 86), (1, .int (qz x1)), (2, .long (ql x2)), (4, .int (qz x3))], [], _, 0, 0)
  have hF0 := qFr_rf [(86, 15), (86, 23), (86, 30), (86, 35), (86, 36), (86, 37), (86, 38), (86, 39)] [96, 109] σ α
  refine qr_aload_n 1 rfl rfl rfl ?_
  refine qr_iload_n 2 rfl rfl rfl ?_
  refine qr_callN 5 rfl rfl rfl (sf_191_86 (d := d + 44) hI r1) ?_
  have hs3 : 0 ≤ σ 86 6 ∧ σ 86 6 ≤ 32 := hI.1 86 6
  rintro _ _ ⟨rfl, v1, rfl, hv1, hp2⟩
  show qr_W (qe L xs vb) (d + 47) qx_e224 _ (5, _, [.int (qz v1)], qw σ α κ ρ, 0, 0)
  refine qr_if_eq 24 8 rfl rfl rfl (qrg hv1 (by decide) (by decide)) (fun h4 => ?_) (fun h4 => ?_)
  · skip
    refine qr_ldcw (-2000000000) 27 rfl (by decide) rfl ?_
    refine qr_retI rfl rfl (by decide) (by decide) ?_
    exact ⟨_, _, rfl, hI, hF0, (-2000000000), rfl, (by decide)⟩
  · skip
    refine qr_aload_n 9 rfl rfl rfl ?_
    refine qr_lload_n 10 rfl rfl rfl ?_
    refine qr_callN 13 rfl rfl rfl (sf_225_86 (d := d + 46) hI r2) ?_
    rintro _ _ ⟨rfl, v5, rfl, hv5⟩
    show qr_W (qe L xs vb) (d + 47) qx_e224 _ (13, _, [.int (qz v5)], qw σ α κ ρ, 0, 0)
    refine qr_if_eq 24 16 rfl rfl rfl (qrg hv5 (by decide) (by decide)) (fun h6 => ?_) (fun h6 => ?_)
    · skip
      refine qr_ldcw (-2000000000) 27 rfl (by decide) rfl ?_
      refine qr_retI rfl rfl (by decide) (by decide) ?_
      exact ⟨_, _, rfl, hI, hF0, (-2000000000), rfl, (by decide)⟩
    · skip
      refine qr_iload 18 rfl rfl rfl ?_
      refine qr_callN 21 rfl rfl rfl (sf_192 (d := d + 45) hI r3) ?_
      rintro _ _ ⟨rfl, v7, rfl, hv7, hp8⟩
      show qr_W (qe L xs vb) (d + 47) qx_e224 _ (21, _, [.int (qz v7)], qw σ α κ ρ, 0, 0)
      refine qr_if_ne 28 24 rfl rfl rfl (qrg hv7 (by decide) (by decide)) (fun h9 => ?_) (fun h9 => ?_)
      · skip
        refine qr_lload_n 29 rfl rfl rfl ?_
        refine qr_aload_n 30 rfl rfl rfl ?_
        refine qr_get 33 rfl rfl rfl (by decide) rfl ?_
        have hs10 : (-9223372036854775808) ≤ σ 86 10 ∧ σ 86 10 ≤ 9223372036854775807 := hI.1 86 10
        refine qr_ldc2 (-1) 36 rfl (by decide) rfl ?_
        refine qr_lxor 37 rfl rfl ?_
        refine qy_canl (fun v11 hv11 => ?_)
        refine qr_land 38 rfl rfl ?_
        refine qy_canl (fun v12 hv12 => ?_)
        refine qr_lstore _ 40 rfl (by decide) rfl rfl ?_
        refine qr_lload 42 rfl rfl rfl ?_
        refine qr_iload_n 43 rfl rfl rfl ?_
        refine qr_bipush 45 rfl (by decide) rfl ?_
        refine qr_idiv 46 rfl (by omega) (by decide) rfl ?_
        refine qr_callN 49 rfl rfl rfl (sf_226 (d := d + 46) hI hv12 (by omega)) ?_
        rintro _ _ ⟨rfl, v13, rfl, hv13⟩
        show qr_W (qe L xs vb) (d + 47) qx_e224 _ (49, _, [.int (qz v13)], qw σ α κ ρ, 0, 0)
        refine qr_if_eq 83 52 rfl rfl rfl (qrg hv13 (by decide) (by decide)) (fun h14 => ?_) (fun h14 => ?_)
        · skip
          refine qr_ldcw (-2000000000) 86 rfl (by decide) rfl ?_
          refine qr_retI rfl rfl (by decide) (by decide) ?_
          exact ⟨_, _, rfl, hI, hF0, (-2000000000), rfl, (by decide)⟩
        · skip
          refine qr_lload 54 rfl rfl rfl ?_
          refine qr_iload_n 55 rfl rfl rfl ?_
          refine qr_bipush 57 rfl (by decide) rfl ?_
          refine qr_irem 58 rfl (by omega) (by decide) rfl ?_
          refine qr_callN 61 rfl rfl rfl (sf_226 (d := d + 46) hI hv12 (by omega)) ?_
          rintro _ _ ⟨rfl, v15, rfl, hv15⟩
          show qr_W (qe L xs vb) (d + 47) qx_e224 _ (61, _, [.int (qz v15)], qw σ α κ ρ, 0, 0)
          refine qr_if_eq 83 64 rfl rfl rfl (qrg hv15 (by decide) (by decide)) (fun h16 => ?_) (fun h16 => ?_)
          · skip
            refine qr_ldcw (-2000000000) 86 rfl (by decide) rfl ?_
            refine qr_retI rfl rfl (by decide) (by decide) ?_
            exact ⟨_, _, rfl, hI, hF0, (-2000000000), rfl, (by decide)⟩
          · skip
            refine qr_aload_n 65 rfl rfl rfl ?_
            refine qr_iload_n 66 rfl rfl rfl ?_
            refine qr_bipush 68 rfl (by decide) rfl ?_
            refine qr_idiv 69 rfl (by omega) (by decide) rfl ?_
            refine qr_iload_n 70 rfl rfl rfl ?_
            refine qr_bipush 72 rfl (by decide) rfl ?_
            refine qr_irem 73 rfl (by omega) (by decide) rfl ?_
            refine qr_lload 75 rfl rfl rfl ?_
            refine qr_iload 77 rfl rfl rfl ?_
            have hs17 : 0 ≤ σ 86 6 ∧ σ 86 6 ≤ 32 := hI.1 86 6
            refine qr_callN 80 rfl rfl rfl (sf_227_86 (d := d + 0) hI (by omega) (by omega) hv12 r3 (by omega)) ?_
            rintro _ _ ⟨σ19, α20, rfl, hI21, hG22, v18, rfl, hv18⟩
            have hF23 : qFr [(86, 15), (86, 23), (86, 30), (86, 35), (86, 36), (86, 37), (86, 38), (86, 39)] [96, 109] σ α σ19 α20 := qFr_t hF0 hG22 (by decide) (by decide)
            show qr_W (qe L xs vb) (d + 47) qx_e224 _ (80, _, [.int (qz v18)], qw σ19 α20 κ ρ, 0, 0)
            refine qr_goto 86 rfl rfl ?_
            refine qr_retI rfl rfl (by decide) (by decide) ?_
            exact ⟨_, _, rfl, hI21, hF23, v18, rfl, hv18⟩
      · skip
        refine qr_ldcw (-2000000000) 27 rfl (by decide) rfl ?_
        refine qr_retI rfl rfl (by decide) (by decide) ?_
        exact ⟨_, _, rfl, hI, hF0, (-2000000000), rfl, (by decide)⟩

set_option maxHeartbeats 4000000 in
set_option maxRecDepth 20000 in
/-- OneRoofModel.together -/
theorem sf_229_86 {L : Nat} {xs : Nat → Int} {vb : Bool} {d : Nat} {σ α : Nat → Nat → Int} {κ : Nat → Option Nat} {ρ : Nat} {x1 : Int} {x2 : Int} {x3 : Int} (hI : qI σ α κ ρ) (r1 : (-9223372036854775808) ≤ x1 ∧ x1 ≤ 9223372036854775807) (r2 : (-2147483648) ≤ x2 ∧ x2 ≤ 2147483647) (r3 : (-2147483648) ≤ x3 ∧ x3 ≤ 2147483647) : qm_T (qe L xs vb) (d + 48) 229 [.ref 86, .long (ql x1), .int (qz x2), .int (qz x3)] (qw σ α κ ρ) (fun r w' => ∃ σ' α', w' = qw σ' α' κ ρ ∧ qI σ' α' κ ρ ∧ qFr [(86, 15), (86, 23), (86, 30), (86, 35), (86, 36), (86, 37), (86, 38), (86, 39)] [96, 109] σ α σ' α' ∧ ∃ v : Int, r = some (.int (qz v)) ∧ ((-2147483648) ≤ v ∧ v ≤ 2147483647)) := by
  refine qr_start (d := d + 47) qv_e229 (Nat.le_of_ble_eq_true rfl) ?_
  show qr_W (qe L xs vb) (d + 47) qx_e229 _ (0, [(0, .ref 86), (1, .long (ql x1)), (3, .int (qz x2)), (4, .int (qz x3))], [], _, 0, 0)
  have hF0 := qFr_rf [(86, 15), (86, 23), (86, 30), (86, 35), (86, 36), (86, 37), (86, 38), (86, 39)] [96, 109] σ α
  refine qr_aload_n 1 rfl rfl rfl ?_
  refine qr_lload_n 2 rfl rfl rfl ?_
  refine qr_callN 5 rfl rfl rfl (sf_225_86 (d := d + 46) hI r1) ?_
  rintro _ _ ⟨rfl, v1, rfl, hv1⟩
  show qr_W (qe L xs vb) (d + 47) qx_e229 _ (5, _, [.int (qz v1)], qw σ α κ ρ, 0, 0)
  refine qr_if_eq 28 8 rfl rfl rfl (qrg hv1 (by decide) (by decide)) (fun h2 => ?_) (fun h2 => ?_)
  · skip
    refine qr_iconst 29 rfl rfl ?_
    refine qr_retI rfl rfl (by decide) (by decide) ?_
    exact ⟨_, _, rfl, hI, hF0, (-1), rfl, (by decide)⟩
  · skip
    refine qr_iload_n 9 rfl rfl rfl ?_
    refine qr_callN 12 rfl rfl rfl (sf_230 (d := d + 44) hI r2) ?_
    rintro _ _ ⟨rfl, v3, rfl, hv3, hp4⟩
    show qr_W (qe L xs vb) (d + 47) qx_e229 _ (12, _, [.int (qz v3)], qw σ α κ ρ, 0, 0)
    refine qr_if_eq 28 15 rfl rfl rfl (qrg hv3 (by decide) (by decide)) (fun h5 => ?_) (fun h5 => ?_)
    · skip
      refine qr_iconst 29 rfl rfl ?_
      refine qr_retI rfl rfl (by decide) (by decide) ?_
      exact ⟨_, _, rfl, hI, hF0, (-1), rfl, (by decide)⟩
    · skip
      refine qr_iload 17 rfl rfl rfl ?_
      refine qr_i2l 18 rfl r3 rfl ?_
      refine qr_lconst 19 rfl rfl ?_
      refine qy_vl 0 rfl ?_
      refine qr_ldc2 2 22 rfl (by decide) rfl ?_
      refine qr_callN 25 rfl rfl rfl (sf_176 (d := d + 46) hI (qrg r3 (by decide) (by decide)) (by decide) (by decide)) ?_
      rintro _ _ ⟨rfl, v6, rfl, hv6, hp7⟩
      show qr_W (qe L xs vb) (d + 47) qx_e229 _ (25, _, [.int (qz v6)], qw σ α κ ρ, 0, 0)
      refine qr_if_ne 30 28 rfl rfl rfl (qrg hv6 (by decide) (by decide)) (fun h8 => ?_) (fun h8 => ?_)
      · skip
        refine qr_lload_n 31 rfl rfl rfl ?_
        refine qr_aload_n 32 rfl rfl rfl ?_
        refine qr_get 35 rfl rfl rfl (by decide) rfl ?_
        have hs9 : (-9223372036854775808) ≤ σ 86 10 ∧ σ 86 10 ≤ 9223372036854775807 := hI.1 86 10
        refine qr_ldc2 (-1) 38 rfl (by decide) rfl ?_
        refine qr_lxor 39 rfl rfl ?_
        refine qy_canl (fun v10 hv10 => ?_)
        refine qr_land 40 rfl rfl ?_
        refine qy_canl (fun v11 hv11 => ?_)
        refine qr_lstore _ 42 rfl (by decide) rfl rfl ?_
        refine qr_iload_n 43 rfl rfl rfl ?_
        refine qr_sipush 46 rfl (by decide) rfl ?_
        refine qr_idiv 47 rfl (by omega) (by decide) rfl ?_
        refine qr_istore _ 49 rfl (by decide) rfl rfl ?_
        have hL50281 : ∀ (n : Nat) (ls : qm_L) (u50273 : Int) (σ50274 α50275 : Nat → Nat → Int), 10000 - u50273 < (n : Int) → qm_get ls 0 = some (.ref 86) → qm_get ls 3 = some (.int (qz x2)) → qm_get ls 4 = some (.int (qz x3)) → qm_get ls 5 = some (.long (ql v11)) → qm_get ls 7 = some (.int (qz u50273)) → (0 ≤ u50273 ∧ u50273 ≤ 10000) → qI σ50274 α50275 κ ρ → qFr [(86, 15), (86, 23), (86, 30), (86, 35), (86, 36), (86, 37), (86, 38), (86, 39)] [96, 109] σ α σ50274 α50275 → σ50274 86 10 = (σ 86 10) → (x2 / 10000) ≤ u50273 → qr_W (qe L xs vb) (d + 47) qx_e229 (fun r w' => ∃ σ' α', w' = qw σ' α' κ ρ ∧ qI σ' α' κ ρ ∧ qFr [(86, 15), (86, 23), (86, 30), (86, 35), (86, 36), (86, 37), (86, 38), (86, 39)] [96, 109] σ α σ' α' ∧ ∃ v : Int, r = some (.int (qz v)) ∧ ((-2147483648) ≤ v ∧ v ≤ 2147483647)) (49, ls, [], qw σ50274 α50275 κ ρ, 0, 0) := by
          intro n
          induction n with
          | zero => intro ls u50273 σ50274 α50275 hm g50268 g50269 g50270 g50271 g50272 hf50279 hI50276 hF50277 hk50278 hx50280; exact False.elim (by omega)
          | succ n ih50282 =>
            intro ls u50273 σ50274 α50275 hm g50268 g50269 g50270 g50271 g50272 hf50279 hI50276 hF50277 hk50278 hx50280
            refine qr_iload 51 rfl g50272 rfl ?_
            refine qr_iload_n 52 rfl g50269 rfl ?_
            refine qr_sipush 55 rfl (by decide) rfl ?_
            refine qr_irem 56 rfl (by omega) (by decide) rfl ?_
            refine qr_icmp_gt 167 59 rfl rfl rfl (qrg hf50279 (by decide) (by decide)) (by omega) (fun h50283 => ?_) (fun h50283 => ?_)
            · skip
              refine qr_bipush 169 rfl (by decide) rfl ?_
              refine qr_retI rfl rfl (by decide) (by decide) ?_
              exact ⟨_, _, rfl, hI50276, hF50277, (-2), rfl, (by decide)⟩
            · skip
              refine qr_iconst 60 rfl rfl ?_
              refine qr_istore _ 62 rfl (by decide) rfl rfl ?_
              have hL54218 : ∀ (n : Nat) (ls : qm_L) (u54211 : Int) (σ54212 α54213 : Nat → Nat → Int), 32 - u54211 < (n : Int) → qm_get ls 0 = some (.ref 86) → qm_get ls 3 = some (.int (qz x2)) → qm_get ls 4 = some (.int (qz x3)) → qm_get ls 5 = some (.long (ql v11)) → qm_get ls 7 = some (.int (qz u50273)) → qm_get ls 8 = some (.int (qz u54211)) → (0 ≤ u54211 ∧ u54211 ≤ 32) → qI σ54212 α54213 κ ρ → qFr [(86, 15), (86, 23), (86, 30), (86, 35), (86, 36), (86, 37), (86, 38), (86, 39)] [96, 109] σ α σ54212 α54213 → σ54212 86 10 = (σ 86 10) → qr_W (qe L xs vb) (d + 47) qx_e229 (fun r w' => ∃ σ' α', w' = qw σ' α' κ ρ ∧ qI σ' α' κ ρ ∧ qFr [(86, 15), (86, 23), (86, 30), (86, 35), (86, 36), (86, 37), (86, 38), (86, 39)] [96, 109] σ α σ' α' ∧ ∃ v : Int, r = some (.int (qz v)) ∧ ((-2147483648) ≤ v ∧ v ≤ 2147483647)) (62, ls, [], qw σ54212 α54213 κ ρ, 0, 0) := by
                intro n
                induction n with
                | zero => intro ls u54211 σ54212 α54213 hm g54205 g54206 g54207 g54208 g54209 g54210 hf54217 hI54214 hF54215 hk54216; exact False.elim (by omega)
                | succ n ih54219 =>
                  intro ls u54211 σ54212 α54213 hm g54205 g54206 g54207 g54208 g54209 g54210 hf54217 hI54214 hF54215 hk54216
                  refine qr_iload 64 rfl g54210 rfl ?_
                  refine qr_aload_n 65 rfl g54205 rfl ?_
                  refine qr_get 68 rfl rfl rfl (by decide) rfl ?_
                  have hs54220 : 0 ≤ σ54212 86 6 ∧ σ54212 86 6 ≤ 32 := hI54214.1 86 6
                  refine qr_icmp_ge 161 71 rfl rfl rfl (qrg hf54217 (by decide) (by decide)) (qrg hs54220 (by decide) (by decide)) (fun h54221 => ?_) (fun h54221 => ?_)
                  · skip
                    refine qr_iinc _ 164 rfl g54209 (by decide) rfl rfl ?_
                    refine qr_goto 49 rfl rfl ?_
                    exact ih50282 _ (u50273 + 1) σ54212 α54213 (by omega) (qm_gk g54205 (by decide) (Or.inl (by decide))) (qm_gk g54206 (by decide) (Or.inl (by decide))) (qm_gk g54207 (by decide) (Or.inl (by decide))) (qm_gk g54208 (by decide) (Or.inl (by decide))) (qm_ge _ _ _) (by omega) hI54214 hF54215 ((hk54216).trans rfl) (by omega)
                  · skip
                    refine qr_iconst 72 rfl rfl ?_
                    refine qr_istore _ 74 rfl (by decide) rfl rfl ?_
                    have hL54477 : ∀ (n : Nat) (ls : qm_L) (u54469 : Int) (σ54470 α54471 : Nat → Nat → Int), 32 - u54469 < (n : Int) → qm_get ls 0 = some (.ref 86) → qm_get ls 3 = some (.int (qz x2)) → qm_get ls 4 = some (.int (qz x3)) → qm_get ls 5 = some (.long (ql v11)) → qm_get ls 7 = some (.int (qz u50273)) → qm_get ls 8 = some (.int (qz u54211)) → qm_get ls 9 = some (.int (qz u54469)) → (0 ≤ u54469 ∧ u54469 ≤ 32) → qI σ54470 α54471 κ ρ → qFr [(86, 15), (86, 23), (86, 30), (86, 35), (86, 36), (86, 37), (86, 38), (86, 39)] [96, 109] σ α σ54470 α54471 → σ54470 86 6 = (σ54212 86 6) → σ54470 86 10 = (σ 86 10) → qr_W (qe L xs vb) (d + 47) qx_e229 (fun r w' => ∃ σ' α', w' = qw σ' α' κ ρ ∧ qI σ' α' κ ρ ∧ qFr [(86, 15), (86, 23), (86, 30), (86, 35), (86, 36), (86, 37), (86, 38), (86, 39)] [96, 109] σ α σ' α' ∧ ∃ v : Int, r = some (.int (qz v)) ∧ ((-2147483648) ≤ v ∧ v ≤ 2147483647)) (74, ls, [], qw σ54470 α54471 κ ρ, 0, 0) := by
                      intro n
                      induction n with
                      | zero => intro ls u54469 σ54470 α54471 hm g54462 g54463 g54464 g54465 g54466 g54467 g54468 hf54476 hI54472 hF54473 hk54474 hk54475; exact False.elim (by omega)
                      | succ n ih54478 =>
                        intro ls u54469 σ54470 α54471 hm g54462 g54463 g54464 g54465 g54466 g54467 g54468 hf54476 hI54472 hF54473 hk54474 hk54475
                        refine qr_iload 76 rfl g54468 rfl ?_
                        refine qr_aload_n 77 rfl g54462 rfl ?_
                        refine qr_get 80 rfl rfl rfl (by decide) rfl ?_
                        refine qy_v (σ54212 86 6) ((hk54474).trans rfl) ?_
                        refine qr_icmp_ge 155 83 rfl rfl rfl (qrg hf54476 (by decide) (by decide)) (qrg hs54220 (by decide) (by decide)) (fun h54479 => ?_) (fun h54479 => ?_)
                        · skip
                          refine qr_iinc _ 158 rfl g54467 (by decide) rfl rfl ?_
                          refine qr_goto 62 rfl rfl ?_
                          exact ih54219 _ (u54211 + 1) σ54470 α54471 (by omega) (qm_gk g54462 (by decide) (Or.inl (by decide))) (qm_gk g54463 (by decide) (Or.inl (by decide))) (qm_gk g54464 (by decide) (Or.inl (by decide))) (qm_gk g54465 (by decide) (Or.inl (by decide))) (qm_gk g54466 (by decide) (Or.inr rfl)) (qm_ge _ _ _) (by omega) hI54472 hF54473 ((hk54475).trans rfl)
                        · skip
                          refine qr_lload 85 rfl g54465 rfl ?_
                          refine qr_iload 87 rfl g54467 rfl ?_
                          refine qr_callN 90 rfl rfl rfl (sf_226 (d := d + 46) hI54472 hv11 (qrg hf54217 (by decide) (by decide))) ?_
                          rintro _ _ ⟨rfl, v54480, rfl, hv54480⟩
                          show qr_W (qe L xs vb) (d + 47) qx_e229 _ (90, _, [.int (qz v54480)], qw σ54470 α54471 κ ρ, 0, 0)
                          refine qr_if_eq 155 93 rfl rfl rfl (qrg hv54480 (by decide) (by decide)) (fun h54481 => ?_) (fun h54481 => ?_)
                          · skip
                            refine qr_iinc _ 158 rfl g54467 (by decide) rfl rfl ?_
                            refine qr_goto 62 rfl rfl ?_
                            exact ih54219 _ (u54211 + 1) σ54470 α54471 (by omega) (qm_gk g54462 (by decide) (Or.inl (by decide))) (qm_gk g54463 (by decide) (Or.inl (by decide))) (qm_gk g54464 (by decide) (Or.inl (by decide))) (qm_gk g54465 (by decide) (Or.inl (by decide))) (qm_gk g54466 (by decide) (Or.inr rfl)) (qm_ge _ _ _) (by omega) hI54472 hF54473 ((hk54475).trans rfl)
                          · skip
                            refine qr_iload 95 rfl g54467 rfl ?_
                            refine qr_iload 97 rfl g54468 rfl ?_
                            refine qr_icmp_eq 149 100 rfl rfl rfl (qrg hf54217 (by decide) (by decide)) (qrg hf54476 (by decide) (by decide)) (fun h54482 => ?_) (fun h54482 => ?_)
                            · skip
                              refine qr_iinc _ 152 rfl g54468 (by decide) rfl rfl ?_
                              refine qr_goto 74 rfl rfl ?_
                              exact ih54478 _ (u54469 + 1) σ54470 α54471 (by omega) (qm_gk g54462 (by decide) (Or.inl (by decide))) (qm_gk g54463 (by decide) (Or.inl (by decide))) (qm_gk g54464 (by decide) (Or.inl (by decide))) (qm_gk g54465 (by decide) (Or.inl (by decide))) (qm_gk g54466 (by decide) (Or.inl (by decide))) (qm_gk g54467 (by decide) (Or.inr rfl)) (qm_ge _ _ _) (by omega) hI54472 hF54473 ((hk54474).trans rfl) ((hk54475).trans rfl)
                            · skip
                              refine qr_lload 102 rfl g54465 rfl ?_
                              refine qr_iload 104 rfl g54468 rfl ?_
                              refine qr_callN 107 rfl rfl rfl (sf_226 (d := d + 46) hI54472 hv11 (qrg hf54476 (by decide) (by decide))) ?_
                              rintro _ _ ⟨rfl, v54483, rfl, hv54483⟩
                              show qr_W (qe L xs vb) (d + 47) qx_e229 _ (107, _, [.int (qz v54483)], qw σ54470 α54471 κ ρ, 0, 0)
                              refine qr_if_eq 149 110 rfl rfl rfl (qrg hv54483 (by decide) (by decide)) (fun h54484 => ?_) (fun h54484 => ?_)
                              · skip
                                refine qr_iinc _ 152 rfl g54468 (by decide) rfl rfl ?_
                                refine qr_goto 74 rfl rfl ?_
                                exact ih54478 _ (u54469 + 1) σ54470 α54471 (by omega) (qm_gk g54462 (by decide) (Or.inl (by decide))) (qm_gk g54463 (by decide) (Or.inl (by decide))) (qm_gk g54464 (by decide) (Or.inl (by decide))) (qm_gk g54465 (by decide) (Or.inl (by decide))) (qm_gk g54466 (by decide) (Or.inl (by decide))) (qm_gk g54467 (by decide) (Or.inr rfl)) (qm_ge _ _ _) (by omega) hI54472 hF54473 ((hk54474).trans rfl) ((hk54475).trans rfl)
                              · skip
                                refine qr_aload_n 111 rfl g54462 rfl ?_
                                refine qr_iload 113 rfl g54467 rfl ?_
                                refine qr_iload 115 rfl g54468 rfl ?_
                                refine qr_lload 117 rfl g54465 rfl ?_
                                refine qr_iload 119 rfl g54466 rfl ?_
                                have hs54485 : 0 ≤ σ54470 86 6 ∧ σ54470 86 6 ≤ 32 := hI54472.1 86 6
                                have hs54486 : σ54470 86 6 = (σ54212 86 6) := (hk54474).trans rfl
                                refine qr_callN 122 rfl rfl rfl (sf_227_86 (d := d + 0) hI54472 (by omega) (by omega) hv11 (qrg hf50279 (by decide) (by decide)) (by omega)) ?_
                                rintro _ _ ⟨σ54488, α54489, rfl, hI54490, hG54491, v54487, rfl, hv54487⟩
                                have hF54492 : qFr [(86, 15), (86, 23), (86, 30), (86, 35), (86, 36), (86, 37), (86, 38), (86, 39)] [96, 109] σ α σ54488 α54489 := qFr_t hF54473 hG54491 (by decide) (by decide)
                                show qr_W (qe L xs vb) (d + 47) qx_e229 _ (122, _, [.int (qz v54487)], qw σ54488 α54489 κ ρ, 0, 0)
                                refine qr_if_eq 149 125 rfl rfl rfl hv54487 (fun h54493 => ?_) (fun h54493 => ?_)
                                · skip
                                  refine qr_iinc _ 152 rfl g54468 (by decide) rfl rfl ?_
                                  refine qr_goto 74 rfl rfl ?_
                                  exact ih54478 _ (u54469 + 1) σ54488 α54489 (by omega) (qm_gk g54462 (by decide) (Or.inl (by decide))) (qm_gk g54463 (by decide) (Or.inl (by decide))) (qm_gk g54464 (by decide) (Or.inl (by decide))) (qm_gk g54465 (by decide) (Or.inl (by decide))) (qm_gk g54466 (by decide) (Or.inl (by decide))) (qm_gk g54467 (by decide) (Or.inr rfl)) (qm_ge _ _ _) (by omega) hI54490 hF54492 ((hG54491.1 86 6 (by decide)).trans ((hk54474).trans rfl)) ((hG54491.1 86 10 (by decide)).trans ((hk54475).trans rfl))
                                · skip
                                  refine qr_iload 127 rfl g54464 rfl ?_
                                  refine qr_if_ne 135 130 rfl rfl rfl r3 (fun h54494 => ?_) (fun h54494 => ?_)
                                  · skip
                                    refine qr_iload 137 rfl g54464 rfl ?_
                                    refine qr_iconst 138 rfl rfl ?_
                                    refine qr_icmp_ne 146 141 rfl rfl rfl r3 (by decide) (fun h54495 => ?_) (fun h54495 => ?_)
                                    · skip
                                      refine qr_iload 148 rfl g54468 rfl ?_
                                      refine qr_retI rfl rfl (by decide) (by decide) ?_
                                      exact ⟨_, _, rfl, hI54490, hF54492, u54469, rfl, (qrg hf54476 (by decide) (by decide))⟩
                                    · skip
                                      refine qr_iload 143 rfl g54467 rfl ?_
                                      refine qr_goto 148 rfl rfl ?_
                                      refine qr_retI rfl rfl (by decide) (by decide) ?_
                                      exact ⟨_, _, rfl, hI54490, hF54492, u54211, rfl, (qrg hf54217 (by decide) (by decide))⟩
                                  · skip
                                    refine qr_iload 132 rfl g54466 rfl ?_
                                    refine qr_goto 148 rfl rfl ?_
                                    refine qr_retI rfl rfl (by decide) (by decide) ?_
                                    exact ⟨_, _, rfl, hI54490, hF54492, u50273, rfl, (qrg hf50279 (by decide) (by decide))⟩
                    exact hL54477 ((32 - 0 + 1 : Int)).toNat _ 0 σ54212 α54213 (by omega) (qm_gk g54205 (by decide) (Or.inl (by decide))) (qm_gk g54206 (by decide) (Or.inl (by decide))) (qm_gk g54207 (by decide) (Or.inl (by decide))) (qm_gk g54208 (by decide) (Or.inl (by decide))) (qm_gk g54209 (by decide) (Or.inl (by decide))) (qm_gk g54210 (by decide) (Or.inr rfl)) (qm_ge _ _ _) (by decide) hI54214 hF54215 (rfl) ((hk54216).trans rfl)
              exact hL54218 ((32 - 0 + 1 : Int)).toNat _ 0 σ50274 α50275 (by omega) (qm_gk g50268 (by decide) (Or.inl (by decide))) (qm_gk g50269 (by decide) (Or.inl (by decide))) (qm_gk g50270 (by decide) (Or.inl (by decide))) (qm_gk g50271 (by decide) (Or.inl (by decide))) (qm_gk g50272 (by decide) (Or.inr rfl)) (qm_ge _ _ _) (by decide) hI50276 hF50277 ((hk50278).trans rfl)
        exact hL50281 ((10000 - (x2 / 10000) + 1 : Int)).toNat _ (x2 / 10000) σ α (by omega) rfl rfl rfl rfl rfl (by omega) hI hF0 (rfl) (by omega)
      · skip
        refine qr_iconst 29 rfl rfl ?_
        refine qr_retI rfl rfl (by decide) (by decide) ?_
        exact ⟨_, _, rfl, hI, hF0, (-1), rfl, (by decide)⟩
end
section
theorem qz_and_m {c : Int} (h : 0 ≤ c ∧ c ≤ 2147483647) : qz_and c 65535 = c % 65536 := by
  have h1 : qlz (qz_and c 65535) = qlz c &&& qlz 65535 := qlz_and rfl
  rw [show qlz 65535 = 2 ^ 16 - 1 by decide +kernel, Nat.and_two_pow_sub_one_eq_mod] at h1
  have h2 := qlz_nn h
  have h3 := qz_andL 65535 h
  have h4 := qlz_nn (a := qz_and c 65535) (by omega)
  omega
section QWS
variable {C N : Nat → Int} {z i : Int} {s : Nat → Int} {p : Int}
theorem qws_num {a : Int} {k : Nat} (h : i < z) (hc : C i.toNat / 65536 = 48) (hp : p < 120) (ha : a = C i.toNat % 65536) (hk : k = p.toNat) : qwv C N z i s p = qwv C N z (i + 1) (qzu s k a) (p + 1) := by
  rw [qwv_s C N s p h, if_pos (Or.inl hc), if_neg (by omega), if_pos hc, ha, hk]
theorem qws_nam {a : Int} {k : Nat} (h : i < z) (hc : C i.toNat / 65536 = 97) (hp : p < 120) (hm : C i.toNat % 65536 < 9) (ha : a = N (C i.toNat % 65536).toNat) (hk : k = p.toNat) : qwv C N z i s p = qwv C N z (i + 1) (qzu s k a) (p + 1) := by
  rw [qwv_s C N s p h, if_pos (Or.inr hc), if_neg (by omega), if_neg (by omega), if_pos hm, ha, hk]
theorem qws_nam9 {a : Int} {k : Nat} (h : i < z) (hc : C i.toNat / 65536 = 97) (hp : p < 120) (hm : 9 ≤ C i.toNat % 65536) (ha : a = 0) (hk : k = p.toNat) : qwv C N z i s p = qwv C N z (i + 1) (qzu s k a) (p + 1) := by
  rw [qwv_s C N s p h, if_pos (Or.inr hc), if_neg (by omega), if_neg (by omega), if_neg (by omega), ha, hk]
theorem qws_ful (h : i < z) (hc : C i.toNat / 65536 = 48 ∨ C i.toNat / 65536 = 97) (hp : 120 ≤ p) : qwv C N z i s p = 0 := by
  rw [qwv_s C N s p h, if_pos hc, if_pos hp]
theorem qws_emp (h : i < z) (hc : ¬ C i.toNat / 65536 = 48 ∧ ¬ C i.toNat / 65536 = 97) (hp : p < 1) : qwv C N z i s p = 0 := by
  rw [qwv_s C N s p h, if_neg (by omega), if_pos hp]
theorem qws_end (h : i < z) (hc : C i.toNat / 65536 = 59) (hp : 1 ≤ p) : qwv C N z i s p = s (p - 1).toNat := by
  rw [qwv_s C N s p h, if_neg (by omega), if_neg (by omega), if_pos hc]
theorem qws_if {j : Int} (h : i < z) (hc : C i.toNat / 65536 = 63) (hp : 1 ≤ p) (hj : (s (p - 1).toNat = 0 ∧ ((i + 1 ≤ C i.toNat % 65536 ∧ j = C i.toNat % 65536) ∨ (C i.toNat % 65536 ≤ i + 1 ∧ j = i + 1))) ∨ (¬ s (p - 1).toNat = 0 ∧ j = i + 1)) : qwv C N z i s p = qwv C N z j s (p - 1) := by
  rw [qwv_s C N s p h, if_neg (by omega), if_neg (by omega), if_neg (by omega), if_pos hc]
  have e : (if s (p - 1).toNat = 0 ∧ i + 1 ≤ C i.toNat % 65536 then C i.toNat % 65536 else i + 1) = j := by
    split <;> omega
  rw [e]
theorem qws_not {a : Int} {k : Nat} (h : i < z) (hc : C i.toNat / 65536 = 33) (hp : 1 ≤ p) (ha : (s (p - 1).toNat = 0 ∧ a = 1) ∨ (¬ s (p - 1).toNat = 0 ∧ a = 0)) (hk : k = (p - 1).toNat) : qwv C N z i s p = qwv C N z (i + 1) (qzu s k a) p := by
  rw [qwv_s C N s p h, if_neg (by omega), if_neg (by omega), if_neg (by omega), if_neg (by omega), if_pos hc]
  have e : (if s (p - 1).toNat = 0 then (1 : Int) else 0) = a := by split <;> omega
  rw [e, hk]
theorem qws_neg {a : Int} {k : Nat} (h : i < z) (hc : C i.toNat / 65536 = 126) (hp : 1 ≤ p) (ha : a = (qz (-(s (p - 1).toNat))).toInt) (hk : k = (p - 1).toNat) : qwv C N z i s p = qwv C N z (i + 1) (qzu s k a) p := by
  rw [qwv_s C N s p h, if_neg (by omega), if_neg (by omega), if_neg (by omega), if_neg (by omega), if_neg (by omega), if_pos hc, ha, hk]
theorem qws_two (h : i < z) (hc : ¬ C i.toNat / 65536 = 48 ∧ ¬ C i.toNat / 65536 = 97 ∧ ¬ C i.toNat / 65536 = 59 ∧ ¬ C i.toNat / 65536 = 63 ∧ ¬ C i.toNat / 65536 = 33 ∧ ¬ C i.toNat / 65536 = 126) (hp : 1 ≤ p ∧ p < 2) : qwv C N z i s p = 0 := by
  rw [qwv_s C N s p h, if_neg (by omega), if_neg (by omega), if_neg (by omega), if_neg (by omega), if_neg (by omega), if_neg (by omega), if_pos (by omega)]
theorem qws_bin {a : Int} {k : Nat} (h : i < z) (hc : ¬ C i.toNat / 65536 = 48 ∧ ¬ C i.toNat / 65536 = 97 ∧ ¬ C i.toNat / 65536 = 59 ∧ ¬ C i.toNat / 65536 = 63 ∧ ¬ C i.toNat / 65536 = 33 ∧ ¬ C i.toNat / 65536 = 126) (hp : 2 ≤ p) (ha : a = qtx_ap (C i.toNat / 65536) (s (p - 2).toNat) (s (p - 1).toNat)) (hk : k = (p - 2).toNat) : qwv C N z i s p = qwv C N z (i + 1) (qzu s k a) (p - 1) := by
  rw [qwv_s C N s p h, if_neg (by omega), if_neg (by omega), if_neg (by omega), if_neg (by omega), if_neg (by omega), if_neg (by omega), if_neg (by omega), ha, hk]
end QWS
theorem qap_def {c x y : Int} (h : ¬ c = 124 ∧ ¬ c = 38 ∧ ¬ c = 60 ∧ ¬ c = 61 ∧ ¬ c = 62 ∧ ¬ c = 43 ∧ ¬ c = 45 ∧ ¬ c = 42 ∧ ¬ c = 47 ∧ ¬ c = 37) : 0 = qtx_ap c x y := by
  unfold qtx_ap
  rw [if_neg h.1, if_neg h.2.1, if_neg h.2.2.1, if_neg h.2.2.2.1, if_neg h.2.2.2.2.1, if_neg h.2.2.2.2.2.1, if_neg h.2.2.2.2.2.2.1, if_neg h.2.2.2.2.2.2.2.1, if_neg h.2.2.2.2.2.2.2.2.1, if_neg h.2.2.2.2.2.2.2.2.2]
  split <;> rfl

set_option maxHeartbeats 4000000 in
set_option maxRecDepth 20000 in
/-- OneRoof$Custom.joined -/
theorem sf_98x {L : Nat} {xs : Nat → Int} {vb : Bool} {d : Nat} {σ α : Nat → Nat → Int} {κ : Nat → Option Nat} {ρ : Nat} {x0 : Int} {x1 : Int} {x2 : Int} (hI : qI σ α κ ρ) (r0 : (-2147483648) ≤ x0 ∧ x0 ≤ 2147483647) (r1 : (-2147483648) ≤ x1 ∧ x1 ≤ 2147483647) (r2 : (-2147483648) ≤ x2 ∧ x2 ≤ 2147483647) : qm_T (qe L xs vb) (d + 1) 98 [.int (qz x0), .int (qz x1), .int (qz x2)] (qw σ α κ ρ) (fun r w' => w' = qw σ α κ ρ ∧ ∃ v : Int, r = some (.int (qz v)) ∧ ((-2147483648) ≤ v ∧ v ≤ 2147483647) ∧ v = qtx_ap x0 x1 x2) := by
  refine qr_start (d := d + 0) qv_e98 (Nat.le_of_ble_eq_true rfl) ?_
  show qr_W (qe L xs vb) (d + 0) qx_e98 _ (0, [(0, .int (qz x0)), (1, .int (qz x1)), (2, .int (qz x2))], [], _, 0, 0)
  refine qr_iload_n 1 rfl rfl rfl ?_
  have h1 : x0 = 37 ∨ x0 = 38 ∨ x0 = 42 ∨ x0 = 43 ∨ x0 = 45 ∨ x0 = 47 ∨ x0 = 60 ∨ x0 = 61 ∨ x0 = 62 ∨ x0 = 124 ∨ (¬ x0 = 37 ∧ ¬ x0 = 38 ∧ ¬ x0 = 42 ∧ ¬ x0 = 43 ∧ ¬ x0 = 45 ∧ ¬ x0 = 47 ∧ ¬ x0 = 60 ∧ ¬ x0 = 61 ∧ ¬ x0 = 62 ∧ ¬ x0 = 124) := by omega
  rcases h1 with h1 | h1 | h1 | h1 | h1 | h1 | h1 | h1 | h1 | h1 | h1
  · skip
    refine qr_look (off := 176) 177 rfl (by omega) (by decide) (by rw [h1]; decide) rfl ?_
    refine qr_iload_n 178 rfl rfl rfl ?_
    refine qr_if_ne 185 181 rfl rfl rfl r2 (fun h3 => ?_) (fun h3 => ?_)
    · skip
      refine qr_iload_n 186 rfl rfl rfl ?_
      refine qr_iload_n 187 rfl rfl rfl ?_
      refine qr_iremW 188 rfl (by omega) rfl ?_
      refine qy_canE (fun v4 hv4 hev4 => ?_)
      refine qr_retI rfl rfl (by decide) (by decide) ?_
      exact ⟨rfl, v4, rfl, hv4, (qap_rem (by omega) (by omega) hev4 (by omega))⟩
    · skip
      refine qr_iconst 182 rfl rfl ?_
      refine qr_goto 188 rfl rfl ?_
      refine qr_retI rfl rfl (by decide) (by decide) ?_
      exact ⟨rfl, 0, rfl, (by decide), (qap_z (by omega) (by omega))⟩
  · skip
    refine qr_look (off := 105) 106 rfl (by omega) (by decide) (by rw [h1]; decide) rfl ?_
    refine qr_iload_n 107 rfl rfl rfl ?_
    refine qr_if_eq 118 110 rfl rfl rfl r1 (fun h5 => ?_) (fun h5 => ?_)
    · skip
      refine qr_iconst 119 rfl rfl ?_
      refine qr_retI rfl rfl (by decide) (by decide) ?_
      exact ⟨rfl, 0, rfl, (by decide), (qap_and (by omega) (by omega))⟩
    · skip
      refine qr_iload_n 111 rfl rfl rfl ?_
      refine qr_if_eq 118 114 rfl rfl rfl r2 (fun h6 => ?_) (fun h6 => ?_)
      · skip
        refine qr_iconst 119 rfl rfl ?_
        refine qr_retI rfl rfl (by decide) (by decide) ?_
        exact ⟨rfl, 0, rfl, (by decide), (qap_and (by omega) (by omega))⟩
      · skip
        refine qr_iconst 115 rfl rfl ?_
        refine qr_goto 119 rfl rfl ?_
        refine qr_retI rfl rfl (by decide) (by decide) ?_
        exact ⟨rfl, 1, rfl, (by decide), (qap_and (by omega) (by omega))⟩
  · skip
    refine qr_look (off := 160) 161 rfl (by omega) (by decide) (by rw [h1]; decide) rfl ?_
    refine qr_iload_n 162 rfl rfl rfl ?_
    refine qr_iload_n 163 rfl rfl rfl ?_
    refine qr_imul 164 rfl rfl ?_
    refine qy_canE (fun v7 hv7 hev7 => ?_)
    refine qr_retI rfl rfl (by decide) (by decide) ?_
    exact ⟨rfl, v7, rfl, hv7, (qap_mul (by omega) hev7 (by omega))⟩
  · skip
    refine qr_look (off := 152) 153 rfl (by omega) (by decide) (by rw [h1]; decide) rfl ?_
    refine qr_iload_n 154 rfl rfl rfl ?_
    refine qr_iload_n 155 rfl rfl rfl ?_
    refine qr_iadd 156 rfl rfl ?_
    refine qy_canE (fun v8 hv8 hev8 => ?_)
    refine qr_retI rfl rfl (by decide) (by decide) ?_
    exact ⟨rfl, v8, rfl, hv8, (qap_add (by omega) hev8 (by omega))⟩
  · skip
    refine qr_look (off := 156) 157 rfl (by omega) (by decide) (by rw [h1]; decide) rfl ?_
    refine qr_iload_n 158 rfl rfl rfl ?_
    refine qr_iload_n 159 rfl rfl rfl ?_
    refine qr_isub 160 rfl rfl ?_
    refine qy_canE (fun v9 hv9 hev9 => ?_)
    refine qr_retI rfl rfl (by decide) (by decide) ?_
    exact ⟨rfl, v9, rfl, hv9, (qap_sub (by omega) hev9 (by omega))⟩
  · skip
    refine qr_look (off := 164) 165 rfl (by omega) (by decide) (by rw [h1]; decide) rfl ?_
    refine qr_iload_n 166 rfl rfl rfl ?_
    refine qr_if_ne 173 169 rfl rfl rfl r2 (fun h10 => ?_) (fun h10 => ?_)
    · skip
      refine qr_iload_n 174 rfl rfl rfl ?_
      refine qr_iload_n 175 rfl rfl rfl ?_
      refine qr_idivW 176 rfl (by omega) rfl ?_
      refine qy_canE (fun v11 hv11 hev11 => ?_)
      refine qr_retI rfl rfl (by decide) (by decide) ?_
      exact ⟨rfl, v11, rfl, hv11, (qap_div (by omega) (by omega) hev11 (by omega))⟩
    · skip
      refine qr_iconst 170 rfl rfl ?_
      refine qr_goto 176 rfl rfl ?_
      refine qr_retI rfl rfl (by decide) (by decide) ?_
      exact ⟨rfl, 0, rfl, (by decide), (qap_z (by omega) (by omega))⟩
  · skip
    refine qr_look (off := 119) 120 rfl (by omega) (by decide) (by rw [h1]; decide) rfl ?_
    refine qr_iload_n 121 rfl rfl rfl ?_
    refine qr_iload_n 122 rfl rfl rfl ?_
    refine qr_icmp_ge 129 125 rfl rfl rfl r1 r2 (fun h12 => ?_) (fun h12 => ?_)
    · skip
      refine qr_iconst 130 rfl rfl ?_
      refine qr_retI rfl rfl (by decide) (by decide) ?_
      exact ⟨rfl, 0, rfl, (by decide), (qap_cmp (by omega))⟩
    · skip
      refine qr_iconst 126 rfl rfl ?_
      refine qr_goto 130 rfl rfl ?_
      refine qr_retI rfl rfl (by decide) (by decide) ?_
      exact ⟨rfl, 1, rfl, (by decide), (qap_cmp (by omega))⟩
  · skip
    refine qr_look (off := 130) 131 rfl (by omega) (by decide) (by rw [h1]; decide) rfl ?_
    refine qr_iload_n 132 rfl rfl rfl ?_
    refine qr_iload_n 133 rfl rfl rfl ?_
    refine qr_icmp_ne 140 136 rfl rfl rfl r1 r2 (fun h13 => ?_) (fun h13 => ?_)
    · skip
      refine qr_iconst 141 rfl rfl ?_
      refine qr_retI rfl rfl (by decide) (by decide) ?_
      exact ⟨rfl, 0, rfl, (by decide), (qap_cmp (by omega))⟩
    · skip
      refine qr_iconst 137 rfl rfl ?_
      refine qr_goto 141 rfl rfl ?_
      refine qr_retI rfl rfl (by decide) (by decide) ?_
      exact ⟨rfl, 1, rfl, (by decide), (qap_cmp (by omega))⟩
  · skip
    refine qr_look (off := 141) 142 rfl (by omega) (by decide) (by rw [h1]; decide) rfl ?_
    refine qr_iload_n 143 rfl rfl rfl ?_
    refine qr_iload_n 144 rfl rfl rfl ?_
    refine qr_icmp_le 151 147 rfl rfl rfl r1 r2 (fun h14 => ?_) (fun h14 => ?_)
    · skip
      refine qr_iconst 152 rfl rfl ?_
      refine qr_retI rfl rfl (by decide) (by decide) ?_
      exact ⟨rfl, 0, rfl, (by decide), (qap_cmp (by omega))⟩
    · skip
      refine qr_iconst 148 rfl rfl ?_
      refine qr_goto 152 rfl rfl ?_
      refine qr_retI rfl rfl (by decide) (by decide) ?_
      exact ⟨rfl, 1, rfl, (by decide), (qap_cmp (by omega))⟩
  · skip
    refine qr_look (off := 91) 92 rfl (by omega) (by decide) (by rw [h1]; decide) rfl ?_
    refine qr_iload_n 93 rfl rfl rfl ?_
    refine qr_if_ne 100 96 rfl rfl rfl r1 (fun h15 => ?_) (fun h15 => ?_)
    · skip
      refine qr_iconst 101 rfl rfl ?_
      refine qr_goto 105 rfl rfl ?_
      refine qr_retI rfl rfl (by decide) (by decide) ?_
      exact ⟨rfl, 1, rfl, (by decide), (qap_or (by omega) (by omega))⟩
    · skip
      refine qr_iload_n 97 rfl rfl rfl ?_
      refine qr_if_eq 104 100 rfl rfl rfl r2 (fun h16 => ?_) (fun h16 => ?_)
      · skip
        refine qr_iconst 105 rfl rfl ?_
        refine qr_retI rfl rfl (by decide) (by decide) ?_
        exact ⟨rfl, 0, rfl, (by decide), (qap_or (by omega) (by omega))⟩
      · skip
        refine qr_iconst 101 rfl rfl ?_
        refine qr_goto 105 rfl rfl ?_
        refine qr_retI rfl rfl (by decide) (by decide) ?_
        exact ⟨rfl, 1, rfl, (by decide), (qap_or (by omega) (by omega))⟩
  · skip
    refine qr_look (off := 188) 189 rfl (by omega) (by decide) (by simp only [Op.lookupswitch.offset_cons, Op.lookupswitch.offset_nil]; repeat' split; all_goals omega) rfl ?_
    refine qr_iconst 190 rfl rfl ?_
    refine qr_retI rfl rfl (by decide) (by decide) ?_
    exact ⟨rfl, 0, rfl, (by decide), (qap_def (by omega))⟩

set_option maxHeartbeats 4000000 in
set_option maxRecDepth 20000 in
/-- OneRoof$Custom.worth -/
theorem sf_97_50_59x {L : Nat} {xs : Nat → Int} {vb : Bool} {d : Nat} {σ α : Nat → Nat → Int} {κ : Nat → Option Nat} {ρ : Nat}  (hI : qI σ α κ ρ) (p0 : ∀ k : Int, 0 ≤ k → k < σ 50 5 → 0 ≤ α 52 k.toNat ∧ α 52 k.toNat < 8388608) : qm_T (qe L xs vb) (d + 2) 97 [.ref 50, .ref 59] (qw σ α κ ρ) (fun r w' => ∃ α', w' = qw σ α' κ ρ ∧ qI σ α' κ ρ ∧ qFr [] [53] σ α σ α' ∧ ∃ v : Int, r = some (.int (qz v)) ∧ ((-2147483648) ≤ v ∧ v ≤ 2147483647) ∧ v = qwv (α 52) (α 59) (σ 50 5) 0 (α 53) 0) := by
  refine qr_start (d := d + 1) qv_e97 (Nat.le_of_ble_eq_true rfl) ?_
  show qr_W (qe L xs vb) (d + 1) qx_e97 _ (0, [(0, .ref 50), (1, .ref 59)], [], _, 0, 0)
  have hF0 := qFr_rf [] [53] σ α
  have hz50_5 : 0 ≤ σ 50 5 ∧ σ 50 5 ≤ 122 := hI.1 50 5
  refine qr_iconst 1 rfl rfl ?_
  refine qr_istore_n _ 2 rfl (by decide) rfl rfl ?_
  refine qr_iconst 3 rfl rfl ?_
  refine qr_istore_n _ 4 rfl (by decide) rfl rfl ?_
  have hL1533 : ∀ (n : Nat) (ls : qm_L) (u1521 u1523 : Int) (α1525 : Nat → Nat → Int), 65536 - u1523 < (n : Int) → qm_get ls 0 = some (.ref 50) → qm_get ls 1 = some (.ref 59) → qm_get ls 2 = some (.int (qz u1521)) → qm_get ls 3 = some (.int (qz u1523)) → (0 ≤ u1521 ∧ u1521 ≤ 120) → (0 ≤ u1523 ∧ u1523 ≤ 65535) → qI σ α1525 κ ρ → qFr [] [53] σ α σ α1525 → α1525 52 = (α 52) → α1525 59 = (α 59) → qwv (α 52) (α 59) (σ 50 5) 0 (α 53) 0 = qwv (α 52) (α 59) (σ 50 5) u1523 (α1525 53) u1521 → qr_W (qe L xs vb) (d + 1) qx_e97 (fun r w' => ∃ α', w' = qw σ α' κ ρ ∧ qI σ α' κ ρ ∧ qFr [] [53] σ α σ α' ∧ ∃ v : Int, r = some (.int (qz v)) ∧ ((-2147483648) ≤ v ∧ v ≤ 2147483647) ∧ v = qwv (α 52) (α 59) (σ 50 5) 0 (α 53) 0) (4, ls, [], qw σ α1525 κ ρ, 0, 0) := by
    intro n
    induction n with
    | zero => intro ls u1521 u1523 α1525 hm g1518 g1519 g1520 g1522 hf1530 hf1531 hI1526 hF1527 hk1528 hk1529 hx1532; exact False.elim (by omega)
    | succ n ih1534 =>
      intro ls u1521 u1523 α1525 hm g1518 g1519 g1520 g1522 hf1530 hf1531 hI1526 hF1527 hk1528 hk1529 hx1532
      refine qr_iload_n 5 rfl g1522 rfl ?_
      refine qr_aload_n 6 rfl g1518 rfl ?_
      refine qr_get 9 rfl rfl rfl (by decide) rfl ?_
      refine qr_icmp_ge 240 12 rfl rfl rfl (qrg hf1531 (by decide) (by decide)) (qrg hz50_5 (by decide) (by decide)) (fun h1535 => ?_) (fun h1535 => ?_)
      · skip
        refine qr_iconst 241 rfl rfl ?_
        refine qr_retI rfl rfl (by decide) (by decide) ?_
        exact ⟨_, rfl, hI1526, hF1527, 0, rfl, (by decide), (by rw [hx1532, qwv_end (by omega)])⟩
      · skip
        refine qr_aload_n 13 rfl g1518 rfl ?_
        refine qr_get 16 rfl rfl rfl (by decide) rfl ?_
        refine qr_iload_n 17 rfl g1522 rfl ?_
        refine qr_iaload 18 rfl rfl (by omega) (by decide) rfl ?_
        refine qr_topI (fun v1536 hv1536 => ?_)
        have hs1537 : (-2147483648) ≤ v1536 ∧ v1536 ≤ 2147483647 := by rw [hv1536]; exact hI1526.2.1 52 _ (show _ < 122 by omega)
        have hrv1536 : v1536 = (α 52) (u1523 : Int).toNat := hv1536.trans (congrFun hk1528 _)
        have hcv1536 := p0 u1523 (by omega) (by omega)
        rw [← hrv1536] at hcv1536
        refine qr_bipush 20 rfl (by decide) rfl ?_
        refine qr_iushr 21 rfl rfl ?_
        refine qy_v (v1536 / 65536) (qz_ushr16 (by omega)) ?_
        refine qr_istore _ 23 rfl (by decide) rfl rfl ?_
        refine qr_aload_n 24 rfl (qm_gk g1518 (by decide) (Or.inl (by decide))) rfl ?_
        refine qr_get 27 rfl rfl rfl (by decide) rfl ?_
        refine qr_iload_n 28 rfl (qm_gk g1522 (by decide) (Or.inr rfl)) rfl ?_
        refine qr_iaload 29 rfl rfl (by omega) (by decide) rfl ?_
        refine qr_topI (fun v1538 hv1538 => ?_)
        have hs1539 : (-2147483648) ≤ v1538 ∧ v1538 ≤ 2147483647 := by rw [hv1538]; exact hI1526.2.1 52 _ (show _ < 122 by omega)
        have hrv1538 : v1538 = (α 52) (u1523 : Int).toNat := hv1538.trans (congrFun hk1528 _)
        have hdv1538 : v1538 = v1536 := hrv1538.trans hrv1536.symm
        refine qr_ldc 65535 31 rfl (by decide) rfl ?_
        refine qr_iand 32 rfl rfl ?_
        refine qy_andrE (by omega) (fun v1540 hv1540 hev1540 => ?_)
        refine qr_istore _ 34 rfl (by decide) rfl rfl ?_
        rw [qz_and_m (by omega)] at hev1540
        refine qr_iload 36 rfl (qm_gk (qm_ge _ _ _) (by decide) (Or.inr rfl)) rfl ?_
        refine qr_bipush 38 rfl (by decide) rfl ?_
        refine qr_icmp_eq 48 41 rfl rfl rfl (by omega) (by decide) (fun h1541 => ?_) (fun h1541 => ?_)
        · skip
          refine qr_iload_n 49 rfl (qm_gk (qm_gk g1520 (by decide) (Or.inl (by decide))) (by decide) (Or.inl (by decide))) rfl ?_
          refine qr_aload_n 50 rfl (qm_gk (qm_gk g1518 (by decide) (Or.inl (by decide))) (by decide) (Or.inl (by decide))) rfl ?_
          refine qr_get 53 rfl rfl rfl (by decide) rfl ?_
          refine qr_alen 54 rfl rfl (by first | exact Or.inl (by decide) | exact Or.inr (Or.inl rfl) | exact Or.inr (Or.inr (Or.inl rfl)) | exact Or.inr (Or.inr (Or.inr (Or.inl rfl)))) rfl ?_
          refine qy_v 120 rfl ?_
          refine qr_icmp_lt 59 57 rfl rfl rfl (qrg hf1530 (by decide) (by decide)) (by decide) (fun h1542 => ?_) (fun h1542 => ?_)
          · skip
            refine qr_aload_n 60 rfl (qm_gk (qm_gk g1518 (by decide) (Or.inl (by decide))) (by decide) (Or.inl (by decide))) rfl ?_
            refine qr_get 63 rfl rfl rfl (by decide) rfl ?_
            refine qr_iload_n 64 rfl (qm_gk (qm_gk g1520 (by decide) (Or.inl (by decide))) (by decide) (Or.inl (by decide))) rfl ?_
            refine qr_iinc _ 67 rfl (qm_gk (qm_gk g1520 (by decide) (Or.inl (by decide))) (by decide) (Or.inl (by decide))) (by decide) rfl rfl ?_
            refine qr_iload 69 rfl (qm_gk (qm_gk (qm_ge _ _ _) (by decide) (Or.inr rfl)) (by decide) (Or.inl (by decide))) rfl ?_
            refine qr_bipush 71 rfl (by decide) rfl ?_
            refine qr_icmp_ne 79 74 rfl rfl rfl (by omega) (by decide) (fun h => False.elim (by omega)) (fun h1543 => ?_)
            refine qr_iload 76 rfl (qm_gk (qm_ge _ _ _) (by decide) (Or.inl (by decide))) rfl ?_
            refine qr_goto 94 rfl rfl ?_
            refine qr_iastore 95 rfl (by decide) rfl (by omega) (by decide) rfl ?_
            refine qy_wA (qw_r α1525 53 (qzu (α1525 53) (u1521 : Int).toNat v1540)) rfl (fun α1544 e1545 => ?_)
            have hI1546 : qI σ α1544 κ ρ := by rw [e1545]; exact qI_r hI1526 53 _ rfl (show (-2147483648) ≤ v1540 ∧ v1540 ≤ 2147483647 by omega)
            have hF1547 : qFr [] [53] σ α σ α1544 := by rw [e1545]; exact qFr_r hF1527 53 _ (by decide)
            refine qr_goto 234 rfl rfl ?_
            refine qr_iinc _ 237 rfl (qm_gk (qm_gk (qm_gk g1522 (by decide) (Or.inr rfl)) (by decide) (Or.inl (by decide))) (by decide) (Or.inl (by decide))) (by decide) rfl rfl ?_
            refine qr_goto 4 rfl rfl ?_
            exact ih1534 _ (u1521 + 1) (u1523 + 1) α1544 (by omega) (qm_gk (qm_gk (qm_gk (qm_gk g1518 (by decide) (Or.inl (by decide))) (by decide) (Or.inl (by decide))) (by decide) (Or.inl (by decide))) (by decide) (Or.inl (by decide))) (qm_gk (qm_gk (qm_gk (qm_gk g1519 (by decide) (Or.inl (by decide))) (by decide) (Or.inl (by decide))) (by decide) (Or.inr rfl)) (by decide) (Or.inl (by decide))) (qm_gk (qm_ge _ _ _) (by decide) (Or.inr rfl)) (qm_ge _ _ _) (by omega) (by omega) hI1546 hF1547 ((congrFun e1545 52).trans ((qw_r_ne (by decide)).trans hk1528)) ((congrFun e1545 59).trans ((qw_r_ne (by decide)).trans hk1529)) (by rw [(congrFun e1545 53).trans qw_r_eq]; exact hx1532.trans (qws_num (by omega) (by rw [← hrv1536]; omega) (by omega) (by rw [← hrv1536]; omega) rfl))
          · skip
            refine qr_iconst 58 rfl rfl ?_
            refine qr_retI rfl rfl (by decide) (by decide) ?_
            exact ⟨_, rfl, hI1526, hF1527, 0, rfl, (by decide), (by rw [hx1532, (qws_ful (by omega) (by rw [← hrv1536]; omega) (by omega))])⟩
        · skip
          refine qr_iload 43 rfl (qm_gk (qm_ge _ _ _) (by decide) (Or.inr rfl)) rfl ?_
          refine qr_bipush 45 rfl (by decide) rfl ?_
          refine qr_icmp_ne 98 48 rfl rfl rfl (by omega) (by decide) (fun h1548 => ?_) (fun h1548 => ?_)
          · skip
            refine qr_iload_n 99 rfl (qm_gk (qm_gk g1520 (by decide) (Or.inl (by decide))) (by decide) (Or.inl (by decide))) rfl ?_
            refine qr_iconst 100 rfl rfl ?_
            refine qr_icmp_ge 105 103 rfl rfl rfl (qrg hf1530 (by decide) (by decide)) (by decide) (fun h1549 => ?_) (fun h1549 => ?_)
            · skip
              refine qr_aload_n 106 rfl (qm_gk (qm_gk g1518 (by decide) (Or.inl (by decide))) (by decide) (Or.inl (by decide))) rfl ?_
              refine qr_get 109 rfl rfl rfl (by decide) rfl ?_
              refine qr_iload_n 110 rfl (qm_gk (qm_gk g1520 (by decide) (Or.inl (by decide))) (by decide) (Or.inl (by decide))) rfl ?_
              refine qr_iconst 111 rfl rfl ?_
              refine qr_isub 112 rfl rfl ?_
              refine qr_iaload 113 rfl rfl (by omega) (by decide) rfl ?_
              refine qr_topI (fun v1550 hv1550 => ?_)
              have hs1551 : (-2147483648) ≤ v1550 ∧ v1550 ≤ 2147483647 := by rw [hv1550]; exact hI1526.2.1 53 _ (show _ < 120 by omega)
              refine qr_istore _ 115 rfl (by decide) rfl rfl ?_
              refine qr_iload 117 rfl (qm_gk (qm_gk (qm_ge _ _ _) (by decide) (Or.inr rfl)) (by decide) (Or.inl (by decide))) rfl ?_
              refine qr_bipush 119 rfl (by decide) rfl ?_
              refine qr_icmp_ne 125 122 rfl rfl rfl (by omega) (by decide) (fun h1552 => ?_) (fun h1552 => ?_)
              · skip
                refine qr_iload 127 rfl (qm_gk (qm_gk (qm_ge _ _ _) (by decide) (Or.inr rfl)) (by decide) (Or.inl (by decide))) rfl ?_
                refine qr_bipush 129 rfl (by decide) rfl ?_
                refine qr_icmp_ne 152 132 rfl rfl rfl (by omega) (by decide) (fun h1553 => ?_) (fun h1553 => ?_)
                · skip
                  refine qr_iload 154 rfl (qm_gk (qm_gk (qm_ge _ _ _) (by decide) (Or.inr rfl)) (by decide) (Or.inl (by decide))) rfl ?_
                  refine qr_bipush 156 rfl (by decide) rfl ?_
                  refine qr_icmp_ne 180 159 rfl rfl rfl (by omega) (by decide) (fun h1554 => ?_) (fun h1554 => ?_)
                  · skip
                    refine qr_iload 182 rfl (qm_gk (qm_gk (qm_ge _ _ _) (by decide) (Or.inr rfl)) (by decide) (Or.inl (by decide))) rfl ?_
                    refine qr_bipush 184 rfl (by decide) rfl ?_
                    refine qr_icmp_ne 201 187 rfl rfl rfl (by omega) (by decide) (fun h1555 => ?_) (fun h1555 => ?_)
                    · skip
                      refine qr_iload_n 202 rfl (qm_gk (qm_gk (qm_gk g1520 (by decide) (Or.inl (by decide))) (by decide) (Or.inl (by decide))) (by decide) (Or.inl (by decide))) rfl ?_
                      refine qr_iconst 203 rfl rfl ?_
                      refine qr_icmp_ge 208 206 rfl rfl rfl (qrg hf1530 (by decide) (by decide)) (by decide) (fun h1556 => ?_) (fun h1556 => ?_)
                      · skip
                        refine qr_iinc _ 211 rfl (qm_gk (qm_gk (qm_gk g1520 (by decide) (Or.inl (by decide))) (by decide) (Or.inl (by decide))) (by decide) (Or.inl (by decide))) (by decide) rfl rfl ?_
                        as_aux_lemma =>
                          refine qr_aload_n 212 rfl (qm_gk (qm_gk (qm_gk (qm_gk g1518 (by decide) (Or.inl (by decide))) (by decide) (Or.inl (by decide))) (by decide) (Or.inl (by decide))) (by decide) (Or.inl (by decide))) rfl ?_
                          refine qr_get 215 rfl rfl rfl (by decide) rfl ?_
                          refine qr_iload_n 216 rfl (qm_ge _ _ _) rfl ?_
                          refine qr_iconst 217 rfl rfl ?_
                          refine qr_isub 218 rfl rfl ?_
                          refine qr_iload 220 rfl (qm_gk (qm_gk (qm_gk (qm_ge _ _ _) (by decide) (Or.inr rfl)) (by decide) (Or.inl (by decide))) (by decide) (Or.inl (by decide))) rfl ?_
                          refine qr_aload_n 221 rfl (qm_gk (qm_gk (qm_gk (qm_gk g1518 (by decide) (Or.inl (by decide))) (by decide) (Or.inl (by decide))) (by decide) (Or.inl (by decide))) (by decide) (Or.inl (by decide))) rfl ?_
                          refine qr_get 224 rfl rfl rfl (by decide) rfl ?_
                          refine qr_iload_n 225 rfl (qm_ge _ _ _) rfl ?_
                          refine qr_iconst 226 rfl rfl ?_
                          refine qr_isub 227 rfl rfl ?_
                          refine qr_iaload 228 rfl rfl (by omega) (by decide) rfl ?_
                          refine qr_topI (fun v1557 hv1557 => ?_)
                          have hs1558 : (-2147483648) ≤ v1557 ∧ v1557 ≤ 2147483647 := by rw [hv1557]; exact hI1526.2.1 53 _ (show _ < 120 by omega)
                          refine qr_iload 230 rfl (qm_gk (qm_ge _ _ _) (by decide) (Or.inl (by decide))) rfl ?_
                          refine qr_callN 233 rfl rfl rfl (sf_98x (d := d + 0) hI1526 (by omega) hs1558 hs1551) ?_
                          rintro _ _ ⟨rfl, v1559, rfl, hv1559, hx1560⟩
                          show qr_W (qe L xs vb) (d + 1) qx_e97 _ (233, _, [.int (qz v1559), .int (qz ((u1521 + (-1)) - 1)), .ref 53], qw σ α1525 κ ρ, 0, 0)
                          refine qr_iastore 234 rfl (by decide) rfl (by omega) (by decide) rfl ?_
                          refine qy_wA (qw_r α1525 53 (qzu (α1525 53) (((u1521 + (-1)) - 1) : Int).toNat v1559)) rfl (fun α1561 e1562 => ?_)
                          have hI1563 : qI σ α1561 κ ρ := by rw [e1562]; exact qI_r hI1526 53 _ rfl (show (-2147483648) ≤ v1559 ∧ v1559 ≤ 2147483647 by omega)
                          have hF1564 : qFr [] [53] σ α σ α1561 := by rw [e1562]; exact qFr_r hF1527 53 _ (by decide)
                          refine qr_iinc _ 237 rfl (qm_gk (qm_gk (qm_gk (qm_gk g1522 (by decide) (Or.inr rfl)) (by decide) (Or.inl (by decide))) (by decide) (Or.inl (by decide))) (by decide) (Or.inl (by decide))) (by decide) rfl rfl ?_
                          refine qr_goto 4 rfl rfl ?_
                          exact ih1534 _ (u1521 + (-1)) (u1523 + 1) α1561 (by omega) (qm_gk (qm_gk (qm_gk (qm_gk (qm_gk g1518 (by decide) (Or.inl (by decide))) (by decide) (Or.inl (by decide))) (by decide) (Or.inl (by decide))) (by decide) (Or.inl (by decide))) (by decide) (Or.inl (by decide))) (qm_gk (qm_gk (qm_gk (qm_gk (qm_gk g1519 (by decide) (Or.inl (by decide))) (by decide) (Or.inl (by decide))) (by decide) (Or.inl (by decide))) (by decide) (Or.inr rfl)) (by decide) (Or.inl (by decide))) (qm_gk (qm_ge _ _ _) (by decide) (Or.inr rfl)) (qm_ge _ _ _) (by omega) (by omega) hI1563 hF1564 ((congrFun e1562 52).trans ((qw_r_ne (by decide)).trans hk1528)) ((congrFun e1562 59).trans ((qw_r_ne (by decide)).trans hk1529)) (by rw [(congrFun e1562 53).trans qw_r_eq]; exact hx1532.trans (qws_bin (by omega) (by rw [← hrv1536]; omega) (by omega) (by rw [show (u1521 - 2 : Int).toNat = (((u1521 + (-1)) - 1) : Int).toNat by omega, ← hrv1536, ← hv1557, ← hv1550]; exact (hx1560).trans (by rw [show v1536 / 65536 = (v1536 / 65536) by omega])) (by omega)))
                      · skip
                        refine qr_iconst 207 rfl rfl ?_
                        as_aux_lemma =>
                          refine qr_retI rfl rfl (by decide) (by decide) ?_
                          exact ⟨_, rfl, hI1526, hF1527, 0, rfl, (by decide), (by rw [hx1532, (qws_two (by omega) (by rw [← hrv1536]; omega) (by omega))])⟩
                    · skip
                      refine qr_aload_n 188 rfl (qm_gk (qm_gk (qm_gk g1518 (by decide) (Or.inl (by decide))) (by decide) (Or.inl (by decide))) (by decide) (Or.inl (by decide))) rfl ?_
                      refine qr_get 191 rfl rfl rfl (by decide) rfl ?_
                      refine qr_iload_n 192 rfl (qm_gk (qm_gk (qm_gk g1520 (by decide) (Or.inl (by decide))) (by decide) (Or.inl (by decide))) (by decide) (Or.inl (by decide))) rfl ?_
                      refine qr_iconst 193 rfl rfl ?_
                      as_aux_lemma =>
                        refine qr_isub 194 rfl rfl ?_
                        refine qr_iload 196 rfl (qm_ge _ _ _) rfl ?_
                        refine qr_ineg 197 rfl rfl ?_
                        refine qy_canE (fun v1565 hv1565 hev1565 => ?_)
                        refine qr_iastore 198 rfl (by decide) rfl (by omega) (by decide) rfl ?_
                        refine qy_wA (qw_r α1525 53 (qzu (α1525 53) ((u1521 - 1) : Int).toNat v1565)) rfl (fun α1566 e1567 => ?_)
                        have hI1568 : qI σ α1566 κ ρ := by rw [e1567]; exact qI_r hI1526 53 _ rfl (show (-2147483648) ≤ v1565 ∧ v1565 ≤ 2147483647 by omega)
                        have hF1569 : qFr [] [53] σ α σ α1566 := by rw [e1567]; exact qFr_r hF1527 53 _ (by decide)
                        refine qr_goto 234 rfl rfl ?_
                        refine qr_iinc _ 237 rfl (qm_gk (qm_gk (qm_gk g1522 (by decide) (Or.inr rfl)) (by decide) (Or.inl (by decide))) (by decide) (Or.inl (by decide))) (by decide) rfl rfl ?_
                        refine qr_goto 4 rfl rfl ?_
                        exact ih1534 _ u1521 (u1523 + 1) α1566 (by omega) (qm_gk (qm_gk (qm_gk (qm_gk g1518 (by decide) (Or.inl (by decide))) (by decide) (Or.inl (by decide))) (by decide) (Or.inl (by decide))) (by decide) (Or.inl (by decide))) (qm_gk (qm_gk (qm_gk (qm_gk g1519 (by decide) (Or.inl (by decide))) (by decide) (Or.inl (by decide))) (by decide) (Or.inl (by decide))) (by decide) (Or.inl (by decide))) (qm_gk (qm_gk (qm_gk (qm_gk g1520 (by decide) (Or.inl (by decide))) (by decide) (Or.inl (by decide))) (by decide) (Or.inl (by decide))) (by decide) (Or.inr rfl)) (qm_ge _ _ _) hf1530 (by omega) hI1568 hF1569 ((congrFun e1567 52).trans ((qw_r_ne (by decide)).trans hk1528)) ((congrFun e1567 59).trans ((qw_r_ne (by decide)).trans hk1529)) (by rw [(congrFun e1567 53).trans qw_r_eq]; exact hx1532.trans (qws_neg (by omega) (by rw [← hrv1536]; omega) (by omega) (by rw [← hv1550]; exact qtx_can hev1565 (by omega)) rfl))
                  · skip
                    refine qr_aload_n 160 rfl (qm_gk (qm_gk (qm_gk g1518 (by decide) (Or.inl (by decide))) (by decide) (Or.inl (by decide))) (by decide) (Or.inl (by decide))) rfl ?_
                    refine qr_get 163 rfl rfl rfl (by decide) rfl ?_
                    refine qr_iload_n 164 rfl (qm_gk (qm_gk (qm_gk g1520 (by decide) (Or.inl (by decide))) (by decide) (Or.inl (by decide))) (by decide) (Or.inl (by decide))) rfl ?_
                    refine qr_iconst 165 rfl rfl ?_
                    refine qr_isub 166 rfl rfl ?_
                    refine qr_iload 168 rfl (qm_ge _ _ _) rfl ?_
                    refine qr_if_ne 175 171 rfl rfl rfl hs1551 (fun h1570 => ?_) (fun h1570 => ?_)
                    · skip
                      as_aux_lemma =>
                        refine qr_iconst 176 rfl rfl ?_
                        refine qr_iastore 177 rfl (by decide) rfl (by omega) (by decide) rfl ?_
                        refine qy_wA (qw_r α1525 53 (qzu (α1525 53) ((u1521 - 1) : Int).toNat 0)) rfl (fun α1571 e1572 => ?_)
                        have hI1573 : qI σ α1571 κ ρ := by rw [e1572]; exact qI_r hI1526 53 _ rfl (show (-2147483648) ≤ 0 ∧ 0 ≤ 2147483647 by omega)
                        have hF1574 : qFr [] [53] σ α σ α1571 := by rw [e1572]; exact qFr_r hF1527 53 _ (by decide)
                        refine qr_goto 234 rfl rfl ?_
                        refine qr_iinc _ 237 rfl (qm_gk (qm_gk (qm_gk g1522 (by decide) (Or.inr rfl)) (by decide) (Or.inl (by decide))) (by decide) (Or.inl (by decide))) (by decide) rfl rfl ?_
                        refine qr_goto 4 rfl rfl ?_
                        exact ih1534 _ u1521 (u1523 + 1) α1571 (by omega) (qm_gk (qm_gk (qm_gk (qm_gk g1518 (by decide) (Or.inl (by decide))) (by decide) (Or.inl (by decide))) (by decide) (Or.inl (by decide))) (by decide) (Or.inl (by decide))) (qm_gk (qm_gk (qm_gk (qm_gk g1519 (by decide) (Or.inl (by decide))) (by decide) (Or.inl (by decide))) (by decide) (Or.inl (by decide))) (by decide) (Or.inl (by decide))) (qm_gk (qm_gk (qm_gk (qm_gk g1520 (by decide) (Or.inl (by decide))) (by decide) (Or.inl (by decide))) (by decide) (Or.inl (by decide))) (by decide) (Or.inr rfl)) (qm_ge _ _ _) hf1530 (by omega) hI1573 hF1574 ((congrFun e1572 52).trans ((qw_r_ne (by decide)).trans hk1528)) ((congrFun e1572 59).trans ((qw_r_ne (by decide)).trans hk1529)) (by rw [(congrFun e1572 53).trans qw_r_eq]; exact hx1532.trans (qws_not (by omega) (by rw [← hrv1536]; omega) (by omega) (by rw [← hv1550]; omega) rfl))
                    · skip
                      as_aux_lemma =>
                        refine qr_iconst 172 rfl rfl ?_
                        refine qr_goto 176 rfl rfl ?_
                        refine qr_iastore 177 rfl (by decide) rfl (by omega) (by decide) rfl ?_
                        refine qy_wA (qw_r α1525 53 (qzu (α1525 53) ((u1521 - 1) : Int).toNat 1)) rfl (fun α1575 e1576 => ?_)
                        have hI1577 : qI σ α1575 κ ρ := by rw [e1576]; exact qI_r hI1526 53 _ rfl (show (-2147483648) ≤ 1 ∧ 1 ≤ 2147483647 by omega)
                        have hF1578 : qFr [] [53] σ α σ α1575 := by rw [e1576]; exact qFr_r hF1527 53 _ (by decide)
                        refine qr_goto 234 rfl rfl ?_
                        refine qr_iinc _ 237 rfl (qm_gk (qm_gk (qm_gk g1522 (by decide) (Or.inr rfl)) (by decide) (Or.inl (by decide))) (by decide) (Or.inl (by decide))) (by decide) rfl rfl ?_
                        refine qr_goto 4 rfl rfl ?_
                        exact ih1534 _ u1521 (u1523 + 1) α1575 (by omega) (qm_gk (qm_gk (qm_gk (qm_gk g1518 (by decide) (Or.inl (by decide))) (by decide) (Or.inl (by decide))) (by decide) (Or.inl (by decide))) (by decide) (Or.inl (by decide))) (qm_gk (qm_gk (qm_gk (qm_gk g1519 (by decide) (Or.inl (by decide))) (by decide) (Or.inl (by decide))) (by decide) (Or.inl (by decide))) (by decide) (Or.inl (by decide))) (qm_gk (qm_gk (qm_gk (qm_gk g1520 (by decide) (Or.inl (by decide))) (by decide) (Or.inl (by decide))) (by decide) (Or.inl (by decide))) (by decide) (Or.inr rfl)) (qm_ge _ _ _) hf1530 (by omega) hI1577 hF1578 ((congrFun e1576 52).trans ((qw_r_ne (by decide)).trans hk1528)) ((congrFun e1576 59).trans ((qw_r_ne (by decide)).trans hk1529)) (by rw [(congrFun e1576 53).trans qw_r_eq]; exact hx1532.trans (qws_not (by omega) (by rw [← hrv1536]; omega) (by omega) (by rw [← hv1550]; omega) rfl))
                · skip
                  refine qr_iinc _ 135 rfl (qm_gk (qm_gk (qm_gk g1520 (by decide) (Or.inl (by decide))) (by decide) (Or.inl (by decide))) (by decide) (Or.inl (by decide))) (by decide) rfl rfl ?_
                  refine qr_iload 137 rfl (qm_gk (qm_ge _ _ _) (by decide) (Or.inl (by decide))) rfl ?_
                  refine qr_if_ne 234 140 rfl rfl rfl hs1551 (fun h1579 => ?_) (fun h1579 => ?_)
                  · skip
                    refine qr_iinc _ 237 rfl (qm_gk (qm_gk (qm_gk (qm_gk g1522 (by decide) (Or.inr rfl)) (by decide) (Or.inl (by decide))) (by decide) (Or.inl (by decide))) (by decide) (Or.inl (by decide))) (by decide) rfl rfl ?_
                    refine qr_goto 4 rfl rfl ?_
                    exact ih1534 _ (u1521 + (-1)) (u1523 + 1) α1525 (by omega) (qm_gk (qm_gk (qm_gk (qm_gk (qm_gk g1518 (by decide) (Or.inl (by decide))) (by decide) (Or.inl (by decide))) (by decide) (Or.inl (by decide))) (by decide) (Or.inl (by decide))) (by decide) (Or.inl (by decide))) (qm_gk (qm_gk (qm_gk (qm_gk (qm_gk g1519 (by decide) (Or.inl (by decide))) (by decide) (Or.inl (by decide))) (by decide) (Or.inl (by decide))) (by decide) (Or.inr rfl)) (by decide) (Or.inl (by decide))) (qm_gk (qm_ge _ _ _) (by decide) (Or.inr rfl)) (qm_ge _ _ _) (by omega) (by omega) hI1526 hF1527 hk1528 hk1529 (by exact hx1532.trans (qws_if (by omega) (by rw [← hrv1536]; omega) (by omega) (by rw [← hv1550, ← hrv1536]; omega)))
                  · skip
                    refine qr_iload_n 141 rfl (qm_gk (qm_gk (qm_gk (qm_gk g1522 (by decide) (Or.inr rfl)) (by decide) (Or.inl (by decide))) (by decide) (Or.inl (by decide))) (by decide) (Or.inl (by decide))) rfl ?_
                    refine qr_iload 143 rfl (qm_gk (qm_gk (qm_ge _ _ _) (by decide) (Or.inr rfl)) (by decide) (Or.inl (by decide))) rfl ?_
                    refine qr_iconst 144 rfl rfl ?_
                    refine qr_isub 145 rfl rfl ?_
                    refine qr_callN 148 rfl rfl rfl (sf_30 (d := d + 0) hI1526 (qrg hf1531 (by decide) (by decide)) (by omega)) ?_
                    rintro _ _ ⟨rfl, v1580, rfl, hv1580, hp1581⟩
                    show qr_W (qe L xs vb) (d + 1) qx_e97 _ (148, _, [.int (qz v1580)], qw σ α1525 κ ρ, 0, 0)
                    refine qr_istore_n _ 149 rfl (by decide) rfl rfl ?_
                    refine qr_goto 234 rfl rfl ?_
                    as_aux_lemma =>
                      refine qr_iinc _ 237 rfl (qm_ge _ _ _) (by decide) rfl rfl ?_
                      refine qr_goto 4 rfl rfl ?_
                      exact ih1534 _ (u1521 + (-1)) (v1580 + 1) α1525 (by omega) (qm_gk (qm_gk (qm_gk (qm_gk (qm_gk (qm_gk g1518 (by decide) (Or.inl (by decide))) (by decide) (Or.inl (by decide))) (by decide) (Or.inl (by decide))) (by decide) (Or.inl (by decide))) (by decide) (Or.inl (by decide))) (by decide) (Or.inl (by decide))) (qm_gk (qm_gk (qm_gk (qm_gk (qm_gk (qm_gk g1519 (by decide) (Or.inl (by decide))) (by decide) (Or.inl (by decide))) (by decide) (Or.inl (by decide))) (by decide) (Or.inr rfl)) (by decide) (Or.inl (by decide))) (by decide) (Or.inl (by decide))) (qm_gk (qm_gk (qm_ge _ _ _) (by decide) (Or.inr rfl)) (by decide) (Or.inr rfl)) (qm_ge _ _ _) (by omega) (by omega) hI1526 hF1527 hk1528 hk1529 (by exact hx1532.trans (qws_if (by omega) (by rw [← hrv1536]; omega) (by omega) (by rw [← hv1550, ← hrv1536]; omega)))
              · skip
                refine qr_iload 124 rfl (qm_ge _ _ _) rfl ?_
                refine qr_retI rfl rfl (by decide) (by decide) ?_
                exact ⟨_, rfl, hI1526, hF1527, v1550, rfl, hs1551, (by rw [hx1532, (qws_end (by omega) (by rw [← hrv1536]; omega) (by omega))]; exact hv1550)⟩
            · skip
              refine qr_iconst 104 rfl rfl ?_
              refine qr_retI rfl rfl (by decide) (by decide) ?_
              exact ⟨_, rfl, hI1526, hF1527, 0, rfl, (by decide), (by rw [hx1532, (qws_emp (by omega) (by rw [← hrv1536]; omega) (by omega))])⟩
          · skip
            refine qr_iload_n 49 rfl (qm_gk (qm_gk g1520 (by decide) (Or.inl (by decide))) (by decide) (Or.inl (by decide))) rfl ?_
            refine qr_aload_n 50 rfl (qm_gk (qm_gk g1518 (by decide) (Or.inl (by decide))) (by decide) (Or.inl (by decide))) rfl ?_
            refine qr_get 53 rfl rfl rfl (by decide) rfl ?_
            refine qr_alen 54 rfl rfl (by first | exact Or.inl (by decide) | exact Or.inr (Or.inl rfl) | exact Or.inr (Or.inr (Or.inl rfl)) | exact Or.inr (Or.inr (Or.inr (Or.inl rfl)))) rfl ?_
            refine qy_v 120 rfl ?_
            refine qr_icmp_lt 59 57 rfl rfl rfl (qrg hf1530 (by decide) (by decide)) (by decide) (fun h1582 => ?_) (fun h1582 => ?_)
            · skip
              refine qr_aload_n 60 rfl (qm_gk (qm_gk g1518 (by decide) (Or.inl (by decide))) (by decide) (Or.inl (by decide))) rfl ?_
              refine qr_get 63 rfl rfl rfl (by decide) rfl ?_
              refine qr_iload_n 64 rfl (qm_gk (qm_gk g1520 (by decide) (Or.inl (by decide))) (by decide) (Or.inl (by decide))) rfl ?_
              refine qr_iinc _ 67 rfl (qm_gk (qm_gk g1520 (by decide) (Or.inl (by decide))) (by decide) (Or.inl (by decide))) (by decide) rfl rfl ?_
              refine qr_iload 69 rfl (qm_gk (qm_gk (qm_ge _ _ _) (by decide) (Or.inr rfl)) (by decide) (Or.inl (by decide))) rfl ?_
              refine qr_bipush 71 rfl (by decide) rfl ?_
              refine qr_icmp_ne 79 74 rfl rfl rfl (by omega) (by decide) (fun h1583 => ?_) (fun h => False.elim (by omega))
              refine qr_iload 81 rfl (qm_gk (qm_ge _ _ _) (by decide) (Or.inl (by decide))) rfl ?_
              refine qr_aload_n 82 rfl (qm_gk (qm_gk (qm_gk g1519 (by decide) (Or.inl (by decide))) (by decide) (Or.inl (by decide))) (by decide) (Or.inr rfl)) rfl ?_
              refine qr_alen 83 rfl rfl (by first | exact Or.inl (by decide) | exact Or.inr (Or.inl rfl) | exact Or.inr (Or.inr (Or.inl rfl)) | exact Or.inr (Or.inr (Or.inr (Or.inl rfl)))) rfl ?_
              refine qy_v 9 rfl ?_
              refine qr_icmp_ge 93 86 rfl rfl rfl (by omega) (by decide) (fun h1584 => ?_) (fun h1584 => ?_)
              · skip
                refine qr_iconst 94 rfl rfl ?_
                refine qr_iastore 95 rfl (by decide) rfl (by omega) (by decide) rfl ?_
                refine qy_wA (qw_r α1525 53 (qzu (α1525 53) (u1521 : Int).toNat 0)) rfl (fun α1585 e1586 => ?_)
                have hI1587 : qI σ α1585 κ ρ := by rw [e1586]; exact qI_r hI1526 53 _ rfl (show (-2147483648) ≤ 0 ∧ 0 ≤ 2147483647 by omega)
                have hF1588 : qFr [] [53] σ α σ α1585 := by rw [e1586]; exact qFr_r hF1527 53 _ (by decide)
                refine qr_goto 234 rfl rfl ?_
                refine qr_iinc _ 237 rfl (qm_gk (qm_gk (qm_gk g1522 (by decide) (Or.inr rfl)) (by decide) (Or.inl (by decide))) (by decide) (Or.inl (by decide))) (by decide) rfl rfl ?_
                refine qr_goto 4 rfl rfl ?_
                exact ih1534 _ (u1521 + 1) (u1523 + 1) α1585 (by omega) (qm_gk (qm_gk (qm_gk (qm_gk g1518 (by decide) (Or.inl (by decide))) (by decide) (Or.inl (by decide))) (by decide) (Or.inl (by decide))) (by decide) (Or.inl (by decide))) (qm_gk (qm_gk (qm_gk (qm_gk g1519 (by decide) (Or.inl (by decide))) (by decide) (Or.inl (by decide))) (by decide) (Or.inr rfl)) (by decide) (Or.inl (by decide))) (qm_gk (qm_ge _ _ _) (by decide) (Or.inr rfl)) (qm_ge _ _ _) (by omega) (by omega) hI1587 hF1588 ((congrFun e1586 52).trans ((qw_r_ne (by decide)).trans hk1528)) ((congrFun e1586 59).trans ((qw_r_ne (by decide)).trans hk1529)) (by rw [(congrFun e1586 53).trans qw_r_eq]; exact hx1532.trans (qws_nam9 (by omega) (by rw [← hrv1536]; omega) (by omega) (by rw [← hrv1536]; omega) rfl rfl))
              · skip
                refine qr_aload_n 87 rfl (qm_gk (qm_gk (qm_gk g1519 (by decide) (Or.inl (by decide))) (by decide) (Or.inl (by decide))) (by decide) (Or.inr rfl)) rfl ?_
                refine qr_iload 89 rfl (qm_gk (qm_ge _ _ _) (by decide) (Or.inl (by decide))) rfl ?_
                refine qr_iaload 90 rfl rfl (by omega) (by decide) rfl ?_
                refine qr_topI (fun v1589 hv1589 => ?_)
                have hs1590 : (-2147483648) ≤ v1589 ∧ v1589 ≤ 2147483647 := by rw [hv1589]; exact hI1526.2.1 59 _ (show _ < 9 by omega)
                have hrv1589 : v1589 = (α 59) (v1540 : Int).toNat := hv1589.trans (congrFun hk1529 _)
                refine qr_goto 94 rfl rfl ?_
                refine qr_iastore 95 rfl (by decide) rfl (by omega) (by decide) rfl ?_
                refine qy_wA (qw_r α1525 53 (qzu (α1525 53) (u1521 : Int).toNat v1589)) rfl (fun α1591 e1592 => ?_)
                have hI1593 : qI σ α1591 κ ρ := by rw [e1592]; exact qI_r hI1526 53 _ rfl (show (-2147483648) ≤ v1589 ∧ v1589 ≤ 2147483647 by omega)
                have hF1594 : qFr [] [53] σ α σ α1591 := by rw [e1592]; exact qFr_r hF1527 53 _ (by decide)
                refine qr_goto 234 rfl rfl ?_
                refine qr_iinc _ 237 rfl (qm_gk (qm_gk (qm_gk g1522 (by decide) (Or.inr rfl)) (by decide) (Or.inl (by decide))) (by decide) (Or.inl (by decide))) (by decide) rfl rfl ?_
                refine qr_goto 4 rfl rfl ?_
                exact ih1534 _ (u1521 + 1) (u1523 + 1) α1591 (by omega) (qm_gk (qm_gk (qm_gk (qm_gk g1518 (by decide) (Or.inl (by decide))) (by decide) (Or.inl (by decide))) (by decide) (Or.inl (by decide))) (by decide) (Or.inl (by decide))) (qm_gk (qm_gk (qm_gk (qm_gk g1519 (by decide) (Or.inl (by decide))) (by decide) (Or.inl (by decide))) (by decide) (Or.inr rfl)) (by decide) (Or.inl (by decide))) (qm_gk (qm_ge _ _ _) (by decide) (Or.inr rfl)) (qm_ge _ _ _) (by omega) (by omega) hI1593 hF1594 ((congrFun e1592 52).trans ((qw_r_ne (by decide)).trans hk1528)) ((congrFun e1592 59).trans ((qw_r_ne (by decide)).trans hk1529)) (by rw [(congrFun e1592 53).trans qw_r_eq]; exact hx1532.trans (qws_nam (by omega) (by rw [← hrv1536]; omega) (by omega) (by rw [← hrv1536]; omega) (by rw [← hrv1536, show v1536 % 65536 = v1540 by omega]; exact hrv1589) rfl))
            · skip
              refine qr_iconst 58 rfl rfl ?_
              refine qr_retI rfl rfl (by decide) (by decide) ?_
              exact ⟨_, rfl, hI1526, hF1527, 0, rfl, (by decide), (by rw [hx1532, (qws_ful (by omega) (by rw [← hrv1536]; omega) (by omega))])⟩
  exact hL1533 ((65536 - 0 + 1 : Int)).toNat _ 0 0 α (by omega) rfl rfl rfl rfl (by decide) (by decide) hI hF0 rfl rfl rfl

set_option maxHeartbeats 4000000 in
set_option maxRecDepth 20000 in
/-- OneRoof$Custom.worth -/
theorem sf_97_54_59x {L : Nat} {xs : Nat → Int} {vb : Bool} {d : Nat} {σ α : Nat → Nat → Int} {κ : Nat → Option Nat} {ρ : Nat}  (hI : qI σ α κ ρ) (p0 : ∀ k : Int, 0 ≤ k → k < σ 54 5 → 0 ≤ α 56 k.toNat ∧ α 56 k.toNat < 8388608) : qm_T (qe L xs vb) (d + 2) 97 [.ref 54, .ref 59] (qw σ α κ ρ) (fun r w' => ∃ α', w' = qw σ α' κ ρ ∧ qI σ α' κ ρ ∧ qFr [] [57] σ α σ α' ∧ ∃ v : Int, r = some (.int (qz v)) ∧ ((-2147483648) ≤ v ∧ v ≤ 2147483647) ∧ v = qwv (α 56) (α 59) (σ 54 5) 0 (α 57) 0) := by
  refine qr_start (d := d + 1) qv_e97 (Nat.le_of_ble_eq_true rfl) ?_
  show qr_W (qe L xs vb) (d + 1) qx_e97 _ (0, [(0, .ref 54), (1, .ref 59)], [], _, 0, 0)
  have hF0 := qFr_rf [] [57] σ α
  have hz54_5 : 0 ≤ σ 54 5 ∧ σ 54 5 ≤ 122 := hI.1 54 5
  refine qr_iconst 1 rfl rfl ?_
  refine qr_istore_n _ 2 rfl (by decide) rfl rfl ?_
  refine qr_iconst 3 rfl rfl ?_
  refine qr_istore_n _ 4 rfl (by decide) rfl rfl ?_
  have hL1533 : ∀ (n : Nat) (ls : qm_L) (u1521 u1523 : Int) (α1525 : Nat → Nat → Int), 65536 - u1523 < (n : Int) → qm_get ls 0 = some (.ref 54) → qm_get ls 1 = some (.ref 59) → qm_get ls 2 = some (.int (qz u1521)) → qm_get ls 3 = some (.int (qz u1523)) → (0 ≤ u1521 ∧ u1521 ≤ 120) → (0 ≤ u1523 ∧ u1523 ≤ 65535) → qI σ α1525 κ ρ → qFr [] [57] σ α σ α1525 → α1525 56 = (α 56) → α1525 59 = (α 59) → qwv (α 56) (α 59) (σ 54 5) 0 (α 57) 0 = qwv (α 56) (α 59) (σ 54 5) u1523 (α1525 57) u1521 → qr_W (qe L xs vb) (d + 1) qx_e97 (fun r w' => ∃ α', w' = qw σ α' κ ρ ∧ qI σ α' κ ρ ∧ qFr [] [57] σ α σ α' ∧ ∃ v : Int, r = some (.int (qz v)) ∧ ((-2147483648) ≤ v ∧ v ≤ 2147483647) ∧ v = qwv (α 56) (α 59) (σ 54 5) 0 (α 57) 0) (4, ls, [], qw σ α1525 κ ρ, 0, 0) := by
    intro n
    induction n with
    | zero => intro ls u1521 u1523 α1525 hm g1518 g1519 g1520 g1522 hf1530 hf1531 hI1526 hF1527 hk1528 hk1529 hx1532; exact False.elim (by omega)
    | succ n ih1534 =>
      intro ls u1521 u1523 α1525 hm g1518 g1519 g1520 g1522 hf1530 hf1531 hI1526 hF1527 hk1528 hk1529 hx1532
      refine qr_iload_n 5 rfl g1522 rfl ?_
      refine qr_aload_n 6 rfl g1518 rfl ?_
      refine qr_get 9 rfl rfl rfl (by decide) rfl ?_
      refine qr_icmp_ge 240 12 rfl rfl rfl (qrg hf1531 (by decide) (by decide)) (qrg hz54_5 (by decide) (by decide)) (fun h1535 => ?_) (fun h1535 => ?_)
      · skip
        refine qr_iconst 241 rfl rfl ?_
        refine qr_retI rfl rfl (by decide) (by decide) ?_
        exact ⟨_, rfl, hI1526, hF1527, 0, rfl, (by decide), (by rw [hx1532, qwv_end (by omega)])⟩
      · skip
        refine qr_aload_n 13 rfl g1518 rfl ?_
        refine qr_get 16 rfl rfl rfl (by decide) rfl ?_
        refine qr_iload_n 17 rfl g1522 rfl ?_
        refine qr_iaload 18 rfl rfl (by omega) (by decide) rfl ?_
        refine qr_topI (fun v1536 hv1536 => ?_)
        have hs1537 : (-2147483648) ≤ v1536 ∧ v1536 ≤ 2147483647 := by rw [hv1536]; exact hI1526.2.1 56 _ (show _ < 122 by omega)
        have hrv1536 : v1536 = (α 56) (u1523 : Int).toNat := hv1536.trans (congrFun hk1528 _)
        have hcv1536 := p0 u1523 (by omega) (by omega)
        rw [← hrv1536] at hcv1536
        refine qr_bipush 20 rfl (by decide) rfl ?_
        refine qr_iushr 21 rfl rfl ?_
        refine qy_v (v1536 / 65536) (qz_ushr16 (by omega)) ?_
        refine qr_istore _ 23 rfl (by decide) rfl rfl ?_
        refine qr_aload_n 24 rfl (qm_gk g1518 (by decide) (Or.inl (by decide))) rfl ?_
        refine qr_get 27 rfl rfl rfl (by decide) rfl ?_
        refine qr_iload_n 28 rfl (qm_gk g1522 (by decide) (Or.inr rfl)) rfl ?_
        refine qr_iaload 29 rfl rfl (by omega) (by decide) rfl ?_
        refine qr_topI (fun v1538 hv1538 => ?_)
        have hs1539 : (-2147483648) ≤ v1538 ∧ v1538 ≤ 2147483647 := by rw [hv1538]; exact hI1526.2.1 56 _ (show _ < 122 by omega)
        have hrv1538 : v1538 = (α 56) (u1523 : Int).toNat := hv1538.trans (congrFun hk1528 _)
        have hdv1538 : v1538 = v1536 := hrv1538.trans hrv1536.symm
        refine qr_ldc 65535 31 rfl (by decide) rfl ?_
        refine qr_iand 32 rfl rfl ?_
        refine qy_andrE (by omega) (fun v1540 hv1540 hev1540 => ?_)
        refine qr_istore _ 34 rfl (by decide) rfl rfl ?_
        rw [qz_and_m (by omega)] at hev1540
        refine qr_iload 36 rfl (qm_gk (qm_ge _ _ _) (by decide) (Or.inr rfl)) rfl ?_
        refine qr_bipush 38 rfl (by decide) rfl ?_
        refine qr_icmp_eq 48 41 rfl rfl rfl (by omega) (by decide) (fun h1541 => ?_) (fun h1541 => ?_)
        · skip
          refine qr_iload_n 49 rfl (qm_gk (qm_gk g1520 (by decide) (Or.inl (by decide))) (by decide) (Or.inl (by decide))) rfl ?_
          refine qr_aload_n 50 rfl (qm_gk (qm_gk g1518 (by decide) (Or.inl (by decide))) (by decide) (Or.inl (by decide))) rfl ?_
          refine qr_get 53 rfl rfl rfl (by decide) rfl ?_
          refine qr_alen 54 rfl rfl (by first | exact Or.inl (by decide) | exact Or.inr (Or.inl rfl) | exact Or.inr (Or.inr (Or.inl rfl)) | exact Or.inr (Or.inr (Or.inr (Or.inl rfl)))) rfl ?_
          refine qy_v 120 rfl ?_
          refine qr_icmp_lt 59 57 rfl rfl rfl (qrg hf1530 (by decide) (by decide)) (by decide) (fun h1542 => ?_) (fun h1542 => ?_)
          · skip
            refine qr_aload_n 60 rfl (qm_gk (qm_gk g1518 (by decide) (Or.inl (by decide))) (by decide) (Or.inl (by decide))) rfl ?_
            refine qr_get 63 rfl rfl rfl (by decide) rfl ?_
            refine qr_iload_n 64 rfl (qm_gk (qm_gk g1520 (by decide) (Or.inl (by decide))) (by decide) (Or.inl (by decide))) rfl ?_
            refine qr_iinc _ 67 rfl (qm_gk (qm_gk g1520 (by decide) (Or.inl (by decide))) (by decide) (Or.inl (by decide))) (by decide) rfl rfl ?_
            refine qr_iload 69 rfl (qm_gk (qm_gk (qm_ge _ _ _) (by decide) (Or.inr rfl)) (by decide) (Or.inl (by decide))) rfl ?_
            refine qr_bipush 71 rfl (by decide) rfl ?_
            refine qr_icmp_ne 79 74 rfl rfl rfl (by omega) (by decide) (fun h => False.elim (by omega)) (fun h1543 => ?_)
            refine qr_iload 76 rfl (qm_gk (qm_ge _ _ _) (by decide) (Or.inl (by decide))) rfl ?_
            refine qr_goto 94 rfl rfl ?_
            refine qr_iastore 95 rfl (by decide) rfl (by omega) (by decide) rfl ?_
            refine qy_wA (qw_r α1525 57 (qzu (α1525 57) (u1521 : Int).toNat v1540)) rfl (fun α1544 e1545 => ?_)
            have hI1546 : qI σ α1544 κ ρ := by rw [e1545]; exact qI_r hI1526 57 _ rfl (show (-2147483648) ≤ v1540 ∧ v1540 ≤ 2147483647 by omega)
            have hF1547 : qFr [] [57] σ α σ α1544 := by rw [e1545]; exact qFr_r hF1527 57 _ (by decide)
            refine qr_goto 234 rfl rfl ?_
            refine qr_iinc _ 237 rfl (qm_gk (qm_gk (qm_gk g1522 (by decide) (Or.inr rfl)) (by decide) (Or.inl (by decide))) (by decide) (Or.inl (by decide))) (by decide) rfl rfl ?_
            refine qr_goto 4 rfl rfl ?_
            exact ih1534 _ (u1521 + 1) (u1523 + 1) α1544 (by omega) (qm_gk (qm_gk (qm_gk (qm_gk g1518 (by decide) (Or.inl (by decide))) (by decide) (Or.inl (by decide))) (by decide) (Or.inl (by decide))) (by decide) (Or.inl (by decide))) (qm_gk (qm_gk (qm_gk (qm_gk g1519 (by decide) (Or.inl (by decide))) (by decide) (Or.inl (by decide))) (by decide) (Or.inr rfl)) (by decide) (Or.inl (by decide))) (qm_gk (qm_ge _ _ _) (by decide) (Or.inr rfl)) (qm_ge _ _ _) (by omega) (by omega) hI1546 hF1547 ((congrFun e1545 56).trans ((qw_r_ne (by decide)).trans hk1528)) ((congrFun e1545 59).trans ((qw_r_ne (by decide)).trans hk1529)) (by rw [(congrFun e1545 57).trans qw_r_eq]; exact hx1532.trans (qws_num (by omega) (by rw [← hrv1536]; omega) (by omega) (by rw [← hrv1536]; omega) rfl))
          · skip
            refine qr_iconst 58 rfl rfl ?_
            refine qr_retI rfl rfl (by decide) (by decide) ?_
            exact ⟨_, rfl, hI1526, hF1527, 0, rfl, (by decide), (by rw [hx1532, (qws_ful (by omega) (by rw [← hrv1536]; omega) (by omega))])⟩
        · skip
          refine qr_iload 43 rfl (qm_gk (qm_ge _ _ _) (by decide) (Or.inr rfl)) rfl ?_
          refine qr_bipush 45 rfl (by decide) rfl ?_
          refine qr_icmp_ne 98 48 rfl rfl rfl (by omega) (by decide) (fun h1548 => ?_) (fun h1548 => ?_)
          · skip
            refine qr_iload_n 99 rfl (qm_gk (qm_gk g1520 (by decide) (Or.inl (by decide))) (by decide) (Or.inl (by decide))) rfl ?_
            refine qr_iconst 100 rfl rfl ?_
            refine qr_icmp_ge 105 103 rfl rfl rfl (qrg hf1530 (by decide) (by decide)) (by decide) (fun h1549 => ?_) (fun h1549 => ?_)
            · skip
              refine qr_aload_n 106 rfl (qm_gk (qm_gk g1518 (by decide) (Or.inl (by decide))) (by decide) (Or.inl (by decide))) rfl ?_
              refine qr_get 109 rfl rfl rfl (by decide) rfl ?_
              refine qr_iload_n 110 rfl (qm_gk (qm_gk g1520 (by decide) (Or.inl (by decide))) (by decide) (Or.inl (by decide))) rfl ?_
              refine qr_iconst 111 rfl rfl ?_
              refine qr_isub 112 rfl rfl ?_
              refine qr_iaload 113 rfl rfl (by omega) (by decide) rfl ?_
              refine qr_topI (fun v1550 hv1550 => ?_)
              have hs1551 : (-2147483648) ≤ v1550 ∧ v1550 ≤ 2147483647 := by rw [hv1550]; exact hI1526.2.1 57 _ (show _ < 120 by omega)
              refine qr_istore _ 115 rfl (by decide) rfl rfl ?_
              refine qr_iload 117 rfl (qm_gk (qm_gk (qm_ge _ _ _) (by decide) (Or.inr rfl)) (by decide) (Or.inl (by decide))) rfl ?_
              refine qr_bipush 119 rfl (by decide) rfl ?_
              refine qr_icmp_ne 125 122 rfl rfl rfl (by omega) (by decide) (fun h1552 => ?_) (fun h1552 => ?_)
              · skip
                refine qr_iload 127 rfl (qm_gk (qm_gk (qm_ge _ _ _) (by decide) (Or.inr rfl)) (by decide) (Or.inl (by decide))) rfl ?_
                refine qr_bipush 129 rfl (by decide) rfl ?_
                refine qr_icmp_ne 152 132 rfl rfl rfl (by omega) (by decide) (fun h1553 => ?_) (fun h1553 => ?_)
                · skip
                  refine qr_iload 154 rfl (qm_gk (qm_gk (qm_ge _ _ _) (by decide) (Or.inr rfl)) (by decide) (Or.inl (by decide))) rfl ?_
                  refine qr_bipush 156 rfl (by decide) rfl ?_
                  refine qr_icmp_ne 180 159 rfl rfl rfl (by omega) (by decide) (fun h1554 => ?_) (fun h1554 => ?_)
                  · skip
                    refine qr_iload 182 rfl (qm_gk (qm_gk (qm_ge _ _ _) (by decide) (Or.inr rfl)) (by decide) (Or.inl (by decide))) rfl ?_
                    refine qr_bipush 184 rfl (by decide) rfl ?_
                    refine qr_icmp_ne 201 187 rfl rfl rfl (by omega) (by decide) (fun h1555 => ?_) (fun h1555 => ?_)
                    · skip
                      refine qr_iload_n 202 rfl (qm_gk (qm_gk (qm_gk g1520 (by decide) (Or.inl (by decide))) (by decide) (Or.inl (by decide))) (by decide) (Or.inl (by decide))) rfl ?_
                      refine qr_iconst 203 rfl rfl ?_
                      refine qr_icmp_ge 208 206 rfl rfl rfl (qrg hf1530 (by decide) (by decide)) (by decide) (fun h1556 => ?_) (fun h1556 => ?_)
                      · skip
                        refine qr_iinc _ 211 rfl (qm_gk (qm_gk (qm_gk g1520 (by decide) (Or.inl (by decide))) (by decide) (Or.inl (by decide))) (by decide) (Or.inl (by decide))) (by decide) rfl rfl ?_
                        as_aux_lemma =>
                          refine qr_aload_n 212 rfl (qm_gk (qm_gk (qm_gk (qm_gk g1518 (by decide) (Or.inl (by decide))) (by decide) (Or.inl (by decide))) (by decide) (Or.inl (by decide))) (by decide) (Or.inl (by decide))) rfl ?_
                          refine qr_get 215 rfl rfl rfl (by decide) rfl ?_
                          refine qr_iload_n 216 rfl (qm_ge _ _ _) rfl ?_
                          refine qr_iconst 217 rfl rfl ?_
                          refine qr_isub 218 rfl rfl ?_
                          refine qr_iload 220 rfl (qm_gk (qm_gk (qm_gk (qm_ge _ _ _) (by decide) (Or.inr rfl)) (by decide) (Or.inl (by decide))) (by decide) (Or.inl (by decide))) rfl ?_
                          refine qr_aload_n 221 rfl (qm_gk (qm_gk (qm_gk (qm_gk g1518 (by decide) (Or.inl (by decide))) (by decide) (Or.inl (by decide))) (by decide) (Or.inl (by decide))) (by decide) (Or.inl (by decide))) rfl ?_
                          refine qr_get 224 rfl rfl rfl (by decide) rfl ?_
                          refine qr_iload_n 225 rfl (qm_ge _ _ _) rfl ?_
                          refine qr_iconst 226 rfl rfl ?_
                          refine qr_isub 227 rfl rfl ?_
                          refine qr_iaload 228 rfl rfl (by omega) (by decide) rfl ?_
                          refine qr_topI (fun v1557 hv1557 => ?_)
                          have hs1558 : (-2147483648) ≤ v1557 ∧ v1557 ≤ 2147483647 := by rw [hv1557]; exact hI1526.2.1 57 _ (show _ < 120 by omega)
                          refine qr_iload 230 rfl (qm_gk (qm_ge _ _ _) (by decide) (Or.inl (by decide))) rfl ?_
                          refine qr_callN 233 rfl rfl rfl (sf_98x (d := d + 0) hI1526 (by omega) hs1558 hs1551) ?_
                          rintro _ _ ⟨rfl, v1559, rfl, hv1559, hx1560⟩
                          show qr_W (qe L xs vb) (d + 1) qx_e97 _ (233, _, [.int (qz v1559), .int (qz ((u1521 + (-1)) - 1)), .ref 57], qw σ α1525 κ ρ, 0, 0)
                          refine qr_iastore 234 rfl (by decide) rfl (by omega) (by decide) rfl ?_
                          refine qy_wA (qw_r α1525 57 (qzu (α1525 57) (((u1521 + (-1)) - 1) : Int).toNat v1559)) rfl (fun α1561 e1562 => ?_)
                          have hI1563 : qI σ α1561 κ ρ := by rw [e1562]; exact qI_r hI1526 57 _ rfl (show (-2147483648) ≤ v1559 ∧ v1559 ≤ 2147483647 by omega)
                          have hF1564 : qFr [] [57] σ α σ α1561 := by rw [e1562]; exact qFr_r hF1527 57 _ (by decide)
                          refine qr_iinc _ 237 rfl (qm_gk (qm_gk (qm_gk (qm_gk g1522 (by decide) (Or.inr rfl)) (by decide) (Or.inl (by decide))) (by decide) (Or.inl (by decide))) (by decide) (Or.inl (by decide))) (by decide) rfl rfl ?_
                          refine qr_goto 4 rfl rfl ?_
                          exact ih1534 _ (u1521 + (-1)) (u1523 + 1) α1561 (by omega) (qm_gk (qm_gk (qm_gk (qm_gk (qm_gk g1518 (by decide) (Or.inl (by decide))) (by decide) (Or.inl (by decide))) (by decide) (Or.inl (by decide))) (by decide) (Or.inl (by decide))) (by decide) (Or.inl (by decide))) (qm_gk (qm_gk (qm_gk (qm_gk (qm_gk g1519 (by decide) (Or.inl (by decide))) (by decide) (Or.inl (by decide))) (by decide) (Or.inl (by decide))) (by decide) (Or.inr rfl)) (by decide) (Or.inl (by decide))) (qm_gk (qm_ge _ _ _) (by decide) (Or.inr rfl)) (qm_ge _ _ _) (by omega) (by omega) hI1563 hF1564 ((congrFun e1562 56).trans ((qw_r_ne (by decide)).trans hk1528)) ((congrFun e1562 59).trans ((qw_r_ne (by decide)).trans hk1529)) (by rw [(congrFun e1562 57).trans qw_r_eq]; exact hx1532.trans (qws_bin (by omega) (by rw [← hrv1536]; omega) (by omega) (by rw [show (u1521 - 2 : Int).toNat = (((u1521 + (-1)) - 1) : Int).toNat by omega, ← hrv1536, ← hv1557, ← hv1550]; exact (hx1560).trans (by rw [show v1536 / 65536 = (v1536 / 65536) by omega])) (by omega)))
                      · skip
                        refine qr_iconst 207 rfl rfl ?_
                        as_aux_lemma =>
                          refine qr_retI rfl rfl (by decide) (by decide) ?_
                          exact ⟨_, rfl, hI1526, hF1527, 0, rfl, (by decide), (by rw [hx1532, (qws_two (by omega) (by rw [← hrv1536]; omega) (by omega))])⟩
                    · skip
                      refine qr_aload_n 188 rfl (qm_gk (qm_gk (qm_gk g1518 (by decide) (Or.inl (by decide))) (by decide) (Or.inl (by decide))) (by decide) (Or.inl (by decide))) rfl ?_
                      refine qr_get 191 rfl rfl rfl (by decide) rfl ?_
                      refine qr_iload_n 192 rfl (qm_gk (qm_gk (qm_gk g1520 (by decide) (Or.inl (by decide))) (by decide) (Or.inl (by decide))) (by decide) (Or.inl (by decide))) rfl ?_
                      refine qr_iconst 193 rfl rfl ?_
                      as_aux_lemma =>
                        refine qr_isub 194 rfl rfl ?_
                        refine qr_iload 196 rfl (qm_ge _ _ _) rfl ?_
                        refine qr_ineg 197 rfl rfl ?_
                        refine qy_canE (fun v1565 hv1565 hev1565 => ?_)
                        refine qr_iastore 198 rfl (by decide) rfl (by omega) (by decide) rfl ?_
                        refine qy_wA (qw_r α1525 57 (qzu (α1525 57) ((u1521 - 1) : Int).toNat v1565)) rfl (fun α1566 e1567 => ?_)
                        have hI1568 : qI σ α1566 κ ρ := by rw [e1567]; exact qI_r hI1526 57 _ rfl (show (-2147483648) ≤ v1565 ∧ v1565 ≤ 2147483647 by omega)
                        have hF1569 : qFr [] [57] σ α σ α1566 := by rw [e1567]; exact qFr_r hF1527 57 _ (by decide)
                        refine qr_goto 234 rfl rfl ?_
                        refine qr_iinc _ 237 rfl (qm_gk (qm_gk (qm_gk g1522 (by decide) (Or.inr rfl)) (by decide) (Or.inl (by decide))) (by decide) (Or.inl (by decide))) (by decide) rfl rfl ?_
                        refine qr_goto 4 rfl rfl ?_
                        exact ih1534 _ u1521 (u1523 + 1) α1566 (by omega) (qm_gk (qm_gk (qm_gk (qm_gk g1518 (by decide) (Or.inl (by decide))) (by decide) (Or.inl (by decide))) (by decide) (Or.inl (by decide))) (by decide) (Or.inl (by decide))) (qm_gk (qm_gk (qm_gk (qm_gk g1519 (by decide) (Or.inl (by decide))) (by decide) (Or.inl (by decide))) (by decide) (Or.inl (by decide))) (by decide) (Or.inl (by decide))) (qm_gk (qm_gk (qm_gk (qm_gk g1520 (by decide) (Or.inl (by decide))) (by decide) (Or.inl (by decide))) (by decide) (Or.inl (by decide))) (by decide) (Or.inr rfl)) (qm_ge _ _ _) hf1530 (by omega) hI1568 hF1569 ((congrFun e1567 56).trans ((qw_r_ne (by decide)).trans hk1528)) ((congrFun e1567 59).trans ((qw_r_ne (by decide)).trans hk1529)) (by rw [(congrFun e1567 57).trans qw_r_eq]; exact hx1532.trans (qws_neg (by omega) (by rw [← hrv1536]; omega) (by omega) (by rw [← hv1550]; exact qtx_can hev1565 (by omega)) rfl))
                  · skip
                    refine qr_aload_n 160 rfl (qm_gk (qm_gk (qm_gk g1518 (by decide) (Or.inl (by decide))) (by decide) (Or.inl (by decide))) (by decide) (Or.inl (by decide))) rfl ?_
                    refine qr_get 163 rfl rfl rfl (by decide) rfl ?_
                    refine qr_iload_n 164 rfl (qm_gk (qm_gk (qm_gk g1520 (by decide) (Or.inl (by decide))) (by decide) (Or.inl (by decide))) (by decide) (Or.inl (by decide))) rfl ?_
                    refine qr_iconst 165 rfl rfl ?_
                    refine qr_isub 166 rfl rfl ?_
                    refine qr_iload 168 rfl (qm_ge _ _ _) rfl ?_
                    refine qr_if_ne 175 171 rfl rfl rfl hs1551 (fun h1570 => ?_) (fun h1570 => ?_)
                    · skip
                      as_aux_lemma =>
                        refine qr_iconst 176 rfl rfl ?_
                        refine qr_iastore 177 rfl (by decide) rfl (by omega) (by decide) rfl ?_
                        refine qy_wA (qw_r α1525 57 (qzu (α1525 57) ((u1521 - 1) : Int).toNat 0)) rfl (fun α1571 e1572 => ?_)
                        have hI1573 : qI σ α1571 κ ρ := by rw [e1572]; exact qI_r hI1526 57 _ rfl (show (-2147483648) ≤ 0 ∧ 0 ≤ 2147483647 by omega)
                        have hF1574 : qFr [] [57] σ α σ α1571 := by rw [e1572]; exact qFr_r hF1527 57 _ (by decide)
                        refine qr_goto 234 rfl rfl ?_
                        refine qr_iinc _ 237 rfl (qm_gk (qm_gk (qm_gk g1522 (by decide) (Or.inr rfl)) (by decide) (Or.inl (by decide))) (by decide) (Or.inl (by decide))) (by decide) rfl rfl ?_
                        refine qr_goto 4 rfl rfl ?_
                        exact ih1534 _ u1521 (u1523 + 1) α1571 (by omega) (qm_gk (qm_gk (qm_gk (qm_gk g1518 (by decide) (Or.inl (by decide))) (by decide) (Or.inl (by decide))) (by decide) (Or.inl (by decide))) (by decide) (Or.inl (by decide))) (qm_gk (qm_gk (qm_gk (qm_gk g1519 (by decide) (Or.inl (by decide))) (by decide) (Or.inl (by decide))) (by decide) (Or.inl (by decide))) (by decide) (Or.inl (by decide))) (qm_gk (qm_gk (qm_gk (qm_gk g1520 (by decide) (Or.inl (by decide))) (by decide) (Or.inl (by decide))) (by decide) (Or.inl (by decide))) (by decide) (Or.inr rfl)) (qm_ge _ _ _) hf1530 (by omega) hI1573 hF1574 ((congrFun e1572 56).trans ((qw_r_ne (by decide)).trans hk1528)) ((congrFun e1572 59).trans ((qw_r_ne (by decide)).trans hk1529)) (by rw [(congrFun e1572 57).trans qw_r_eq]; exact hx1532.trans (qws_not (by omega) (by rw [← hrv1536]; omega) (by omega) (by rw [← hv1550]; omega) rfl))
                    · skip
                      as_aux_lemma =>
                        refine qr_iconst 172 rfl rfl ?_
                        refine qr_goto 176 rfl rfl ?_
                        refine qr_iastore 177 rfl (by decide) rfl (by omega) (by decide) rfl ?_
                        refine qy_wA (qw_r α1525 57 (qzu (α1525 57) ((u1521 - 1) : Int).toNat 1)) rfl (fun α1575 e1576 => ?_)
                        have hI1577 : qI σ α1575 κ ρ := by rw [e1576]; exact qI_r hI1526 57 _ rfl (show (-2147483648) ≤ 1 ∧ 1 ≤ 2147483647 by omega)
                        have hF1578 : qFr [] [57] σ α σ α1575 := by rw [e1576]; exact qFr_r hF1527 57 _ (by decide)
                        refine qr_goto 234 rfl rfl ?_
                        refine qr_iinc _ 237 rfl (qm_gk (qm_gk (qm_gk g1522 (by decide) (Or.inr rfl)) (by decide) (Or.inl (by decide))) (by decide) (Or.inl (by decide))) (by decide) rfl rfl ?_
                        refine qr_goto 4 rfl rfl ?_
                        exact ih1534 _ u1521 (u1523 + 1) α1575 (by omega) (qm_gk (qm_gk (qm_gk (qm_gk g1518 (by decide) (Or.inl (by decide))) (by decide) (Or.inl (by decide))) (by decide) (Or.inl (by decide))) (by decide) (Or.inl (by decide))) (qm_gk (qm_gk (qm_gk (qm_gk g1519 (by decide) (Or.inl (by decide))) (by decide) (Or.inl (by decide))) (by decide) (Or.inl (by decide))) (by decide) (Or.inl (by decide))) (qm_gk (qm_gk (qm_gk (qm_gk g1520 (by decide) (Or.inl (by decide))) (by decide) (Or.inl (by decide))) (by decide) (Or.inl (by decide))) (by decide) (Or.inr rfl)) (qm_ge _ _ _) hf1530 (by omega) hI1577 hF1578 ((congrFun e1576 56).trans ((qw_r_ne (by decide)).trans hk1528)) ((congrFun e1576 59).trans ((qw_r_ne (by decide)).trans hk1529)) (by rw [(congrFun e1576 57).trans qw_r_eq]; exact hx1532.trans (qws_not (by omega) (by rw [← hrv1536]; omega) (by omega) (by rw [← hv1550]; omega) rfl))
                · skip
                  refine qr_iinc _ 135 rfl (qm_gk (qm_gk (qm_gk g1520 (by decide) (Or.inl (by decide))) (by decide) (Or.inl (by decide))) (by decide) (Or.inl (by decide))) (by decide) rfl rfl ?_
                  refine qr_iload 137 rfl (qm_gk (qm_ge _ _ _) (by decide) (Or.inl (by decide))) rfl ?_
                  refine qr_if_ne 234 140 rfl rfl rfl hs1551 (fun h1579 => ?_) (fun h1579 => ?_)
                  · skip
                    refine qr_iinc _ 237 rfl (qm_gk (qm_gk (qm_gk (qm_gk g1522 (by decide) (Or.inr rfl)) (by decide) (Or.inl (by decide))) (by decide) (Or.inl (by decide))) (by decide) (Or.inl (by decide))) (by decide) rfl rfl ?_
                    refine qr_goto 4 rfl rfl ?_
                    exact ih1534 _ (u1521 + (-1)) (u1523 + 1) α1525 (by omega) (qm_gk (qm_gk (qm_gk (qm_gk (qm_gk g1518 (by decide) (Or.inl (by decide))) (by decide) (Or.inl (by decide))) (by decide) (Or.inl (by decide))) (by decide) (Or.inl (by decide))) (by decide) (Or.inl (by decide))) (qm_gk (qm_gk (qm_gk (qm_gk (qm_gk g1519 (by decide) (Or.inl (by decide))) (by decide) (Or.inl (by decide))) (by decide) (Or.inl (by decide))) (by decide) (Or.inr rfl)) (by decide) (Or.inl (by decide))) (qm_gk (qm_ge _ _ _) (by decide) (Or.inr rfl)) (qm_ge _ _ _) (by omega) (by omega) hI1526 hF1527 hk1528 hk1529 (by exact hx1532.trans (qws_if (by omega) (by rw [← hrv1536]; omega) (by omega) (by rw [← hv1550, ← hrv1536]; omega)))
                  · skip
                    refine qr_iload_n 141 rfl (qm_gk (qm_gk (qm_gk (qm_gk g1522 (by decide) (Or.inr rfl)) (by decide) (Or.inl (by decide))) (by decide) (Or.inl (by decide))) (by decide) (Or.inl (by decide))) rfl ?_
                    refine qr_iload 143 rfl (qm_gk (qm_gk (qm_ge _ _ _) (by decide) (Or.inr rfl)) (by decide) (Or.inl (by decide))) rfl ?_
                    refine qr_iconst 144 rfl rfl ?_
                    refine qr_isub 145 rfl rfl ?_
                    refine qr_callN 148 rfl rfl rfl (sf_30 (d := d + 0) hI1526 (qrg hf1531 (by decide) (by decide)) (by omega)) ?_
                    rintro _ _ ⟨rfl, v1580, rfl, hv1580, hp1581⟩
                    show qr_W (qe L xs vb) (d + 1) qx_e97 _ (148, _, [.int (qz v1580)], qw σ α1525 κ ρ, 0, 0)
                    refine qr_istore_n _ 149 rfl (by decide) rfl rfl ?_
                    refine qr_goto 234 rfl rfl ?_
                    as_aux_lemma =>
                      refine qr_iinc _ 237 rfl (qm_ge _ _ _) (by decide) rfl rfl ?_
                      refine qr_goto 4 rfl rfl ?_
                      exact ih1534 _ (u1521 + (-1)) (v1580 + 1) α1525 (by omega) (qm_gk (qm_gk (qm_gk (qm_gk (qm_gk (qm_gk g1518 (by decide) (Or.inl (by decide))) (by decide) (Or.inl (by decide))) (by decide) (Or.inl (by decide))) (by decide) (Or.inl (by decide))) (by decide) (Or.inl (by decide))) (by decide) (Or.inl (by decide))) (qm_gk (qm_gk (qm_gk (qm_gk (qm_gk (qm_gk g1519 (by decide) (Or.inl (by decide))) (by decide) (Or.inl (by decide))) (by decide) (Or.inl (by decide))) (by decide) (Or.inr rfl)) (by decide) (Or.inl (by decide))) (by decide) (Or.inl (by decide))) (qm_gk (qm_gk (qm_ge _ _ _) (by decide) (Or.inr rfl)) (by decide) (Or.inr rfl)) (qm_ge _ _ _) (by omega) (by omega) hI1526 hF1527 hk1528 hk1529 (by exact hx1532.trans (qws_if (by omega) (by rw [← hrv1536]; omega) (by omega) (by rw [← hv1550, ← hrv1536]; omega)))
              · skip
                refine qr_iload 124 rfl (qm_ge _ _ _) rfl ?_
                refine qr_retI rfl rfl (by decide) (by decide) ?_
                exact ⟨_, rfl, hI1526, hF1527, v1550, rfl, hs1551, (by rw [hx1532, (qws_end (by omega) (by rw [← hrv1536]; omega) (by omega))]; exact hv1550)⟩
            · skip
              refine qr_iconst 104 rfl rfl ?_
              refine qr_retI rfl rfl (by decide) (by decide) ?_
              exact ⟨_, rfl, hI1526, hF1527, 0, rfl, (by decide), (by rw [hx1532, (qws_emp (by omega) (by rw [← hrv1536]; omega) (by omega))])⟩
          · skip
            refine qr_iload_n 49 rfl (qm_gk (qm_gk g1520 (by decide) (Or.inl (by decide))) (by decide) (Or.inl (by decide))) rfl ?_
            refine qr_aload_n 50 rfl (qm_gk (qm_gk g1518 (by decide) (Or.inl (by decide))) (by decide) (Or.inl (by decide))) rfl ?_
            refine qr_get 53 rfl rfl rfl (by decide) rfl ?_
            refine qr_alen 54 rfl rfl (by first | exact Or.inl (by decide) | exact Or.inr (Or.inl rfl) | exact Or.inr (Or.inr (Or.inl rfl)) | exact Or.inr (Or.inr (Or.inr (Or.inl rfl)))) rfl ?_
            refine qy_v 120 rfl ?_
            refine qr_icmp_lt 59 57 rfl rfl rfl (qrg hf1530 (by decide) (by decide)) (by decide) (fun h1582 => ?_) (fun h1582 => ?_)
            · skip
              refine qr_aload_n 60 rfl (qm_gk (qm_gk g1518 (by decide) (Or.inl (by decide))) (by decide) (Or.inl (by decide))) rfl ?_
              refine qr_get 63 rfl rfl rfl (by decide) rfl ?_
              refine qr_iload_n 64 rfl (qm_gk (qm_gk g1520 (by decide) (Or.inl (by decide))) (by decide) (Or.inl (by decide))) rfl ?_
              refine qr_iinc _ 67 rfl (qm_gk (qm_gk g1520 (by decide) (Or.inl (by decide))) (by decide) (Or.inl (by decide))) (by decide) rfl rfl ?_
              refine qr_iload 69 rfl (qm_gk (qm_gk (qm_ge _ _ _) (by decide) (Or.inr rfl)) (by decide) (Or.inl (by decide))) rfl ?_
              refine qr_bipush 71 rfl (by decide) rfl ?_
              refine qr_icmp_ne 79 74 rfl rfl rfl (by omega) (by decide) (fun h1583 => ?_) (fun h => False.elim (by omega))
              refine qr_iload 81 rfl (qm_gk (qm_ge _ _ _) (by decide) (Or.inl (by decide))) rfl ?_
              refine qr_aload_n 82 rfl (qm_gk (qm_gk (qm_gk g1519 (by decide) (Or.inl (by decide))) (by decide) (Or.inl (by decide))) (by decide) (Or.inr rfl)) rfl ?_
              refine qr_alen 83 rfl rfl (by first | exact Or.inl (by decide) | exact Or.inr (Or.inl rfl) | exact Or.inr (Or.inr (Or.inl rfl)) | exact Or.inr (Or.inr (Or.inr (Or.inl rfl)))) rfl ?_
              refine qy_v 9 rfl ?_
              refine qr_icmp_ge 93 86 rfl rfl rfl (by omega) (by decide) (fun h1584 => ?_) (fun h1584 => ?_)
              · skip
                refine qr_iconst 94 rfl rfl ?_
                refine qr_iastore 95 rfl (by decide) rfl (by omega) (by decide) rfl ?_
                refine qy_wA (qw_r α1525 57 (qzu (α1525 57) (u1521 : Int).toNat 0)) rfl (fun α1585 e1586 => ?_)
                have hI1587 : qI σ α1585 κ ρ := by rw [e1586]; exact qI_r hI1526 57 _ rfl (show (-2147483648) ≤ 0 ∧ 0 ≤ 2147483647 by omega)
                have hF1588 : qFr [] [57] σ α σ α1585 := by rw [e1586]; exact qFr_r hF1527 57 _ (by decide)
                refine qr_goto 234 rfl rfl ?_
                refine qr_iinc _ 237 rfl (qm_gk (qm_gk (qm_gk g1522 (by decide) (Or.inr rfl)) (by decide) (Or.inl (by decide))) (by decide) (Or.inl (by decide))) (by decide) rfl rfl ?_
                refine qr_goto 4 rfl rfl ?_
                exact ih1534 _ (u1521 + 1) (u1523 + 1) α1585 (by omega) (qm_gk (qm_gk (qm_gk (qm_gk g1518 (by decide) (Or.inl (by decide))) (by decide) (Or.inl (by decide))) (by decide) (Or.inl (by decide))) (by decide) (Or.inl (by decide))) (qm_gk (qm_gk (qm_gk (qm_gk g1519 (by decide) (Or.inl (by decide))) (by decide) (Or.inl (by decide))) (by decide) (Or.inr rfl)) (by decide) (Or.inl (by decide))) (qm_gk (qm_ge _ _ _) (by decide) (Or.inr rfl)) (qm_ge _ _ _) (by omega) (by omega) hI1587 hF1588 ((congrFun e1586 56).trans ((qw_r_ne (by decide)).trans hk1528)) ((congrFun e1586 59).trans ((qw_r_ne (by decide)).trans hk1529)) (by rw [(congrFun e1586 57).trans qw_r_eq]; exact hx1532.trans (qws_nam9 (by omega) (by rw [← hrv1536]; omega) (by omega) (by rw [← hrv1536]; omega) rfl rfl))
              · skip
                refine qr_aload_n 87 rfl (qm_gk (qm_gk (qm_gk g1519 (by decide) (Or.inl (by decide))) (by decide) (Or.inl (by decide))) (by decide) (Or.inr rfl)) rfl ?_
                refine qr_iload 89 rfl (qm_gk (qm_ge _ _ _) (by decide) (Or.inl (by decide))) rfl ?_
                refine qr_iaload 90 rfl rfl (by omega) (by decide) rfl ?_
                refine qr_topI (fun v1589 hv1589 => ?_)
                have hs1590 : (-2147483648) ≤ v1589 ∧ v1589 ≤ 2147483647 := by rw [hv1589]; exact hI1526.2.1 59 _ (show _ < 9 by omega)
                have hrv1589 : v1589 = (α 59) (v1540 : Int).toNat := hv1589.trans (congrFun hk1529 _)
                refine qr_goto 94 rfl rfl ?_
                refine qr_iastore 95 rfl (by decide) rfl (by omega) (by decide) rfl ?_
                refine qy_wA (qw_r α1525 57 (qzu (α1525 57) (u1521 : Int).toNat v1589)) rfl (fun α1591 e1592 => ?_)
                have hI1593 : qI σ α1591 κ ρ := by rw [e1592]; exact qI_r hI1526 57 _ rfl (show (-2147483648) ≤ v1589 ∧ v1589 ≤ 2147483647 by omega)
                have hF1594 : qFr [] [57] σ α σ α1591 := by rw [e1592]; exact qFr_r hF1527 57 _ (by decide)
                refine qr_goto 234 rfl rfl ?_
                refine qr_iinc _ 237 rfl (qm_gk (qm_gk (qm_gk g1522 (by decide) (Or.inr rfl)) (by decide) (Or.inl (by decide))) (by decide) (Or.inl (by decide))) (by decide) rfl rfl ?_
                refine qr_goto 4 rfl rfl ?_
                exact ih1534 _ (u1521 + 1) (u1523 + 1) α1591 (by omega) (qm_gk (qm_gk (qm_gk (qm_gk g1518 (by decide) (Or.inl (by decide))) (by decide) (Or.inl (by decide))) (by decide) (Or.inl (by decide))) (by decide) (Or.inl (by decide))) (qm_gk (qm_gk (qm_gk (qm_gk g1519 (by decide) (Or.inl (by decide))) (by decide) (Or.inl (by decide))) (by decide) (Or.inr rfl)) (by decide) (Or.inl (by decide))) (qm_gk (qm_ge _ _ _) (by decide) (Or.inr rfl)) (qm_ge _ _ _) (by omega) (by omega) hI1593 hF1594 ((congrFun e1592 56).trans ((qw_r_ne (by decide)).trans hk1528)) ((congrFun e1592 59).trans ((qw_r_ne (by decide)).trans hk1529)) (by rw [(congrFun e1592 57).trans qw_r_eq]; exact hx1532.trans (qws_nam (by omega) (by rw [← hrv1536]; omega) (by omega) (by rw [← hrv1536]; omega) (by rw [← hrv1536, show v1536 % 65536 = v1540 by omega]; exact hrv1589) rfl))
            · skip
              refine qr_iconst 58 rfl rfl ?_
              refine qr_retI rfl rfl (by decide) (by decide) ?_
              exact ⟨_, rfl, hI1526, hF1527, 0, rfl, (by decide), (by rw [hx1532, (qws_ful (by omega) (by rw [← hrv1536]; omega) (by omega))])⟩
  exact hL1533 ((65536 - 0 + 1 : Int)).toNat _ 0 0 α (by omega) rfl rfl rfl rfl (by decide) (by decide) hI hF0 rfl rfl rfl

set_option maxHeartbeats 4000000 in
set_option maxRecDepth 20000 in
/-- OneRoof$Custom.worth -/
theorem sf_97_82_59x {L : Nat} {xs : Nat → Int} {vb : Bool} {d : Nat} {σ α : Nat → Nat → Int} {κ : Nat → Option Nat} {ρ : Nat}  (hI : qI σ α κ ρ) (p0 : ∀ k : Int, 0 ≤ k → k < σ 82 5 → 0 ≤ α 84 k.toNat ∧ α 84 k.toNat < 8388608) : qm_T (qe L xs vb) (d + 2) 97 [.ref 82, .ref 59] (qw σ α κ ρ) (fun r w' => ∃ α', w' = qw σ α' κ ρ ∧ qI σ α' κ ρ ∧ qFr [] [85] σ α σ α' ∧ ∃ v : Int, r = some (.int (qz v)) ∧ ((-2147483648) ≤ v ∧ v ≤ 2147483647) ∧ v = qwv (α 84) (α 59) (σ 82 5) 0 (α 85) 0) := by
  refine qr_start (d := d + 1) qv_e97 (Nat.le_of_ble_eq_true rfl) ?_
  show qr_W (qe L xs vb) (d + 1) qx_e97 _ (0, [(0, .ref 82), (1, .ref 59)], [], _, 0, 0)
  have hF0 := qFr_rf [] [85] σ α
  have hz82_5 : 0 ≤ σ 82 5 ∧ σ 82 5 ≤ 122 := hI.1 82 5
  refine qr_iconst 1 rfl rfl ?_
  refine qr_istore_n _ 2 rfl (by decide) rfl rfl ?_
  refine qr_iconst 3 rfl rfl ?_
  refine qr_istore_n _ 4 rfl (by decide) rfl rfl ?_
  have hL1533 : ∀ (n : Nat) (ls : qm_L) (u1521 u1523 : Int) (α1525 : Nat → Nat → Int), 65536 - u1523 < (n : Int) → qm_get ls 0 = some (.ref 82) → qm_get ls 1 = some (.ref 59) → qm_get ls 2 = some (.int (qz u1521)) → qm_get ls 3 = some (.int (qz u1523)) → (0 ≤ u1521 ∧ u1521 ≤ 120) → (0 ≤ u1523 ∧ u1523 ≤ 65535) → qI σ α1525 κ ρ → qFr [] [85] σ α σ α1525 → α1525 59 = (α 59) → α1525 84 = (α 84) → qwv (α 84) (α 59) (σ 82 5) 0 (α 85) 0 = qwv (α 84) (α 59) (σ 82 5) u1523 (α1525 85) u1521 → qr_W (qe L xs vb) (d + 1) qx_e97 (fun r w' => ∃ α', w' = qw σ α' κ ρ ∧ qI σ α' κ ρ ∧ qFr [] [85] σ α σ α' ∧ ∃ v : Int, r = some (.int (qz v)) ∧ ((-2147483648) ≤ v ∧ v ≤ 2147483647) ∧ v = qwv (α 84) (α 59) (σ 82 5) 0 (α 85) 0) (4, ls, [], qw σ α1525 κ ρ, 0, 0) := by
    intro n
    induction n with
    | zero => intro ls u1521 u1523 α1525 hm g1518 g1519 g1520 g1522 hf1530 hf1531 hI1526 hF1527 hk1528 hk1529 hx1532; exact False.elim (by omega)
    | succ n ih1534 =>
      intro ls u1521 u1523 α1525 hm g1518 g1519 g1520 g1522 hf1530 hf1531 hI1526 hF1527 hk1528 hk1529 hx1532
      refine qr_iload_n 5 rfl g1522 rfl ?_
      refine qr_aload_n 6 rfl g1518 rfl ?_
      refine qr_get 9 rfl rfl rfl (by decide) rfl ?_
      refine qr_icmp_ge 240 12 rfl rfl rfl (qrg hf1531 (by decide) (by decide)) (qrg hz82_5 (by decide) (by decide)) (fun h1535 => ?_) (fun h1535 => ?_)
      · skip
        refine qr_iconst 241 rfl rfl ?_
        refine qr_retI rfl rfl (by decide) (by decide) ?_
        exact ⟨_, rfl, hI1526, hF1527, 0, rfl, (by decide), (by rw [hx1532, qwv_end (by omega)])⟩
      · skip
        refine qr_aload_n 13 rfl g1518 rfl ?_
        refine qr_get 16 rfl rfl rfl (by decide) rfl ?_
        refine qr_iload_n 17 rfl g1522 rfl ?_
        refine qr_iaload 18 rfl rfl (by omega) (by decide) rfl ?_
        refine qr_topI (fun v1536 hv1536 => ?_)
        have hs1537 : (-2147483648) ≤ v1536 ∧ v1536 ≤ 2147483647 := by rw [hv1536]; exact hI1526.2.1 84 _ (show _ < 122 by omega)
        have hrv1536 : v1536 = (α 84) (u1523 : Int).toNat := hv1536.trans (congrFun hk1529 _)
        have hcv1536 := p0 u1523 (by omega) (by omega)
        rw [← hrv1536] at hcv1536
        refine qr_bipush 20 rfl (by decide) rfl ?_
        refine qr_iushr 21 rfl rfl ?_
        refine qy_v (v1536 / 65536) (qz_ushr16 (by omega)) ?_
        refine qr_istore _ 23 rfl (by decide) rfl rfl ?_
        refine qr_aload_n 24 rfl (qm_gk g1518 (by decide) (Or.inl (by decide))) rfl ?_
        refine qr_get 27 rfl rfl rfl (by decide) rfl ?_
        refine qr_iload_n 28 rfl (qm_gk g1522 (by decide) (Or.inr rfl)) rfl ?_
        refine qr_iaload 29 rfl rfl (by omega) (by decide) rfl ?_
        refine qr_topI (fun v1538 hv1538 => ?_)
        have hs1539 : (-2147483648) ≤ v1538 ∧ v1538 ≤ 2147483647 := by rw [hv1538]; exact hI1526.2.1 84 _ (show _ < 122 by omega)
        have hrv1538 : v1538 = (α 84) (u1523 : Int).toNat := hv1538.trans (congrFun hk1529 _)
        have hdv1538 : v1538 = v1536 := hrv1538.trans hrv1536.symm
        refine qr_ldc 65535 31 rfl (by decide) rfl ?_
        refine qr_iand 32 rfl rfl ?_
        refine qy_andrE (by omega) (fun v1540 hv1540 hev1540 => ?_)
        refine qr_istore _ 34 rfl (by decide) rfl rfl ?_
        rw [qz_and_m (by omega)] at hev1540
        refine qr_iload 36 rfl (qm_gk (qm_ge _ _ _) (by decide) (Or.inr rfl)) rfl ?_
        refine qr_bipush 38 rfl (by decide) rfl ?_
        refine qr_icmp_eq 48 41 rfl rfl rfl (by omega) (by decide) (fun h1541 => ?_) (fun h1541 => ?_)
        · skip
          refine qr_iload_n 49 rfl (qm_gk (qm_gk g1520 (by decide) (Or.inl (by decide))) (by decide) (Or.inl (by decide))) rfl ?_
          refine qr_aload_n 50 rfl (qm_gk (qm_gk g1518 (by decide) (Or.inl (by decide))) (by decide) (Or.inl (by decide))) rfl ?_
          refine qr_get 53 rfl rfl rfl (by decide) rfl ?_
          refine qr_alen 54 rfl rfl (by first | exact Or.inl (by decide) | exact Or.inr (Or.inl rfl) | exact Or.inr (Or.inr (Or.inl rfl)) | exact Or.inr (Or.inr (Or.inr (Or.inl rfl)))) rfl ?_
          refine qy_v 120 rfl ?_
          refine qr_icmp_lt 59 57 rfl rfl rfl (qrg hf1530 (by decide) (by decide)) (by decide) (fun h1542 => ?_) (fun h1542 => ?_)
          · skip
            refine qr_aload_n 60 rfl (qm_gk (qm_gk g1518 (by decide) (Or.inl (by decide))) (by decide) (Or.inl (by decide))) rfl ?_
            refine qr_get 63 rfl rfl rfl (by decide) rfl ?_
            refine qr_iload_n 64 rfl (qm_gk (qm_gk g1520 (by decide) (Or.inl (by decide))) (by decide) (Or.inl (by decide))) rfl ?_
            refine qr_iinc _ 67 rfl (qm_gk (qm_gk g1520 (by decide) (Or.inl (by decide))) (by decide) (Or.inl (by decide))) (by decide) rfl rfl ?_
            refine qr_iload 69 rfl (qm_gk (qm_gk (qm_ge _ _ _) (by decide) (Or.inr rfl)) (by decide) (Or.inl (by decide))) rfl ?_
            refine qr_bipush 71 rfl (by decide) rfl ?_
            refine qr_icmp_ne 79 74 rfl rfl rfl (by omega) (by decide) (fun h => False.elim (by omega)) (fun h1543 => ?_)
            refine qr_iload 76 rfl (qm_gk (qm_ge _ _ _) (by decide) (Or.inl (by decide))) rfl ?_
            refine qr_goto 94 rfl rfl ?_
            refine qr_iastore 95 rfl (by decide) rfl (by omega) (by decide) rfl ?_
            refine qy_wA (qw_r α1525 85 (qzu (α1525 85) (u1521 : Int).toNat v1540)) rfl (fun α1544 e1545 => ?_)
            have hI1546 : qI σ α1544 κ ρ := by rw [e1545]; exact qI_r hI1526 85 _ rfl (show (-2147483648) ≤ v1540 ∧ v1540 ≤ 2147483647 by omega)
            have hF1547 : qFr [] [85] σ α σ α1544 := by rw [e1545]; exact qFr_r hF1527 85 _ (by decide)
            refine qr_goto 234 rfl rfl ?_
            refine qr_iinc _ 237 rfl (qm_gk (qm_gk (qm_gk g1522 (by decide) (Or.inr rfl)) (by decide) (Or.inl (by decide))) (by decide) (Or.inl (by decide))) (by decide) rfl rfl ?_
            refine qr_goto 4 rfl rfl ?_
            exact ih1534 _ (u1521 + 1) (u1523 + 1) α1544 (by omega) (qm_gk (qm_gk (qm_gk (qm_gk g1518 (by decide) (Or.inl (by decide))) (by decide) (Or.inl (by decide))) (by decide) (Or.inl (by decide))) (by decide) (Or.inl (by decide))) (qm_gk (qm_gk (qm_gk (qm_gk g1519 (by decide) (Or.inl (by decide))) (by decide) (Or.inl (by decide))) (by decide) (Or.inr rfl)) (by decide) (Or.inl (by decide))) (qm_gk (qm_ge _ _ _) (by decide) (Or.inr rfl)) (qm_ge _ _ _) (by omega) (by omega) hI1546 hF1547 ((congrFun e1545 59).trans ((qw_r_ne (by decide)).trans hk1528)) ((congrFun e1545 84).trans ((qw_r_ne (by decide)).trans hk1529)) (by rw [(congrFun e1545 85).trans qw_r_eq]; exact hx1532.trans (qws_num (by omega) (by rw [← hrv1536]; omega) (by omega) (by rw [← hrv1536]; omega) rfl))
          · skip
            refine qr_iconst 58 rfl rfl ?_
            refine qr_retI rfl rfl (by decide) (by decide) ?_
            exact ⟨_, rfl, hI1526, hF1527, 0, rfl, (by decide), (by rw [hx1532, (qws_ful (by omega) (by rw [← hrv1536]; omega) (by omega))])⟩
        · skip
          refine qr_iload 43 rfl (qm_gk (qm_ge _ _ _) (by decide) (Or.inr rfl)) rfl ?_
          refine qr_bipush 45 rfl (by decide) rfl ?_
          refine qr_icmp_ne 98 48 rfl rfl rfl (by omega) (by decide) (fun h1548 => ?_) (fun h1548 => ?_)
          · skip
            refine qr_iload_n 99 rfl (qm_gk (qm_gk g1520 (by decide) (Or.inl (by decide))) (by decide) (Or.inl (by decide))) rfl ?_
            refine qr_iconst 100 rfl rfl ?_
            refine qr_icmp_ge 105 103 rfl rfl rfl (qrg hf1530 (by decide) (by decide)) (by decide) (fun h1549 => ?_) (fun h1549 => ?_)
            · skip
              refine qr_aload_n 106 rfl (qm_gk (qm_gk g1518 (by decide) (Or.inl (by decide))) (by decide) (Or.inl (by decide))) rfl ?_
              refine qr_get 109 rfl rfl rfl (by decide) rfl ?_
              refine qr_iload_n 110 rfl (qm_gk (qm_gk g1520 (by decide) (Or.inl (by decide))) (by decide) (Or.inl (by decide))) rfl ?_
              refine qr_iconst 111 rfl rfl ?_
              refine qr_isub 112 rfl rfl ?_
              refine qr_iaload 113 rfl rfl (by omega) (by decide) rfl ?_
              refine qr_topI (fun v1550 hv1550 => ?_)
              have hs1551 : (-2147483648) ≤ v1550 ∧ v1550 ≤ 2147483647 := by rw [hv1550]; exact hI1526.2.1 85 _ (show _ < 120 by omega)
              refine qr_istore _ 115 rfl (by decide) rfl rfl ?_
              refine qr_iload 117 rfl (qm_gk (qm_gk (qm_ge _ _ _) (by decide) (Or.inr rfl)) (by decide) (Or.inl (by decide))) rfl ?_
              refine qr_bipush 119 rfl (by decide) rfl ?_
              refine qr_icmp_ne 125 122 rfl rfl rfl (by omega) (by decide) (fun h1552 => ?_) (fun h1552 => ?_)
              · skip
                refine qr_iload 127 rfl (qm_gk (qm_gk (qm_ge _ _ _) (by decide) (Or.inr rfl)) (by decide) (Or.inl (by decide))) rfl ?_
                refine qr_bipush 129 rfl (by decide) rfl ?_
                refine qr_icmp_ne 152 132 rfl rfl rfl (by omega) (by decide) (fun h1553 => ?_) (fun h1553 => ?_)
                · skip
                  refine qr_iload 154 rfl (qm_gk (qm_gk (qm_ge _ _ _) (by decide) (Or.inr rfl)) (by decide) (Or.inl (by decide))) rfl ?_
                  refine qr_bipush 156 rfl (by decide) rfl ?_
                  refine qr_icmp_ne 180 159 rfl rfl rfl (by omega) (by decide) (fun h1554 => ?_) (fun h1554 => ?_)
                  · skip
                    refine qr_iload 182 rfl (qm_gk (qm_gk (qm_ge _ _ _) (by decide) (Or.inr rfl)) (by decide) (Or.inl (by decide))) rfl ?_
                    refine qr_bipush 184 rfl (by decide) rfl ?_
                    refine qr_icmp_ne 201 187 rfl rfl rfl (by omega) (by decide) (fun h1555 => ?_) (fun h1555 => ?_)
                    · skip
                      refine qr_iload_n 202 rfl (qm_gk (qm_gk (qm_gk g1520 (by decide) (Or.inl (by decide))) (by decide) (Or.inl (by decide))) (by decide) (Or.inl (by decide))) rfl ?_
                      refine qr_iconst 203 rfl rfl ?_
                      refine qr_icmp_ge 208 206 rfl rfl rfl (qrg hf1530 (by decide) (by decide)) (by decide) (fun h1556 => ?_) (fun h1556 => ?_)
                      · skip
                        refine qr_iinc _ 211 rfl (qm_gk (qm_gk (qm_gk g1520 (by decide) (Or.inl (by decide))) (by decide) (Or.inl (by decide))) (by decide) (Or.inl (by decide))) (by decide) rfl rfl ?_
                        as_aux_lemma =>
                          refine qr_aload_n 212 rfl (qm_gk (qm_gk (qm_gk (qm_gk g1518 (by decide) (Or.inl (by decide))) (by decide) (Or.inl (by decide))) (by decide) (Or.inl (by decide))) (by decide) (Or.inl (by decide))) rfl ?_
                          refine qr_get 215 rfl rfl rfl (by decide) rfl ?_
                          refine qr_iload_n 216 rfl (qm_ge _ _ _) rfl ?_
                          refine qr_iconst 217 rfl rfl ?_
                          refine qr_isub 218 rfl rfl ?_
                          refine qr_iload 220 rfl (qm_gk (qm_gk (qm_gk (qm_ge _ _ _) (by decide) (Or.inr rfl)) (by decide) (Or.inl (by decide))) (by decide) (Or.inl (by decide))) rfl ?_
                          refine qr_aload_n 221 rfl (qm_gk (qm_gk (qm_gk (qm_gk g1518 (by decide) (Or.inl (by decide))) (by decide) (Or.inl (by decide))) (by decide) (Or.inl (by decide))) (by decide) (Or.inl (by decide))) rfl ?_
                          refine qr_get 224 rfl rfl rfl (by decide) rfl ?_
                          refine qr_iload_n 225 rfl (qm_ge _ _ _) rfl ?_
                          refine qr_iconst 226 rfl rfl ?_
                          refine qr_isub 227 rfl rfl ?_
                          refine qr_iaload 228 rfl rfl (by omega) (by decide) rfl ?_
                          refine qr_topI (fun v1557 hv1557 => ?_)
                          have hs1558 : (-2147483648) ≤ v1557 ∧ v1557 ≤ 2147483647 := by rw [hv1557]; exact hI1526.2.1 85 _ (show _ < 120 by omega)
                          refine qr_iload 230 rfl (qm_gk (qm_ge _ _ _) (by decide) (Or.inl (by decide))) rfl ?_
                          refine qr_callN 233 rfl rfl rfl (sf_98x (d := d + 0) hI1526 (by omega) hs1558 hs1551) ?_
                          rintro _ _ ⟨rfl, v1559, rfl, hv1559, hx1560⟩
                          show qr_W (qe L xs vb) (d + 1) qx_e97 _ (233, _, [.int (qz v1559), .int (qz ((u1521 + (-1)) - 1)), .ref 85], qw σ α1525 κ ρ, 0, 0)
                          refine qr_iastore 234 rfl (by decide) rfl (by omega) (by decide) rfl ?_
                          refine qy_wA (qw_r α1525 85 (qzu (α1525 85) (((u1521 + (-1)) - 1) : Int).toNat v1559)) rfl (fun α1561 e1562 => ?_)
                          have hI1563 : qI σ α1561 κ ρ := by rw [e1562]; exact qI_r hI1526 85 _ rfl (show (-2147483648) ≤ v1559 ∧ v1559 ≤ 2147483647 by omega)
                          have hF1564 : qFr [] [85] σ α σ α1561 := by rw [e1562]; exact qFr_r hF1527 85 _ (by decide)
                          refine qr_iinc _ 237 rfl (qm_gk (qm_gk (qm_gk (qm_gk g1522 (by decide) (Or.inr rfl)) (by decide) (Or.inl (by decide))) (by decide) (Or.inl (by decide))) (by decide) (Or.inl (by decide))) (by decide) rfl rfl ?_
                          refine qr_goto 4 rfl rfl ?_
                          exact ih1534 _ (u1521 + (-1)) (u1523 + 1) α1561 (by omega) (qm_gk (qm_gk (qm_gk (qm_gk (qm_gk g1518 (by decide) (Or.inl (by decide))) (by decide) (Or.inl (by decide))) (by decide) (Or.inl (by decide))) (by decide) (Or.inl (by decide))) (by decide) (Or.inl (by decide))) (qm_gk (qm_gk (qm_gk (qm_gk (qm_gk g1519 (by decide) (Or.inl (by decide))) (by decide) (Or.inl (by decide))) (by decide) (Or.inl (by decide))) (by decide) (Or.inr rfl)) (by decide) (Or.inl (by decide))) (qm_gk (qm_ge _ _ _) (by decide) (Or.inr rfl)) (qm_ge _ _ _) (by omega) (by omega) hI1563 hF1564 ((congrFun e1562 59).trans ((qw_r_ne (by decide)).trans hk1528)) ((congrFun e1562 84).trans ((qw_r_ne (by decide)).trans hk1529)) (by rw [(congrFun e1562 85).trans qw_r_eq]; exact hx1532.trans (qws_bin (by omega) (by rw [← hrv1536]; omega) (by omega) (by rw [show (u1521 - 2 : Int).toNat = (((u1521 + (-1)) - 1) : Int).toNat by omega, ← hrv1536, ← hv1557, ← hv1550]; exact (hx1560).trans (by rw [show v1536 / 65536 = (v1536 / 65536) by omega])) (by omega)))
                      · skip
                        refine qr_iconst 207 rfl rfl ?_
                        as_aux_lemma =>
                          refine qr_retI rfl rfl (by decide) (by decide) ?_
                          exact ⟨_, rfl, hI1526, hF1527, 0, rfl, (by decide), (by rw [hx1532, (qws_two (by omega) (by rw [← hrv1536]; omega) (by omega))])⟩
                    · skip
                      refine qr_aload_n 188 rfl (qm_gk (qm_gk (qm_gk g1518 (by decide) (Or.inl (by decide))) (by decide) (Or.inl (by decide))) (by decide) (Or.inl (by decide))) rfl ?_
                      refine qr_get 191 rfl rfl rfl (by decide) rfl ?_
                      refine qr_iload_n 192 rfl (qm_gk (qm_gk (qm_gk g1520 (by decide) (Or.inl (by decide))) (by decide) (Or.inl (by decide))) (by decide) (Or.inl (by decide))) rfl ?_
                      refine qr_iconst 193 rfl rfl ?_
                      as_aux_lemma =>
                        refine qr_isub 194 rfl rfl ?_
                        refine qr_iload 196 rfl (qm_ge _ _ _) rfl ?_
                        refine qr_ineg 197 rfl rfl ?_
                        refine qy_canE (fun v1565 hv1565 hev1565 => ?_)
                        refine qr_iastore 198 rfl (by decide) rfl (by omega) (by decide) rfl ?_
                        refine qy_wA (qw_r α1525 85 (qzu (α1525 85) ((u1521 - 1) : Int).toNat v1565)) rfl (fun α1566 e1567 => ?_)
                        have hI1568 : qI σ α1566 κ ρ := by rw [e1567]; exact qI_r hI1526 85 _ rfl (show (-2147483648) ≤ v1565 ∧ v1565 ≤ 2147483647 by omega)
                        have hF1569 : qFr [] [85] σ α σ α1566 := by rw [e1567]; exact qFr_r hF1527 85 _ (by decide)
                        refine qr_goto 234 rfl rfl ?_
                        refine qr_iinc _ 237 rfl (qm_gk (qm_gk (qm_gk g1522 (by decide) (Or.inr rfl)) (by decide) (Or.inl (by decide))) (by decide) (Or.inl (by decide))) (by decide) rfl rfl ?_
                        refine qr_goto 4 rfl rfl ?_
                        exact ih1534 _ u1521 (u1523 + 1) α1566 (by omega) (qm_gk (qm_gk (qm_gk (qm_gk g1518 (by decide) (Or.inl (by decide))) (by decide) (Or.inl (by decide))) (by decide) (Or.inl (by decide))) (by decide) (Or.inl (by decide))) (qm_gk (qm_gk (qm_gk (qm_gk g1519 (by decide) (Or.inl (by decide))) (by decide) (Or.inl (by decide))) (by decide) (Or.inl (by decide))) (by decide) (Or.inl (by decide))) (qm_gk (qm_gk (qm_gk (qm_gk g1520 (by decide) (Or.inl (by decide))) (by decide) (Or.inl (by decide))) (by decide) (Or.inl (by decide))) (by decide) (Or.inr rfl)) (qm_ge _ _ _) hf1530 (by omega) hI1568 hF1569 ((congrFun e1567 59).trans ((qw_r_ne (by decide)).trans hk1528)) ((congrFun e1567 84).trans ((qw_r_ne (by decide)).trans hk1529)) (by rw [(congrFun e1567 85).trans qw_r_eq]; exact hx1532.trans (qws_neg (by omega) (by rw [← hrv1536]; omega) (by omega) (by rw [← hv1550]; exact qtx_can hev1565 (by omega)) rfl))
                  · skip
                    refine qr_aload_n 160 rfl (qm_gk (qm_gk (qm_gk g1518 (by decide) (Or.inl (by decide))) (by decide) (Or.inl (by decide))) (by decide) (Or.inl (by decide))) rfl ?_
                    refine qr_get 163 rfl rfl rfl (by decide) rfl ?_
                    refine qr_iload_n 164 rfl (qm_gk (qm_gk (qm_gk g1520 (by decide) (Or.inl (by decide))) (by decide) (Or.inl (by decide))) (by decide) (Or.inl (by decide))) rfl ?_
                    refine qr_iconst 165 rfl rfl ?_
                    refine qr_isub 166 rfl rfl ?_
                    refine qr_iload 168 rfl (qm_ge _ _ _) rfl ?_
                    refine qr_if_ne 175 171 rfl rfl rfl hs1551 (fun h1570 => ?_) (fun h1570 => ?_)
                    · skip
                      as_aux_lemma =>
                        refine qr_iconst 176 rfl rfl ?_
                        refine qr_iastore 177 rfl (by decide) rfl (by omega) (by decide) rfl ?_
                        refine qy_wA (qw_r α1525 85 (qzu (α1525 85) ((u1521 - 1) : Int).toNat 0)) rfl (fun α1571 e1572 => ?_)
                        have hI1573 : qI σ α1571 κ ρ := by rw [e1572]; exact qI_r hI1526 85 _ rfl (show (-2147483648) ≤ 0 ∧ 0 ≤ 2147483647 by omega)
                        have hF1574 : qFr [] [85] σ α σ α1571 := by rw [e1572]; exact qFr_r hF1527 85 _ (by decide)
                        refine qr_goto 234 rfl rfl ?_
                        refine qr_iinc _ 237 rfl (qm_gk (qm_gk (qm_gk g1522 (by decide) (Or.inr rfl)) (by decide) (Or.inl (by decide))) (by decide) (Or.inl (by decide))) (by decide) rfl rfl ?_
                        refine qr_goto 4 rfl rfl ?_
                        exact ih1534 _ u1521 (u1523 + 1) α1571 (by omega) (qm_gk (qm_gk (qm_gk (qm_gk g1518 (by decide) (Or.inl (by decide))) (by decide) (Or.inl (by decide))) (by decide) (Or.inl (by decide))) (by decide) (Or.inl (by decide))) (qm_gk (qm_gk (qm_gk (qm_gk g1519 (by decide) (Or.inl (by decide))) (by decide) (Or.inl (by decide))) (by decide) (Or.inl (by decide))) (by decide) (Or.inl (by decide))) (qm_gk (qm_gk (qm_gk (qm_gk g1520 (by decide) (Or.inl (by decide))) (by decide) (Or.inl (by decide))) (by decide) (Or.inl (by decide))) (by decide) (Or.inr rfl)) (qm_ge _ _ _) hf1530 (by omega) hI1573 hF1574 ((congrFun e1572 59).trans ((qw_r_ne (by decide)).trans hk1528)) ((congrFun e1572 84).trans ((qw_r_ne (by decide)).trans hk1529)) (by rw [(congrFun e1572 85).trans qw_r_eq]; exact hx1532.trans (qws_not (by omega) (by rw [← hrv1536]; omega) (by omega) (by rw [← hv1550]; omega) rfl))
                    · skip
                      as_aux_lemma =>
                        refine qr_iconst 172 rfl rfl ?_
                        refine qr_goto 176 rfl rfl ?_
                        refine qr_iastore 177 rfl (by decide) rfl (by omega) (by decide) rfl ?_
                        refine qy_wA (qw_r α1525 85 (qzu (α1525 85) ((u1521 - 1) : Int).toNat 1)) rfl (fun α1575 e1576 => ?_)
                        have hI1577 : qI σ α1575 κ ρ := by rw [e1576]; exact qI_r hI1526 85 _ rfl (show (-2147483648) ≤ 1 ∧ 1 ≤ 2147483647 by omega)
                        have hF1578 : qFr [] [85] σ α σ α1575 := by rw [e1576]; exact qFr_r hF1527 85 _ (by decide)
                        refine qr_goto 234 rfl rfl ?_
                        refine qr_iinc _ 237 rfl (qm_gk (qm_gk (qm_gk g1522 (by decide) (Or.inr rfl)) (by decide) (Or.inl (by decide))) (by decide) (Or.inl (by decide))) (by decide) rfl rfl ?_
                        refine qr_goto 4 rfl rfl ?_
                        exact ih1534 _ u1521 (u1523 + 1) α1575 (by omega) (qm_gk (qm_gk (qm_gk (qm_gk g1518 (by decide) (Or.inl (by decide))) (by decide) (Or.inl (by decide))) (by decide) (Or.inl (by decide))) (by decide) (Or.inl (by decide))) (qm_gk (qm_gk (qm_gk (qm_gk g1519 (by decide) (Or.inl (by decide))) (by decide) (Or.inl (by decide))) (by decide) (Or.inl (by decide))) (by decide) (Or.inl (by decide))) (qm_gk (qm_gk (qm_gk (qm_gk g1520 (by decide) (Or.inl (by decide))) (by decide) (Or.inl (by decide))) (by decide) (Or.inl (by decide))) (by decide) (Or.inr rfl)) (qm_ge _ _ _) hf1530 (by omega) hI1577 hF1578 ((congrFun e1576 59).trans ((qw_r_ne (by decide)).trans hk1528)) ((congrFun e1576 84).trans ((qw_r_ne (by decide)).trans hk1529)) (by rw [(congrFun e1576 85).trans qw_r_eq]; exact hx1532.trans (qws_not (by omega) (by rw [← hrv1536]; omega) (by omega) (by rw [← hv1550]; omega) rfl))
                · skip
                  refine qr_iinc _ 135 rfl (qm_gk (qm_gk (qm_gk g1520 (by decide) (Or.inl (by decide))) (by decide) (Or.inl (by decide))) (by decide) (Or.inl (by decide))) (by decide) rfl rfl ?_
                  refine qr_iload 137 rfl (qm_gk (qm_ge _ _ _) (by decide) (Or.inl (by decide))) rfl ?_
                  refine qr_if_ne 234 140 rfl rfl rfl hs1551 (fun h1579 => ?_) (fun h1579 => ?_)
                  · skip
                    refine qr_iinc _ 237 rfl (qm_gk (qm_gk (qm_gk (qm_gk g1522 (by decide) (Or.inr rfl)) (by decide) (Or.inl (by decide))) (by decide) (Or.inl (by decide))) (by decide) (Or.inl (by decide))) (by decide) rfl rfl ?_
                    refine qr_goto 4 rfl rfl ?_
                    exact ih1534 _ (u1521 + (-1)) (u1523 + 1) α1525 (by omega) (qm_gk (qm_gk (qm_gk (qm_gk (qm_gk g1518 (by decide) (Or.inl (by decide))) (by decide) (Or.inl (by decide))) (by decide) (Or.inl (by decide))) (by decide) (Or.inl (by decide))) (by decide) (Or.inl (by decide))) (qm_gk (qm_gk (qm_gk (qm_gk (qm_gk g1519 (by decide) (Or.inl (by decide))) (by decide) (Or.inl (by decide))) (by decide) (Or.inl (by decide))) (by decide) (Or.inr rfl)) (by decide) (Or.inl (by decide))) (qm_gk (qm_ge _ _ _) (by decide) (Or.inr rfl)) (qm_ge _ _ _) (by omega) (by omega) hI1526 hF1527 hk1528 hk1529 (by exact hx1532.trans (qws_if (by omega) (by rw [← hrv1536]; omega) (by omega) (by rw [← hv1550, ← hrv1536]; omega)))
                  · skip
                    refine qr_iload_n 141 rfl (qm_gk (qm_gk (qm_gk (qm_gk g1522 (by decide) (Or.inr rfl)) (by decide) (Or.inl (by decide))) (by decide) (Or.inl (by decide))) (by decide) (Or.inl (by decide))) rfl ?_
                    refine qr_iload 143 rfl (qm_gk (qm_gk (qm_ge _ _ _) (by decide) (Or.inr rfl)) (by decide) (Or.inl (by decide))) rfl ?_
                    refine qr_iconst 144 rfl rfl ?_
                    refine qr_isub 145 rfl rfl ?_
                    refine qr_callN 148 rfl rfl rfl (sf_30 (d := d + 0) hI1526 (qrg hf1531 (by decide) (by decide)) (by omega)) ?_
                    rintro _ _ ⟨rfl, v1580, rfl, hv1580, hp1581⟩
                    show qr_W (qe L xs vb) (d + 1) qx_e97 _ (148, _, [.int (qz v1580)], qw σ α1525 κ ρ, 0, 0)
                    refine qr_istore_n _ 149 rfl (by decide) rfl rfl ?_
                    refine qr_goto 234 rfl rfl ?_
                    as_aux_lemma =>
                      refine qr_iinc _ 237 rfl (qm_ge _ _ _) (by decide) rfl rfl ?_
                      refine qr_goto 4 rfl rfl ?_
                      exact ih1534 _ (u1521 + (-1)) (v1580 + 1) α1525 (by omega) (qm_gk (qm_gk (qm_gk (qm_gk (qm_gk (qm_gk g1518 (by decide) (Or.inl (by decide))) (by decide) (Or.inl (by decide))) (by decide) (Or.inl (by decide))) (by decide) (Or.inl (by decide))) (by decide) (Or.inl (by decide))) (by decide) (Or.inl (by decide))) (qm_gk (qm_gk (qm_gk (qm_gk (qm_gk (qm_gk g1519 (by decide) (Or.inl (by decide))) (by decide) (Or.inl (by decide))) (by decide) (Or.inl (by decide))) (by decide) (Or.inr rfl)) (by decide) (Or.inl (by decide))) (by decide) (Or.inl (by decide))) (qm_gk (qm_gk (qm_ge _ _ _) (by decide) (Or.inr rfl)) (by decide) (Or.inr rfl)) (qm_ge _ _ _) (by omega) (by omega) hI1526 hF1527 hk1528 hk1529 (by exact hx1532.trans (qws_if (by omega) (by rw [← hrv1536]; omega) (by omega) (by rw [← hv1550, ← hrv1536]; omega)))
              · skip
                refine qr_iload 124 rfl (qm_ge _ _ _) rfl ?_
                refine qr_retI rfl rfl (by decide) (by decide) ?_
                exact ⟨_, rfl, hI1526, hF1527, v1550, rfl, hs1551, (by rw [hx1532, (qws_end (by omega) (by rw [← hrv1536]; omega) (by omega))]; exact hv1550)⟩
            · skip
              refine qr_iconst 104 rfl rfl ?_
              refine qr_retI rfl rfl (by decide) (by decide) ?_
              exact ⟨_, rfl, hI1526, hF1527, 0, rfl, (by decide), (by rw [hx1532, (qws_emp (by omega) (by rw [← hrv1536]; omega) (by omega))])⟩
          · skip
            refine qr_iload_n 49 rfl (qm_gk (qm_gk g1520 (by decide) (Or.inl (by decide))) (by decide) (Or.inl (by decide))) rfl ?_
            refine qr_aload_n 50 rfl (qm_gk (qm_gk g1518 (by decide) (Or.inl (by decide))) (by decide) (Or.inl (by decide))) rfl ?_
            refine qr_get 53 rfl rfl rfl (by decide) rfl ?_
            refine qr_alen 54 rfl rfl (by first | exact Or.inl (by decide) | exact Or.inr (Or.inl rfl) | exact Or.inr (Or.inr (Or.inl rfl)) | exact Or.inr (Or.inr (Or.inr (Or.inl rfl)))) rfl ?_
            refine qy_v 120 rfl ?_
            refine qr_icmp_lt 59 57 rfl rfl rfl (qrg hf1530 (by decide) (by decide)) (by decide) (fun h1582 => ?_) (fun h1582 => ?_)
            · skip
              refine qr_aload_n 60 rfl (qm_gk (qm_gk g1518 (by decide) (Or.inl (by decide))) (by decide) (Or.inl (by decide))) rfl ?_
              refine qr_get 63 rfl rfl rfl (by decide) rfl ?_
              refine qr_iload_n 64 rfl (qm_gk (qm_gk g1520 (by decide) (Or.inl (by decide))) (by decide) (Or.inl (by decide))) rfl ?_
              refine qr_iinc _ 67 rfl (qm_gk (qm_gk g1520 (by decide) (Or.inl (by decide))) (by decide) (Or.inl (by decide))) (by decide) rfl rfl ?_
              refine qr_iload 69 rfl (qm_gk (qm_gk (qm_ge _ _ _) (by decide) (Or.inr rfl)) (by decide) (Or.inl (by decide))) rfl ?_
              refine qr_bipush 71 rfl (by decide) rfl ?_
              refine qr_icmp_ne 79 74 rfl rfl rfl (by omega) (by decide) (fun h1583 => ?_) (fun h => False.elim (by omega))
              refine qr_iload 81 rfl (qm_gk (qm_ge _ _ _) (by decide) (Or.inl (by decide))) rfl ?_
              refine qr_aload_n 82 rfl (qm_gk (qm_gk (qm_gk g1519 (by decide) (Or.inl (by decide))) (by decide) (Or.inl (by decide))) (by decide) (Or.inr rfl)) rfl ?_
              refine qr_alen 83 rfl rfl (by first | exact Or.inl (by decide) | exact Or.inr (Or.inl rfl) | exact Or.inr (Or.inr (Or.inl rfl)) | exact Or.inr (Or.inr (Or.inr (Or.inl rfl)))) rfl ?_
              refine qy_v 9 rfl ?_
              refine qr_icmp_ge 93 86 rfl rfl rfl (by omega) (by decide) (fun h1584 => ?_) (fun h1584 => ?_)
              · skip
                refine qr_iconst 94 rfl rfl ?_
                refine qr_iastore 95 rfl (by decide) rfl (by omega) (by decide) rfl ?_
                refine qy_wA (qw_r α1525 85 (qzu (α1525 85) (u1521 : Int).toNat 0)) rfl (fun α1585 e1586 => ?_)
                have hI1587 : qI σ α1585 κ ρ := by rw [e1586]; exact qI_r hI1526 85 _ rfl (show (-2147483648) ≤ 0 ∧ 0 ≤ 2147483647 by omega)
                have hF1588 : qFr [] [85] σ α σ α1585 := by rw [e1586]; exact qFr_r hF1527 85 _ (by decide)
                refine qr_goto 234 rfl rfl ?_
                refine qr_iinc _ 237 rfl (qm_gk (qm_gk (qm_gk g1522 (by decide) (Or.inr rfl)) (by decide) (Or.inl (by decide))) (by decide) (Or.inl (by decide))) (by decide) rfl rfl ?_
                refine qr_goto 4 rfl rfl ?_
                exact ih1534 _ (u1521 + 1) (u1523 + 1) α1585 (by omega) (qm_gk (qm_gk (qm_gk (qm_gk g1518 (by decide) (Or.inl (by decide))) (by decide) (Or.inl (by decide))) (by decide) (Or.inl (by decide))) (by decide) (Or.inl (by decide))) (qm_gk (qm_gk (qm_gk (qm_gk g1519 (by decide) (Or.inl (by decide))) (by decide) (Or.inl (by decide))) (by decide) (Or.inr rfl)) (by decide) (Or.inl (by decide))) (qm_gk (qm_ge _ _ _) (by decide) (Or.inr rfl)) (qm_ge _ _ _) (by omega) (by omega) hI1587 hF1588 ((congrFun e1586 59).trans ((qw_r_ne (by decide)).trans hk1528)) ((congrFun e1586 84).trans ((qw_r_ne (by decide)).trans hk1529)) (by rw [(congrFun e1586 85).trans qw_r_eq]; exact hx1532.trans (qws_nam9 (by omega) (by rw [← hrv1536]; omega) (by omega) (by rw [← hrv1536]; omega) rfl rfl))
              · skip
                refine qr_aload_n 87 rfl (qm_gk (qm_gk (qm_gk g1519 (by decide) (Or.inl (by decide))) (by decide) (Or.inl (by decide))) (by decide) (Or.inr rfl)) rfl ?_
                refine qr_iload 89 rfl (qm_gk (qm_ge _ _ _) (by decide) (Or.inl (by decide))) rfl ?_
                refine qr_iaload 90 rfl rfl (by omega) (by decide) rfl ?_
                refine qr_topI (fun v1589 hv1589 => ?_)
                have hs1590 : (-2147483648) ≤ v1589 ∧ v1589 ≤ 2147483647 := by rw [hv1589]; exact hI1526.2.1 59 _ (show _ < 9 by omega)
                have hrv1589 : v1589 = (α 59) (v1540 : Int).toNat := hv1589.trans (congrFun hk1528 _)
                refine qr_goto 94 rfl rfl ?_
                refine qr_iastore 95 rfl (by decide) rfl (by omega) (by decide) rfl ?_
                refine qy_wA (qw_r α1525 85 (qzu (α1525 85) (u1521 : Int).toNat v1589)) rfl (fun α1591 e1592 => ?_)
                have hI1593 : qI σ α1591 κ ρ := by rw [e1592]; exact qI_r hI1526 85 _ rfl (show (-2147483648) ≤ v1589 ∧ v1589 ≤ 2147483647 by omega)
                have hF1594 : qFr [] [85] σ α σ α1591 := by rw [e1592]; exact qFr_r hF1527 85 _ (by decide)
                refine qr_goto 234 rfl rfl ?_
                refine qr_iinc _ 237 rfl (qm_gk (qm_gk (qm_gk g1522 (by decide) (Or.inr rfl)) (by decide) (Or.inl (by decide))) (by decide) (Or.inl (by decide))) (by decide) rfl rfl ?_
                refine qr_goto 4 rfl rfl ?_
                exact ih1534 _ (u1521 + 1) (u1523 + 1) α1591 (by omega) (qm_gk (qm_gk (qm_gk (qm_gk g1518 (by decide) (Or.inl (by decide))) (by decide) (Or.inl (by decide))) (by decide) (Or.inl (by decide))) (by decide) (Or.inl (by decide))) (qm_gk (qm_gk (qm_gk (qm_gk g1519 (by decide) (Or.inl (by decide))) (by decide) (Or.inl (by decide))) (by decide) (Or.inr rfl)) (by decide) (Or.inl (by decide))) (qm_gk (qm_ge _ _ _) (by decide) (Or.inr rfl)) (qm_ge _ _ _) (by omega) (by omega) hI1593 hF1594 ((congrFun e1592 59).trans ((qw_r_ne (by decide)).trans hk1528)) ((congrFun e1592 84).trans ((qw_r_ne (by decide)).trans hk1529)) (by rw [(congrFun e1592 85).trans qw_r_eq]; exact hx1532.trans (qws_nam (by omega) (by rw [← hrv1536]; omega) (by omega) (by rw [← hrv1536]; omega) (by rw [← hrv1536, show v1536 % 65536 = v1540 by omega]; exact hrv1589) rfl))
            · skip
              refine qr_iconst 58 rfl rfl ?_
              refine qr_retI rfl rfl (by decide) (by decide) ?_
              exact ⟨_, rfl, hI1526, hF1527, 0, rfl, (by decide), (by rw [hx1532, (qws_ful (by omega) (by rw [← hrv1536]; omega) (by omega))])⟩
  exact hL1533 ((65536 - 0 + 1 : Int)).toNat _ 0 0 α (by omega) rfl rfl rfl rfl (by decide) (by decide) hI hF0 rfl rfl rfl
end
section
/-! steps by the ties told -/
noncomputable def qds (A B : Nat → Int) (m x y : Int) : Int := @dite Int (∃ t, qDi A B m t x y) (Classical.propDecidable _) (fun h => Classical.choose h) (fun _ => 99)
theorem qds_of {A B : Nat → Int} {m t x y : Int} (h : qDi A B m t x y) : qds A B m x y = t := by
  have e : ∃ t, qDi A B m t x y := ⟨t, h⟩
  unfold qds
  rw [dif_pos e]
  exact qDi_un (Classical.choose_spec e) h
noncomputable def qd9 (A B : Nat → Int) (m x y : Int) : Int := if qds A B m x y ≤ 9 then qds A B m x y else 99
theorem qd9_of {A B : Nat → Int} {m t x y v : Int} (h : qDi A B m t x y) (hv : (v = t ∧ v ≤ 9) ∨ (v = 99 ∧ 9 < t)) : v = qd9 A B m x y := by
  unfold qd9
  rw [qds_of h]
  by_cases e : t ≤ 9
  · rw [if_pos e]; omega
  · rw [if_neg e]; omega
theorem qd9_r (A B : Nat → Int) (m x y : Int) : 0 ≤ qd9 A B m x y ∧ (qd9 A B m x y ≤ 9 ∨ qd9 A B m x y = 99) := by
  have h0 : 0 ≤ qds A B m x y := by
    unfold qds
    split
    · next e => exact (Classical.choose_spec e).1.1
    · decide
  unfold qd9
  split
  · next e => exact ⟨h0, Or.inl e⟩
  · exact ⟨by decide, Or.inr rfl⟩
theorem qst_of {σ α σ' α' : Nat → Nat → Int} {κ : Nat → Option Nat} {ρ : Nat} {x y v : Int} (hI : qI σ' α' κ ρ) (h15 : σ' 86 15 = 1) (e94 : α' 94 = α 94) (e95 : α' 95 = α 95) (e11 : σ' 86 11 = σ 86 11) (e6 : σ' 86 6 = σ 86 6) (hx : 0 ≤ x ∧ x < σ 86 6) (hy : 0 ≤ y ∧ y < σ 86 6) (hv : (v = α' 96 (32 * x + y : Int).toNat ∧ v ≤ 9) ∨ (v = 99 ∧ 9 < α' 96 (32 * x + y : Int).toNat)) : v = qd9 (α 94) (α 95) (σ 86 11) x y := by
  have h := hI.2.2.2.2.2.2.2.2.2 h15 x y (by rw [e6]; exact hx) (by rw [e6]; exact hy)
  rw [e94, e95, e11] at h
  refine qd9_of h ?_
  unfold qTb
  rw [show x * 32 + y = 32 * x + y by omega]
  exact hv

set_option maxHeartbeats 4000000 in
set_option maxRecDepth 20000 in
/-- OneRoofModel.stepsTo -/
theorem sf_187_86x {L : Nat} {xs : Nat → Int} {vb : Bool} {d : Nat} {σ α : Nat → Nat → Int} {κ : Nat → Option Nat} {ρ : Nat} {x1 : Int} {x2 : Int} (hI : qI σ α κ ρ) (r1 : 0 ≤ x1 ∧ x1 ≤ 31) (r2 : 0 ≤ x2 ∧ x2 ≤ 31) (p0 : x1 < σ 86 6 ∧ x2 < σ 86 6) : qm_T (qe L xs vb) (d + 3) 187 [.ref 86, .int (qz x1), .int (qz x2)] (qw σ α κ ρ) (fun r w' => ∃ σ' α', w' = qw σ' α' κ ρ ∧ qI σ' α' κ ρ ∧ qFr [(86, 15)] [96] σ α σ' α' ∧ ∃ v : Int, r = some (.int (qz v)) ∧ (0 ≤ v ∧ v ≤ 99) ∧ v = qd9 (α 94) (α 95) (σ 86 11) x1 x2) := by
  refine qr_start (d := d + 2) qv_e187 (Nat.le_of_ble_eq_true rfl) ?_
  show qr_W (qe L xs vb) (d + 2) qx_e187 _ (0, [(0, .ref 86), (1, .int (qz x1)), (2, .int (qz x2))], [], _, 0, 0)
  have hF0 := qFr_rf [(86, 15)] [96] σ α
  have hz86_6 : 0 ≤ σ 86 6 ∧ σ 86 6 ≤ 32 := hI.1 86 6
  have hz86_15 : 0 ≤ σ 86 15 ∧ σ 86 15 ≤ 1 := hI.1 86 15
  refine qr_aload_n 1 rfl rfl rfl ?_
  refine qr_get 4 rfl rfl rfl (by decide) rfl ?_
  refine qr_if_ne 11 7 rfl rfl rfl (qrg hz86_15 (by decide) (by decide)) (fun h1 => ?_) (fun h1 => ?_)
  · skip
    refine qr_aload_n 12 rfl rfl rfl ?_
    refine qr_get 15 rfl rfl rfl (by decide) rfl ?_
    refine qr_bipush 17 rfl (by decide) rfl ?_
    refine qr_iload_n 18 rfl rfl rfl ?_
    refine qr_imul 19 rfl rfl ?_
    refine qr_iload_n 20 rfl rfl rfl ?_
    refine qr_iadd 21 rfl rfl ?_
    refine qr_iaload 22 rfl rfl (by omega) (by decide) rfl ?_
    refine qr_topI (fun v2 hv2 => ?_)
    have hs3 : 0 ≤ v2 ∧ v2 ≤ 99 := by rw [hv2]; exact hI.2.1 96 _ (show _ < 1024 by omega)
    refine qr_istore_n _ 23 rfl (by decide) rfl rfl ?_
    refine qr_iload_n 24 rfl rfl rfl ?_
    refine qr_bipush 26 rfl (by decide) rfl ?_
    refine qr_icmp_le 34 29 rfl rfl rfl (qrg hs3 (by decide) (by decide)) (by decide) (fun h4 => ?_) (fun h4 => ?_)
    · skip
      refine qr_iload_n 35 rfl rfl rfl ?_
      refine qr_retI rfl rfl (by decide) (by decide) ?_
      exact ⟨_, _, rfl, hI, hF0, v2, rfl, hs3, (qst_of hI (by have hw : σ 86 15 = (σ 86 15) := rfl; omega) (hF0.2 94 (by decide)) (hF0.2 95 (by decide)) (hF0.1 86 11 (by decide)) (hF0.1 86 6 (by decide)) (by omega) (by omega) (by rw [← hv2]; omega))⟩
    · skip
      refine qr_bipush 31 rfl (by decide) rfl ?_
      refine qr_goto 35 rfl rfl ?_
      refine qr_retI rfl rfl (by decide) (by decide) ?_
      exact ⟨_, _, rfl, hI, hF0, 99, rfl, (by decide), (qst_of hI (by have hw : σ 86 15 = (σ 86 15) := rfl; omega) (hF0.2 94 (by decide)) (hF0.2 95 (by decide)) (hF0.1 86 11 (by decide)) (hF0.1 86 6 (by decide)) (by omega) (by omega) (by rw [← hv2]; omega))⟩
  · skip
    refine qr_aload_n 8 rfl rfl rfl ?_
    have hs5 : 0 ≤ σ 86 15 ∧ σ 86 15 ≤ 1 := hI.1 86 15
    refine qr_callN 11 rfl rfl rfl (sf_188_86 (d := d + 0) hI (by omega)) ?_
    rintro _ _ ⟨σ7, α8, rfl, hI9, hG10, hw6, rfl⟩
    have hF11 : qFr [(86, 15)] [96] σ α σ7 α8 := qFr_t hF0 hG10 (by decide) (by decide)
    have hs12 : 0 ≤ σ7 86 15 ∧ σ7 86 15 ≤ 1 := hI9.1 86 15
    show qr_W (qe L xs vb) (d + 2) qx_e187 _ (11, _, [], qw σ7 α8 κ ρ, 0, 0)
    refine qr_aload_n 12 rfl rfl rfl ?_
    refine qr_get 15 rfl rfl rfl (by decide) rfl ?_
    refine qr_bipush 17 rfl (by decide) rfl ?_
    refine qr_iload_n 18 rfl rfl rfl ?_
    refine qr_imul 19 rfl rfl ?_
    refine qr_iload_n 20 rfl rfl rfl ?_
    refine qr_iadd 21 rfl rfl ?_
    refine qr_iaload 22 rfl rfl (by omega) (by decide) rfl ?_
    refine qr_topI (fun v13 hv13 => ?_)
    have hs14 : 0 ≤ v13 ∧ v13 ≤ 99 := by rw [hv13]; exact hI9.2.1 96 _ (show _ < 1024 by omega)
    refine qr_istore_n _ 23 rfl (by decide) rfl rfl ?_
    refine qr_iload_n 24 rfl rfl rfl ?_
    refine qr_bipush 26 rfl (by decide) rfl ?_
    refine qr_icmp_le 34 29 rfl rfl rfl (qrg hs14 (by decide) (by decide)) (by decide) (fun h15 => ?_) (fun h15 => ?_)
    · skip
      refine qr_iload_n 35 rfl rfl rfl ?_
      refine qr_retI rfl rfl (by decide) (by decide) ?_
      exact ⟨_, _, rfl, hI9, hF11, v13, rfl, hs14, (qst_of hI9 (by have hw : σ7 86 15 = (σ7 86 15) := rfl; omega) (hF11.2 94 (by decide)) (hF11.2 95 (by decide)) (hF11.1 86 11 (by decide)) (hF11.1 86 6 (by decide)) (by omega) (by omega) (by rw [← hv13]; omega))⟩
    · skip
      refine qr_bipush 31 rfl (by decide) rfl ?_
      refine qr_goto 35 rfl rfl ?_
      refine qr_retI rfl rfl (by decide) (by decide) ?_
      exact ⟨_, _, rfl, hI9, hF11, 99, rfl, (by decide), (qst_of hI9 (by have hw : σ7 86 15 = (σ7 86 15) := rfl; omega) (hF11.2 94 (by decide)) (hF11.2 95 (by decide)) (hF11.1 86 11 (by decide)) (hF11.1 86 6 (by decide)) (by omega) (by omega) (by rw [← hv13]; omega))⟩

set_option maxHeartbeats 4000000 in
set_option maxRecDepth 20000 in
/-- OneRoof.steps -/
theorem sf_59_16x {L : Nat} {xs : Nat → Int} {vb : Bool} {d : Nat} {σ α : Nat → Nat → Int} {κ : Nat → Option Nat} {ρ : Nat} {x1 : Int} {x2 : Int} (hI : qI σ α κ ρ) (r1 : (-2147483648) ≤ x1 ∧ x1 ≤ 2147483647) (r2 : (-2147483648) ≤ x2 ∧ x2 ≤ 2147483647) : qm_T (qe L xs vb) (d + 2) 59 [.ref 16, .int (qz x1), .int (qz x2)] (qw σ α κ ρ) (fun r w' => w' = qw σ α κ ρ ∧ ∃ v : Int, r = some (.int (qz v)) ∧ ((-2147483648) ≤ v ∧ v ≤ 2147483647) ∧ ((v = -1 ∧ ¬ (0 ≤ x1 ∧ x1 < σ 17 6 ∧ 0 ≤ x2 ∧ x2 < σ 17 6)) ∨ ((0 ≤ x1 ∧ x1 < σ 17 6 ∧ 0 ≤ x2 ∧ x2 < σ 17 6) ∧ ((9 < α 24 (x1 * 32 + x2 : Int).toNat ∧ v = -2) ∨ (α 24 (x1 * 32 + x2 : Int).toNat ≤ 9 ∧ v = α 24 (x1 * 32 + x2 : Int).toNat))))) := by
  refine qr_start (d := d + 1) qv_e59 (Nat.le_of_ble_eq_true rfl) ?_
  show qr_W (qe L xs vb) (d + 1) qx_e59 _ (0, [(0, .ref 16), (1, .int (qz x1)), (2, .int (qz x2))], [], _, 0, 0)
  have hz17_6 : 0 ≤ σ 17 6 ∧ σ 17 6 ≤ 32 := hI.1 17 6
  refine qr_aload_n 1 rfl rfl rfl ?_
  refine qr_get 4 rfl rfl rfl (by decide) rfl ?_
  refine qr_iload_n 5 rfl rfl rfl ?_
  refine qr_callN 8 rfl rfl rfl (sf_40_17 (d := d + 0) hI r1) ?_
  have hs3 : 0 ≤ σ 17 6 ∧ σ 17 6 ≤ 32 := hI.1 17 6
  rintro _ _ ⟨rfl, v1, rfl, hv1, hp2⟩
  show qr_W (qe L xs vb) (d + 1) qx_e59 _ (8, _, [.int (qz v1)], qw σ α κ ρ, 0, 0)
  refine qr_if_eq 22 11 rfl rfl rfl (qrg hv1 (by decide) (by decide)) (fun h4 => ?_) (fun h4 => ?_)
  · skip
    refine qr_iconst 23 rfl rfl ?_
    refine qr_retI rfl rfl (by decide) (by decide) ?_
    exact ⟨rfl, (-1), rfl, (by decide), by omega⟩
  · skip
    refine qr_aload_n 12 rfl rfl rfl ?_
    refine qr_get 15 rfl rfl rfl (by decide) rfl ?_
    refine qr_iload_n 16 rfl rfl rfl ?_
    refine qr_callN 19 rfl rfl rfl (sf_40_17 (d := d + 0) hI r2) ?_
    have hs7 : 0 ≤ σ 17 6 ∧ σ 17 6 ≤ 32 := hI.1 17 6
    rintro _ _ ⟨rfl, v5, rfl, hv5, hp6⟩
    show qr_W (qe L xs vb) (d + 1) qx_e59 _ (19, _, [.int (qz v5)], qw σ α κ ρ, 0, 0)
    refine qr_if_ne 24 22 rfl rfl rfl (qrg hv5 (by decide) (by decide)) (fun h8 => ?_) (fun h8 => ?_)
    · skip
      refine qr_aload_n 25 rfl rfl rfl ?_
      refine qr_get 28 rfl rfl rfl (by decide) rfl ?_
      refine qr_iload_n 29 rfl rfl rfl ?_
      refine qr_iload_n 30 rfl rfl rfl ?_
      refine qr_callN 33 rfl rfl rfl (sf_57_23x (d := d + 0) hI (by omega) (by omega)) ?_
      rintro _ _ ⟨rfl, v9, rfl, hv9, hp10⟩
      show qr_W (qe L xs vb) (d + 1) qx_e59 _ (33, _, [.int (qz v9)], qw σ α κ ρ, 0, 0)
      refine qr_istore_n _ 34 rfl (by decide) rfl rfl ?_
      refine qr_iload_n 35 rfl rfl rfl ?_
      refine qr_bipush 37 rfl (by decide) rfl ?_
      refine qr_icmp_le 45 40 rfl rfl rfl (qrg hv9 (by decide) (by decide)) (by decide) (fun h11 => ?_) (fun h11 => ?_)
      · skip
        refine qr_iload_n 46 rfl rfl rfl ?_
        refine qr_retI rfl rfl (by decide) (by decide) ?_
        exact ⟨rfl, v9, rfl, (qrg hv9 (by decide) (by decide)), by omega⟩
      · skip
        refine qr_bipush 42 rfl (by decide) rfl ?_
        refine qr_goto 46 rfl rfl ?_
        refine qr_retI rfl rfl (by decide) (by decide) ?_
        exact ⟨rfl, (-2), rfl, (by decide), by omega⟩
    · skip
      refine qr_iconst 23 rfl rfl ?_
      refine qr_retI rfl rfl (by decide) (by decide) ?_
      exact ⟨rfl, (-1), rfl, (by decide), by omega⟩

set_option maxHeartbeats 4000000 in
set_option maxRecDepth 20000 in
/-- OneRoofModel.steps -/
theorem sf_186_86x {L : Nat} {xs : Nat → Int} {vb : Bool} {d : Nat} {σ α : Nat → Nat → Int} {κ : Nat → Option Nat} {ρ : Nat} {x1 : Int} {x2 : Int} (hI : qI σ α κ ρ) (r1 : (-2147483648) ≤ x1 ∧ x1 ≤ 2147483647) (r2 : (-2147483648) ≤ x2 ∧ x2 ≤ 2147483647) : qm_T (qe L xs vb) (d + 4) 186 [.ref 86, .int (qz x1), .int (qz x2)] (qw σ α κ ρ) (fun r w' => ∃ σ' α', w' = qw σ' α' κ ρ ∧ qI σ' α' κ ρ ∧ qFr [(86, 15)] [96] σ α σ' α' ∧ ∃ v : Int, r = some (.int (qz v)) ∧ ((-2147483648) ≤ v ∧ v ≤ 2147483647) ∧ ((v = -1 ∧ ¬ (0 ≤ x1 ∧ x1 < σ 86 6 ∧ 0 ≤ x2 ∧ x2 < σ 86 6)) ∨ ((0 ≤ x1 ∧ x1 < σ 86 6 ∧ 0 ≤ x2 ∧ x2 < σ 86 6) ∧ ((qd9 (α 94) (α 95) (σ 86 11) x1 x2 = 99 ∧ v = -2) ∨ (qd9 (α 94) (α 95) (σ 86 11) x1 x2 ≤ 9 ∧ v = qd9 (α 94) (α 95) (σ 86 11) x1 x2))))) := by
  refine qr_start (d := d + 3) qv_e186 (Nat.le_of_ble_eq_true rfl) ?_
  show qr_W (qe L xs vb) (d + 3) qx_e186 _ (0, [(0, .ref 86), (1, .int (qz x1)), (2, .int (qz x2))], [], _, 0, 0)
  have hF0 := qFr_rf [(86, 15)] [96] σ α
  have hz86_6 : 0 ≤ σ 86 6 ∧ σ 86 6 ≤ 32 := hI.1 86 6
  have hz86_11 : 0 ≤ σ 86 11 ∧ σ 86 11 ≤ 61 := hI.1 86 11
  refine qr_aload_n 1 rfl rfl rfl ?_
  refine qr_iload_n 2 rfl rfl rfl ?_
  refine qr_callN 5 rfl rfl rfl (sf_180_86 (d := d + 1) hI r1) ?_
  have hs3 : 0 ≤ σ 86 6 ∧ σ 86 6 ≤ 32 := hI.1 86 6
  rintro _ _ ⟨rfl, v1, rfl, hv1, hp2⟩
  show qr_W (qe L xs vb) (d + 3) qx_e186 _ (5, _, [.int (qz v1)], qw σ α κ ρ, 0, 0)
  refine qr_if_eq 16 8 rfl rfl rfl (qrg hv1 (by decide) (by decide)) (fun h4 => ?_) (fun h4 => ?_)
  · skip
    refine qr_iconst 17 rfl rfl ?_
    refine qr_retI rfl rfl (by decide) (by decide) ?_
    exact ⟨_, _, rfl, hI, hF0, (-1), rfl, (by decide), (by omega)⟩
  · skip
    refine qr_aload_n 9 rfl rfl rfl ?_
    refine qr_iload_n 10 rfl rfl rfl ?_
    refine qr_callN 13 rfl rfl rfl (sf_180_86 (d := d + 1) hI r2) ?_
    have hs7 : 0 ≤ σ 86 6 ∧ σ 86 6 ≤ 32 := hI.1 86 6
    rintro _ _ ⟨rfl, v5, rfl, hv5, hp6⟩
    show qr_W (qe L xs vb) (d + 3) qx_e186 _ (13, _, [.int (qz v5)], qw σ α κ ρ, 0, 0)
    refine qr_if_ne 18 16 rfl rfl rfl (qrg hv5 (by decide) (by decide)) (fun h8 => ?_) (fun h8 => ?_)
    · skip
      refine qr_aload_n 19 rfl rfl rfl ?_
      refine qr_iload_n 20 rfl rfl rfl ?_
      refine qr_iload_n 21 rfl rfl rfl ?_
      have hs9 : 0 ≤ σ 86 6 ∧ σ 86 6 ≤ 32 := hI.1 86 6
      refine qr_callN 24 rfl rfl rfl (sf_187_86x (d := d + 0) hI (by omega) (by omega) (by omega)) ?_
      rintro _ _ ⟨σ12, α13, rfl, hI14, hG15, v10, rfl, hv10, hx11⟩
      have hF16 : qFr [(86, 15)] [96] σ α σ12 α13 := qFr_t hF0 hG15 (by decide) (by decide)
      show qr_W (qe L xs vb) (d + 3) qx_e186 _ (24, _, [.int (qz v10)], qw σ12 α13 κ ρ, 0, 0)
      refine qr_istore_n _ 25 rfl (by decide) rfl rfl ?_
      refine qr_iload_n 26 rfl rfl rfl ?_
      refine qr_bipush 28 rfl (by decide) rfl ?_
      refine qr_icmp_ne 36 31 rfl rfl rfl (qrg hv10 (by decide) (by decide)) (by decide) (fun h17 => ?_) (fun h17 => ?_)
      · skip
        refine qr_iload_n 37 rfl rfl rfl ?_
        refine qr_retI rfl rfl (by decide) (by decide) ?_
        exact ⟨_, _, rfl, hI14, hF16, v10, rfl, (qrg hv10 (by decide) (by decide)), (by have hq := hx11; have hr := qd9_r (α 94) (α 95) (σ 86 11) x1 x2; omega)⟩
      · skip
        refine qr_bipush 33 rfl (by decide) rfl ?_
        refine qr_goto 37 rfl rfl ?_
        refine qr_retI rfl rfl (by decide) (by decide) ?_
        exact ⟨_, _, rfl, hI14, hF16, (-2), rfl, (by decide), (by have hq := hx11; have hr := qd9_r (α 94) (α 95) (σ 86 11) x1 x2; omega)⟩
    · skip
      refine qr_iconst 17 rfl rfl ?_
      refine qr_retI rfl rfl (by decide) (by decide) ?_
      exact ⟨_, _, rfl, hI, hF0, (-1), rfl, (by decide), (by omega)⟩
end
