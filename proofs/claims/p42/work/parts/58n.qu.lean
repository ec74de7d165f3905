theorem sq_E6 {L : Nat} {xs : Nat → Int} {vb : Bool} {d : Nat} {σ α : Nat → Nat → Int} {κ : Nat → Option Nat} {ρ : Nat} (hI : qI σ α κ ρ) (p0 : σ 86 36 ≤ σ 86 37) (p1 : σ 86 38 = -1) (p2 : σ 86 39 = 0) : qm_T (qe L xs vb) (d + 44) 214 [.ref 86] (qw σ α κ ρ) (fun r w' => ∃ σ', w' = qw σ' α κ ρ ∧ qI σ' α κ ρ ∧ qFr [(86, 36), (86, 38), (86, 39)] [] σ α σ' α ∧ ∃ v : Int, r = some (.int (qz v)) ∧ ((-2147483648) ≤ v ∧ v ≤ 2147483647) ∧ (σ 86 36 ≤ σ' 86 36 ∧ σ' 86 36 ≤ σ 86 37 ∧ σ 86 39 ≤ σ' 86 39 ∧ ((σ' 86 38 = -1 ∧ σ' 86 39 = σ 86 39 ∧ σ 86 36 < σ' 86 36) ∨ σ' 86 38 = σ' 86 36)) ∧ qRes ((qtx_E (qtT (α 106) (α 107) (σ 86 35)) (σ 86 37) (α 109) 6) (σ 86 36)) v (σ' 86 36) (σ' 86 38)) :=
  (sq_all (d := d) 6).2 hI p0 p1 (by omega)

set_option maxHeartbeats 4000000 in
set_option maxRecDepth 20000 in
/-- OneRoofModel.workOut -/
theorem sf_213_86x {L : Nat} {xs : Nat → Int} {vb : Bool} {d : Nat} {σ α : Nat → Nat → Int} {κ : Nat → Option Nat} {ρ : Nat} {x1 : Int} {x2 : Int} (hI : qI σ α κ ρ) (r1 : (-1) ≤ x1 ∧ x1 ≤ 120) (r2 : 0 ≤ x2 ∧ x2 ≤ 120) : qm_T (qe L xs vb) (d + 45) 213 [.ref 86, .int (qz x1), .int (qz x2)] (qw σ α κ ρ) (fun r w' => ∃ σ', w' = qw σ' α κ ρ ∧ qI σ' α κ ρ ∧ qFr [(86, 35), (86, 36), (86, 37), (86, 38), (86, 39)] [] σ α σ' α ∧ ∃ v : Int, r = some (.int (qz v)) ∧ ((-2147483648) ≤ v ∧ v ≤ 2147483647) ∧ -1 ≤ σ' 86 38 ∧ qReW (qtx_W (qtT (α 106) (α 107) x1) x2 (α 109)) v (σ' 86 38)) := by
  refine qr_start (d := d + 44) qv_e213 (Nat.le_of_ble_eq_true rfl) ?_
  show qr_W (qe L xs vb) (d + 44) qx_e213 _ (0, [(0, .ref 86), (1, .int (qz x1)), (2, .int (qz x2))], [], _, 0, 0)
  have hF0 := qFr_rf [(86, 35), (86, 36), (86, 37), (86, 38), (86, 39)] [] σ α
  have hz86_35 : (-1) ≤ σ 86 35 ∧ σ 86 35 ≤ 120 := hI.1 86 35
  have hz86_36 : 0 ≤ σ 86 36 ∧ σ 86 36 ≤ 120 := hI.1 86 36
  have hz86_37 : 0 ≤ σ 86 37 ∧ σ 86 37 ≤ 120 := hI.1 86 37
  have hz86_38 : (-1) ≤ σ 86 38 ∧ σ 86 38 ≤ 120 := hI.1 86 38
  have hz86_39 : 0 ≤ σ 86 39 ∧ σ 86 39 ≤ 6 := hI.1 86 39
  refine qr_aload_n 1 rfl rfl rfl ?_
  refine qr_iload_n 2 rfl rfl rfl ?_
  refine qr_put 5 rfl (by decide) rfl (Nat.le_of_ble_eq_true rfl) (Nat.le_of_ble_eq_true rfl) (Or.inl rfl) (qr_fitI rfl _) rfl ?_
  refine qy_wS (qw_s σ 86 35 x1) rfl (fun σ1 e2 => ?_)
  have hI3 : qI σ1 α κ ρ := by rw [e2]; exact qI_s hI 86 35 rfl (show (-1) ≤ x1 ∧ x1 ≤ 120 by omega)
  have hF4 : qFr [(86, 35), (86, 36), (86, 37), (86, 38), (86, 39)] [] σ α σ1 α := by rw [e2]; exact qFr_s hF0 86 35 _ (by decide)
  refine qr_aload_n 6 rfl rfl rfl ?_
  refine qr_iconst 7 rfl rfl ?_
  refine qr_put 10 rfl (by decide) rfl (Nat.le_of_ble_eq_true rfl) (Nat.le_of_ble_eq_true rfl) (Or.inl rfl) (qr_fitI rfl _) rfl ?_
  refine qy_wS (qw_s σ1 86 36 0) rfl (fun σ5 e6 => ?_)
  have hI7 : qI σ5 α κ ρ := by rw [e6]; exact qI_s hI3 86 36 rfl (show 0 ≤ 0 ∧ 0 ≤ 120 by omega)
  have hF8 : qFr [(86, 35), (86, 36), (86, 37), (86, 38), (86, 39)] [] σ α σ5 α := by rw [e6]; exact qFr_s hF4 86 36 _ (by decide)
  refine qr_aload_n 11 rfl rfl rfl ?_
  refine qr_iload_n 12 rfl rfl rfl ?_
  refine qr_put 15 rfl (by decide) rfl (Nat.le_of_ble_eq_true rfl) (Nat.le_of_ble_eq_true rfl) (Or.inl rfl) (qr_fitI rfl _) rfl ?_
  refine qy_wS (qw_s σ5 86 37 x2) rfl (fun σ9 e10 => ?_)
  have hI11 : qI σ9 α κ ρ := by rw [e10]; exact qI_s hI7 86 37 rfl (show 0 ≤ x2 ∧ x2 ≤ 120 by omega)
  have hF12 : qFr [(86, 35), (86, 36), (86, 37), (86, 38), (86, 39)] [] σ α σ9 α := by rw [e10]; exact qFr_s hF8 86 37 _ (by decide)
  refine qr_aload_n 16 rfl rfl rfl ?_
  refine qr_iconst 17 rfl rfl ?_
  refine qr_put 20 rfl (by decide) rfl (Nat.le_of_ble_eq_true rfl) (Nat.le_of_ble_eq_true rfl) (Or.inl rfl) (qr_fitI rfl _) rfl ?_
  refine qy_wS (qw_s σ9 86 38 (-1)) rfl (fun σ13 e14 => ?_)
  have hI15 : qI σ13 α κ ρ := by rw [e14]; exact qI_s hI11 86 38 rfl (show (-1) ≤ (-1) ∧ (-1) ≤ 120 by omega)
  have hF16 : qFr [(86, 35), (86, 36), (86, 37), (86, 38), (86, 39)] [] σ α σ13 α := by rw [e14]; exact qFr_s hF12 86 38 _ (by decide)
  refine qr_aload_n 21 rfl rfl rfl ?_
  refine qr_iconst 22 rfl rfl ?_
  refine qr_put 25 rfl (by decide) rfl (Nat.le_of_ble_eq_true rfl) (Nat.le_of_ble_eq_true rfl) (Or.inl rfl) (qr_fitI rfl _) rfl ?_
  refine qy_wS (qw_s σ13 86 39 0) rfl (fun σ17 e18 => ?_)
  have hI19 : qI σ17 α κ ρ := by rw [e18]; exact qI_s hI15 86 39 rfl (show 0 ≤ 0 ∧ 0 ≤ 6 by omega)
  have hF20 : qFr [(86, 35), (86, 36), (86, 37), (86, 38), (86, 39)] [] σ α σ17 α := by rw [e18]; exact qFr_s hF16 86 39 _ (by decide)
  refine qr_iconst 26 rfl rfl ?_
  refine qr_istore_n _ 27 rfl (by decide) rfl rfl ?_
  refine qr_iconst 28 rfl rfl ?_
  refine qr_istore _ 30 rfl (by decide) rfl rfl ?_
  refine qr_iconst 31 rfl rfl ?_
  refine qr_istore _ 33 rfl (by decide) rfl rfl ?_
  have hL993 : ∀ (n : Nat) (ls : qm_L) (u977 u979 u981 : Int) (σ982 : Nat → Nat → Int), 2 * ((120 - σ982 86 36).toNat : Int) + u981 < (n : Int) → qm_get ls 0 = some (.ref 86) → qm_get ls 3 = some (.int (qz u977)) → qm_get ls 4 = some (.int (qz u979)) → qm_get ls 5 = some (.int (qz u981)) → (0 ≤ u977 ∧ u977 ≤ 1) → ((-2147483648) ≤ u979 ∧ u979 ≤ 2147483647) → (0 ≤ u981 ∧ u981 ≤ 1) → qI σ982 α κ ρ → qFr [(86, 35), (86, 36), (86, 37), (86, 38), (86, 39)] [] σ α σ982 α → σ982 86 35 = x1 → σ982 86 37 = x2 → qWI (qtT (α 106) (α 107) x1) x2 (qtx_E (qtT (α 106) (α 107) x1) x2 (α 109) 6) (qtx_W (qtT (α 106) (α 107) x1) x2 (α 109)) u977 u979 u981 (σ982 86 36) (σ982 86 38) → (σ982 86 36 ≤ x2 ∧ (σ982 86 38 = -1 ∨ σ982 86 38 = σ982 86 36 ∨ 0 ≤ σ982 86 38) ∧ (u981 = 1 → σ982 86 38 = -1 ∧ σ982 86 39 = 0) ∧ (u977 = 0 ∨ u977 = 1)) → qr_W (qe L xs vb) (d + 44) qx_e213 (fun r w' => ∃ σ', w' = qw σ' α κ ρ ∧ qI σ' α κ ρ ∧ qFr [(86, 35), (86, 36), (86, 37), (86, 38), (86, 39)] [] σ α σ' α ∧ ∃ v : Int, r = some (.int (qz v)) ∧ ((-2147483648) ≤ v ∧ v ≤ 2147483647) ∧ -1 ≤ σ' 86 38 ∧ qReW (qtx_W (qtT (α 106) (α 107) x1) x2 (α 109)) v (σ' 86 38)) (33, ls, [], qw σ982 α κ ρ, 0, 0) := by
    intro n
    induction n with
    | zero => intro ls u977 u979 u981 σ982 hm g975 g976 g978 g980 hf988 hf989 hf990 hI984 hF985 hk986 hk987 hx991 hx992; exact False.elim (by omega)
    | succ n ih994 =>
      intro ls u977 u979 u981 σ982 hm g975 g976 g978 g980 hf988 hf989 hf990 hI984 hF985 hk986 hk987 hx991 hx992
      have hs995 : 0 ≤ σ982 86 36 ∧ σ982 86 36 ≤ 120 := hI984.1 86 36
      have hs996 : (-1) ≤ σ982 86 38 ∧ σ982 86 38 ≤ 120 := hI984.1 86 38
      have hs997 : 0 ≤ σ982 86 39 ∧ σ982 86 39 ≤ 6 := hI984.1 86 39
      refine qr_iload 35 rfl g980 rfl ?_
      refine qr_if_eq 107 38 rfl rfl rfl (by omega) (fun h998 => ?_) (fun h998 => ?_)
      · skip
        refine qr_aload_n 108 rfl g975 rfl ?_
        refine qr_get 111 rfl rfl rfl (by decide) rfl ?_
        refine qr_if_ge 130 114 rfl rfl rfl (by omega) (fun h999 => ?_) (fun h999 => ?_)
        · skip
          refine qr_iload 132 rfl g978 rfl ?_
          refine qr_retI rfl rfl (by decide) (by decide) ?_
          have hw1000 : σ982 86 38 = (σ982 86 38) := rfl
          exact ⟨_, rfl, hI984, hF985, u979, rfl, by omega, by omega, (by exact qWI_e2 (by have h9 := hx991; rw [show u981 = 0 by omega] at h9; exact h9) (by omega))⟩
        · skip
          refine qr_aload_n 115 rfl g975 rfl ?_
          refine qr_get 118 rfl rfl rfl (by decide) rfl ?_
          refine qr_aload_n 119 rfl g975 rfl ?_
          refine qr_get 122 rfl rfl rfl (by decide) rfl ?_
          refine qy_v x2 ((hk987).trans rfl) ?_
          refine qr_icmp_ge 130 125 rfl rfl rfl (by omega) (by omega) (fun h1001 => ?_) (fun h1001 => ?_)
          · skip
            refine qr_iload 132 rfl g978 rfl ?_
            refine qr_retI rfl rfl (by decide) (by decide) ?_
            have hw1002 : σ982 86 38 = (σ982 86 38) := rfl
            exact ⟨_, rfl, hI984, hF985, u979, rfl, by omega, by omega, (by exact qWI_e2 (by have h9 := hx991; rw [show u981 = 0 by omega] at h9; exact h9) (by omega))⟩
          · skip
            refine qr_aload_n 126 rfl g975 rfl ?_
            refine qr_callN 129 rfl rfl rfl (sf_221_86x (d := d + 43) hI984 ) ?_
            have hs1005 : 0 ≤ σ982 86 36 ∧ σ982 86 36 ≤ 120 := hI984.1 86 36
            have hs1006 : (-1) ≤ σ982 86 38 ∧ σ982 86 38 ≤ 120 := hI984.1 86 38
            rintro _ _ ⟨σ1007, rfl, hI1008, hG1009, v1003, rfl, hv1003, hp1004⟩
            have hF1010 : qFr [(86, 35), (86, 36), (86, 37), (86, 38), (86, 39)] [] σ α σ1007 α := qFr_t hF985 hG1009 (by decide) (by decide)
            have hs1011 : (-1) ≤ σ1007 86 38 ∧ σ1007 86 38 ≤ 120 := hI1008.1 86 38
            show qr_W (qe L xs vb) (d + 44) qx_e213 _ (129, _, [.int (qz v1003)], qw σ1007 α κ ρ, 0, 0)
            refine qr_retI rfl rfl (by decide) (by decide) ?_
            have hw1012 : σ1007 86 38 = (σ1007 86 38) := rfl
            exact ⟨_, rfl, hI1008, hF1010, v1003, rfl, by omega, by omega, (by rw [show σ1007 86 38 = σ982 86 36 by omega]; exact qWI_e1 _ (by have h9 := hx991; rw [show u981 = 0 by omega, show σ982 86 38 = -1 by omega] at h9; exact h9) (by omega))⟩
      · skip
        refine qr_aload_n 39 rfl g975 rfl ?_
        have hs1013 : 0 ≤ σ982 86 36 ∧ σ982 86 36 ≤ 120 := hI984.1 86 36
        have hs1014 : 0 ≤ σ982 86 37 ∧ σ982 86 37 ≤ 120 := hI984.1 86 37
        have hs1015 : σ982 86 37 = x2 := (hk987).trans rfl
        have hs1016 : (-1) ≤ σ982 86 38 ∧ σ982 86 38 ≤ 120 := hI984.1 86 38
        have hs1017 : 0 ≤ σ982 86 39 ∧ σ982 86 39 ≤ 6 := hI984.1 86 39
        refine qr_callN 42 rfl rfl rfl (sq_E6 (d := d + 0) hI984 (by omega) (by omega) (by omega)) ?_
        have hs1021 : 0 ≤ σ982 86 36 ∧ σ982 86 36 ≤ 120 := hI984.1 86 36
        have hs1022 : 0 ≤ σ982 86 37 ∧ σ982 86 37 ≤ 120 := hI984.1 86 37
        have hs1023 : σ982 86 37 = x2 := (hk987).trans rfl
        have hs1024 : 0 ≤ σ982 86 39 ∧ σ982 86 39 ≤ 6 := hI984.1 86 39
        rintro _ _ ⟨σ1025, rfl, hI1026, hG1027, v1018, rfl, hv1018, hp1019, hx1020⟩
        have hF1028 : qFr [(86, 35), (86, 36), (86, 37), (86, 38), (86, 39)] [] σ α σ1025 α := qFr_t hF985 hG1027 (by decide) (by decide)
        have hs1029 : 0 ≤ σ1025 86 36 ∧ σ1025 86 36 ≤ 120 := hI1026.1 86 36
        have hs1030 : (-1) ≤ σ1025 86 38 ∧ σ1025 86 38 ≤ 120 := hI1026.1 86 38
        have hs1031 : 0 ≤ σ1025 86 39 ∧ σ1025 86 39 ≤ 6 := hI1026.1 86 39
        rw [(show σ982 86 37 = x2 from (hk987).trans rfl)] at hp1019
        rw [(show σ982 86 35 = x1 from (hk986).trans rfl), (show σ982 86 37 = x2 from (hk987).trans rfl)] at hx1020
        show qr_W (qe L xs vb) (d + 44) qx_e213 _ (42, _, [.int (qz v1018)], qw σ1025 α κ ρ, 0, 0)
        refine qr_istore _ 44 rfl (by decide) rfl rfl ?_
        refine qr_iconst 45 rfl rfl ?_
        refine qr_istore _ 47 rfl (by decide) rfl rfl ?_
        refine qr_aload_n 48 rfl (qm_gk (qm_gk g975 (by decide) (Or.inl (by decide))) (by decide) (Or.inl (by decide))) rfl ?_
        refine qr_bipush 50 rfl (by decide) rfl ?_
        refine qr_callN 53 rfl rfl rfl (sf_222_86x (d := d + 42) hI1026 (by omega) (by omega)) ?_
        have hs1034 : (-1) ≤ σ1025 86 35 ∧ σ1025 86 35 ≤ 120 := hI1026.1 86 35
        have hs1035 : σ1025 86 35 = x1 := (hG1027.1 86 35 (by decide)).trans ((hk986).trans rfl)
        have hs1036 : 0 ≤ σ1025 86 36 ∧ σ1025 86 36 ≤ 120 := hI1026.1 86 36
        have hs1037 : 0 ≤ σ1025 86 37 ∧ σ1025 86 37 ≤ 120 := hI1026.1 86 37
        have hs1038 : σ1025 86 37 = x2 := (hG1027.1 86 37 (by decide)).trans ((hk987).trans rfl)
        have hs1039 : (-1) ≤ σ1025 86 38 ∧ σ1025 86 38 ≤ 120 := hI1026.1 86 38
        rintro _ _ ⟨σ1040, rfl, hI1041, hG1042, v1032, rfl, hv1032, hp1033⟩
        have hF1043 : qFr [(86, 35), (86, 36), (86, 37), (86, 38), (86, 39)] [] σ α σ1040 α := qFr_t hF1028 hG1042 (by decide) (by decide)
        have hs1044 : 0 ≤ σ1040 86 36 ∧ σ1040 86 36 ≤ 120 := hI1041.1 86 36
        rw [(show σ1025 86 35 = x1 from (hG1027.1 86 35 (by decide)).trans ((hk986).trans rfl)), (show σ1025 86 37 = x2 from (hG1027.1 86 37 (by decide)).trans ((hk987).trans rfl))] at hp1033
        show qr_W (qe L xs vb) (d + 44) qx_e213 _ (53, _, [.int (qz v1032)], qw σ1040 α κ ρ, 0, 0)
        refine qr_if_eq 74 56 rfl rfl rfl (by omega) (fun h1045 => ?_) (fun h1045 => ?_)
        · skip
          refine qr_aload_n 75 rfl (qm_gk (qm_gk g975 (by decide) (Or.inl (by decide))) (by decide) (Or.inl (by decide))) rfl ?_
          refine qr_get 78 rfl rfl rfl (by decide) rfl ?_
          refine qy_v (σ1025 86 38) ((hG1042.1 86 38 (by decide)).trans rfl) ?_
          refine qr_if_ge 96 81 rfl rfl rfl (by omega) (fun h1046 => ?_) (fun h1046 => ?_)
          · skip
            refine qr_aload_n 97 rfl (qm_gk (qm_gk g975 (by decide) (Or.inl (by decide))) (by decide) (Or.inl (by decide))) rfl ?_
            refine qr_bipush 99 rfl (by decide) rfl ?_
            refine qr_callN 102 rfl rfl rfl (sf_222_86x (d := d + 42) hI1041 (by omega) (by omega)) ?_
            have hs1049 : (-1) ≤ σ1040 86 35 ∧ σ1040 86 35 ≤ 120 := hI1041.1 86 35
            have hs1050 : σ1040 86 35 = x1 := (hG1042.1 86 35 (by decide)).trans ((hG1027.1 86 35 (by decide)).trans ((hk986).trans rfl))
            have hs1051 : 0 ≤ σ1040 86 36 ∧ σ1040 86 36 ≤ 120 := hI1041.1 86 36
            have hs1052 : 0 ≤ σ1040 86 37 ∧ σ1040 86 37 ≤ 120 := hI1041.1 86 37
            have hs1053 : σ1040 86 37 = x2 := (hG1042.1 86 37 (by decide)).trans ((hG1027.1 86 37 (by decide)).trans ((hk987).trans rfl))
            have hs1054 : (-1) ≤ σ1040 86 38 ∧ σ1040 86 38 ≤ 120 := hI1041.1 86 38
            have hs1055 : σ1040 86 38 = (σ1025 86 38) := (hG1042.1 86 38 (by decide)).trans rfl
            rintro _ _ ⟨σ1056, rfl, hI1057, hG1058, v1047, rfl, hv1047, hp1048⟩
            have hF1059 : qFr [(86, 35), (86, 36), (86, 37), (86, 38), (86, 39)] [] σ α σ1056 α := qFr_t hF1043 hG1058 (by decide) (by decide)
            have hs1060 : 0 ≤ σ1056 86 36 ∧ σ1056 86 36 ≤ 120 := hI1057.1 86 36
            rw [(show σ1040 86 35 = x1 from (hG1042.1 86 35 (by decide)).trans ((hG1027.1 86 35 (by decide)).trans ((hk986).trans rfl))), (show σ1040 86 37 = x2 from (hG1042.1 86 37 (by decide)).trans ((hG1027.1 86 37 (by decide)).trans ((hk987).trans rfl))), (show σ1040 86 38 = (σ1025 86 38) from (hG1042.1 86 38 (by decide)).trans rfl)] at hp1048
            show qr_W (qe L xs vb) (d + 44) qx_e213 _ (102, _, [.int (qz v1047)], qw σ1056 α κ ρ, 0, 0)
            refine qr_istore _ 104 rfl (by decide) rfl rfl ?_
            refine qr_goto 33 rfl rfl ?_
            exact ih994 _ u977 u979 v1047 σ1056 (by omega) (qm_gk (qm_gk (qm_gk g975 (by decide) (Or.inl (by decide))) (by decide) (Or.inl (by decide))) (by decide) (Or.inl (by decide))) (qm_gk (qm_gk (qm_gk g976 (by decide) (Or.inl (by decide))) (by decide) (Or.inl (by decide))) (by decide) (Or.inl (by decide))) (qm_gk (qm_gk (qm_gk g978 (by decide) (Or.inl (by decide))) (by decide) (Or.inl (by decide))) (by decide) (Or.inr rfl)) (qm_ge _ _ _) (by omega) (by omega) (by omega) hI1057 hF1059 ((hG1058.1 86 35 (by decide)).trans ((hG1042.1 86 35 (by decide)).trans ((hG1027.1 86 35 (by decide)).trans ((hk986).trans rfl)))) ((hG1058.1 86 37 (by decide)).trans ((hG1042.1 86 37 (by decide)).trans ((hG1027.1 86 37 (by decide)).trans ((hk987).trans rfl)))) (by rw [show σ1056 86 38 = (σ1025 86 38) from (hG1058.1 86 38 (by decide)).trans ((hG1042.1 86 38 (by decide)).trans rfl)]; exact qWI_s (h := 1) (v := v1018) (a := σ1025 86 36) (by have h9 := hx991; rw [show u981 = 1 by omega, show σ982 86 38 = -1 by omega] at h9; exact h9) (by omega) (qL_1 hx1020 (by omega) (by omega)) (by omega) (by omega) (fun hf => ⟨by unfold qtx_gi; split <;> omega, by unfold qtx_ge; repeat' split; all_goals omega⟩) (by rw [show σ1025 86 36 = σ1040 86 36 by omega]; omega)) (by have hw1 : σ1056 86 38 = (σ1025 86 38) := (hG1058.1 86 38 (by decide)).trans ((hG1042.1 86 38 (by decide)).trans rfl); have hw2 : σ1056 86 39 = (σ1025 86 39) := (hG1058.1 86 39 (by decide)).trans ((hG1042.1 86 39 (by decide)).trans rfl); omega)
          · skip
            refine qr_iload 83 rfl (qm_ge _ _ _) rfl ?_
            refine qr_if_eq 96 86 rfl rfl rfl (by omega) (fun h => False.elim (by omega)) (fun h1061 => ?_)
            refine qr_iload_n 87 rfl (qm_gk (qm_gk g976 (by decide) (Or.inl (by decide))) (by decide) (Or.inl (by decide))) rfl ?_
            refine qr_if_ne 96 90 rfl rfl rfl (by omega) (fun h1062 => ?_) (fun h1062 => ?_)
            · skip
              refine qr_aload_n 97 rfl (qm_gk (qm_gk g975 (by decide) (Or.inl (by decide))) (by decide) (Or.inl (by decide))) rfl ?_
              refine qr_bipush 99 rfl (by decide) rfl ?_
              refine qr_callN 102 rfl rfl rfl (sf_222_86x (d := d + 42) hI1041 (by omega) (by omega)) ?_
              have hs1065 : (-1) ≤ σ1040 86 35 ∧ σ1040 86 35 ≤ 120 := hI1041.1 86 35
              have hs1066 : σ1040 86 35 = x1 := (hG1042.1 86 35 (by decide)).trans ((hG1027.1 86 35 (by decide)).trans ((hk986).trans rfl))
              have hs1067 : 0 ≤ σ1040 86 36 ∧ σ1040 86 36 ≤ 120 := hI1041.1 86 36
              have hs1068 : 0 ≤ σ1040 86 37 ∧ σ1040 86 37 ≤ 120 := hI1041.1 86 37
              have hs1069 : σ1040 86 37 = x2 := (hG1042.1 86 37 (by decide)).trans ((hG1027.1 86 37 (by decide)).trans ((hk987).trans rfl))
              have hs1070 : (-1) ≤ σ1040 86 38 ∧ σ1040 86 38 ≤ 120 := hI1041.1 86 38
              have hs1071 : σ1040 86 38 = (σ1025 86 38) := (hG1042.1 86 38 (by decide)).trans rfl
              rintro _ _ ⟨σ1072, rfl, hI1073, hG1074, v1063, rfl, hv1063, hp1064⟩
              have hF1075 : qFr [(86, 35), (86, 36), (86, 37), (86, 38), (86, 39)] [] σ α σ1072 α := qFr_t hF1043 hG1074 (by decide) (by decide)
              have hs1076 : 0 ≤ σ1072 86 36 ∧ σ1072 86 36 ≤ 120 := hI1073.1 86 36
              rw [(show σ1040 86 35 = x1 from (hG1042.1 86 35 (by decide)).trans ((hG1027.1 86 35 (by decide)).trans ((hk986).trans rfl))), (show σ1040 86 37 = x2 from (hG1042.1 86 37 (by decide)).trans ((hG1027.1 86 37 (by decide)).trans ((hk987).trans rfl))), (show σ1040 86 38 = (σ1025 86 38) from (hG1042.1 86 38 (by decide)).trans rfl)] at hp1064
              show qr_W (qe L xs vb) (d + 44) qx_e213 _ (102, _, [.int (qz v1063)], qw σ1072 α κ ρ, 0, 0)
              refine qr_istore _ 104 rfl (by decide) rfl rfl ?_
              refine qr_goto 33 rfl rfl ?_
              exact ih994 _ u977 u979 v1063 σ1072 (by omega) (qm_gk (qm_gk (qm_gk g975 (by decide) (Or.inl (by decide))) (by decide) (Or.inl (by decide))) (by decide) (Or.inl (by decide))) (qm_gk (qm_gk (qm_gk g976 (by decide) (Or.inl (by decide))) (by decide) (Or.inl (by decide))) (by decide) (Or.inl (by decide))) (qm_gk (qm_gk (qm_gk g978 (by decide) (Or.inl (by decide))) (by decide) (Or.inl (by decide))) (by decide) (Or.inr rfl)) (qm_ge _ _ _) (by omega) (by omega) (by omega) hI1073 hF1075 ((hG1074.1 86 35 (by decide)).trans ((hG1042.1 86 35 (by decide)).trans ((hG1027.1 86 35 (by decide)).trans ((hk986).trans rfl)))) ((hG1074.1 86 37 (by decide)).trans ((hG1042.1 86 37 (by decide)).trans ((hG1027.1 86 37 (by decide)).trans ((hk987).trans rfl)))) (by rw [show σ1072 86 38 = (σ1025 86 38) from (hG1074.1 86 38 (by decide)).trans ((hG1042.1 86 38 (by decide)).trans rfl)]; exact qWI_s (h := 1) (v := v1018) (a := σ1025 86 36) (by have h9 := hx991; rw [show u981 = 1 by omega, show σ982 86 38 = -1 by omega] at h9; exact h9) (by omega) (qL_1 hx1020 (by omega) (by omega)) (by omega) (by omega) (fun hf => ⟨by unfold qtx_gi; split <;> omega, by unfold qtx_ge; repeat' split; all_goals omega⟩) (by rw [show σ1025 86 36 = σ1040 86 36 by omega]; omega)) (by have hw1 : σ1072 86 38 = (σ1025 86 38) := (hG1074.1 86 38 (by decide)).trans ((hG1042.1 86 38 (by decide)).trans rfl); have hw2 : σ1072 86 39 = (σ1025 86 39) := (hG1074.1 86 39 (by decide)).trans ((hG1042.1 86 39 (by decide)).trans rfl); omega)
            · skip
              refine qr_iconst 91 rfl rfl ?_
              refine qr_istore_n _ 92 rfl (by decide) rfl rfl ?_
              refine qr_iload 94 rfl (qm_gk (qm_gk (qm_ge _ _ _) (by decide) (Or.inr rfl)) (by decide) (Or.inl (by decide))) rfl ?_
              refine qr_istore _ 96 rfl (by decide) rfl rfl ?_
              refine qr_aload_n 97 rfl (qm_gk (qm_gk (qm_gk (qm_gk g975 (by decide) (Or.inl (by decide))) (by decide) (Or.inl (by decide))) (by decide) (Or.inl (by decide))) (by decide) (Or.inl (by decide))) rfl ?_
              refine qr_bipush 99 rfl (by decide) rfl ?_
              refine qr_callN 102 rfl rfl rfl (sf_222_86x (d := d + 42) hI1041 (by omega) (by omega)) ?_
              have hs1079 : (-1) ≤ σ1040 86 35 ∧ σ1040 86 35 ≤ 120 := hI1041.1 86 35
              have hs1080 : σ1040 86 35 = x1 := (hG1042.1 86 35 (by decide)).trans ((hG1027.1 86 35 (by decide)).trans ((hk986).trans rfl))
              have hs1081 : 0 ≤ σ1040 86 36 ∧ σ1040 86 36 ≤ 120 := hI1041.1 86 36
              have hs1082 : 0 ≤ σ1040 86 37 ∧ σ1040 86 37 ≤ 120 := hI1041.1 86 37
              have hs1083 : σ1040 86 37 = x2 := (hG1042.1 86 37 (by decide)).trans ((hG1027.1 86 37 (by decide)).trans ((hk987).trans rfl))
              have hs1084 : (-1) ≤ σ1040 86 38 ∧ σ1040 86 38 ≤ 120 := hI1041.1 86 38
              have hs1085 : σ1040 86 38 = (σ1025 86 38) := (hG1042.1 86 38 (by decide)).trans rfl
              rintro _ _ ⟨σ1086, rfl, hI1087, hG1088, v1077, rfl, hv1077, hp1078⟩
              have hF1089 : qFr [(86, 35), (86, 36), (86, 37), (86, 38), (86, 39)] [] σ α σ1086 α := qFr_t hF1043 hG1088 (by decide) (by decide)
              have hs1090 : 0 ≤ σ1086 86 36 ∧ σ1086 86 36 ≤ 120 := hI1087.1 86 36
              rw [(show σ1040 86 35 = x1 from (hG1042.1 86 35 (by decide)).trans ((hG1027.1 86 35 (by decide)).trans ((hk986).trans rfl))), (show σ1040 86 37 = x2 from (hG1042.1 86 37 (by decide)).trans ((hG1027.1 86 37 (by decide)).trans ((hk987).trans rfl))), (show σ1040 86 38 = (σ1025 86 38) from (hG1042.1 86 38 (by decide)).trans rfl)] at hp1078
              show qr_W (qe L xs vb) (d + 44) qx_e213 _ (102, _, [.int (qz v1077)], qw σ1086 α κ ρ, 0, 0)
              refine qr_istore _ 104 rfl (by decide) rfl rfl ?_
              refine qr_goto 33 rfl rfl ?_
              exact ih994 _ 1 v1018 v1077 σ1086 (by omega) (qm_gk (qm_gk (qm_gk (qm_gk (qm_gk g975 (by decide) (Or.inl (by decide))) (by decide) (Or.inl (by decide))) (by decide) (Or.inl (by decide))) (by decide) (Or.inl (by decide))) (by decide) (Or.inl (by decide))) (qm_gk (qm_gk (qm_ge _ _ _) (by decide) (Or.inr rfl)) (by decide) (Or.inl (by decide))) (qm_gk (qm_ge _ _ _) (by decide) (Or.inr rfl)) (qm_ge _ _ _) (by omega) (by omega) (by omega) hI1087 hF1089 ((hG1088.1 86 35 (by decide)).trans ((hG1042.1 86 35 (by decide)).trans ((hG1027.1 86 35 (by decide)).trans ((hk986).trans rfl)))) ((hG1088.1 86 37 (by decide)).trans ((hG1042.1 86 37 (by decide)).trans ((hG1027.1 86 37 (by decide)).trans ((hk987).trans rfl)))) (by rw [show σ1086 86 38 = (σ1025 86 38) from (hG1088.1 86 38 (by decide)).trans ((hG1042.1 86 38 (by decide)).trans rfl)]; exact qWI_s (h := 1) (v := v1018) (a := σ1025 86 36) (by have h9 := hx991; rw [show u981 = 1 by omega, show σ982 86 38 = -1 by omega] at h9; exact h9) (by omega) (qL_1 hx1020 (by omega) (by omega)) (by omega) (by omega) (fun hf => ⟨by unfold qtx_gi; split <;> omega, by unfold qtx_ge; repeat' split; all_goals omega⟩) (by rw [show σ1025 86 36 = σ1040 86 36 by omega]; omega)) (by have hw1 : σ1086 86 38 = (σ1025 86 38) := (hG1088.1 86 38 (by decide)).trans ((hG1042.1 86 38 (by decide)).trans rfl); have hw2 : σ1086 86 39 = (σ1025 86 39) := (hG1088.1 86 39 (by decide)).trans ((hG1042.1 86 39 (by decide)).trans rfl); omega)
        · skip
          refine qr_iload 58 rfl (qm_gk (qm_ge _ _ _) (by decide) (Or.inr rfl)) rfl ?_
          refine qr_if_eq 65 61 rfl rfl rfl (by omega) (fun h1091 => ?_) (fun h1091 => ?_)
          · skip
            refine qr_iconst 66 rfl rfl ?_
            refine qr_istore _ 68 rfl (by decide) rfl rfl ?_
            refine qr_aload_n 69 rfl (qm_gk (qm_gk (qm_gk g975 (by decide) (Or.inl (by decide))) (by decide) (Or.inl (by decide))) (by decide) (Or.inl (by decide))) rfl ?_
            have hs1092 : 0 ≤ σ1040 86 36 ∧ σ1040 86 36 ≤ 120 := hI1041.1 86 36
            have hs1093 : 0 ≤ σ1040 86 37 ∧ σ1040 86 37 ≤ 120 := hI1041.1 86 37
            have hs1094 : σ1040 86 37 = x2 := (hG1042.1 86 37 (by decide)).trans ((hG1027.1 86 37 (by decide)).trans ((hk987).trans rfl))
            have hs1095 : (-1) ≤ σ1040 86 38 ∧ σ1040 86 38 ≤ 120 := hI1041.1 86 38
            have hs1096 : σ1040 86 38 = (σ1025 86 38) := (hG1042.1 86 38 (by decide)).trans rfl
            have hs1097 : 0 ≤ σ1040 86 39 ∧ σ1040 86 39 ≤ 6 := hI1041.1 86 39
            have hs1098 : σ1040 86 39 = (σ1025 86 39) := (hG1042.1 86 39 (by decide)).trans rfl
            refine qr_callN 72 rfl rfl rfl (sq_E6 (d := d + 0) hI1041 (by omega) (by omega) (by omega)) ?_
            have hs1102 : 0 ≤ σ1040 86 36 ∧ σ1040 86 36 ≤ 120 := hI1041.1 86 36
            have hs1103 : 0 ≤ σ1040 86 37 ∧ σ1040 86 37 ≤ 120 := hI1041.1 86 37
            have hs1104 : σ1040 86 37 = x2 := (hG1042.1 86 37 (by decide)).trans ((hG1027.1 86 37 (by decide)).trans ((hk987).trans rfl))
            have hs1105 : 0 ≤ σ1040 86 39 ∧ σ1040 86 39 ≤ 6 := hI1041.1 86 39
            have hs1106 : σ1040 86 39 = (σ1025 86 39) := (hG1042.1 86 39 (by decide)).trans rfl
            rintro _ _ ⟨σ1107, rfl, hI1108, hG1109, v1099, rfl, hv1099, hp1100, hx1101⟩
            have hF1110 : qFr [(86, 35), (86, 36), (86, 37), (86, 38), (86, 39)] [] σ α σ1107 α := qFr_t hF1043 hG1109 (by decide) (by decide)
            have hs1111 : 0 ≤ σ1107 86 36 ∧ σ1107 86 36 ≤ 120 := hI1108.1 86 36
            have hs1112 : (-1) ≤ σ1107 86 38 ∧ σ1107 86 38 ≤ 120 := hI1108.1 86 38
            have hs1113 : 0 ≤ σ1107 86 39 ∧ σ1107 86 39 ≤ 6 := hI1108.1 86 39
            rw [(show σ1040 86 37 = x2 from (hG1042.1 86 37 (by decide)).trans ((hG1027.1 86 37 (by decide)).trans ((hk987).trans rfl))), (show σ1040 86 39 = (σ1025 86 39) from (hG1042.1 86 39 (by decide)).trans rfl)] at hp1100
            rw [(show σ1040 86 35 = x1 from (hG1042.1 86 35 (by decide)).trans ((hG1027.1 86 35 (by decide)).trans ((hk986).trans rfl))), (show σ1040 86 37 = x2 from (hG1042.1 86 37 (by decide)).trans ((hG1027.1 86 37 (by decide)).trans ((hk987).trans rfl)))] at hx1101
            show qr_W (qe L xs vb) (d + 44) qx_e213 _ (72, _, [.int (qz v1099)], qw σ1107 α κ ρ, 0, 0)
            refine qr_istore _ 74 rfl (by decide) rfl rfl ?_
            refine qr_aload_n 75 rfl (qm_gk (qm_gk (qm_gk (qm_gk g975 (by decide) (Or.inl (by decide))) (by decide) (Or.inl (by decide))) (by decide) (Or.inl (by decide))) (by decide) (Or.inl (by decide))) rfl ?_
            refine qr_get 78 rfl rfl rfl (by decide) rfl ?_
            refine qr_if_ge 96 81 rfl rfl rfl (by omega) (fun h1114 => ?_) (fun h1114 => ?_)
            · skip
              refine qr_aload_n 97 rfl (qm_gk (qm_gk (qm_gk (qm_gk g975 (by decide) (Or.inl (by decide))) (by decide) (Or.inl (by decide))) (by decide) (Or.inl (by decide))) (by decide) (Or.inl (by decide))) rfl ?_
              refine qr_bipush 99 rfl (by decide) rfl ?_
              refine qr_callN 102 rfl rfl rfl (sf_222_86x (d := d + 42) hI1108 (by omega) (by omega)) ?_
              have hs1117 : (-1) ≤ σ1107 86 35 ∧ σ1107 86 35 ≤ 120 := hI1108.1 86 35
              have hs1118 : σ1107 86 35 = x1 := (hG1109.1 86 35 (by decide)).trans ((hG1042.1 86 35 (by decide)).trans ((hG1027.1 86 35 (by decide)).trans ((hk986).trans rfl)))
              have hs1119 : 0 ≤ σ1107 86 36 ∧ σ1107 86 36 ≤ 120 := hI1108.1 86 36
              have hs1120 : 0 ≤ σ1107 86 37 ∧ σ1107 86 37 ≤ 120 := hI1108.1 86 37
              have hs1121 : σ1107 86 37 = x2 := (hG1109.1 86 37 (by decide)).trans ((hG1042.1 86 37 (by decide)).trans ((hG1027.1 86 37 (by decide)).trans ((hk987).trans rfl)))
              have hs1122 : (-1) ≤ σ1107 86 38 ∧ σ1107 86 38 ≤ 120 := hI1108.1 86 38
              rintro _ _ ⟨σ1123, rfl, hI1124, hG1125, v1115, rfl, hv1115, hp1116⟩
              have hF1126 : qFr [(86, 35), (86, 36), (86, 37), (86, 38), (86, 39)] [] σ α σ1123 α := qFr_t hF1110 hG1125 (by decide) (by decide)
              have hs1127 : 0 ≤ σ1123 86 36 ∧ σ1123 86 36 ≤ 120 := hI1124.1 86 36
              rw [(show σ1107 86 35 = x1 from (hG1109.1 86 35 (by decide)).trans ((hG1042.1 86 35 (by decide)).trans ((hG1027.1 86 35 (by decide)).trans ((hk986).trans rfl)))), (show σ1107 86 37 = x2 from (hG1109.1 86 37 (by decide)).trans ((hG1042.1 86 37 (by decide)).trans ((hG1027.1 86 37 (by decide)).trans ((hk987).trans rfl))))] at hp1116
              show qr_W (qe L xs vb) (d + 44) qx_e213 _ (102, _, [.int (qz v1115)], qw σ1123 α κ ρ, 0, 0)
              refine qr_istore _ 104 rfl (by decide) rfl rfl ?_
              refine qr_goto 33 rfl rfl ?_
              exact ih994 _ u977 u979 v1115 σ1123 (by omega) (qm_gk (qm_gk (qm_gk (qm_gk (qm_gk g975 (by decide) (Or.inl (by decide))) (by decide) (Or.inl (by decide))) (by decide) (Or.inl (by decide))) (by decide) (Or.inl (by decide))) (by decide) (Or.inl (by decide))) (qm_gk (qm_gk (qm_gk (qm_gk (qm_gk g976 (by decide) (Or.inl (by decide))) (by decide) (Or.inl (by decide))) (by decide) (Or.inl (by decide))) (by decide) (Or.inl (by decide))) (by decide) (Or.inl (by decide))) (qm_gk (qm_gk (qm_gk (qm_gk (qm_gk g978 (by decide) (Or.inl (by decide))) (by decide) (Or.inl (by decide))) (by decide) (Or.inl (by decide))) (by decide) (Or.inl (by decide))) (by decide) (Or.inr rfl)) (qm_ge _ _ _) (by omega) (by omega) (by omega) hI1124 hF1126 ((hG1125.1 86 35 (by decide)).trans ((hG1109.1 86 35 (by decide)).trans ((hG1042.1 86 35 (by decide)).trans ((hG1027.1 86 35 (by decide)).trans ((hk986).trans rfl))))) ((hG1125.1 86 37 (by decide)).trans ((hG1109.1 86 37 (by decide)).trans ((hG1042.1 86 37 (by decide)).trans ((hG1027.1 86 37 (by decide)).trans ((hk987).trans rfl))))) (by rw [show σ1123 86 38 = (σ1107 86 38) from (hG1125.1 86 38 (by decide)).trans rfl]; exact qWI_s (h := 0) (v := v1099) (a := σ1107 86 36) (by have h9 := hx991; rw [show u981 = 1 by omega, show σ982 86 38 = -1 by omega] at h9; exact h9) (by omega) (qL_2 (by have h9 := hx1020; rw [show σ1025 86 38 = -1 by omega] at h9; exact h9) (by omega) (by omega) (by have h8 := hx1101; rwa [show σ1040 86 36 = σ1025 86 36 + 1 by omega] at h8) (by omega)) (by omega) (by omega) (fun hf => ⟨by unfold qtx_gi; split <;> omega, by unfold qtx_ge; repeat' split; all_goals omega⟩) (by omega)) (by have hw1 : σ1123 86 38 = (σ1107 86 38) := (hG1125.1 86 38 (by decide)).trans rfl; have hw2 : σ1123 86 39 = (σ1107 86 39) := (hG1125.1 86 39 (by decide)).trans rfl; omega)
            · skip
              refine qr_iload 83 rfl (qm_gk (qm_ge _ _ _) (by decide) (Or.inl (by decide))) rfl ?_
              refine qr_if_eq 96 86 rfl rfl rfl (by omega) (fun h1128 => ?_) (fun h => False.elim (by omega))
              refine qr_aload_n 97 rfl (qm_gk (qm_gk (qm_gk (qm_gk g975 (by decide) (Or.inl (by decide))) (by decide) (Or.inl (by decide))) (by decide) (Or.inl (by decide))) (by decide) (Or.inl (by decide))) rfl ?_
              refine qr_bipush 99 rfl (by decide) rfl ?_
              refine qr_callN 102 rfl rfl rfl (sf_222_86x (d := d + 42) hI1108 (by omega) (by omega)) ?_
              have hs1131 : (-1) ≤ σ1107 86 35 ∧ σ1107 86 35 ≤ 120 := hI1108.1 86 35
              have hs1132 : σ1107 86 35 = x1 := (hG1109.1 86 35 (by decide)).trans ((hG1042.1 86 35 (by decide)).trans ((hG1027.1 86 35 (by decide)).trans ((hk986).trans rfl)))
              have hs1133 : 0 ≤ σ1107 86 36 ∧ σ1107 86 36 ≤ 120 := hI1108.1 86 36
              have hs1134 : 0 ≤ σ1107 86 37 ∧ σ1107 86 37 ≤ 120 := hI1108.1 86 37
              have hs1135 : σ1107 86 37 = x2 := (hG1109.1 86 37 (by decide)).trans ((hG1042.1 86 37 (by decide)).trans ((hG1027.1 86 37 (by decide)).trans ((hk987).trans rfl)))
              have hs1136 : (-1) ≤ σ1107 86 38 ∧ σ1107 86 38 ≤ 120 := hI1108.1 86 38
              rintro _ _ ⟨σ1137, rfl, hI1138, hG1139, v1129, rfl, hv1129, hp1130⟩
              have hF1140 : qFr [(86, 35), (86, 36), (86, 37), (86, 38), (86, 39)] [] σ α σ1137 α := qFr_t hF1110 hG1139 (by decide) (by decide)
              have hs1141 : 0 ≤ σ1137 86 36 ∧ σ1137 86 36 ≤ 120 := hI1138.1 86 36
              rw [(show σ1107 86 35 = x1 from (hG1109.1 86 35 (by decide)).trans ((hG1042.1 86 35 (by decide)).trans ((hG1027.1 86 35 (by decide)).trans ((hk986).trans rfl)))), (show σ1107 86 37 = x2 from (hG1109.1 86 37 (by decide)).trans ((hG1042.1 86 37 (by decide)).trans ((hG1027.1 86 37 (by decide)).trans ((hk987).trans rfl))))] at hp1130
              show qr_W (qe L xs vb) (d + 44) qx_e213 _ (102, _, [.int (qz v1129)], qw σ1137 α κ ρ, 0, 0)
              refine qr_istore _ 104 rfl (by decide) rfl rfl ?_
              refine qr_goto 33 rfl rfl ?_
              exact ih994 _ u977 u979 v1129 σ1137 (by omega) (qm_gk (qm_gk (qm_gk (qm_gk (qm_gk g975 (by decide) (Or.inl (by decide))) (by decide) (Or.inl (by decide))) (by decide) (Or.inl (by decide))) (by decide) (Or.inl (by decide))) (by decide) (Or.inl (by decide))) (qm_gk (qm_gk (qm_gk (qm_gk (qm_gk g976 (by decide) (Or.inl (by decide))) (by decide) (Or.inl (by decide))) (by decide) (Or.inl (by decide))) (by decide) (Or.inl (by decide))) (by decide) (Or.inl (by decide))) (qm_gk (qm_gk (qm_gk (qm_gk (qm_gk g978 (by decide) (Or.inl (by decide))) (by decide) (Or.inl (by decide))) (by decide) (Or.inl (by decide))) (by decide) (Or.inl (by decide))) (by decide) (Or.inr rfl)) (qm_ge _ _ _) (by omega) (by omega) (by omega) hI1138 hF1140 ((hG1139.1 86 35 (by decide)).trans ((hG1109.1 86 35 (by decide)).trans ((hG1042.1 86 35 (by decide)).trans ((hG1027.1 86 35 (by decide)).trans ((hk986).trans rfl))))) ((hG1139.1 86 37 (by decide)).trans ((hG1109.1 86 37 (by decide)).trans ((hG1042.1 86 37 (by decide)).trans ((hG1027.1 86 37 (by decide)).trans ((hk987).trans rfl))))) (by rw [show σ1137 86 38 = (σ1107 86 38) from (hG1139.1 86 38 (by decide)).trans rfl]; exact qWI_s (h := 0) (v := v1099) (a := σ1107 86 36) (by have h9 := hx991; rw [show u981 = 1 by omega, show σ982 86 38 = -1 by omega] at h9; exact h9) (by omega) (qL_2 (by have h9 := hx1020; rw [show σ1025 86 38 = -1 by omega] at h9; exact h9) (by omega) (by omega) (by have h8 := hx1101; rwa [show σ1040 86 36 = σ1025 86 36 + 1 by omega] at h8) (by omega)) (by omega) (by omega) (fun hf => ⟨by unfold qtx_gi; split <;> omega, by unfold qtx_ge; repeat' split; all_goals omega⟩) (by omega)) (by have hw1 : σ1137 86 38 = (σ1107 86 38) := (hG1139.1 86 38 (by decide)).trans rfl; have hw2 : σ1137 86 39 = (σ1107 86 39) := (hG1139.1 86 39 (by decide)).trans rfl; omega)
          · skip
            refine qr_iconst 62 rfl rfl ?_
            refine qr_goto 66 rfl rfl ?_
            refine qr_istore _ 68 rfl (by decide) rfl rfl ?_
            refine qr_aload_n 69 rfl (qm_gk (qm_gk (qm_gk g975 (by decide) (Or.inl (by decide))) (by decide) (Or.inl (by decide))) (by decide) (Or.inl (by decide))) rfl ?_
            have hs1142 : 0 ≤ σ1040 86 36 ∧ σ1040 86 36 ≤ 120 := hI1041.1 86 36
            have hs1143 : 0 ≤ σ1040 86 37 ∧ σ1040 86 37 ≤ 120 := hI1041.1 86 37
            have hs1144 : σ1040 86 37 = x2 := (hG1042.1 86 37 (by decide)).trans ((hG1027.1 86 37 (by decide)).trans ((hk987).trans rfl))
            have hs1145 : (-1) ≤ σ1040 86 38 ∧ σ1040 86 38 ≤ 120 := hI1041.1 86 38
            have hs1146 : σ1040 86 38 = (σ1025 86 38) := (hG1042.1 86 38 (by decide)).trans rfl
            have hs1147 : 0 ≤ σ1040 86 39 ∧ σ1040 86 39 ≤ 6 := hI1041.1 86 39
            have hs1148 : σ1040 86 39 = (σ1025 86 39) := (hG1042.1 86 39 (by decide)).trans rfl
            refine qr_callN 72 rfl rfl rfl (sq_E6 (d := d + 0) hI1041 (by omega) (by omega) (by omega)) ?_
            have hs1152 : 0 ≤ σ1040 86 36 ∧ σ1040 86 36 ≤ 120 := hI1041.1 86 36
            have hs1153 : 0 ≤ σ1040 86 37 ∧ σ1040 86 37 ≤ 120 := hI1041.1 86 37
            have hs1154 : σ1040 86 37 = x2 := (hG1042.1 86 37 (by decide)).trans ((hG1027.1 86 37 (by decide)).trans ((hk987).trans rfl))
            have hs1155 : 0 ≤ σ1040 86 39 ∧ σ1040 86 39 ≤ 6 := hI1041.1 86 39
            have hs1156 : σ1040 86 39 = (σ1025 86 39) := (hG1042.1 86 39 (by decide)).trans rfl
            rintro _ _ ⟨σ1157, rfl, hI1158, hG1159, v1149, rfl, hv1149, hp1150, hx1151⟩
            have hF1160 : qFr [(86, 35), (86, 36), (86, 37), (86, 38), (86, 39)] [] σ α σ1157 α := qFr_t hF1043 hG1159 (by decide) (by decide)
            have hs1161 : 0 ≤ σ1157 86 36 ∧ σ1157 86 36 ≤ 120 := hI1158.1 86 36
            have hs1162 : (-1) ≤ σ1157 86 38 ∧ σ1157 86 38 ≤ 120 := hI1158.1 86 38
            have hs1163 : 0 ≤ σ1157 86 39 ∧ σ1157 86 39 ≤ 6 := hI1158.1 86 39
            rw [(show σ1040 86 37 = x2 from (hG1042.1 86 37 (by decide)).trans ((hG1027.1 86 37 (by decide)).trans ((hk987).trans rfl))), (show σ1040 86 39 = (σ1025 86 39) from (hG1042.1 86 39 (by decide)).trans rfl)] at hp1150
            rw [(show σ1040 86 35 = x1 from (hG1042.1 86 35 (by decide)).trans ((hG1027.1 86 35 (by decide)).trans ((hk986).trans rfl))), (show σ1040 86 37 = x2 from (hG1042.1 86 37 (by decide)).trans ((hG1027.1 86 37 (by decide)).trans ((hk987).trans rfl)))] at hx1151
            show qr_W (qe L xs vb) (d + 44) qx_e213 _ (72, _, [.int (qz v1149)], qw σ1157 α κ ρ, 0, 0)
            refine qr_istore _ 74 rfl (by decide) rfl rfl ?_
            refine qr_aload_n 75 rfl (qm_gk (qm_gk (qm_gk (qm_gk g975 (by decide) (Or.inl (by decide))) (by decide) (Or.inl (by decide))) (by decide) (Or.inl (by decide))) (by decide) (Or.inl (by decide))) rfl ?_
            refine qr_get 78 rfl rfl rfl (by decide) rfl ?_
            refine qr_if_ge 96 81 rfl rfl rfl (by omega) (fun h1164 => ?_) (fun h1164 => ?_)
            · skip
              refine qr_aload_n 97 rfl (qm_gk (qm_gk (qm_gk (qm_gk g975 (by decide) (Or.inl (by decide))) (by decide) (Or.inl (by decide))) (by decide) (Or.inl (by decide))) (by decide) (Or.inl (by decide))) rfl ?_
              refine qr_bipush 99 rfl (by decide) rfl ?_
              refine qr_callN 102 rfl rfl rfl (sf_222_86x (d := d + 42) hI1158 (by omega) (by omega)) ?_
              have hs1167 : (-1) ≤ σ1157 86 35 ∧ σ1157 86 35 ≤ 120 := hI1158.1 86 35
              have hs1168 : σ1157 86 35 = x1 := (hG1159.1 86 35 (by decide)).trans ((hG1042.1 86 35 (by decide)).trans ((hG1027.1 86 35 (by decide)).trans ((hk986).trans rfl)))
              have hs1169 : 0 ≤ σ1157 86 36 ∧ σ1157 86 36 ≤ 120 := hI1158.1 86 36
              have hs1170 : 0 ≤ σ1157 86 37 ∧ σ1157 86 37 ≤ 120 := hI1158.1 86 37
              have hs1171 : σ1157 86 37 = x2 := (hG1159.1 86 37 (by decide)).trans ((hG1042.1 86 37 (by decide)).trans ((hG1027.1 86 37 (by decide)).trans ((hk987).trans rfl)))
              have hs1172 : (-1) ≤ σ1157 86 38 ∧ σ1157 86 38 ≤ 120 := hI1158.1 86 38
              rintro _ _ ⟨σ1173, rfl, hI1174, hG1175, v1165, rfl, hv1165, hp1166⟩
              have hF1176 : qFr [(86, 35), (86, 36), (86, 37), (86, 38), (86, 39)] [] σ α σ1173 α := qFr_t hF1160 hG1175 (by decide) (by decide)
              have hs1177 : 0 ≤ σ1173 86 36 ∧ σ1173 86 36 ≤ 120 := hI1174.1 86 36
              rw [(show σ1157 86 35 = x1 from (hG1159.1 86 35 (by decide)).trans ((hG1042.1 86 35 (by decide)).trans ((hG1027.1 86 35 (by decide)).trans ((hk986).trans rfl)))), (show σ1157 86 37 = x2 from (hG1159.1 86 37 (by decide)).trans ((hG1042.1 86 37 (by decide)).trans ((hG1027.1 86 37 (by decide)).trans ((hk987).trans rfl))))] at hp1166
              show qr_W (qe L xs vb) (d + 44) qx_e213 _ (102, _, [.int (qz v1165)], qw σ1173 α κ ρ, 0, 0)
              refine qr_istore _ 104 rfl (by decide) rfl rfl ?_
              refine qr_goto 33 rfl rfl ?_
              exact ih994 _ u977 u979 v1165 σ1173 (by omega) (qm_gk (qm_gk (qm_gk (qm_gk (qm_gk g975 (by decide) (Or.inl (by decide))) (by decide) (Or.inl (by decide))) (by decide) (Or.inl (by decide))) (by decide) (Or.inl (by decide))) (by decide) (Or.inl (by decide))) (qm_gk (qm_gk (qm_gk (qm_gk (qm_gk g976 (by decide) (Or.inl (by decide))) (by decide) (Or.inl (by decide))) (by decide) (Or.inl (by decide))) (by decide) (Or.inl (by decide))) (by decide) (Or.inl (by decide))) (qm_gk (qm_gk (qm_gk (qm_gk (qm_gk g978 (by decide) (Or.inl (by decide))) (by decide) (Or.inl (by decide))) (by decide) (Or.inl (by decide))) (by decide) (Or.inl (by decide))) (by decide) (Or.inr rfl)) (qm_ge _ _ _) (by omega) (by omega) (by omega) hI1174 hF1176 ((hG1175.1 86 35 (by decide)).trans ((hG1159.1 86 35 (by decide)).trans ((hG1042.1 86 35 (by decide)).trans ((hG1027.1 86 35 (by decide)).trans ((hk986).trans rfl))))) ((hG1175.1 86 37 (by decide)).trans ((hG1159.1 86 37 (by decide)).trans ((hG1042.1 86 37 (by decide)).trans ((hG1027.1 86 37 (by decide)).trans ((hk987).trans rfl))))) (by rw [show σ1173 86 38 = (σ1157 86 38) from (hG1175.1 86 38 (by decide)).trans rfl]; exact qWI_s (h := 1) (v := v1149) (a := σ1157 86 36) (by have h9 := hx991; rw [show u981 = 1 by omega, show σ982 86 38 = -1 by omega] at h9; exact h9) (by omega) (qL_2 (by have h9 := hx1020; rw [show σ1025 86 38 = -1 by omega] at h9; exact h9) (by omega) (by omega) (by have h8 := hx1151; rwa [show σ1040 86 36 = σ1025 86 36 + 1 by omega] at h8) (by omega)) (by omega) (by omega) (fun hf => ⟨by unfold qtx_gi; split <;> omega, by unfold qtx_ge; repeat' split; all_goals omega⟩) (by omega)) (by have hw1 : σ1173 86 38 = (σ1157 86 38) := (hG1175.1 86 38 (by decide)).trans rfl; have hw2 : σ1173 86 39 = (σ1157 86 39) := (hG1175.1 86 39 (by decide)).trans rfl; omega)
            · skip
              refine qr_iload 83 rfl (qm_gk (qm_ge _ _ _) (by decide) (Or.inl (by decide))) rfl ?_
              refine qr_if_eq 96 86 rfl rfl rfl (by omega) (fun h => False.elim (by omega)) (fun h1178 => ?_)
              refine qr_iload_n 87 rfl (qm_gk (qm_gk (qm_gk (qm_gk g976 (by decide) (Or.inl (by decide))) (by decide) (Or.inl (by decide))) (by decide) (Or.inl (by decide))) (by decide) (Or.inl (by decide))) rfl ?_
              refine qr_if_ne 96 90 rfl rfl rfl (by omega) (fun h1179 => ?_) (fun h1179 => ?_)
              · skip
                refine qr_aload_n 97 rfl (qm_gk (qm_gk (qm_gk (qm_gk g975 (by decide) (Or.inl (by decide))) (by decide) (Or.inl (by decide))) (by decide) (Or.inl (by decide))) (by decide) (Or.inl (by decide))) rfl ?_
                refine qr_bipush 99 rfl (by decide) rfl ?_
                refine qr_callN 102 rfl rfl rfl (sf_222_86x (d := d + 42) hI1158 (by omega) (by omega)) ?_
                have hs1182 : (-1) ≤ σ1157 86 35 ∧ σ1157 86 35 ≤ 120 := hI1158.1 86 35
                have hs1183 : σ1157 86 35 = x1 := (hG1159.1 86 35 (by decide)).trans ((hG1042.1 86 35 (by decide)).trans ((hG1027.1 86 35 (by decide)).trans ((hk986).trans rfl)))
                have hs1184 : 0 ≤ σ1157 86 36 ∧ σ1157 86 36 ≤ 120 := hI1158.1 86 36
                have hs1185 : 0 ≤ σ1157 86 37 ∧ σ1157 86 37 ≤ 120 := hI1158.1 86 37
                have hs1186 : σ1157 86 37 = x2 := (hG1159.1 86 37 (by decide)).trans ((hG1042.1 86 37 (by decide)).trans ((hG1027.1 86 37 (by decide)).trans ((hk987).trans rfl)))
                have hs1187 : (-1) ≤ σ1157 86 38 ∧ σ1157 86 38 ≤ 120 := hI1158.1 86 38
                rintro _ _ ⟨σ1188, rfl, hI1189, hG1190, v1180, rfl, hv1180, hp1181⟩
                have hF1191 : qFr [(86, 35), (86, 36), (86, 37), (86, 38), (86, 39)] [] σ α σ1188 α := qFr_t hF1160 hG1190 (by decide) (by decide)
                have hs1192 : 0 ≤ σ1188 86 36 ∧ σ1188 86 36 ≤ 120 := hI1189.1 86 36
                rw [(show σ1157 86 35 = x1 from (hG1159.1 86 35 (by decide)).trans ((hG1042.1 86 35 (by decide)).trans ((hG1027.1 86 35 (by decide)).trans ((hk986).trans rfl)))), (show σ1157 86 37 = x2 from (hG1159.1 86 37 (by decide)).trans ((hG1042.1 86 37 (by decide)).trans ((hG1027.1 86 37 (by decide)).trans ((hk987).trans rfl))))] at hp1181
                show qr_W (qe L xs vb) (d + 44) qx_e213 _ (102, _, [.int (qz v1180)], qw σ1188 α κ ρ, 0, 0)
                refine qr_istore _ 104 rfl (by decide) rfl rfl ?_
                refine qr_goto 33 rfl rfl ?_
                exact ih994 _ u977 u979 v1180 σ1188 (by omega) (qm_gk (qm_gk (qm_gk (qm_gk (qm_gk g975 (by decide) (Or.inl (by decide))) (by decide) (Or.inl (by decide))) (by decide) (Or.inl (by decide))) (by decide) (Or.inl (by decide))) (by decide) (Or.inl (by decide))) (qm_gk (qm_gk (qm_gk (qm_gk (qm_gk g976 (by decide) (Or.inl (by decide))) (by decide) (Or.inl (by decide))) (by decide) (Or.inl (by decide))) (by decide) (Or.inl (by decide))) (by decide) (Or.inl (by decide))) (qm_gk (qm_gk (qm_gk (qm_gk (qm_gk g978 (by decide) (Or.inl (by decide))) (by decide) (Or.inl (by decide))) (by decide) (Or.inl (by decide))) (by decide) (Or.inl (by decide))) (by decide) (Or.inr rfl)) (qm_ge _ _ _) (by omega) (by omega) (by omega) hI1189 hF1191 ((hG1190.1 86 35 (by decide)).trans ((hG1159.1 86 35 (by decide)).trans ((hG1042.1 86 35 (by decide)).trans ((hG1027.1 86 35 (by decide)).trans ((hk986).trans rfl))))) ((hG1190.1 86 37 (by decide)).trans ((hG1159.1 86 37 (by decide)).trans ((hG1042.1 86 37 (by decide)).trans ((hG1027.1 86 37 (by decide)).trans ((hk987).trans rfl))))) (by rw [show σ1188 86 38 = (σ1157 86 38) from (hG1190.1 86 38 (by decide)).trans rfl]; exact qWI_s (h := 1) (v := v1149) (a := σ1157 86 36) (by have h9 := hx991; rw [show u981 = 1 by omega, show σ982 86 38 = -1 by omega] at h9; exact h9) (by omega) (qL_2 (by have h9 := hx1020; rw [show σ1025 86 38 = -1 by omega] at h9; exact h9) (by omega) (by omega) (by have h8 := hx1151; rwa [show σ1040 86 36 = σ1025 86 36 + 1 by omega] at h8) (by omega)) (by omega) (by omega) (fun hf => ⟨by unfold qtx_gi; split <;> omega, by unfold qtx_ge; repeat' split; all_goals omega⟩) (by omega)) (by have hw1 : σ1188 86 38 = (σ1157 86 38) := (hG1190.1 86 38 (by decide)).trans rfl; have hw2 : σ1188 86 39 = (σ1157 86 39) := (hG1190.1 86 39 (by decide)).trans rfl; omega)
              · skip
                refine qr_iconst 91 rfl rfl ?_
                refine qr_istore_n _ 92 rfl (by decide) rfl rfl ?_
                refine qr_iload 94 rfl (qm_gk (qm_ge _ _ _) (by decide) (Or.inl (by decide))) rfl ?_
                refine qr_istore _ 96 rfl (by decide) rfl rfl ?_
                refine qr_aload_n 97 rfl (qm_gk (qm_gk (qm_gk (qm_gk (qm_gk (qm_gk g975 (by decide) (Or.inl (by decide))) (by decide) (Or.inl (by decide))) (by decide) (Or.inl (by decide))) (by decide) (Or.inl (by decide))) (by decide) (Or.inl (by decide))) (by decide) (Or.inl (by decide))) rfl ?_
                refine qr_bipush 99 rfl (by decide) rfl ?_
                refine qr_callN 102 rfl rfl rfl (sf_222_86x (d := d + 42) hI1158 (by omega) (by omega)) ?_
                have hs1195 : (-1) ≤ σ1157 86 35 ∧ σ1157 86 35 ≤ 120 := hI1158.1 86 35
                have hs1196 : σ1157 86 35 = x1 := (hG1159.1 86 35 (by decide)).trans ((hG1042.1 86 35 (by decide)).trans ((hG1027.1 86 35 (by decide)).trans ((hk986).trans rfl)))
                have hs1197 : 0 ≤ σ1157 86 36 ∧ σ1157 86 36 ≤ 120 := hI1158.1 86 36
                have hs1198 : 0 ≤ σ1157 86 37 ∧ σ1157 86 37 ≤ 120 := hI1158.1 86 37
                have hs1199 : σ1157 86 37 = x2 := (hG1159.1 86 37 (by decide)).trans ((hG1042.1 86 37 (by decide)).trans ((hG1027.1 86 37 (by decide)).trans ((hk987).trans rfl)))
                have hs1200 : (-1) ≤ σ1157 86 38 ∧ σ1157 86 38 ≤ 120 := hI1158.1 86 38
                rintro _ _ ⟨σ1201, rfl, hI1202, hG1203, v1193, rfl, hv1193, hp1194⟩
                have hF1204 : qFr [(86, 35), (86, 36), (86, 37), (86, 38), (86, 39)] [] σ α σ1201 α := qFr_t hF1160 hG1203 (by decide) (by decide)
                have hs1205 : 0 ≤ σ1201 86 36 ∧ σ1201 86 36 ≤ 120 := hI1202.1 86 36
                rw [(show σ1157 86 35 = x1 from (hG1159.1 86 35 (by decide)).trans ((hG1042.1 86 35 (by decide)).trans ((hG1027.1 86 35 (by decide)).trans ((hk986).trans rfl)))), (show σ1157 86 37 = x2 from (hG1159.1 86 37 (by decide)).trans ((hG1042.1 86 37 (by decide)).trans ((hG1027.1 86 37 (by decide)).trans ((hk987).trans rfl))))] at hp1194
                show qr_W (qe L xs vb) (d + 44) qx_e213 _ (102, _, [.int (qz v1193)], qw σ1201 α κ ρ, 0, 0)
                refine qr_istore _ 104 rfl (by decide) rfl rfl ?_
                refine qr_goto 33 rfl rfl ?_
                exact ih994 _ 1 v1149 v1193 σ1201 (by omega) (qm_gk (qm_gk (qm_gk (qm_gk (qm_gk (qm_gk (qm_gk g975 (by decide) (Or.inl (by decide))) (by decide) (Or.inl (by decide))) (by decide) (Or.inl (by decide))) (by decide) (Or.inl (by decide))) (by decide) (Or.inl (by decide))) (by decide) (Or.inl (by decide))) (by decide) (Or.inl (by decide))) (qm_gk (qm_gk (qm_ge _ _ _) (by decide) (Or.inr rfl)) (by decide) (Or.inl (by decide))) (qm_gk (qm_ge _ _ _) (by decide) (Or.inr rfl)) (qm_ge _ _ _) (by omega) (by omega) (by omega) hI1202 hF1204 ((hG1203.1 86 35 (by decide)).trans ((hG1159.1 86 35 (by decide)).trans ((hG1042.1 86 35 (by decide)).trans ((hG1027.1 86 35 (by decide)).trans ((hk986).trans rfl))))) ((hG1203.1 86 37 (by decide)).trans ((hG1159.1 86 37 (by decide)).trans ((hG1042.1 86 37 (by decide)).trans ((hG1027.1 86 37 (by decide)).trans ((hk987).trans rfl))))) (by rw [show σ1201 86 38 = (σ1157 86 38) from (hG1203.1 86 38 (by decide)).trans rfl]; exact qWI_s (h := 1) (v := v1149) (a := σ1157 86 36) (by have h9 := hx991; rw [show u981 = 1 by omega, show σ982 86 38 = -1 by omega] at h9; exact h9) (by omega) (qL_2 (by have h9 := hx1020; rw [show σ1025 86 38 = -1 by omega] at h9; exact h9) (by omega) (by omega) (by have h8 := hx1151; rwa [show σ1040 86 36 = σ1025 86 36 + 1 by omega] at h8) (by omega)) (by omega) (by omega) (fun hf => ⟨by unfold qtx_gi; split <;> omega, by unfold qtx_ge; repeat' split; all_goals omega⟩) (by omega)) (by have hw1 : σ1201 86 38 = (σ1157 86 38) := (hG1203.1 86 38 (by decide)).trans rfl; have hw2 : σ1201 86 39 = (σ1157 86 39) := (hG1203.1 86 39 (by decide)).trans rfl; omega)
  exact hL993 ((2 * ((120 - σ17 86 36).toNat : Int) + 1 + 1 : Int)).toNat _ 0 0 1 σ17 (by omega) rfl rfl rfl rfl (by omega) (by omega) (by omega) hI19 hF20 ((congrFun (congrFun e18 86) 35).trans ((congrFun (congrFun e14 86) 35).trans ((congrFun (congrFun e10 86) 35).trans ((congrFun (congrFun e6 86) 35).trans ((congrFun (congrFun e2 86) 35).trans rfl))))) ((congrFun (congrFun e18 86) 37).trans ((congrFun (congrFun e14 86) 37).trans ((congrFun (congrFun e10 86) 37).trans rfl))) (by rw [show σ17 86 36 = 0 from (congrFun (congrFun e18 86) 36).trans ((congrFun (congrFun e14 86) 36).trans ((congrFun (congrFun e10 86) 36).trans ((congrFun (congrFun e6 86) 36).trans rfl))), show σ17 86 38 = (-1) from (congrFun (congrFun e18 86) 38).trans ((congrFun (congrFun e14 86) 38).trans rfl)]; exact Or.inl ⟨rfl, rfl, 121, rfl, by omega⟩) (by have hw0 : σ17 86 36 = 0 := (congrFun (congrFun e18 86) 36).trans ((congrFun (congrFun e14 86) 36).trans ((congrFun (congrFun e10 86) 36).trans ((congrFun (congrFun e6 86) 36).trans rfl))); have hw1 : σ17 86 38 = (-1) := (congrFun (congrFun e18 86) 38).trans ((congrFun (congrFun e14 86) 38).trans rfl); have hw2 : σ17 86 39 = 0 := (congrFun (congrFun e18 86) 39).trans rfl; omega)
