set_option maxHeartbeats 4000000 in
set_option maxRecDepth 20000 in
/-- OneRoofModel.lists -/
theorem sf_234_86p {L : Nat} {xs : Nat → Int} {vb : Bool} {d : Nat} {σ α : Nat → Nat → Int} {κ : Nat → Option Nat} {ρ : Nat} {x1 : Int} {x2 : Int} (hI : qI σ α κ ρ) (r1 : (-9223372036854775808) ≤ x1 ∧ x1 ≤ 9223372036854775807) (r2 : 0 ≤ x2 ∧ x2 ≤ 12) : qm_T (qe L xs vb) (d + 2) 234 [.ref 86, .long (ql x1), .int (qz x2)] (qw σ α κ ρ) (fun r w' => ∃ σ' α', w' = qw σ' α' κ ρ ∧ qI σ' α' κ ρ ∧ qFr [(86, 43)] [110] σ α σ' α' ∧ ∃ v : Int, r = some (.int (qz v)) ∧ (0 ≤ v ∧ v ≤ 1) ∧ (v = 0 ∨ (v = 1 ∧ 1 ≤ σ' 86 43 ∧ σ' 86 43 ≤ x2 ∧ 1 ≤ σ 86 6))) := by
  refine qr_start (d := d + 1) qv_e234 (Nat.le_of_ble_eq_true rfl) ?_
  show qr_W (qe L xs vb) (d + 1) qx_e234 _ (0, [(0, .ref 86), (1, .long (ql x1)), (3, .int (qz x2))], [], _, 0, 0)
  have hF0 := qFr_rf [(86, 43)] [110] σ α
  have hz86_6 : 0 ≤ σ 86 6 ∧ σ 86 6 ≤ 32 := hI.1 86 6
  refine qr_aload_n 1 rfl rfl rfl ?_
  refine qr_iconst 2 rfl rfl ?_
  refine qr_put 5 rfl (by decide) rfl (Nat.le_of_ble_eq_true rfl) (Nat.le_of_ble_eq_true rfl) (Or.inl rfl) (qr_fitI rfl _) rfl ?_
  refine qy_wS (qw_s σ 86 43 0) rfl (fun σ1 e2 => ?_)
  have hI3 : qI σ1 α κ ρ := by rw [e2]; exact qI_s hI 86 43 rfl (show 0 ≤ 0 ∧ 0 ≤ 32 by omega)
  have hF4 : qFr [(86, 43)] [110] σ α σ1 α := by rw [e2]; exact qFr_s hF0 86 43 _ (by decide)
  refine qr_iconst 6 rfl rfl ?_
  refine qr_istore _ 8 rfl (by decide) rfl rfl ?_
  have hL423 : ∀ (n : Nat) (ls : qm_L) (u414 : Int) (σ415 α416 : Nat → Nat → Int), 32 - u414 < (n : Int) → qm_get ls 0 = some (.ref 86) → qm_get ls 1 = some (.long (ql x1)) → qm_get ls 3 = some (.int (qz x2)) → qm_get ls 4 = some (.int (qz u414)) → (0 ≤ u414 ∧ u414 ≤ 32) → qI σ415 α416 κ ρ → qFr [(86, 43)] [110] σ α σ415 α416 → σ415 86 6 = (σ 86 6) → σ415 86 43 ≤ u414 → (σ415 86 43 = 0 ∨ 1 ≤ σ 86 6) → qr_W (qe L xs vb) (d + 1) qx_e234 (fun r w' => ∃ σ' α', w' = qw σ' α' κ ρ ∧ qI σ' α' κ ρ ∧ qFr [(86, 43)] [110] σ α σ' α' ∧ ∃ v : Int, r = some (.int (qz v)) ∧ (0 ≤ v ∧ v ≤ 1) ∧ (v = 0 ∨ (v = 1 ∧ 1 ≤ σ' 86 43 ∧ σ' 86 43 ≤ x2 ∧ 1 ≤ σ 86 6))) (8, ls, [], qw σ415 α416 κ ρ, 0, 0) := by
    intro n
    induction n with
    | zero => intro ls u414 σ415 α416 hm g410 g411 g412 g413 hf420 hI417 hF418 hk419 hx421 hx422; exact False.elim (by omega)
    | succ n ih424 =>
      intro ls u414 σ415 α416 hm g410 g411 g412 g413 hf420 hI417 hF418 hk419 hx421 hx422
      refine qr_iload 10 rfl g413 rfl ?_
      refine qr_aload_n 11 rfl g410 rfl ?_
      refine qr_get 14 rfl rfl rfl (by decide) rfl ?_
      refine qy_v (σ 86 6) ((hk419).trans rfl) ?_
      refine qr_icmp_ge 70 17 rfl rfl rfl (by omega) (by omega) (fun h425 => ?_) (fun h425 => ?_)
      · skip
        refine qr_aload_n 71 rfl g410 rfl ?_
        refine qr_lload_n 72 rfl g411 rfl ?_
        refine qr_callN 75 rfl rfl rfl (sf_225_86 (d := d + 0) hI417 (by omega)) ?_
        rintro _ _ ⟨rfl, v426, rfl, hv426⟩
        show qr_W (qe L xs vb) (d + 1) qx_e234 _ (75, _, [.int (qz v426)], qw σ415 α416 κ ρ, 0, 0)
        refine qr_if_eq 96 78 rfl rfl rfl (by omega) (fun h427 => ?_) (fun h427 => ?_)
        · skip
          refine qr_iconst 97 rfl rfl ?_
          refine qr_retZ rfl rfl (by omega) (by decide) (by decide) ?_
          exact ⟨_, _, rfl, hI417, hF418, 0, rfl, by omega, by omega⟩
        · skip
          refine qr_aload_n 79 rfl g410 rfl ?_
          refine qr_get 82 rfl rfl rfl (by decide) rfl ?_
          have hs428 : 0 ≤ σ415 86 43 ∧ σ415 86 43 ≤ 32 := hI417.1 86 43
          refine qr_i2l 83 rfl (by omega) rfl ?_
          refine qr_lconst 84 rfl rfl ?_
          refine qy_vl 1 rfl ?_
          refine qr_iload_n 85 rfl g412 rfl ?_
          refine qr_i2l 86 rfl (by omega) rfl ?_
          refine qr_callN 89 rfl rfl rfl (sf_176 (d := d + 0) hI417 (by omega) (by omega) (by omega)) ?_
          rintro _ _ ⟨rfl, v429, rfl, hv429, hp430⟩
          show qr_W (qe L xs vb) (d + 1) qx_e234 _ (89, _, [.int (qz v429)], qw σ415 α416 κ ρ, 0, 0)
          refine qr_if_eq 96 92 rfl rfl rfl (by omega) (fun h431 => ?_) (fun h431 => ?_)
          · skip
            refine qr_iconst 97 rfl rfl ?_
            refine qr_retZ rfl rfl (by omega) (by decide) (by decide) ?_
            have hw432 : σ415 86 43 = (σ415 86 43) := rfl
            exact ⟨_, _, rfl, hI417, hF418, 0, rfl, by omega, by omega⟩
          · skip
            refine qr_iconst 93 rfl rfl ?_
            refine qr_goto 97 rfl rfl ?_
            refine qr_retZ rfl rfl (by omega) (by decide) (by decide) ?_
            have hw433 : σ415 86 43 = (σ415 86 43) := rfl
            exact ⟨_, _, rfl, hI417, hF418, 1, rfl, by omega, by omega⟩
      · skip
        refine qr_aload_n 18 rfl g410 rfl ?_
        refine qr_lload_n 19 rfl g411 rfl ?_
        refine qr_callN 22 rfl rfl rfl (sf_225_86 (d := d + 0) hI417 (by omega)) ?_
        rintro _ _ ⟨rfl, v434, rfl, hv434⟩
        show qr_W (qe L xs vb) (d + 1) qx_e234 _ (22, _, [.int (qz v434)], qw σ415 α416 κ ρ, 0, 0)
        refine qr_if_eq 70 25 rfl rfl rfl (by omega) (fun h435 => ?_) (fun h435 => ?_)
        · skip
          refine qr_aload_n 71 rfl g410 rfl ?_
          refine qr_lload_n 72 rfl g411 rfl ?_
          refine qr_callN 75 rfl rfl rfl (sf_225_86 (d := d + 0) hI417 (by omega)) ?_
          rintro _ _ ⟨rfl, v436, rfl, hv436⟩
          show qr_W (qe L xs vb) (d + 1) qx_e234 _ (75, _, [.int (qz v436)], qw σ415 α416 κ ρ, 0, 0)
          refine qr_if_eq 96 78 rfl rfl rfl (by omega) (fun h437 => ?_) (fun h437 => ?_)
          · skip
            refine qr_iconst 97 rfl rfl ?_
            refine qr_retZ rfl rfl (by omega) (by decide) (by decide) ?_
            exact ⟨_, _, rfl, hI417, hF418, 0, rfl, by omega, by omega⟩
          · skip
            refine qr_aload_n 79 rfl g410 rfl ?_
            refine qr_get 82 rfl rfl rfl (by decide) rfl ?_
            have hs438 : 0 ≤ σ415 86 43 ∧ σ415 86 43 ≤ 32 := hI417.1 86 43
            refine qr_i2l 83 rfl (by omega) rfl ?_
            refine qr_lconst 84 rfl rfl ?_
            refine qy_vl 1 rfl ?_
            refine qr_iload_n 85 rfl g412 rfl ?_
            refine qr_i2l 86 rfl (by omega) rfl ?_
            refine qr_callN 89 rfl rfl rfl (sf_176 (d := d + 0) hI417 (by omega) (by omega) (by omega)) ?_
            rintro _ _ ⟨rfl, v439, rfl, hv439, hp440⟩
            show qr_W (qe L xs vb) (d + 1) qx_e234 _ (89, _, [.int (qz v439)], qw σ415 α416 κ ρ, 0, 0)
            refine qr_if_eq 96 92 rfl rfl rfl (by omega) (fun h441 => ?_) (fun h441 => ?_)
            · skip
              refine qr_iconst 97 rfl rfl ?_
              refine qr_retZ rfl rfl (by omega) (by decide) (by decide) ?_
              have hw442 : σ415 86 43 = (σ415 86 43) := rfl
              exact ⟨_, _, rfl, hI417, hF418, 0, rfl, by omega, by omega⟩
            · skip
              refine qr_iconst 93 rfl rfl ?_
              refine qr_goto 97 rfl rfl ?_
              refine qr_retZ rfl rfl (by omega) (by decide) (by decide) ?_
              have hw443 : σ415 86 43 = (σ415 86 43) := rfl
              exact ⟨_, _, rfl, hI417, hF418, 1, rfl, by omega, by omega⟩
        · skip
          refine qr_lload_n 26 rfl g411 rfl ?_
          refine qr_aload_n 27 rfl g410 rfl ?_
          refine qr_get 30 rfl rfl rfl (by decide) rfl ?_
          have hs444 : (-9223372036854775808) ≤ σ415 86 10 ∧ σ415 86 10 ≤ 9223372036854775807 := hI417.1 86 10
          refine qr_ldc2 (-1) 33 rfl (by decide) rfl ?_
          refine qr_lxor 34 rfl rfl ?_
          refine qy_canl (fun v445 hv445 => ?_)
          refine qr_land 35 rfl rfl ?_
          refine qy_canl (fun v446 hv446 => ?_)
          refine qr_iload 37 rfl g413 rfl ?_
          refine qr_callN 40 rfl rfl rfl (sf_226 (d := d + 0) hI417 (by omega) (by omega)) ?_
          rintro _ _ ⟨rfl, v447, rfl, hv447⟩
          show qr_W (qe L xs vb) (d + 1) qx_e234 _ (40, _, [.int (qz v447)], qw σ415 α416 κ ρ, 0, 0)
          refine qr_if_eq 64 43 rfl rfl rfl (by omega) (fun h448 => ?_) (fun h448 => ?_)
          · skip
            refine qr_iinc _ 67 rfl g413 (by decide) rfl rfl ?_
            refine qr_goto 8 rfl rfl ?_
            exact ih424 _ (u414 + 1) σ415 α416 (by omega) (qm_gk g410 (by decide) (Or.inl (by decide))) (qm_gk g411 (by decide) (Or.inl (by decide))) (qm_gk g412 (by decide) (Or.inr rfl)) (qm_ge _ _ _) (by omega) hI417 hF418 ((hk419).trans rfl) (by omega) (by omega)
          · skip
            refine qr_aload_n 44 rfl g410 rfl ?_
            refine qr_get 47 rfl rfl rfl (by decide) rfl ?_
            refine qr_aload_n 48 rfl g410 rfl ?_
            refine qr_get 51 rfl rfl rfl (by decide) rfl ?_
            have hs449 : 0 ≤ σ415 86 43 ∧ σ415 86 43 ≤ 32 := hI417.1 86 43
            refine qr_iload 53 rfl g413 rfl ?_
            refine qr_iastore 54 rfl (by decide) rfl (by omega) (by decide) rfl ?_
            refine qy_wA (qw_r α416 110 (qzu (α416 110) ((σ415 86 43) : Int).toNat u414)) rfl (fun α450 e451 => ?_)
            have hI452 : qI σ415 α450 κ ρ := by rw [e451]; exact qI_r hI417 110 _ rfl (show 0 ≤ u414 ∧ u414 ≤ 31 by omega)
            have hF453 : qFr [(86, 43)] [110] σ α σ415 α450 := by rw [e451]; exact qFr_r hF418 110 _ (by decide)
            refine qr_aload_n 55 rfl g410 rfl ?_
            refine qr_dup 56 rfl rfl rfl ?_
            refine qr_get 59 rfl rfl rfl (by decide) rfl ?_
            refine qr_iconst 60 rfl rfl ?_
            refine qr_iadd 61 rfl rfl ?_
            refine qr_put 64 rfl (by decide) rfl (Nat.le_of_ble_eq_true rfl) (Nat.le_of_ble_eq_true rfl) (Or.inl rfl) (qr_fitI rfl _) rfl ?_
            refine qy_wS (qw_s σ415 86 43 ((σ415 86 43) + 1)) rfl (fun σ454 e455 => ?_)
            have hI456 : qI σ454 α450 κ ρ := by rw [e455]; exact qI_s hI452 86 43 rfl (show 0 ≤ ((σ415 86 43) + 1) ∧ ((σ415 86 43) + 1) ≤ 32 by omega)
            have hF457 : qFr [(86, 43)] [110] σ α σ454 α450 := by rw [e455]; exact qFr_s hF453 86 43 _ (by decide)
            refine qr_iinc _ 67 rfl g413 (by decide) rfl rfl ?_
            refine qr_goto 8 rfl rfl ?_
            exact ih424 _ (u414 + 1) σ454 α450 (by omega) (qm_gk g410 (by decide) (Or.inl (by decide))) (qm_gk g411 (by decide) (Or.inl (by decide))) (qm_gk g412 (by decide) (Or.inr rfl)) (qm_ge _ _ _) (by omega) hI456 hF457 ((congrFun (congrFun e455 86) 6).trans ((hk419).trans rfl)) (by have hw : σ454 86 43 = ((σ415 86 43) + 1) := (congrFun (congrFun e455 86) 43).trans rfl; omega) (by have hw : σ454 86 43 = ((σ415 86 43) + 1) := (congrFun (congrFun e455 86) 43).trans rfl; omega)
  exact hL423 ((32 - 0 + 1 : Int)).toNat _ 0 σ1 α (by omega) rfl rfl rfl rfl (by omega) hI3 hF4 ((congrFun (congrFun e2 86) 6).trans rfl) (by have hw : σ1 86 43 = 0 := (congrFun (congrFun e2 86) 43).trans rfl; omega) (by have hw : σ1 86 43 = 0 := (congrFun (congrFun e2 86) 43).trans rfl; omega)

set_option maxHeartbeats 4000000 in
set_option maxRecDepth 20000 in
/-- OneRoofModel.meets -/
theorem sf_244_86 {L : Nat} {xs : Nat → Int} {vb : Bool} {d : Nat} {σ α : Nat → Nat → Int} {κ : Nat → Option Nat} {ρ : Nat} {x1 : Int} {x2 : Int} {x3 : Int} (hI : qI σ α κ ρ) (r1 : 0 ≤ x1 ∧ x1 ≤ 5) (r2 : (-2147483648) ≤ x2 ∧ x2 ≤ 2147483647) (r3 : (-2147483648) ≤ x3 ∧ x3 ≤ 2147483647) (p0 : 1 ≤ σ 86 6) (p1 : σ 86 43 ≤ 6) : qm_T (qe L xs vb) (d + 6) 244 [.ref 86, .int (qz x1), .int (qz x2), .int (qz x3)] (qw σ α κ ρ) (fun r w' => ∃ σ' α', w' = qw σ' α' κ ρ ∧ qI σ' α' κ ρ ∧ qFr [(86, 15), (86, 23), (86, 30)] [96] σ α σ' α' ∧ ∃ v : Int, r = some (.int (qz v)) ∧ (0 ≤ v ∧ v ≤ 1)) := by
  refine qr_start (d := d + 5) qv_e244 (Nat.le_of_ble_eq_true rfl) ?_
  show qr_W (qe L xs vb) (d + 5) qx_e244 _ (0, [(0, .ref 86), (1, .int (qz x1)), (2, .int (qz x2)), (3, .int (qz x3))], [], _, 0, 0)
  have hF0 := qFr_rf [(86, 15), (86, 23), (86, 30)] [96] σ α
  have hz86_6 : 0 ≤ σ 86 6 ∧ σ 86 6 ≤ 32 := hI.1 86 6
  have hz86_43 : 0 ≤ σ 86 43 ∧ σ 86 43 ≤ 32 := hI.1 86 43
  refine qr_aload_n 1 rfl rfl rfl ?_
  refine qr_get 4 rfl rfl rfl (by decide) rfl ?_
  refine qr_aload_n 5 rfl rfl rfl ?_
  refine qr_get 8 rfl rfl rfl (by decide) rfl ?_
  refine qr_iload_n 9 rfl rfl rfl ?_
  refine qr_iaload 10 rfl rfl (by omega) (by decide) rfl ?_
  refine qr_topI (fun v1 hv1 => ?_)
  have hs2 : 0 ≤ v1 ∧ v1 ≤ 5 := by rw [hv1]; exact hI.2.1 114 _ (show _ < 6 by omega)
  refine qr_iaload 11 rfl rfl (by omega) (by decide) rfl ?_
  refine qr_topI (fun v3 hv3 => ?_)
  have hs4 : 0 ≤ v3 ∧ v3 ≤ 31 := by rw [hv3]; exact hI.2.1 110 _ (show _ < 32 by omega)
  refine qr_istore _ 13 rfl (by decide) rfl rfl ?_
  refine qr_iload_n 14 rfl rfl rfl ?_
  refine qr_iload_n 15 rfl rfl rfl ?_
  refine qr_iload_n 16 rfl rfl rfl ?_
  refine qr_bipush 18 rfl (by decide) rfl ?_
  refine qr_idivW 19 rfl (by omega) rfl ?_
  refine qy_can (fun v5 hv5 => ?_)
  refine qr_imul 20 rfl rfl ?_
  refine qy_can (fun v6 hv6 => ?_)
  refine qr_iadd 21 rfl rfl ?_
  refine qy_can (fun v7 hv7 => ?_)
  refine qr_istore _ 23 rfl (by decide) rfl rfl ?_
  refine qr_iconst 24 rfl rfl ?_
  refine qr_istore _ 26 rfl (by decide) rfl rfl ?_
  have hL435 : ∀ (n : Nat) (ls : qm_L) (u427 : Int) (σ428 α429 : Nat → Nat → Int), 5 - u427 < (n : Int) → qm_get ls 0 = some (.ref 86) → qm_get ls 1 = some (.int (qz x1)) → qm_get ls 3 = some (.int (qz x3)) → qm_get ls 4 = some (.int (qz v3)) → qm_get ls 5 = some (.int (qz v7)) → qm_get ls 6 = some (.int (qz u427)) → (0 ≤ u427 ∧ u427 ≤ 5) → qI σ428 α429 κ ρ → qFr [(86, 15), (86, 23), (86, 30)] [96] σ α σ428 α429 → σ428 86 6 = (σ 86 6) → σ428 86 43 = (σ 86 43) → qr_W (qe L xs vb) (d + 5) qx_e244 (fun r w' => ∃ σ' α', w' = qw σ' α' κ ρ ∧ qI σ' α' κ ρ ∧ qFr [(86, 15), (86, 23), (86, 30)] [96] σ α σ' α' ∧ ∃ v : Int, r = some (.int (qz v)) ∧ (0 ≤ v ∧ v ≤ 1)) (26, ls, [], qw σ428 α429 κ ρ, 0, 0) := by
    intro n
    induction n with
    | zero => intro ls u427 σ428 α429 hm g421 g422 g423 g424 g425 g426 hf434 hI430 hF431 hk432 hk433; exact False.elim (by omega)
    | succ n ih436 =>
      intro ls u427 σ428 α429 hm g421 g422 g423 g424 g425 g426 hf434 hI430 hF431 hk432 hk433
      refine qr_iload 28 rfl g426 rfl ?_
      refine qr_iload_n 29 rfl g422 rfl ?_
      refine qr_icmp_ge 127 32 rfl rfl rfl (by omega) (by omega) (fun h437 => ?_) (fun h437 => ?_)
      · skip
        refine qr_iconst 128 rfl rfl ?_
        refine qr_retZ rfl rfl (by omega) (by decide) (by decide) ?_
        exact ⟨_, _, rfl, hI430, hF431, 0, rfl, by omega⟩
      · skip
        refine qr_aload_n 33 rfl g421 rfl ?_
        refine qr_get 36 rfl rfl rfl (by decide) rfl ?_
        refine qr_aload_n 37 rfl g421 rfl ?_
        refine qr_get 40 rfl rfl rfl (by decide) rfl ?_
        refine qr_iload 42 rfl g426 rfl ?_
        refine qr_iaload 43 rfl rfl (by omega) (by decide) rfl ?_
        refine qr_topI (fun v438 hv438 => ?_)
        have hs439 : 0 ≤ v438 ∧ v438 ≤ 5 := by rw [hv438]; exact hI430.2.1 114 _ (show _ < 6 by omega)
        refine qr_iaload 44 rfl rfl (by omega) (by decide) rfl ?_
        refine qr_topI (fun v440 hv440 => ?_)
        have hs441 : 0 ≤ v440 ∧ v440 ≤ 31 := by rw [hv440]; exact hI430.2.1 110 _ (show _ < 32 by omega)
        refine qr_istore _ 46 rfl (by decide) rfl rfl ?_
        refine qr_aload_n 47 rfl (qm_gk g421 (by decide) (Or.inl (by decide))) rfl ?_
        refine qr_get 50 rfl rfl rfl (by decide) rfl ?_
        refine qr_iload 52 rfl (qm_gk g424 (by decide) (Or.inl (by decide))) rfl ?_
        refine qr_iaload 53 rfl rfl (by omega) (by decide) rfl ?_
        refine qr_topI (fun v442 hv442 => ?_)
        have hs443 : (-2147483648) ≤ v442 ∧ v442 ≤ 2147483647 := by rw [hv442]; exact hI430.2.1 93 _ (show _ < 32 by omega)
        refine qr_aload_n 54 rfl (qm_gk g421 (by decide) (Or.inl (by decide))) rfl ?_
        refine qr_get 57 rfl rfl rfl (by decide) rfl ?_
        refine qr_iload 59 rfl (qm_ge _ _ _) rfl ?_
        refine qr_iaload 60 rfl rfl (by omega) (by decide) rfl ?_
        refine qr_topI (fun v444 hv444 => ?_)
        have hs445 : (-2147483648) ≤ v444 ∧ v444 ≤ 2147483647 := by rw [hv444]; exact hI430.2.1 93 _ (show _ < 32 by omega)
        have hJ476 : ∀ (ls : qm_L) (u468 : Int) (σ469 α470 : Nat → Nat → Int), qm_get ls 0 = some (.ref 86) → qm_get ls 1 = some (.int (qz x1)) → qm_get ls 3 = some (.int (qz x3)) → qm_get ls 4 = some (.int (qz v3)) → qm_get ls 5 = some (.int (qz v7)) → qm_get ls 6 = some (.int (qz u427)) → (0 ≤ u468 ∧ u468 ≤ 1) → qI σ469 α470 κ ρ → qFr [(86, 15), (86, 23), (86, 30)] [96] σ α σ469 α470 → σ469 86 6 = (σ 86 6) → σ469 86 43 = (σ 86 43) → qr_W (qe L xs vb) (d + 5) qx_e244 (fun r w' => ∃ σ' α', w' = qw σ' α' κ ρ ∧ qI σ' α' κ ρ ∧ qFr [(86, 15), (86, 23), (86, 30)] [96] σ α σ' α' ∧ ∃ v : Int, r = some (.int (qz v)) ∧ (0 ≤ v ∧ v ≤ 1)) (112, ls, [.int (qz u468)], qw σ469 α470 κ ρ, 0, 0) := by
          intro ls u468 σ469 α470 g462 g463 g464 g465 g466 g467 hf475 hI471 hF472 hk473 hk474
          refine qr_istore _ 114 rfl (by decide) rfl rfl ?_
          refine qr_iload 116 rfl (qm_ge _ _ _) rfl ?_
          refine qr_if_eq 121 119 rfl rfl rfl (by omega) (fun h477 => ?_) (fun h477 => ?_)
          · skip
            refine qr_iinc _ 124 rfl (qm_gk g467 (by decide) (Or.inl (by decide))) (by decide) rfl rfl ?_
            refine qr_goto 26 rfl rfl ?_
            exact ih436 _ (u427 + 1) σ469 α470 (by omega) (qm_gk (qm_gk g462 (by decide) (Or.inl (by decide))) (by decide) (Or.inl (by decide))) (qm_gk (qm_gk g463 (by decide) (Or.inl (by decide))) (by decide) (Or.inl (by decide))) (qm_gk (qm_gk g464 (by decide) (Or.inl (by decide))) (by decide) (Or.inl (by decide))) (qm_gk (qm_gk g465 (by decide) (Or.inl (by decide))) (by decide) (Or.inl (by decide))) (qm_gk (qm_gk g466 (by decide) (Or.inl (by decide))) (by decide) (Or.inr rfl)) (qm_ge _ _ _) (by omega) hI471 hF472 ((hk473).trans rfl) ((hk474).trans rfl)
          · skip
            refine qr_iconst 120 rfl rfl ?_
            refine qr_retZ rfl rfl (by omega) (by decide) (by decide) ?_
            exact ⟨_, _, rfl, hI471, hF472, 1, rfl, by omega⟩
        refine qr_icmp_ne 111 63 rfl rfl rfl (by omega) (by omega) (fun h478 => ?_) (fun h478 => ?_)
        · skip
          refine qr_iconst 112 rfl rfl ?_
          exact hJ476 _ 0 σ428 α429 (qm_gk g421 (by decide) (Or.inl (by decide))) (qm_gk g422 (by decide) (Or.inl (by decide))) (qm_gk g423 (by decide) (Or.inl (by decide))) (qm_gk g424 (by decide) (Or.inl (by decide))) (qm_gk g425 (by decide) (Or.inl (by decide))) (qm_gk g426 (by decide) (Or.inr rfl)) (by omega) hI430 hF431 ((hk432).trans rfl) ((hk433).trans rfl)
        · skip
          refine qr_iload_n 64 rfl (qm_gk g422 (by decide) (Or.inl (by decide))) rfl ?_
          refine qr_iload 66 rfl (qm_gk g426 (by decide) (Or.inr rfl)) rfl ?_
          refine qr_isub 67 rfl rfl ?_
          refine qr_iload_n 68 rfl (qm_gk g423 (by decide) (Or.inl (by decide))) rfl ?_
          refine qr_bipush 70 rfl (by decide) rfl ?_
          refine qr_idivW 71 rfl (by omega) rfl ?_
          refine qy_can (fun v479 hv479 => ?_)
          refine qr_imul 72 rfl rfl ?_
          refine qy_can (fun v480 hv480 => ?_)
          refine qr_iload_n 73 rfl (qm_gk g423 (by decide) (Or.inl (by decide))) rfl ?_
          refine qr_bipush 75 rfl (by decide) rfl ?_
          refine qr_iremW 76 rfl (by omega) rfl ?_
          refine qy_can (fun v481 hv481 => ?_)
          refine qr_icmp_gt 111 79 rfl rfl rfl (by omega) (by omega) (fun h482 => ?_) (fun h482 => ?_)
          · skip
            refine qr_iconst 112 rfl rfl ?_
            exact hJ476 _ 0 σ428 α429 (qm_gk g421 (by decide) (Or.inl (by decide))) (qm_gk g422 (by decide) (Or.inl (by decide))) (qm_gk g423 (by decide) (Or.inl (by decide))) (qm_gk g424 (by decide) (Or.inl (by decide))) (qm_gk g425 (by decide) (Or.inl (by decide))) (qm_gk g426 (by decide) (Or.inr rfl)) (by omega) hI430 hF431 ((hk432).trans rfl) ((hk433).trans rfl)
          · skip
            refine qr_aload_n 80 rfl (qm_gk g421 (by decide) (Or.inl (by decide))) rfl ?_
            refine qr_iload 82 rfl (qm_gk g424 (by decide) (Or.inl (by decide))) rfl ?_
            refine qr_iload 84 rfl (qm_ge _ _ _) rfl ?_
            refine qr_iload 86 rfl (qm_gk g425 (by decide) (Or.inl (by decide))) rfl ?_
            refine qr_callN 89 rfl rfl rfl (sf_195_86 (d := d + 0) hI430 (by omega) (by omega) (by omega)) ?_
            rintro _ _ ⟨σ484, α485, rfl, hI486, hG487, v483, rfl, hv483⟩
            have hF488 : qFr [(86, 15), (86, 23), (86, 30)] [96] σ α σ484 α485 := qFr_t hF431 hG487 (by decide) (by decide)
            show qr_W (qe L xs vb) (d + 5) qx_e244 _ (89, _, [.int (qz v483)], qw σ484 α485 κ ρ, 0, 0)
            refine qr_bipush 91 rfl (by decide) rfl ?_
            refine qr_icmp_eq 111 94 rfl rfl rfl (by omega) (by omega) (fun h489 => ?_) (fun h489 => ?_)
            · skip
              refine qr_iconst 112 rfl rfl ?_
              exact hJ476 _ 0 σ484 α485 (qm_gk g421 (by decide) (Or.inl (by decide))) (qm_gk g422 (by decide) (Or.inl (by decide))) (qm_gk g423 (by decide) (Or.inl (by decide))) (qm_gk g424 (by decide) (Or.inl (by decide))) (qm_gk g425 (by decide) (Or.inl (by decide))) (qm_gk g426 (by decide) (Or.inr rfl)) (by omega) hI486 hF488 ((hG487.1 86 6 (by decide)).trans ((hk432).trans rfl)) ((hG487.1 86 43 (by decide)).trans ((hk433).trans rfl))
            · skip
              refine qr_aload_n 95 rfl (qm_gk g421 (by decide) (Or.inl (by decide))) rfl ?_
              refine qr_iload 97 rfl (qm_gk g424 (by decide) (Or.inl (by decide))) rfl ?_
              refine qr_iload 99 rfl (qm_ge _ _ _) rfl ?_
              refine qr_iload 101 rfl (qm_gk g425 (by decide) (Or.inl (by decide))) rfl ?_
              have hs490 : 0 ≤ σ484 86 6 ∧ σ484 86 6 ≤ 32 := hI486.1 86 6
              have hs491 : σ484 86 6 = (σ 86 6) := (hG487.1 86 6 (by decide)).trans ((hk432).trans rfl)
              refine qr_callN 104 rfl rfl rfl (sf_209_86 (d := d + 1) hI486 (by omega) (by omega) (by omega) (by omega)) ?_
              rintro _ _ ⟨σ493, rfl, hI494, hG495, v492, rfl, hv492⟩
              have hF496 : qFr [(86, 15), (86, 23), (86, 30)] [96] σ α σ493 α485 := qFr_t hF488 hG495 (by decide) (by decide)
              show qr_W (qe L xs vb) (d + 5) qx_e244 _ (104, _, [.int (qz v492)], qw σ493 α485 κ ρ, 0, 0)
              refine qr_if_ne 111 107 rfl rfl rfl (by omega) (fun h497 => ?_) (fun h497 => ?_)
              · skip
                refine qr_iconst 112 rfl rfl ?_
                exact hJ476 _ 0 σ493 α485 (qm_gk g421 (by decide) (Or.inl (by decide))) (qm_gk g422 (by decide) (Or.inl (by decide))) (qm_gk g423 (by decide) (Or.inl (by decide))) (qm_gk g424 (by decide) (Or.inl (by decide))) (qm_gk g425 (by decide) (Or.inl (by decide))) (qm_gk g426 (by decide) (Or.inr rfl)) (by omega) hI494 hF496 ((hG495.1 86 6 (by decide)).trans ((hG487.1 86 6 (by decide)).trans ((hk432).trans rfl))) ((hG495.1 86 43 (by decide)).trans ((hG487.1 86 43 (by decide)).trans ((hk433).trans rfl)))
              · skip
                refine qr_iconst 108 rfl rfl ?_
                refine qr_goto 112 rfl rfl ?_
                exact hJ476 _ 1 σ493 α485 (qm_gk g421 (by decide) (Or.inl (by decide))) (qm_gk g422 (by decide) (Or.inl (by decide))) (qm_gk g423 (by decide) (Or.inl (by decide))) (qm_gk g424 (by decide) (Or.inl (by decide))) (qm_gk g425 (by decide) (Or.inl (by decide))) (qm_gk g426 (by decide) (Or.inr rfl)) (by omega) hI494 hF496 ((hG495.1 86 6 (by decide)).trans ((hG487.1 86 6 (by decide)).trans ((hk432).trans rfl))) ((hG495.1 86 43 (by decide)).trans ((hG487.1 86 43 (by decide)).trans ((hk433).trans rfl)))
  exact hL435 ((5 - 0 + 1 : Int)).toNat _ 0 σ α (by omega) rfl rfl rfl rfl rfl rfl (by omega) hI hF0 (rfl) (rfl)

set_option maxHeartbeats 4000000 in
set_option maxRecDepth 20000 in
/-- OneRoofModel.orders -/
theorem sf_243_86t6 {L : Nat} {xs : Nat → Int} {vb : Bool} {d : Nat} {σ α : Nat → Nat → Int} {κ : Nat → Option Nat} {ρ : Nat} {x2 : Int} {x3 : Int} {x4 : Int} (hI : qI σ α κ ρ) (r2 : (-2147483648) ≤ x2 ∧ x2 ≤ 2147483647) (r3 : (-2147483648) ≤ x3 ∧ x3 ≤ 2147483647) (r4 : 100 ≤ x4 ∧ x4 ≤ 2499) (p0 : 1 ≤ σ 86 6) (p1 : σ 86 43 ≤ 6) (p2 : 6 ≤ σ 86 43) : qm_T (qe L xs vb) (d + 1) 243 [.ref 86, .int (qz 6), .int (qz x2), .int (qz x3), .int (qz x4)] (qw σ α κ ρ) (fun r w' => ∃ σ' α', w' = qw σ' α' κ ρ ∧ qI σ' α' κ ρ ∧ qFr [(86, 15), (86, 23), (86, 30)] [96, 114] σ α σ' α' ∧ ∃ v : Int, r = some (.int (qz v)) ∧ (0 ≤ v ∧ v ≤ 1)) := by
  refine qr_start (d := d + 0) qv_e243 (Nat.le_of_ble_eq_true rfl) ?_
  show qr_W (qe L xs vb) (d + 0) qx_e243 _ (0, [(0, .ref 86), (1, .int (qz 6)), (2, .int (qz x2)), (3, .int (qz x3)), (4, .int (qz x4))], [], _, 0, 0)
  have hF0 := qFr_rf [(86, 15), (86, 23), (86, 30)] [96, 114] σ α
  have hz86_6 : 0 ≤ σ 86 6 ∧ σ 86 6 ≤ 32 := hI.1 86 6
  have hz86_43 : 0 ≤ σ 86 43 ∧ σ 86 43 ≤ 32 := hI.1 86 43
  refine qr_iload_n 1 rfl rfl rfl ?_
  refine qr_aload_n 2 rfl rfl rfl ?_
  refine qr_get 5 rfl rfl rfl (by decide) rfl ?_
  refine qr_icmp_ne 10 8 rfl rfl rfl (by omega) (by omega) (fun h => False.elim (by omega)) (fun h1 => ?_)
  refine qr_iconst 9 rfl rfl ?_
  refine qr_retZ rfl rfl (by omega) (by decide) (by decide) ?_
  exact ⟨_, _, rfl, hI, hF0, 1, rfl, by omega⟩

set_option maxHeartbeats 4000000 in
set_option maxRecDepth 20000 in
/-- OneRoofModel.orders -/
theorem sf_243_86t5 {L : Nat} {xs : Nat → Int} {vb : Bool} {d : Nat} {σ α : Nat → Nat → Int} {κ : Nat → Option Nat} {ρ : Nat} {x2 : Int} {x3 : Int} {x4 : Int} (hI : qI σ α κ ρ) (r2 : (-2147483648) ≤ x2 ∧ x2 ≤ 2147483647) (r3 : (-2147483648) ≤ x3 ∧ x3 ≤ 2147483647) (r4 : 100 ≤ x4 ∧ x4 ≤ 2499) (p0 : 1 ≤ σ 86 6) (p1 : σ 86 43 ≤ 6) (p2 : 5 ≤ σ 86 43) : qm_T (qe L xs vb) (d + 7) 243 [.ref 86, .int (qz 5), .int (qz x2), .int (qz x3), .int (qz x4)] (qw σ α κ ρ) (fun r w' => ∃ σ' α', w' = qw σ' α' κ ρ ∧ qI σ' α' κ ρ ∧ qFr [(86, 15), (86, 23), (86, 30)] [96, 114] σ α σ' α' ∧ ∃ v : Int, r = some (.int (qz v)) ∧ (0 ≤ v ∧ v ≤ 1)) := by
  refine qr_start (d := d + 6) qv_e243 (Nat.le_of_ble_eq_true rfl) ?_
  show qr_W (qe L xs vb) (d + 6) qx_e243 _ (0, [(0, .ref 86), (1, .int (qz 5)), (2, .int (qz x2)), (3, .int (qz x3)), (4, .int (qz x4))], [], _, 0, 0)
  have hF0 := qFr_rf [(86, 15), (86, 23), (86, 30)] [96, 114] σ α
  have hz86_6 : 0 ≤ σ 86 6 ∧ σ 86 6 ≤ 32 := hI.1 86 6
  have hz86_43 : 0 ≤ σ 86 43 ∧ σ 86 43 ≤ 32 := hI.1 86 43
  refine qr_iload_n 1 rfl rfl rfl ?_
  refine qr_aload_n 2 rfl rfl rfl ?_
  refine qr_get 5 rfl rfl rfl (by decide) rfl ?_
  refine qr_icmp_ne 10 8 rfl rfl rfl (by omega) (by omega) (fun h1 => ?_) (fun h1 => ?_)
  · skip
    refine qr_iconst 11 rfl rfl ?_
    refine qr_istore _ 13 rfl (by decide) rfl rfl ?_
    have hL288 : ∀ (n : Nat) (ls : qm_L) (u280 : Int) (σ281 α282 : Nat → Nat → Int), 6 - u280 < (n : Int) → qm_get ls 0 = some (.ref 86) → qm_get ls 1 = some (.int (qz 5)) → qm_get ls 2 = some (.int (qz x2)) → qm_get ls 3 = some (.int (qz x3)) → qm_get ls 4 = some (.int (qz x4)) → qm_get ls 5 = some (.int (qz u280)) → (0 ≤ u280 ∧ u280 ≤ 6) → qI σ281 α282 κ ρ → qFr [(86, 15), (86, 23), (86, 30)] [96, 114] σ α σ281 α282 → σ281 86 6 = (σ 86 6) → σ281 86 43 = (σ 86 43) → qr_W (qe L xs vb) (d + 6) qx_e243 (fun r w' => ∃ σ' α', w' = qw σ' α' κ ρ ∧ qI σ' α' κ ρ ∧ qFr [(86, 15), (86, 23), (86, 30)] [96, 114] σ α σ' α' ∧ ∃ v : Int, r = some (.int (qz v)) ∧ (0 ≤ v ∧ v ≤ 1)) (13, ls, [], qw σ281 α282 κ ρ, 0, 0) := by
      intro n
      induction n with
      | zero => intro ls u280 σ281 α282 hm g274 g275 g276 g277 g278 g279 hf287 hI283 hF284 hk285 hk286; exact False.elim (by omega)
      | succ n ih289 =>
        intro ls u280 σ281 α282 hm g274 g275 g276 g277 g278 g279 hf287 hI283 hF284 hk285 hk286
        refine qr_iload 15 rfl g279 rfl ?_
        refine qr_aload_n 16 rfl g274 rfl ?_
        refine qr_get 19 rfl rfl rfl (by decide) rfl ?_
        refine qy_v (σ 86 43) ((hk286).trans rfl) ?_
        refine qr_icmp_ge 81 22 rfl rfl rfl (by omega) (by omega) (fun h290 => ?_) (fun h290 => ?_)
        · skip
          refine qr_iconst 82 rfl rfl ?_
          refine qr_retZ rfl rfl (by omega) (by decide) (by decide) ?_
          exact ⟨_, _, rfl, hI283, hF284, 0, rfl, by omega⟩
        · skip
          refine qr_iload_n 23 rfl g276 rfl ?_
          refine qr_iload 25 rfl g279 rfl ?_
          refine qr_ishr 26 rfl rfl ?_
          refine qy_can (fun v291 hv291 => ?_)
          refine qr_iconst 27 rfl rfl ?_
          refine qr_iand 28 rfl rfl ?_
          refine qy_andr (by omega) (fun v292 hv292 => ?_)
          refine qr_iconst 29 rfl rfl ?_
          refine qr_icmp_ne 35 32 rfl rfl rfl (by omega) (by omega) (fun h293 => ?_) (fun h293 => ?_)
          · skip
            refine qr_aload_n 36 rfl g274 rfl ?_
            refine qr_get 39 rfl rfl rfl (by decide) rfl ?_
            refine qr_iload_n 40 rfl g275 rfl ?_
            refine qr_iload 42 rfl g279 rfl ?_
            refine qr_iastore 43 rfl (by decide) rfl (by omega) (by decide) rfl ?_
            refine qy_wA (qw_r α282 114 (qzu (α282 114) (5 : Int).toNat u280)) rfl (fun α294 e295 => ?_)
            have hI296 : qI σ281 α294 κ ρ := by rw [e295]; exact qI_r hI283 114 _ rfl (show 0 ≤ u280 ∧ u280 ≤ 5 by omega)
            have hF297 : qFr [(86, 15), (86, 23), (86, 30)] [96, 114] σ α σ281 α294 := by rw [e295]; exact qFr_r hF284 114 _ (by decide)
            refine qr_aload_n 44 rfl g274 rfl ?_
            refine qr_iload_n 45 rfl g275 rfl ?_
            refine qr_iload_n 46 rfl g277 rfl ?_
            refine qr_iload 48 rfl g278 rfl ?_
            have hs298 : 0 ≤ σ281 86 43 ∧ σ281 86 43 ≤ 32 := hI296.1 86 43
            have hs299 : σ281 86 43 = (σ 86 43) := (hk286).trans rfl
            have hs300 : 0 ≤ σ281 86 6 ∧ σ281 86 6 ≤ 32 := hI296.1 86 6
            have hs301 : σ281 86 6 = (σ 86 6) := (hk285).trans rfl
            refine qr_callN 51 rfl rfl rfl (sf_244_86 (d := d + 0) hI296 (by omega) (by omega) (by omega) (by omega) (by omega)) ?_
            rintro _ _ ⟨σ303, α304, rfl, hI305, hG306, v302, rfl, hv302⟩
            have hF307 : qFr [(86, 15), (86, 23), (86, 30)] [96, 114] σ α σ303 α304 := qFr_t hF297 hG306 (by decide) (by decide)
            show qr_W (qe L xs vb) (d + 6) qx_e243 _ (51, _, [.int (qz v302)], qw σ303 α304 κ ρ, 0, 0)
            refine qr_if_ne 75 54 rfl rfl rfl (by omega) (fun h308 => ?_) (fun h308 => ?_)
            · skip
              refine qr_iinc _ 78 rfl g279 (by decide) rfl rfl ?_
              refine qr_goto 13 rfl rfl ?_
              exact ih289 _ (u280 + 1) σ303 α304 (by omega) (qm_gk g274 (by decide) (Or.inl (by decide))) (qm_gk g275 (by decide) (Or.inl (by decide))) (qm_gk g276 (by decide) (Or.inl (by decide))) (qm_gk g277 (by decide) (Or.inl (by decide))) (qm_gk g278 (by decide) (Or.inr rfl)) (qm_ge _ _ _) (by omega) hI305 hF307 ((hG306.1 86 6 (by decide)).trans ((hk285).trans rfl)) ((hG306.1 86 43 (by decide)).trans ((hk286).trans rfl))
            · skip
              refine qr_aload_n 55 rfl g274 rfl ?_
              refine qr_iload_n 56 rfl g275 rfl ?_
              refine qr_iconst 57 rfl rfl ?_
              refine qr_iadd 58 rfl rfl ?_
              refine qy_v 6 rfl ?_
              refine qr_iload_n 59 rfl g276 rfl ?_
              refine qr_iconst 60 rfl rfl ?_
              refine qr_iload 62 rfl g279 rfl ?_
              refine qr_ishl 63 rfl rfl ?_
              refine qy_shl1 (N := 5) (by omega) (fun v309 hv309 => ?_)
              refine qr_ior 64 rfl rfl ?_
              refine qy_can (fun v310 hv310 => ?_)
              refine qr_iload_n 65 rfl g277 rfl ?_
              refine qr_iload 67 rfl g278 rfl ?_
              have hs311 : 0 ≤ σ303 86 43 ∧ σ303 86 43 ≤ 32 := hI305.1 86 43
              have hs312 : σ303 86 43 = (σ 86 43) := (hG306.1 86 43 (by decide)).trans ((hk286).trans rfl)
              have hs313 : 0 ≤ σ303 86 6 ∧ σ303 86 6 ≤ 32 := hI305.1 86 6
              have hs314 : σ303 86 6 = (σ 86 6) := (hG306.1 86 6 (by decide)).trans ((hk285).trans rfl)
              refine qr_callN 70 rfl rfl rfl (sf_243_86t6 (d := d + 5) hI305 (by omega) (by omega) (by omega) (by omega) (by omega) (by omega)) ?_
              rintro _ _ ⟨σ316, α317, rfl, hI318, hG319, v315, rfl, hv315⟩
              have hF320 : qFr [(86, 15), (86, 23), (86, 30)] [96, 114] σ α σ316 α317 := qFr_t hF307 hG319 (by decide) (by decide)
              show qr_W (qe L xs vb) (d + 6) qx_e243 _ (70, _, [.int (qz v315)], qw σ316 α317 κ ρ, 0, 0)
              refine qr_if_eq 75 73 rfl rfl rfl (by omega) (fun h321 => ?_) (fun h321 => ?_)
              · skip
                refine qr_iinc _ 78 rfl g279 (by decide) rfl rfl ?_
                refine qr_goto 13 rfl rfl ?_
                exact ih289 _ (u280 + 1) σ316 α317 (by omega) (qm_gk g274 (by decide) (Or.inl (by decide))) (qm_gk g275 (by decide) (Or.inl (by decide))) (qm_gk g276 (by decide) (Or.inl (by decide))) (qm_gk g277 (by decide) (Or.inl (by decide))) (qm_gk g278 (by decide) (Or.inr rfl)) (qm_ge _ _ _) (by omega) hI318 hF320 ((hG319.1 86 6 (by decide)).trans ((hG306.1 86 6 (by decide)).trans ((hk285).trans rfl))) ((hG319.1 86 43 (by decide)).trans ((hG306.1 86 43 (by decide)).trans ((hk286).trans rfl)))
              · skip
                refine qr_iconst 74 rfl rfl ?_
                refine qr_retZ rfl rfl (by omega) (by decide) (by decide) ?_
                exact ⟨_, _, rfl, hI318, hF320, 1, rfl, by omega⟩
          · skip
            refine qr_goto 75 rfl rfl ?_
            refine qr_iinc _ 78 rfl g279 (by decide) rfl rfl ?_
            refine qr_goto 13 rfl rfl ?_
            exact ih289 _ (u280 + 1) σ281 α282 (by omega) (qm_gk g274 (by decide) (Or.inl (by decide))) (qm_gk g275 (by decide) (Or.inl (by decide))) (qm_gk g276 (by decide) (Or.inl (by decide))) (qm_gk g277 (by decide) (Or.inl (by decide))) (qm_gk g278 (by decide) (Or.inr rfl)) (qm_ge _ _ _) (by omega) hI283 hF284 ((hk285).trans rfl) ((hk286).trans rfl)
    exact hL288 ((6 - 0 + 1 : Int)).toNat _ 0 σ α (by omega) rfl rfl rfl rfl rfl rfl (by omega) hI hF0 (rfl) (rfl)
  · skip
    refine qr_iconst 9 rfl rfl ?_
    refine qr_retZ rfl rfl (by omega) (by decide) (by decide) ?_
    exact ⟨_, _, rfl, hI, hF0, 1, rfl, by omega⟩

set_option maxHeartbeats 4000000 in
set_option maxRecDepth 20000 in
/-- OneRoofModel.orders -/
theorem sf_243_86t4 {L : Nat} {xs : Nat → Int} {vb : Bool} {d : Nat} {σ α : Nat → Nat → Int} {κ : Nat → Option Nat} {ρ : Nat} {x2 : Int} {x3 : Int} {x4 : Int} (hI : qI σ α κ ρ) (r2 : (-2147483648) ≤ x2 ∧ x2 ≤ 2147483647) (r3 : (-2147483648) ≤ x3 ∧ x3 ≤ 2147483647) (r4 : 100 ≤ x4 ∧ x4 ≤ 2499) (p0 : 1 ≤ σ 86 6) (p1 : σ 86 43 ≤ 6) (p2 : 4 ≤ σ 86 43) : qm_T (qe L xs vb) (d + 8) 243 [.ref 86, .int (qz 4), .int (qz x2), .int (qz x3), .int (qz x4)] (qw σ α κ ρ) (fun r w' => ∃ σ' α', w' = qw σ' α' κ ρ ∧ qI σ' α' κ ρ ∧ qFr [(86, 15), (86, 23), (86, 30)] [96, 114] σ α σ' α' ∧ ∃ v : Int, r = some (.int (qz v)) ∧ (0 ≤ v ∧ v ≤ 1)) := by
  refine qr_start (d := d + 7) qv_e243 (Nat.le_of_ble_eq_true rfl) ?_
  show qr_W (qe L xs vb) (d + 7) qx_e243 _ (0, [(0, .ref 86), (1, .int (qz 4)), (2, .int (qz x2)), (3, .int (qz x3)), (4, .int (qz x4))], [], _, 0, 0)
  have hF0 := qFr_rf [(86, 15), (86, 23), (86, 30)] [96, 114] σ α
  have hz86_6 : 0 ≤ σ 86 6 ∧ σ 86 6 ≤ 32 := hI.1 86 6
  have hz86_43 : 0 ≤ σ 86 43 ∧ σ 86 43 ≤ 32 := hI.1 86 43
  refine qr_iload_n 1 rfl rfl rfl ?_
  refine qr_aload_n 2 rfl rfl rfl ?_
  refine qr_get 5 rfl rfl rfl (by decide) rfl ?_
  refine qr_icmp_ne 10 8 rfl rfl rfl (by omega) (by omega) (fun h1 => ?_) (fun h1 => ?_)
  · skip
    refine qr_iconst 11 rfl rfl ?_
    refine qr_istore _ 13 rfl (by decide) rfl rfl ?_
    have hL288 : ∀ (n : Nat) (ls : qm_L) (u280 : Int) (σ281 α282 : Nat → Nat → Int), 6 - u280 < (n : Int) → qm_get ls 0 = some (.ref 86) → qm_get ls 1 = some (.int (qz 4)) → qm_get ls 2 = some (.int (qz x2)) → qm_get ls 3 = some (.int (qz x3)) → qm_get ls 4 = some (.int (qz x4)) → qm_get ls 5 = some (.int (qz u280)) → (0 ≤ u280 ∧ u280 ≤ 6) → qI σ281 α282 κ ρ → qFr [(86, 15), (86, 23), (86, 30)] [96, 114] σ α σ281 α282 → σ281 86 6 = (σ 86 6) → σ281 86 43 = (σ 86 43) → qr_W (qe L xs vb) (d + 7) qx_e243 (fun r w' => ∃ σ' α', w' = qw σ' α' κ ρ ∧ qI σ' α' κ ρ ∧ qFr [(86, 15), (86, 23), (86, 30)] [96, 114] σ α σ' α' ∧ ∃ v : Int, r = some (.int (qz v)) ∧ (0 ≤ v ∧ v ≤ 1)) (13, ls, [], qw σ281 α282 κ ρ, 0, 0) := by
      intro n
      induction n with
      | zero => intro ls u280 σ281 α282 hm g274 g275 g276 g277 g278 g279 hf287 hI283 hF284 hk285 hk286; exact False.elim (by omega)
      | succ n ih289 =>
        intro ls u280 σ281 α282 hm g274 g275 g276 g277 g278 g279 hf287 hI283 hF284 hk285 hk286
        refine qr_iload 15 rfl g279 rfl ?_
        refine qr_aload_n 16 rfl g274 rfl ?_
        refine qr_get 19 rfl rfl rfl (by decide) rfl ?_
        refine qy_v (σ 86 43) ((hk286).trans rfl) ?_
        refine qr_icmp_ge 81 22 rfl rfl rfl (by omega) (by omega) (fun h290 => ?_) (fun h290 => ?_)
        · skip
          refine qr_iconst 82 rfl rfl ?_
          refine qr_retZ rfl rfl (by omega) (by decide) (by decide) ?_
          exact ⟨_, _, rfl, hI283, hF284, 0, rfl, by omega⟩
        · skip
          refine qr_iload_n 23 rfl g276 rfl ?_
          refine qr_iload 25 rfl g279 rfl ?_
          refine qr_ishr 26 rfl rfl ?_
          refine qy_can (fun v291 hv291 => ?_)
          refine qr_iconst 27 rfl rfl ?_
          refine qr_iand 28 rfl rfl ?_
          refine qy_andr (by omega) (fun v292 hv292 => ?_)
          refine qr_iconst 29 rfl rfl ?_
          refine qr_icmp_ne 35 32 rfl rfl rfl (by omega) (by omega) (fun h293 => ?_) (fun h293 => ?_)
          · skip
            refine qr_aload_n 36 rfl g274 rfl ?_
            refine qr_get 39 rfl rfl rfl (by decide) rfl ?_
            refine qr_iload_n 40 rfl g275 rfl ?_
            refine qr_iload 42 rfl g279 rfl ?_
            refine qr_iastore 43 rfl (by decide) rfl (by omega) (by decide) rfl ?_
            refine qy_wA (qw_r α282 114 (qzu (α282 114) (4 : Int).toNat u280)) rfl (fun α294 e295 => ?_)
            have hI296 : qI σ281 α294 κ ρ := by rw [e295]; exact qI_r hI283 114 _ rfl (show 0 ≤ u280 ∧ u280 ≤ 5 by omega)
            have hF297 : qFr [(86, 15), (86, 23), (86, 30)] [96, 114] σ α σ281 α294 := by rw [e295]; exact qFr_r hF284 114 _ (by decide)
            refine qr_aload_n 44 rfl g274 rfl ?_
            refine qr_iload_n 45 rfl g275 rfl ?_
            refine qr_iload_n 46 rfl g277 rfl ?_
            refine qr_iload 48 rfl g278 rfl ?_
            have hs298 : 0 ≤ σ281 86 43 ∧ σ281 86 43 ≤ 32 := hI296.1 86 43
            have hs299 : σ281 86 43 = (σ 86 43) := (hk286).trans rfl
            have hs300 : 0 ≤ σ281 86 6 ∧ σ281 86 6 ≤ 32 := hI296.1 86 6
            have hs301 : σ281 86 6 = (σ 86 6) := (hk285).trans rfl
            refine qr_callN 51 rfl rfl rfl (sf_244_86 (d := d + 1) hI296 (by omega) (by omega) (by omega) (by omega) (by omega)) ?_
            rintro _ _ ⟨σ303, α304, rfl, hI305, hG306, v302, rfl, hv302⟩
            have hF307 : qFr [(86, 15), (86, 23), (86, 30)] [96, 114] σ α σ303 α304 := qFr_t hF297 hG306 (by decide) (by decide)
            show qr_W (qe L xs vb) (d + 7) qx_e243 _ (51, _, [.int (qz v302)], qw σ303 α304 κ ρ, 0, 0)
            refine qr_if_ne 75 54 rfl rfl rfl (by omega) (fun h308 => ?_) (fun h308 => ?_)
            · skip
              refine qr_iinc _ 78 rfl g279 (by decide) rfl rfl ?_
              refine qr_goto 13 rfl rfl ?_
              exact ih289 _ (u280 + 1) σ303 α304 (by omega) (qm_gk g274 (by decide) (Or.inl (by decide))) (qm_gk g275 (by decide) (Or.inl (by decide))) (qm_gk g276 (by decide) (Or.inl (by decide))) (qm_gk g277 (by decide) (Or.inl (by decide))) (qm_gk g278 (by decide) (Or.inr rfl)) (qm_ge _ _ _) (by omega) hI305 hF307 ((hG306.1 86 6 (by decide)).trans ((hk285).trans rfl)) ((hG306.1 86 43 (by decide)).trans ((hk286).trans rfl))
            · skip
              refine qr_aload_n 55 rfl g274 rfl ?_
              refine qr_iload_n 56 rfl g275 rfl ?_
              refine qr_iconst 57 rfl rfl ?_
              refine qr_iadd 58 rfl rfl ?_
              refine qy_v 5 rfl ?_
              refine qr_iload_n 59 rfl g276 rfl ?_
              refine qr_iconst 60 rfl rfl ?_
              refine qr_iload 62 rfl g279 rfl ?_
              refine qr_ishl 63 rfl rfl ?_
              refine qy_shl1 (N := 5) (by omega) (fun v309 hv309 => ?_)
              refine qr_ior 64 rfl rfl ?_
              refine qy_can (fun v310 hv310 => ?_)
              refine qr_iload_n 65 rfl g277 rfl ?_
              refine qr_iload 67 rfl g278 rfl ?_
              have hs311 : 0 ≤ σ303 86 43 ∧ σ303 86 43 ≤ 32 := hI305.1 86 43
              have hs312 : σ303 86 43 = (σ 86 43) := (hG306.1 86 43 (by decide)).trans ((hk286).trans rfl)
              have hs313 : 0 ≤ σ303 86 6 ∧ σ303 86 6 ≤ 32 := hI305.1 86 6
              have hs314 : σ303 86 6 = (σ 86 6) := (hG306.1 86 6 (by decide)).trans ((hk285).trans rfl)
              refine qr_callN 70 rfl rfl rfl (sf_243_86t5 (d := d + 0) hI305 (by omega) (by omega) (by omega) (by omega) (by omega) (by omega)) ?_
              rintro _ _ ⟨σ316, α317, rfl, hI318, hG319, v315, rfl, hv315⟩
              have hF320 : qFr [(86, 15), (86, 23), (86, 30)] [96, 114] σ α σ316 α317 := qFr_t hF307 hG319 (by decide) (by decide)
              show qr_W (qe L xs vb) (d + 7) qx_e243 _ (70, _, [.int (qz v315)], qw σ316 α317 κ ρ, 0, 0)
              refine qr_if_eq 75 73 rfl rfl rfl (by omega) (fun h321 => ?_) (fun h321 => ?_)
              · skip
                refine qr_iinc _ 78 rfl g279 (by decide) rfl rfl ?_
                refine qr_goto 13 rfl rfl ?_
                exact ih289 _ (u280 + 1) σ316 α317 (by omega) (qm_gk g274 (by decide) (Or.inl (by decide))) (qm_gk g275 (by decide) (Or.inl (by decide))) (qm_gk g276 (by decide) (Or.inl (by decide))) (qm_gk g277 (by decide) (Or.inl (by decide))) (qm_gk g278 (by decide) (Or.inr rfl)) (qm_ge _ _ _) (by omega) hI318 hF320 ((hG319.1 86 6 (by decide)).trans ((hG306.1 86 6 (by decide)).trans ((hk285).trans rfl))) ((hG319.1 86 43 (by decide)).trans ((hG306.1 86 43 (by decide)).trans ((hk286).trans rfl)))
              · skip
                refine qr_iconst 74 rfl rfl ?_
                refine qr_retZ rfl rfl (by omega) (by decide) (by decide) ?_
                exact ⟨_, _, rfl, hI318, hF320, 1, rfl, by omega⟩
          · skip
            refine qr_goto 75 rfl rfl ?_
            refine qr_iinc _ 78 rfl g279 (by decide) rfl rfl ?_
            refine qr_goto 13 rfl rfl ?_
            exact ih289 _ (u280 + 1) σ281 α282 (by omega) (qm_gk g274 (by decide) (Or.inl (by decide))) (qm_gk g275 (by decide) (Or.inl (by decide))) (qm_gk g276 (by decide) (Or.inl (by decide))) (qm_gk g277 (by decide) (Or.inl (by decide))) (qm_gk g278 (by decide) (Or.inr rfl)) (qm_ge _ _ _) (by omega) hI283 hF284 ((hk285).trans rfl) ((hk286).trans rfl)
    exact hL288 ((6 - 0 + 1 : Int)).toNat _ 0 σ α (by omega) rfl rfl rfl rfl rfl rfl (by omega) hI hF0 (rfl) (rfl)
  · skip
    refine qr_iconst 9 rfl rfl ?_
    refine qr_retZ rfl rfl (by omega) (by decide) (by decide) ?_
    exact ⟨_, _, rfl, hI, hF0, 1, rfl, by omega⟩
