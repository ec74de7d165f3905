section
set_option maxHeartbeats 4000000 in
set_option maxRecDepth 20000 in
/-- OneRoofModel.lists -/
theorem sf_234_86p {L : Nat} {xs : Nat → Int} {vb : Bool} {d : Nat} {σ α : Nat → Nat → Int} {κ : Nat → Option Nat} {ρ : Nat} {x1 : Int} {x2 : Int} (hI : qI σ α κ ρ) (r1 : (-9223372036854775808) ≤ x1 ∧ x1 ≤ 9223372036854775807) (r2 : 0 ≤ x2 ∧ x2 ≤ 12) : qm_T (qe L xs vb) (d + 2) 234 [.ref 86, .long (ql x1), .int (qz x2)] (qw σ α κ ρ) (fun r w' => ∃ σ' α', w' = qw σ' α' κ ρ ∧ qI σ' α' κ ρ ∧ qFr [(86, 43)] [110] σ α σ' α' ∧ ∃ v : Int, r = some (.int (qz v)) ∧ (0 ≤ v ∧ v ≤ 1) ∧ (v = 0 ∨ (v = 1 ∧ 1 ≤ σ' 86 43 ∧ σ' 86 43 ≤ x2 ∧ 1 ≤ σ 86 6))) := by
  refine qr_start (d := d + 1) qv_e234 (Nat.le_of_ble_eq_true rfl) ?_
  show qr_W (qe L xs vb) (d + 1) qx_e234 _ (0, [(0, .ref 86), (1, .long (ql x1)), (3, .int (qz x2))], [], _, 0, 0)
  have hF0 := qFr_rf [(86, 43)] [110] σ α
  have hz86_6 : 0 ≤ σ 86 6 ∧ σ 86 6 ≤ 32 := hI.1 86 6
  refine qr_aload_n 1 rfl rfl rfl ?_
  refine qr_iconst 2 rfl rfl ?_
  refine qr_put 5 rfl (by decide) rfl (Nat.le_of_ble_eq_true rfl) (Nat.le_of_ble_eq_true rfl) (Or.inl rfl) (qr_fitI rfl _) rfl ?_
  refine qy_wS (qw_s σ 86 43 0) rfl (fun σ1 e2 => ?_)
  have hI3 : qI σ1 α κ ρ := by rw [e2]; exact qI_s hI 86 43 rfl (show 0 ≤ 0 ∧ 0 ≤ 32 by omega)
  have hF4 : qFr [(86, 43)] [110] σ α σ1 α := by rw [e2]; exact qFr_s hF0 86 43 _ (by decide)
  refine qr_iconst 6 rfl rfl ?_
  refine qr_istore _ 8 rfl (by decide) rfl rfl ?_
  have hL423 : ∀ (n : Nat) (ls : qm_L) (u414 : Int) (σ415 α416 : Nat → Nat → Int), 32 - u414 < (n : Int) → qm_get ls 0 = some (.ref 86) → qm_get ls 1 = some (.long (ql x1)) → qm_get ls 3 = some (.int (qz x2)) → qm_get ls 4 = some (.int (qz u414)) → (0 ≤ u414 ∧ u414 ≤ 32) → qI σ415 α416 κ ρ → qFr [(86, 43)] [110] σ α σ415 α416 → σ415 86 6 = (σ 86 6) → σ415 86 43 ≤ u414 → (σ415 86 43 = 0 ∨ 1 ≤ σ 86 6) → qr_W (qe L xs vb) (d + 1) qx_e234 (fun r w' => ∃ σ' α', w' = qw σ' α' κ ρ ∧ qI σ' α' κ ρ ∧ qFr [(86, 43)] [110] σ α σ' α' ∧ ∃ v : Int, r = some (.int (qz v)) ∧ (0 ≤ v ∧ v ≤ 1) ∧ (v = 0 ∨ (v = 1 ∧ 1 ≤ σ' 86 43 ∧ σ' 86 43 ≤ x2 ∧ 1 ≤ σ 86 6))) (8, ls, [], qw σ415 α416 κ ρ, 0, 0) := by
    intro n
    induction n with
    | zero => intro ls u414 σ415 α416 hm g410 g411 g412 g413 hf420 hI417 hF418 hk419 hx421 hx422; exact False.elim (by omega)
    | succ n ih424 =>
      intro ls u414 σ415 α416 hm g410 g411 g412 g413 hf420 hI417 hF418 hk419 hx421 hx422
      refine qr_iload 10 rfl g413 rfl ?_
      refine qr_aload_n 11 rfl g410 rfl ?_
      refine qr_get 14 rfl rfl rfl (by decide) rfl ?_
      refine qy_v (σ 86 6) ((hk419).trans rfl) ?_
      refine qr_icmp_ge 70 17 rfl rfl rfl (qrg hf420 (by decide) (by decide)) (qrg hz86_6 (by decide) (by decide)) (fun h425 => ?_) (fun h425 => ?_)
      · skip
        refine qr_aload_n 71 rfl g410 rfl ?_
        refine qr_lload_n 72 rfl g411 rfl ?_
        refine qr_callN 75 rfl rfl rfl (sf_225_86 (d := d + 0) hI417 r1) ?_
        rintro _ _ ⟨rfl, v426, rfl, hv426⟩
        show qr_W (qe L xs vb) (d + 1) qx_e234 _ (75, _, [.int (qz v426)], qw σ415 α416 κ ρ, 0, 0)
        refine qr_if_eq 96 78 rfl rfl rfl (qrg hv426 (by decide) (by decide)) (fun h427 => ?_) (fun h427 => ?_)
        · skip
          refine qr_iconst 97 rfl rfl ?_
          refine qr_retZ rfl rfl (Or.inl rfl) (by decide) (by decide) ?_
          exact ⟨_, _, rfl, hI417, hF418, 0, rfl, (by decide), by omega⟩
        · skip
          refine qr_aload_n 79 rfl g410 rfl ?_
          refine qr_get 82 rfl rfl rfl (by decide) rfl ?_
          have hs428 : 0 ≤ σ415 86 43 ∧ σ415 86 43 ≤ 32 := hI417.1 86 43
          refine qr_i2l 83 rfl (qrg hs428 (by decide) (by decide)) rfl ?_
          refine qr_lconst 84 rfl rfl ?_
          refine qy_vl 1 rfl ?_
          refine qr_iload_n 85 rfl g412 rfl ?_
          refine qr_i2l 86 rfl (qrg r2 (by decide) (by decide)) rfl ?_
          refine qr_callN 89 rfl rfl rfl (sf_176 (d := d + 0) hI417 (qrg hs428 (by decide) (by decide)) (by decide) (qrg r2 (by decide) (by decide))) ?_
          rintro _ _ ⟨rfl, v429, rfl, hv429, hp430⟩
          show qr_W (qe L xs vb) (d + 1) qx_e234 _ (89, _, [.int (qz v429)], qw σ415 α416 κ ρ, 0, 0)
          refine qr_if_eq 96 92 rfl rfl rfl (qrg hv429 (by decide) (by decide)) (fun h431 => ?_) (fun h431 => ?_)
          · skip
            refine qr_iconst 97 rfl rfl ?_
            refine qr_retZ rfl rfl (Or.inl rfl) (by decide) (by decide) ?_
            have hw432 : σ415 86 43 = (σ415 86 43) := rfl
            exact ⟨_, _, rfl, hI417, hF418, 0, rfl, (by decide), by omega⟩
          · skip
            refine qr_iconst 93 rfl rfl ?_
            refine qr_goto 97 rfl rfl ?_
            refine qr_retZ rfl rfl (Or.inr rfl) (by decide) (by decide) ?_
            have hw433 : σ415 86 43 = (σ415 86 43) := rfl
            exact ⟨_, _, rfl, hI417, hF418, 1, rfl, (by decide), by omega⟩
      · skip
        refine qr_aload_n 18 rfl g410 rfl ?_
        refine qr_lload_n 19 rfl g411 rfl ?_
        refine qr_callN 22 rfl rfl rfl (sf_225_86 (d := d + 0) hI417 r1) ?_
        rintro _ _ ⟨rfl, v434, rfl, hv434⟩
        show qr_W (qe L xs vb) (d + 1) qx_e234 _ (22, _, [.int (qz v434)], qw σ415 α416 κ ρ, 0, 0)
        refine qr_if_eq 70 25 rfl rfl rfl (qrg hv434 (by decide) (by decide)) (fun h435 => ?_) (fun h435 => ?_)
        · skip
          refine qr_aload_n 71 rfl g410 rfl ?_
          refine qr_lload_n 72 rfl g411 rfl ?_
          refine qr_callN 75 rfl rfl rfl (sf_225_86 (d := d + 0) hI417 r1) ?_
          rintro _ _ ⟨rfl, v436, rfl, hv436⟩
          show qr_W (qe L xs vb) (d + 1) qx_e234 _ (75, _, [.int (qz v436)], qw σ415 α416 κ ρ, 0, 0)
          refine qr_if_eq 96 78 rfl rfl rfl (qrg hv436 (by decide) (by decide)) (fun h437 => ?_) (fun h437 => ?_)
          · skip
            refine qr_iconst 97 rfl rfl ?_
            refine qr_retZ rfl rfl (Or.inl rfl) (by decide) (by decide) ?_
            exact ⟨_, _, rfl, hI417, hF418, 0, rfl, (by decide), by omega⟩
          · skip
            refine qr_aload_n 79 rfl g410 rfl ?_
            refine qr_get 82 rfl rfl rfl (by decide) rfl ?_
            have hs438 : 0 ≤ σ415 86 43 ∧ σ415 86 43 ≤ 32 := hI417.1 86 43
            refine qr_i2l 83 rfl (qrg hs438 (by decide) (by decide)) rfl ?_
            refine qr_lconst 84 rfl rfl ?_
            refine qy_vl 1 rfl ?_
            refine qr_iload_n 85 rfl g412 rfl ?_
            refine qr_i2l 86 rfl (qrg r2 (by decide) (by decide)) rfl ?_
            refine qr_callN 89 rfl rfl rfl (sf_176 (d := d + 0) hI417 (qrg hs438 (by decide) (by decide)) (by decide) (qrg r2 (by decide) (by decide))) ?_
            rintro _ _ ⟨rfl, v439, rfl, hv439, hp440⟩
            show qr_W (qe L xs vb) (d + 1) qx_e234 _ (89, _, [.int (qz v439)], qw σ415 α416 κ ρ, 0, 0)
            refine qr_if_eq 96 92 rfl rfl rfl (qrg hv439 (by decide) (by decide)) (fun h441 => ?_) (fun h441 => ?_)
            · skip
              refine qr_iconst 97 rfl rfl ?_
              refine qr_retZ rfl rfl (Or.inl rfl) (by decide) (by decide) ?_
              have hw442 : σ415 86 43 = (σ415 86 43) := rfl
              exact ⟨_, _, rfl, hI417, hF418, 0, rfl, (by decide), by omega⟩
            · skip
              refine qr_iconst 93 rfl rfl ?_
              refine qr_goto 97 rfl rfl ?_
              refine qr_retZ rfl rfl (Or.inr rfl) (by decide) (by decide) ?_
              have hw443 : σ415 86 43 = (σ415 86 43) := rfl
              exact ⟨_, _, rfl, hI417, hF418, 1, rfl, (by decide), by omega⟩
        · skip
          refine qr_lload_n 26 rfl g411 rfl ?_
          refine qr_aload_n 27 rfl g410 rfl ?_
          refine qr_get 30 rfl rfl rfl (by decide) rfl ?_
          have hs444 : (-9223372036854775808) ≤ σ415 86 10 ∧ σ415 86 10 ≤ 9223372036854775807 := hI417.1 86 10
          refine qr_ldc2 (-1) 33 rfl (by decide) rfl ?_
          refine qr_lxor 34 rfl rfl ?_
          refine qy_canl (fun v445 hv445 => ?_)
          refine qr_land 35 rfl rfl ?_
          refine qy_canl (fun v446 hv446 => ?_)
          refine qr_iload 37 rfl g413 rfl ?_
          refine qr_callN 40 rfl rfl rfl (sf_226 (d := d + 0) hI417 hv446 (qrg hf420 (by decide) (by decide))) ?_
          rintro _ _ ⟨rfl, v447, rfl, hv447⟩
          show qr_W (qe L xs vb) (d + 1) qx_e234 _ (40, _, [.int (qz v447)], qw σ415 α416 κ ρ, 0, 0)
          refine qr_if_eq 64 43 rfl rfl rfl (qrg hv447 (by decide) (by decide)) (fun h448 => ?_) (fun h448 => ?_)
          · skip
            refine qr_iinc _ 67 rfl g413 (by decide) rfl rfl ?_
            refine qr_goto 8 rfl rfl ?_
            exact ih424 _ (u414 + 1) σ415 α416 (by omega) (qm_gk g410 (by decide) (Or.inl (by decide))) (qm_gk g411 (by decide) (Or.inl (by decide))) (qm_gk g412 (by decide) (Or.inr rfl)) (qm_ge _ _ _) (by omega) hI417 hF418 ((hk419).trans rfl) (by omega) (by omega)
          · skip
            refine qr_aload_n 44 rfl g410 rfl ?_
            refine qr_get 47 rfl rfl rfl (by decide) rfl ?_
            refine qr_aload_n 48 rfl g410 rfl ?_
            refine qr_get 51 rfl rfl rfl (by decide) rfl ?_
            have hs449 : 0 ≤ σ415 86 43 ∧ σ415 86 43 ≤ 32 := hI417.1 86 43
            refine qr_iload 53 rfl g413 rfl ?_
            refine qr_iastore 54 rfl (by decide) rfl (by omega) (by decide) rfl ?_
            refine qy_wA (qw_r α416 110 (qzu (α416 110) ((σ415 86 43) : Int).toNat u414)) rfl (fun α450 e451 => ?_)
            have hI452 : qI σ415 α450 κ ρ := by rw [e451]; exact qI_r hI417 110 _ rfl (show 0 ≤ u414 ∧ u414 ≤ 31 by omega)
            have hF453 : qFr [(86, 43)] [110] σ α σ415 α450 := by rw [e451]; exact qFr_r hF418 110 _ (by decide)
            refine qr_aload_n 55 rfl g410 rfl ?_
            refine qr_dup 56 rfl rfl rfl ?_
            refine qr_get 59 rfl rfl rfl (by decide) rfl ?_
            refine qr_iconst 60 rfl rfl ?_
            refine qr_iadd 61 rfl rfl ?_
            refine qr_put 64 rfl (by decide) rfl (Nat.le_of_ble_eq_true rfl) (Nat.le_of_ble_eq_true rfl) (Or.inl rfl) (qr_fitI rfl _) rfl ?_
            refine qy_wS (qw_s σ415 86 43 ((σ415 86 43) + 1)) rfl (fun σ454 e455 => ?_)
            have hI456 : qI σ454 α450 κ ρ := by rw [e455]; exact qI_s hI452 86 43 rfl (show 0 ≤ ((σ415 86 43) + 1) ∧ ((σ415 86 43) + 1) ≤ 32 by omega)
            have hF457 : qFr [(86, 43)] [110] σ α σ454 α450 := by rw [e455]; exact qFr_s hF453 86 43 _ (by decide)
            refine qr_iinc _ 67 rfl g413 (by decide) rfl rfl ?_
            refine qr_goto 8 rfl rfl ?_
            exact ih424 _ (u414 + 1) σ454 α450 (by omega) (qm_gk g410 (by decide) (Or.inl (by decide))) (qm_gk g411 (by decide) (Or.inl (by decide))) (qm_gk g412 (by decide) (Or.inr rfl)) (qm_ge _ _ _) (by omega) hI456 hF457 ((congrFun (congrFun e455 86) 6).trans ((hk419).trans rfl)) (by have hw : σ454 86 43 = ((σ415 86 43) + 1) := (congrFun (congrFun e455 86) 43).trans rfl; omega) (by have hw : σ454 86 43 = ((σ415 86 43) + 1) := (congrFun (congrFun e455 86) 43).trans rfl; omega)
  exact hL423 ((32 - 0 + 1 : Int)).toNat _ 0 σ1 α (by omega) rfl rfl rfl rfl (by decide) hI3 hF4 ((congrFun (congrFun e2 86) 6).trans rfl) (by have hw : σ1 86 43 = 0 := (congrFun (congrFun e2 86) 43).trans rfl; omega) (by have hw : σ1 86 43 = 0 := (congrFun (congrFun e2 86) 43).trans rfl; omega)

set_option maxHeartbeats 4000000 in
set_option maxRecDepth 20000 in
/-- OneRoofModel.meets -/
theorem sf_244_86 {L : Nat} {xs : Nat → Int} {vb : Bool} {d : Nat} {σ α : Nat → Nat → Int} {κ : Nat → Option Nat} {ρ : Nat} {x1 : Int} {x2 : Int} {x3 : Int} (hI : qI σ α κ ρ) (r1 : 0 ≤ x1 ∧ x1 ≤ 5) (r2 : (-2147483648) ≤ x2 ∧ x2 ≤ 2147483647) (r3 : (-2147483648) ≤ x3 ∧ x3 ≤ 2147483647) (p0 : 1 ≤ σ 86 6) (p1 : σ 86 43 ≤ 6) : qm_T (qe L xs vb) (d + 6) 244 [.ref 86, .int (qz x1), .int (qz x2), .int (qz x3)] (qw σ α κ ρ) (fun r w' => ∃ σ' α', w' = qw σ' α' κ ρ ∧ qI σ' α' κ ρ ∧ qFr [(86, 15), (86, 23), (86, 30)] [96] σ α σ' α' ∧ ∃ v : Int, r = some (.int (qz v)) ∧ (0 ≤ v ∧ v ≤ 1)) := by
  refine qr_start (d := d + 5) qv_e244 (Nat.le_of_ble_eq_true rfl) ?_
  show qr_W (qe L xs vb) (d + 5) qx_e244 _ (0, [(0, .ref 86), (1, .int (qz x1)), (2, .int (qz x2)), (3, .int (qz x3))], [], _, 0, 0)
  have hF0 := qFr_rf [(86, 15), (86, 23), (86, 30)] [96] σ α
  have hz86_6 : 0 ≤ σ 86 6 ∧ σ 86 6 ≤ 32 := hI.1 86 6
  have hz86_43 : 0 ≤ σ 86 43 ∧ σ 86 43 ≤ 32 := hI.1 86 43
  refine qr_aload_n 1 rfl rfl rfl ?_
  refine qr_get 4 rfl rfl rfl (by decide) rfl ?_
  refine qr_aload_n 5 rfl rfl rfl ?_
  refine qr_get 8 rfl rfl rfl (by decide) rfl ?_
  refine qr_iload_n 9 rfl rfl rfl ?_
  refine qr_iaload 10 rfl rfl (qrgi r1 (by decide) (by decide)) (by decide) rfl ?_
  refine qr_topI (fun v1 hv1 => ?_)
  have hs2 : 0 ≤ v1 ∧ v1 ≤ 5 := by rw [hv1]; exact hI.2.1 114 _ (show _ < 6 from qrgt r1 (by decide) (by decide))
  refine qr_iaload 11 rfl rfl (qrgi hs2 (by decide) (by decide)) (by decide) rfl ?_
  refine qr_topI (fun v3 hv3 => ?_)
  have hs4 : 0 ≤ v3 ∧ v3 ≤ 31 := by rw [hv3]; exact hI.2.1 110 _ (show _ < 32 from qrgt hs2 (by decide) (by decide))
  refine qr_istore _ 13 rfl (by decide) rfl rfl ?_
  refine qr_iload_n 14 rfl rfl rfl ?_
  refine qr_iload_n 15 rfl rfl rfl ?_
  refine qr_iload_n 16 rfl rfl rfl ?_
  refine qr_bipush 18 rfl (by decide) rfl ?_
  refine qr_idivW 19 rfl (by omega) rfl ?_
  refine qy_can (fun v5 hv5 => ?_)
  refine qr_imul 20 rfl rfl ?_
  refine qy_can (fun v6 hv6 => ?_)
  refine qr_iadd 21 rfl rfl ?_
  refine qy_can (fun v7 hv7 => ?_)
  refine qr_istore _ 23 rfl (by decide) rfl rfl ?_
  refine qr_iconst 24 rfl rfl ?_
  refine qr_istore _ 26 rfl (by decide) rfl rfl ?_
  have hL435 : ∀ (n : Nat) (ls : qm_L) (u427 : Int) (σ428 α429 : Nat → Nat → Int), 5 - u427 < (n : Int) → qm_get ls 0 = some (.ref 86) → qm_get ls 1 = some (.int (qz x1)) → qm_get ls 3 = some (.int (qz x3)) → qm_get ls 4 = some (.int (qz v3)) → qm_get ls 5 = some (.int (qz v7)) → qm_get ls 6 = some (.int (qz u427)) → (0 ≤ u427 ∧ u427 ≤ 5) → qI σ428 α429 κ ρ → qFr [(86, 15), (86, 23), (86, 30)] [96] σ α σ428 α429 → σ428 86 6 = (σ 86 6) → σ428 86 43 = (σ 86 43) → qr_W (qe L xs vb) (d + 5) qx_e244 (fun r w' => ∃ σ' α', w' = qw σ' α' κ ρ ∧ qI σ' α' κ ρ ∧ qFr [(86, 15), (86, 23), (86, 30)] [96] σ α σ' α' ∧ ∃ v : Int, r = some (.int (qz v)) ∧ (0 ≤ v ∧ v ≤ 1)) (26, ls, [], qw σ428 α429 κ ρ, 0, 0) := by
    intro n
    induction n with
    | zero => intro ls u427 σ428 α429 hm g421 g422 g423 g424 g425 g426 hf434 hI430 hF431 hk432 hk433; exact False.elim (by omega)
    | succ n ih436 =>
      intro ls u427 σ428 α429 hm g421 g422 g423 g424 g425 g426 hf434 hI430 hF431 hk432 hk433
      refine qr_iload 28 rfl g426 rfl ?_
      refine qr_iload_n 29 rfl g422 rfl ?_
      refine qr_icmp_ge 127 32 rfl rfl rfl (qrg hf434 (by decide) (by decide)) (qrg r1 (by decide) (by decide)) (fun h437 => ?_) (fun h437 => ?_)
      · skip
        refine qr_iconst 128 rfl rfl ?_
        refine qr_retZ rfl rfl (Or.inl rfl) (by decide) (by decide) ?_
        exact ⟨_, _, rfl, hI430, hF431, 0, rfl, (by decide)⟩
      · skip
        refine qr_aload_n 33 rfl g421 rfl ?_
        refine qr_get 36 rfl rfl rfl (by decide) rfl ?_
        refine qr_aload_n 37 rfl g421 rfl ?_
        refine qr_get 40 rfl rfl rfl (by decide) rfl ?_
        refine qr_iload 42 rfl g426 rfl ?_
        refine qr_iaload 43 rfl rfl (qrgi hf434 (by decide) (by decide)) (by decide) rfl ?_
        refine qr_topI (fun v438 hv438 => ?_)
        have hs439 : 0 ≤ v438 ∧ v438 ≤ 5 := by rw [hv438]; exact hI430.2.1 114 _ (show _ < 6 from qrgt hf434 (by decide) (by decide))
        refine qr_iaload 44 rfl rfl (qrgi hs439 (by decide) (by decide)) (by decide) rfl ?_
        refine qr_topI (fun v440 hv440 => ?_)
        have hs441 : 0 ≤ v440 ∧ v440 ≤ 31 := by rw [hv440]; exact hI430.2.1 110 _ (show _ < 32 from qrgt hs439 (by decide) (by decide))
        refine qr_istore _ 46 rfl (by decide) rfl rfl ?_
        refine qr_aload_n 47 rfl (qm_gk g421 (by decide) (Or.inl (by decide))) rfl ?_
        refine qr_get 50 rfl rfl rfl (by decide) rfl ?_
        refine qr_iload 52 rfl (qm_gk g424 (by decide) (Or.inl (by decide))) rfl ?_
        refine qr_iaload 53 rfl rfl (qrgi hs4 (by decide) (by decide)) (by decide) rfl ?_
        refine qr_topI (fun v442 hv442 => ?_)
        have hs443 : (-2147483648) ≤ v442 ∧ v442 ≤ 2147483647 := by rw [hv442]; exact hI430.2.1 93 _ (show _ < 32 from qrgt hs4 (by decide) (by decide))
        refine qr_aload_n 54 rfl (qm_gk g421 (by decide) (Or.inl (by decide))) rfl ?_
        refine qr_get 57 rfl rfl rfl (by decide) rfl ?_
        refine qr_iload 59 rfl (qm_ge _ _ _) rfl ?_
        refine qr_iaload 60 rfl rfl (qrgi hs441 (by decide) (by decide)) (by decide) rfl ?_
        refine qr_topI (fun v444 hv444 => ?_)
        have hs445 : (-2147483648) ≤ v444 ∧ v444 ≤ 2147483647 := by rw [hv444]; exact hI430.2.1 93 _ (show _ < 32 from qrgt hs441 (by decide) (by decide))
        have hJ476 : ∀ (ls : qm_L) (u468 : Int) (σ469 α470 : Nat → Nat → Int), qm_get ls 0 = some (.ref 86) → qm_get ls 1 = some (.int (qz x1)) → qm_get ls 3 = some (.int (qz x3)) → qm_get ls 4 = some (.int (qz v3)) → qm_get ls 5 = some (.int (qz v7)) → qm_get ls 6 = some (.int (qz u427)) → (0 ≤ u468 ∧ u468 ≤ 1) → qI σ469 α470 κ ρ → qFr [(86, 15), (86, 23), (86, 30)] [96] σ α σ469 α470 → σ469 86 6 = (σ 86 6) → σ469 86 43 = (σ 86 43) → qr_W (qe L xs vb) (d + 5) qx_e244 (fun r w' => ∃ σ' α', w' = qw σ' α' κ ρ ∧ qI σ' α' κ ρ ∧ qFr [(86, 15), (86, 23), (86, 30)] [96] σ α σ' α' ∧ ∃ v : Int, r = some (.int (qz v)) ∧ (0 ≤ v ∧ v ≤ 1)) (112, ls, [.int (qz u468)], qw σ469 α470 κ ρ, 0, 0) := by
          intro ls u468 σ469 α470 g462 g463 g464 g465 g466 g467 hf475 hI471 hF472 hk473 hk474
          refine qr_istore _ 114 rfl (by decide) rfl rfl ?_
          refine qr_iload 116 rfl (qm_ge _ _ _) rfl ?_
          refine qr_if_eq 121 119 rfl rfl rfl (qrg hf475 (by decide) (by decide)) (fun h477 => ?_) (fun h477 => ?_)
          · skip
            refine qr_iinc _ 124 rfl (qm_gk g467 (by decide) (Or.inl (by decide))) (by decide) rfl rfl ?_
            refine qr_goto 26 rfl rfl ?_
            exact ih436 _ (u427 + 1) σ469 α470 (by omega) (qm_gk (qm_gk g462 (by decide) (Or.inl (by decide))) (by decide) (Or.inl (by decide))) (qm_gk (qm_gk g463 (by decide) (Or.inl (by decide))) (by decide) (Or.inl (by decide))) (qm_gk (qm_gk g464 (by decide) (Or.inl (by decide))) (by decide) (Or.inl (by decide))) (qm_gk (qm_gk g465 (by decide) (Or.inl (by decide))) (by decide) (Or.inl (by decide))) (qm_gk (qm_gk g466 (by decide) (Or.inl (by decide))) (by decide) (Or.inr rfl)) (qm_ge _ _ _) (by omega) hI471 hF472 ((hk473).trans rfl) ((hk474).trans rfl)
          · skip
            refine qr_iconst 120 rfl rfl ?_
            refine qr_retZ rfl rfl (Or.inr rfl) (by decide) (by decide) ?_
            exact ⟨_, _, rfl, hI471, hF472, 1, rfl, (by decide)⟩
        refine qr_icmp_ne 111 63 rfl rfl rfl hs443 hs445 (fun h478 => ?_) (fun h478 => ?_)
        · skip
          refine qr_iconst 112 rfl rfl ?_
          exact hJ476 _ 0 σ428 α429 (qm_gk g421 (by decide) (Or.inl (by decide))) (qm_gk g422 (by decide) (Or.inl (by decide))) (qm_gk g423 (by decide) (Or.inl (by decide))) (qm_gk g424 (by decide) (Or.inl (by decide))) (qm_gk g425 (by decide) (Or.inl (by decide))) (qm_gk g426 (by decide) (Or.inr rfl)) (by decide) hI430 hF431 ((hk432).trans rfl) ((hk433).trans rfl)
        · skip
          refine qr_iload_n 64 rfl (qm_gk g422 (by decide) (Or.inl (by decide))) rfl ?_
          refine qr_iload 66 rfl (qm_gk g426 (by decide) (Or.inr rfl)) rfl ?_
          refine qr_isub 67 rfl rfl ?_
          refine qr_iload_n 68 rfl (qm_gk g423 (by decide) (Or.inl (by decide))) rfl ?_
          refine qr_bipush 70 rfl (by decide) rfl ?_
          refine qr_idivW 71 rfl (by omega) rfl ?_
          refine qy_can (fun v479 hv479 => ?_)
          refine qr_imul 72 rfl rfl ?_
          refine qy_can (fun v480 hv480 => ?_)
          refine qr_iload_n 73 rfl (qm_gk g423 (by decide) (Or.inl (by decide))) rfl ?_
          refine qr_bipush 75 rfl (by decide) rfl ?_
          refine qr_iremW 76 rfl (by omega) rfl ?_
          refine qy_can (fun v481 hv481 => ?_)
          refine qr_icmp_gt 111 79 rfl rfl rfl hv480 hv481 (fun h482 => ?_) (fun h482 => ?_)
          · skip
            refine qr_iconst 112 rfl rfl ?_
            exact hJ476 _ 0 σ428 α429 (qm_gk g421 (by decide) (Or.inl (by decide))) (qm_gk g422 (by decide) (Or.inl (by decide))) (qm_gk g423 (by decide) (Or.inl (by decide))) (qm_gk g424 (by decide) (Or.inl (by decide))) (qm_gk g425 (by decide) (Or.inl (by decide))) (qm_gk g426 (by decide) (Or.inr rfl)) (by decide) hI430 hF431 ((hk432).trans rfl) ((hk433).trans rfl)
          · skip
            refine qr_aload_n 80 rfl (qm_gk g421 (by decide) (Or.inl (by decide))) rfl ?_
            refine qr_iload 82 rfl (qm_gk g424 (by decide) (Or.inl (by decide))) rfl ?_
            refine qr_iload 84 rfl (qm_ge _ _ _) rfl ?_
            refine qr_iload 86 rfl (qm_gk g425 (by decide) (Or.inl (by decide))) rfl ?_
            refine qr_callN 89 rfl rfl rfl (sf_195_86 (d := d + 0) hI430 hs4 hs441 hv7) ?_
            rintro _ _ ⟨σ484, α485, rfl, hI486, hG487, v483, rfl, hv483⟩
            have hF488 : qFr [(86, 15), (86, 23), (86, 30)] [96] σ α σ484 α485 := qFr_t hF431 hG487 (by decide) (by decide)
            show qr_W (qe L xs vb) (d + 5) qx_e244 _ (89, _, [.int (qz v483)], qw σ484 α485 κ ρ, 0, 0)
            refine qr_bipush 91 rfl (by decide) rfl ?_
            refine qr_icmp_eq 111 94 rfl rfl rfl hv483 (by decide) (fun h489 => ?_) (fun h489 => ?_)
            · skip
              refine qr_iconst 112 rfl rfl ?_
              exact hJ476 _ 0 σ484 α485 (qm_gk g421 (by decide) (Or.inl (by decide))) (qm_gk g422 (by decide) (Or.inl (by decide))) (qm_gk g423 (by decide) (Or.inl (by decide))) (qm_gk g424 (by decide) (Or.inl (by decide))) (qm_gk g425 (by decide) (Or.inl (by decide))) (qm_gk g426 (by decide) (Or.inr rfl)) (by decide) hI486 hF488 ((hG487.1 86 6 (by decide)).trans ((hk432).trans rfl)) ((hG487.1 86 43 (by decide)).trans ((hk433).trans rfl))
            · skip
              refine qr_aload_n 95 rfl (qm_gk g421 (by decide) (Or.inl (by decide))) rfl ?_
              refine qr_iload 97 rfl (qm_gk g424 (by decide) (Or.inl (by decide))) rfl ?_
              refine qr_iload 99 rfl (qm_ge _ _ _) rfl ?_
              refine qr_iload 101 rfl (qm_gk g425 (by decide) (Or.inl (by decide))) rfl ?_
              have hs490 : 0 ≤ σ484 86 6 ∧ σ484 86 6 ≤ 32 := hI486.1 86 6
              have hs491 : σ484 86 6 = (σ 86 6) := (hG487.1 86 6 (by decide)).trans ((hk432).trans rfl)
              refine qr_callN 104 rfl rfl rfl (sf_209_86 (d := d + 1) hI486 hs4 hs441 hv7 (by omega)) ?_
              rintro _ _ ⟨σ493, rfl, hI494, hG495, v492, rfl, hv492⟩
              have hF496 : qFr [(86, 15), (86, 23), (86, 30)] [96] σ α σ493 α485 := qFr_t hF488 hG495 (by decide) (by decide)
              show qr_W (qe L xs vb) (d + 5) qx_e244 _ (104, _, [.int (qz v492)], qw σ493 α485 κ ρ, 0, 0)
              refine qr_if_ne 111 107 rfl rfl rfl hv492 (fun h497 => ?_) (fun h497 => ?_)
              · skip
                refine qr_iconst 112 rfl rfl ?_
                exact hJ476 _ 0 σ493 α485 (qm_gk g421 (by decide) (Or.inl (by decide))) (qm_gk g422 (by decide) (Or.inl (by decide))) (qm_gk g423 (by decide) (Or.inl (by decide))) (qm_gk g424 (by decide) (Or.inl (by decide))) (qm_gk g425 (by decide) (Or.inl (by decide))) (qm_gk g426 (by decide) (Or.inr rfl)) (by decide) hI494 hF496 ((hG495.1 86 6 (by decide)).trans ((hG487.1 86 6 (by decide)).trans ((hk432).trans rfl))) ((hG495.1 86 43 (by decide)).trans ((hG487.1 86 43 (by decide)).trans ((hk433).trans rfl)))
              · skip
                refine qr_iconst 108 rfl rfl ?_
                refine qr_goto 112 rfl rfl ?_
                exact hJ476 _ 1 σ493 α485 (qm_gk g421 (by decide) (Or.inl (by decide))) (qm_gk g422 (by decide) (Or.inl (by decide))) (qm_gk g423 (by decide) (Or.inl (by decide))) (qm_gk g424 (by decide) (Or.inl (by decide))) (qm_gk g425 (by decide) (Or.inl (by decide))) (qm_gk g426 (by decide) (Or.inr rfl)) (by decide) hI494 hF496 ((hG495.1 86 6 (by decide)).trans ((hG487.1 86 6 (by decide)).trans ((hk432).trans rfl))) ((hG495.1 86 43 (by decide)).trans ((hG487.1 86 43 (by decide)).trans ((hk433).trans rfl)))
  exact hL435 ((5 - 0 + 1 : Int)).toNat _ 0 σ α (by omega) rfl rfl rfl rfl rfl rfl (by decide) hI hF0 (rfl) (rfl)

set_option maxHeartbeats 4000000 in
set_option maxRecDepth 20000 in
/-- OneRoofModel.orders -/
theorem sf_243_86t6 {L : Nat} {xs : Nat → Int} {vb : Bool} {d : Nat} {σ α : Nat → Nat → Int} {κ : Nat → Option Nat} {ρ : Nat} {x2 : Int} {x3 : Int} {x4 : Int} (hI : qI σ α κ ρ) (r2 : (-2147483648) ≤ x2 ∧ x2 ≤ 2147483647) (r3 : (-2147483648) ≤ x3 ∧ x3 ≤ 2147483647) (r4 : 100 ≤ x4 ∧ x4 ≤ 2499) (p0 : 1 ≤ σ 86 6) (p1 : σ 86 43 ≤ 6) (p2 : 6 ≤ σ 86 43) : qm_T (qe L xs vb) (d + 1) 243 [.ref 86, .int (qz 6), .int (qz x2), .int (qz x3), .int (qz x4)] (qw σ α κ ρ) (fun r w' => ∃ σ' α', w' = qw σ' α' κ ρ ∧ qI σ' α' κ ρ ∧ qFr [(86, 15), (86, 23), (86, 30)] [96, 114] σ α σ' α' ∧ ∃ v : Int, r = some (.int (qz v)) ∧ (0 ≤ v ∧ v ≤ 1)) := by
  refine qr_start (d := d + 0) qv_e243 (Nat.le_of_ble_eq_true rfl) ?_
  show qr_W (qe L xs vb) (d + 0) qx_e243 _ (0, [(0, .ref 86), (1, .int (qz 6)), (2, .int (qz x2)), (3, .int (qz x3)), (4, .int (qz x4))], [], _, 0, 0)
  have hF0 := qFr_rf [(86, 15), (86, 23), (86, 30)] [96, 114] σ α
  have hz86_6 : 0 ≤ σ 86 6 ∧ σ 86 6 ≤ 32 := hI.1 86 6
  have hz86_43 : 0 ≤ σ 86 43 ∧ σ 86 43 ≤ 32 := hI.1 86 43
  refine qr_iload_n 1 rfl rfl rfl ?_
  refine qr_aload_n 2 rfl rfl rfl ?_
  refine qr_get 5 rfl rfl rfl (by decide) rfl ?_
  refine qr_icmp_ne 10 8 rfl rfl rfl (by decide) (qrg hz86_43 (by decide) (by decide)) (fun h => False.elim (by omega)) (fun h1 => ?_)
  refine qr_iconst 9 rfl rfl ?_
  refine qr_retZ rfl rfl (Or.inr rfl) (by decide) (by decide) ?_
  exact ⟨_, _, rfl, hI, hF0, 1, rfl, (by decide)⟩

set_option maxHeartbeats 4000000 in
set_option maxRecDepth 20000 in
/-- OneRoofModel.orders -/
theorem sf_243_86t5 {L : Nat} {xs : Nat → Int} {vb : Bool} {d : Nat} {σ α : Nat → Nat → Int} {κ : Nat → Option Nat} {ρ : Nat} {x2 : Int} {x3 : Int} {x4 : Int} (hI : qI σ α κ ρ) (r2 : (-2147483648) ≤ x2 ∧ x2 ≤ 2147483647) (r3 : (-2147483648) ≤ x3 ∧ x3 ≤ 2147483647) (r4 : 100 ≤ x4 ∧ x4 ≤ 2499) (p0 : 1 ≤ σ 86 6) (p1 : σ 86 43 ≤ 6) (p2 : 5 ≤ σ 86 43) : qm_T (qe L xs vb) (d + 7) 243 [.ref 86, .int (qz 5), .int (qz x2), .int (qz x3), .int (qz x4)] (qw σ α κ ρ) (fun r w' => ∃ σ' α', w' = qw σ' α' κ ρ ∧ qI σ' α' κ ρ ∧ qFr [(86, 15), (86, 23), (86, 30)] [96, 114] σ α σ' α' ∧ ∃ v : Int, r = some (.int (qz v)) ∧ (0 ≤ v ∧ v ≤ 1)) := by
  refine qr_start (d := d + 6) qv_e243 (Nat.le_of_ble_eq_true rfl) ?_
  show qr_W (qe L xs vb) (d + 6) qx_e243 _ (0, [(0, .ref 86), (1, .int (qz 5)), (2, .int (qz x2)), (3, .int (qz x3)), (4, .int (qz x4))], [], _, 0, 0)
  have hF0 := qFr_rf [(86, 15), (86, 23), (86, 30)] [96, 114] σ α
  have hz86_6 : 0 ≤ σ 86 6 ∧ σ 86 6 ≤ 32 := hI.1 86 6
  have hz86_43 : 0 ≤ σ 86 43 ∧ σ 86 43 ≤ 32 := hI.1 86 43
  refine qr_iload_n 1 rfl rfl rfl ?_
  refine qr_aload_n 2 rfl rfl rfl ?_
  refine qr_get 5 rfl rfl rfl (by decide) rfl ?_
  refine qr_icmp_ne 10 8 rfl rfl rfl (by decide) (qrg hz86_43 (by decide) (by decide)) (fun h1 => ?_) (fun h1 => ?_)
  · skip
    refine qr_iconst 11 rfl rfl ?_
    refine qr_istore _ 13 rfl (by decide) rfl rfl ?_
    have hL288 : ∀ (n : Nat) (ls : qm_L) (u280 : Int) (σ281 α282 : Nat → Nat → Int), 6 - u280 < (n : Int) → qm_get ls 0 = some (.ref 86) → qm_get ls 1 = some (.int (qz 5)) → qm_get ls 2 = some (.int (qz x2)) → qm_get ls 3 = some (.int (qz x3)) → qm_get ls 4 = some (.int (qz x4)) → qm_get ls 5 = some (.int (qz u280)) → (0 ≤ u280 ∧ u280 ≤ 6) → qI σ281 α282 κ ρ → qFr [(86, 15), (86, 23), (86, 30)] [96, 114] σ α σ281 α282 → σ281 86 6 = (σ 86 6) → σ281 86 43 = (σ 86 43) → qr_W (qe L xs vb) (d + 6) qx_e243 (fun r w' => ∃ σ' α', w' = qw σ' α' κ ρ ∧ qI σ' α' κ ρ ∧ qFr [(86, 15), (86, 23), (86, 30)] [96, 114] σ α σ' α' ∧ ∃ v : Int, r = some (.int (qz v)) ∧ (0 ≤ v ∧ v ≤ 1)) (13, ls, [], qw σ281 α282 κ ρ, 0, 0) := by
      intro n
      induction n with
      | zero => intro ls u280 σ281 α282 hm g274 g275 g276 g277 g278 g279 hf287 hI283 hF284 hk285 hk286; exact False.elim (by omega)
      | succ n ih289 =>
        intro ls u280 σ281 α282 hm g274 g275 g276 g277 g278 g279 hf287 hI283 hF284 hk285 hk286
        refine qr_iload 15 rfl g279 rfl ?_
        refine qr_aload_n 16 rfl g274 rfl ?_
        refine qr_get 19 rfl rfl rfl (by decide) rfl ?_
        refine qy_v (σ 86 43) ((hk286).trans rfl) ?_
        refine qr_icmp_ge 81 22 rfl rfl rfl (qrg hf287 (by decide) (by decide)) (qrg hz86_43 (by decide) (by decide)) (fun h290 => ?_) (fun h290 => ?_)
        · skip
          refine qr_iconst 82 rfl rfl ?_
          refine qr_retZ rfl rfl (Or.inl rfl) (by decide) (by decide) ?_
          exact ⟨_, _, rfl, hI283, hF284, 0, rfl, (by decide)⟩
        · skip
          refine qr_iload_n 23 rfl g276 rfl ?_
          refine qr_iload 25 rfl g279 rfl ?_
          refine qr_ishr 26 rfl rfl ?_
          refine qy_can (fun v291 hv291 => ?_)
          refine qr_iconst 27 rfl rfl ?_
          refine qr_iand 28 rfl rfl ?_
          refine qy_andr (by omega) (fun v292 hv292 => ?_)
          refine qr_iconst 29 rfl rfl ?_
          refine qr_icmp_ne 35 32 rfl rfl rfl (by omega) (by decide) (fun h293 => ?_) (fun h293 => ?_)
          · skip
            refine qr_aload_n 36 rfl g274 rfl ?_
            refine qr_get 39 rfl rfl rfl (by decide) rfl ?_
            refine qr_iload_n 40 rfl g275 rfl ?_
            refine qr_iload 42 rfl g279 rfl ?_
            refine qr_iastore 43 rfl (by decide) rfl (by decide) (by decide) rfl ?_
            refine qy_wA (qw_r α282 114 (qzu (α282 114) (5 : Int).toNat u280)) rfl (fun α294 e295 => ?_)
            have hI296 : qI σ281 α294 κ ρ := by rw [e295]; exact qI_r hI283 114 _ rfl (show 0 ≤ u280 ∧ u280 ≤ 5 by omega)
            have hF297 : qFr [(86, 15), (86, 23), (86, 30)] [96, 114] σ α σ281 α294 := by rw [e295]; exact qFr_r hF284 114 _ (by decide)
            refine qr_aload_n 44 rfl g274 rfl ?_
            refine qr_iload_n 45 rfl g275 rfl ?_
            refine qr_iload_n 46 rfl g277 rfl ?_
            refine qr_iload 48 rfl g278 rfl ?_
            have hs298 : 0 ≤ σ281 86 43 ∧ σ281 86 43 ≤ 32 := hI296.1 86 43
            have hs299 : σ281 86 43 = (σ 86 43) := (hk286).trans rfl
            have hs300 : 0 ≤ σ281 86 6 ∧ σ281 86 6 ≤ 32 := hI296.1 86 6
            have hs301 : σ281 86 6 = (σ 86 6) := (hk285).trans rfl
            refine qr_callN 51 rfl rfl rfl (sf_244_86 (d := d + 0) hI296 (by decide) r3 (qrg r4 (by decide) (by decide)) (by omega) (by omega)) ?_
            rintro _ _ ⟨σ303, α304, rfl, hI305, hG306, v302, rfl, hv302⟩
            have hF307 : qFr [(86, 15), (86, 23), (86, 30)] [96, 114] σ α σ303 α304 := qFr_t hF297 hG306 (by decide) (by decide)
            show qr_W (qe L xs vb) (d + 6) qx_e243 _ (51, _, [.int (qz v302)], qw σ303 α304 κ ρ, 0, 0)
            refine qr_if_ne 75 54 rfl rfl rfl (qrg hv302 (by decide) (by decide)) (fun h308 => ?_) (fun h308 => ?_)
            · skip
              refine qr_iinc _ 78 rfl g279 (by decide) rfl rfl ?_
              refine qr_goto 13 rfl rfl ?_
              exact ih289 _ (u280 + 1) σ303 α304 (by omega) (qm_gk g274 (by decide) (Or.inl (by decide))) (qm_gk g275 (by decide) (Or.inl (by decide))) (qm_gk g276 (by decide) (Or.inl (by decide))) (qm_gk g277 (by decide) (Or.inl (by decide))) (qm_gk g278 (by decide) (Or.inr rfl)) (qm_ge _ _ _) (by omega) hI305 hF307 ((hG306.1 86 6 (by decide)).trans ((hk285).trans rfl)) ((hG306.1 86 43 (by decide)).trans ((hk286).trans rfl))
            · skip
              refine qr_aload_n 55 rfl g274 rfl ?_
              refine qr_iload_n 56 rfl g275 rfl ?_
              refine qr_iconst 57 rfl rfl ?_
              refine qr_iadd 58 rfl rfl ?_
              refine qy_v 6 rfl ?_
              refine qr_iload_n 59 rfl g276 rfl ?_
              refine qr_iconst 60 rfl rfl ?_
              refine qr_iload 62 rfl g279 rfl ?_
              refine qr_ishl 63 rfl rfl ?_
              refine qy_shl1 (N := 5) (by omega) (fun v309 hv309 => ?_)
              refine qr_ior 64 rfl rfl ?_
              refine qy_can (fun v310 hv310 => ?_)
              refine qr_iload_n 65 rfl g277 rfl ?_
              refine qr_iload 67 rfl g278 rfl ?_
              have hs311 : 0 ≤ σ303 86 43 ∧ σ303 86 43 ≤ 32 := hI305.1 86 43
              have hs312 : σ303 86 43 = (σ 86 43) := (hG306.1 86 43 (by decide)).trans ((hk286).trans rfl)
              have hs313 : 0 ≤ σ303 86 6 ∧ σ303 86 6 ≤ 32 := hI305.1 86 6
              have hs314 : σ303 86 6 = (σ 86 6) := (hG306.1 86 6 (by decide)).trans ((hk285).trans rfl)
              refine qr_callN 70 rfl rfl rfl (sf_243_86t6 (d := d + 5) hI305 hv310 r3 r4 (by omega) (by omega) (by omega)) ?_
              rintro _ _ ⟨σ316, α317, rfl, hI318, hG319, v315, rfl, hv315⟩
              have hF320 : qFr [(86, 15), (86, 23), (86, 30)] [96, 114] σ α σ316 α317 := qFr_t hF307 hG319 (by decide) (by decide)
              show qr_W (qe L xs vb) (d + 6) qx_e243 _ (70, _, [.int (qz v315)], qw σ316 α317 κ ρ, 0, 0)
              refine qr_if_eq 75 73 rfl rfl rfl (qrg hv315 (by decide) (by decide)) (fun h321 => ?_) (fun h321 => ?_)
              · skip
                refine qr_iinc _ 78 rfl g279 (by decide) rfl rfl ?_
                refine qr_goto 13 rfl rfl ?_
                exact ih289 _ (u280 + 1) σ316 α317 (by omega) (qm_gk g274 (by decide) (Or.inl (by decide))) (qm_gk g275 (by decide) (Or.inl (by decide))) (qm_gk g276 (by decide) (Or.inl (by decide))) (qm_gk g277 (by decide) (Or.inl (by decide))) (qm_gk g278 (by decide) (Or.inr rfl)) (qm_ge _ _ _) (by omega) hI318 hF320 ((hG319.1 86 6 (by decide)).trans ((hG306.1 86 6 (by decide)).trans ((hk285).trans rfl))) ((hG319.1 86 43 (by decide)).trans ((hG306.1 86 43 (by decide)).trans ((hk286).trans rfl)))
              · skip
                refine qr_iconst 74 rfl rfl ?_
                refine qr_retZ rfl rfl (Or.inr rfl) (by decide) (by decide) ?_
                exact ⟨_, _, rfl, hI318, hF320, 1, rfl, (by decide)⟩
          · skip
            refine qr_goto 75 rfl rfl ?_
            refine qr_iinc _ 78 rfl g279 (by decide) rfl rfl ?_
            refine qr_goto 13 rfl rfl ?_
            exact ih289 _ (u280 + 1) σ281 α282 (by omega) (qm_gk g274 (by decide) (Or.inl (by decide))) (qm_gk g275 (by decide) (Or.inl (by decide))) (qm_gk g276 (by decide) (Or.inl (by decide))) (qm_gk g277 (by decide) (Or.inl (by decide))) (qm_gk g278 (by decide) (Or.inr rfl)) (qm_ge _ _ _) (by omega) hI283 hF284 ((hk285).trans rfl) ((hk286).trans rfl)
    exact hL288 ((6 - 0 + 1 : Int)).toNat _ 0 σ α (by omega) rfl rfl rfl rfl rfl rfl (by decide) hI hF0 (rfl) (rfl)
  · skip
    refine qr_iconst 9 rfl rfl ?_
    refine qr_retZ rfl rfl (Or.inr rfl) (by decide) (by decide) ?_
    exact ⟨_, _, rfl, hI, hF0, 1, rfl, (by decide)⟩

set_option maxHeartbeats 4000000 in
set_option maxRecDepth 20000 in
/-- OneRoofModel.orders -/
theorem sf_243_86t4 {L : Nat} {xs : Nat → Int} {vb : Bool} {d : Nat} {σ α : Nat → Nat → Int} {κ : Nat → Option Nat} {ρ : Nat} {x2 : Int} {x3 : Int} {x4 : Int} (hI : qI σ α κ ρ) (r2 : (-2147483648) ≤ x2 ∧ x2 ≤ 2147483647) (r3 : (-2147483648) ≤ x3 ∧ x3 ≤ 2147483647) (r4 : 100 ≤ x4 ∧ x4 ≤ 2499) (p0 : 1 ≤ σ 86 6) (p1 : σ 86 43 ≤ 6) (p2 : 4 ≤ σ 86 43) : qm_T (qe L xs vb) (d + 8) 243 [.ref 86, .int (qz 4), .int (qz x2), .int (qz x3), .int (qz x4)] (qw σ α κ ρ) (fun r w' => ∃ σ' α', w' = qw σ' α' κ ρ ∧ qI σ' α' κ ρ ∧ qFr [(86, 15), (86, 23), (86, 30)] [96, 114] σ α σ' α' ∧ ∃ v : Int, r = some (.int (qz v)) ∧ (0 ≤ v ∧ v ≤ 1)) := by
  refine qr_start (d := d + 7) qv_e243 (Nat.le_of_ble_eq_true rfl) ?_
  show qr_W (qe L xs vb) (d + 7) qx_e243 _ (0, [(0, .ref 86), (1, .int (qz 4)), (2, .int (qz x2)), (3, .int (qz x3)), (4, .int (qz x4))], [], _, 0, 0)
  have hF0 := qFr_rf [(86, 15), (86, 23), (86, 30)] [96, 114] σ α
  have hz86_6 : 0 ≤ σ 86 6 ∧ σ 86 6 ≤ 32 := hI.1 86 6
  have hz86_43 : 0 ≤ σ 86 43 ∧ σ 86 43 ≤ 32 := hI.1 86 43
  refine qr_iload_n 1 rfl rfl rfl ?_
  refine qr_aload_n 2 rfl rfl rfl ?_
  refine qr_get 5 rfl rfl rfl (by decide) rfl ?_
  refine qr_icmp_ne 10 8 rfl rfl rfl (by decide) (qrg hz86_43 (by decide) (by decide)) (fun h1 => ?_) (fun h1 => ?_)
  · skip
    refine qr_iconst 11 rfl rfl ?_
    refine qr_istore _ 13 rfl (by decide) rfl rfl ?_
    have hL288 : ∀ (n : Nat) (ls : qm_L) (u280 : Int) (σ281 α282 : Nat → Nat → Int), 6 - u280 < (n : Int) → qm_get ls 0 = some (.ref 86) → qm_get ls 1 = some (.int (qz 4)) → qm_get ls 2 = some (.int (qz x2)) → qm_get ls 3 = some (.int (qz x3)) → qm_get ls 4 = some (.int (qz x4)) → qm_get ls 5 = some (.int (qz u280)) → (0 ≤ u280 ∧ u280 ≤ 6) → qI σ281 α282 κ ρ → qFr [(86, 15), (86, 23), (86, 30)] [96, 114] σ α σ281 α282 → σ281 86 6 = (σ 86 6) → σ281 86 43 = (σ 86 43) → qr_W (qe L xs vb) (d + 7) qx_e243 (fun r w' => ∃ σ' α', w' = qw σ' α' κ ρ ∧ qI σ' α' κ ρ ∧ qFr [(86, 15), (86, 23), (86, 30)] [96, 114] σ α σ' α' ∧ ∃ v : Int, r = some (.int (qz v)) ∧ (0 ≤ v ∧ v ≤ 1)) (13, ls, [], qw σ281 α282 κ ρ, 0, 0) := by
      intro n
      induction n with
      | zero => intro ls u280 σ281 α282 hm g274 g275 g276 g277 g278 g279 hf287 hI283 hF284 hk285 hk286; exact False.elim (by omega)
      | succ n ih289 =>
        intro ls u280 σ281 α282 hm g274 g275 g276 g277 g278 g279 hf287 hI283 hF284 hk285 hk286
        refine qr_iload 15 rfl g279 rfl ?_
        refine qr_aload_n 16 rfl g274 rfl ?_
        refine qr_get 19 rfl rfl rfl (by decide) rfl ?_
        refine qy_v (σ 86 43) ((hk286).trans rfl) ?_
        refine qr_icmp_ge 81 22 rfl rfl rfl (qrg hf287 (by decide) (by decide)) (qrg hz86_43 (by decide) (by decide)) (fun h290 => ?_) (fun h290 => ?_)
        · skip
          refine qr_iconst 82 rfl rfl ?_
          refine qr_retZ rfl rfl (Or.inl rfl) (by decide) (by decide) ?_
          exact ⟨_, _, rfl, hI283, hF284, 0, rfl, (by decide)⟩
        · skip
          refine qr_iload_n 23 rfl g276 rfl ?_
          refine qr_iload 25 rfl g279 rfl ?_
          refine qr_ishr 26 rfl rfl ?_
          refine qy_can (fun v291 hv291 => ?_)
          refine qr_iconst 27 rfl rfl ?_
          refine qr_iand 28 rfl rfl ?_
          refine qy_andr (by omega) (fun v292 hv292 => ?_)
          refine qr_iconst 29 rfl rfl ?_
          refine qr_icmp_ne 35 32 rfl rfl rfl (by omega) (by decide) (fun h293 => ?_) (fun h293 => ?_)
          · skip
            refine qr_aload_n 36 rfl g274 rfl ?_
            refine qr_get 39 rfl rfl rfl (by decide) rfl ?_
            refine qr_iload_n 40 rfl g275 rfl ?_
            refine qr_iload 42 rfl g279 rfl ?_
            refine qr_iastore 43 rfl (by decide) rfl (by decide) (by decide) rfl ?_
            refine qy_wA (qw_r α282 114 (qzu (α282 114) (4 : Int).toNat u280)) rfl (fun α294 e295 => ?_)
            have hI296 : qI σ281 α294 κ ρ := by rw [e295]; exact qI_r hI283 114 _ rfl (show 0 ≤ u280 ∧ u280 ≤ 5 by omega)
            have hF297 : qFr [(86, 15), (86, 23), (86, 30)] [96, 114] σ α σ281 α294 := by rw [e295]; exact qFr_r hF284 114 _ (by decide)
            refine qr_aload_n 44 rfl g274 rfl ?_
            refine qr_iload_n 45 rfl g275 rfl ?_
            refine qr_iload_n 46 rfl g277 rfl ?_
            refine qr_iload 48 rfl g278 rfl ?_
            have hs298 : 0 ≤ σ281 86 43 ∧ σ281 86 43 ≤ 32 := hI296.1 86 43
            have hs299 : σ281 86 43 = (σ 86 43) := (hk286).trans rfl
            have hs300 : 0 ≤ σ281 86 6 ∧ σ281 86 6 ≤ 32 := hI296.1 86 6
            have hs301 : σ281 86 6 = (σ 86 6) := (hk285).trans rfl
            refine qr_callN 51 rfl rfl rfl (sf_244_86 (d := d + 1) hI296 (by decide) r3 (qrg r4 (by decide) (by decide)) (by omega) (by omega)) ?_
            rintro _ _ ⟨σ303, α304, rfl, hI305, hG306, v302, rfl, hv302⟩
            have hF307 : qFr [(86, 15), (86, 23), (86, 30)] [96, 114] σ α σ303 α304 := qFr_t hF297 hG306 (by decide) (by decide)
            show qr_W (qe L xs vb) (d + 7) qx_e243 _ (51, _, [.int (qz v302)], qw σ303 α304 κ ρ, 0, 0)
            refine qr_if_ne 75 54 rfl rfl rfl (qrg hv302 (by decide) (by decide)) (fun h308 => ?_) (fun h308 => ?_)
            · skip
              refine qr_iinc _ 78 rfl g279 (by decide) rfl rfl ?_
              refine qr_goto 13 rfl rfl ?_
              exact ih289 _ (u280 + 1) σ303 α304 (by omega) (qm_gk g274 (by decide) (Or.inl (by decide))) (qm_gk g275 (by decide) (Or.inl (by decide))) (qm_gk g276 (by decide) (Or.inl (by decide))) (qm_gk g277 (by decide) (Or.inl (by decide))) (qm_gk g278 (by decide) (Or.inr rfl)) (qm_ge _ _ _) (by omega) hI305 hF307 ((hG306.1 86 6 (by decide)).trans ((hk285).trans rfl)) ((hG306.1 86 43 (by decide)).trans ((hk286).trans rfl))
            · skip
              refine qr_aload_n 55 rfl g274 rfl ?_
              refine qr_iload_n 56 rfl g275 rfl ?_
              refine qr_iconst 57 rfl rfl ?_
              refine qr_iadd 58 rfl rfl ?_
              refine qy_v 5 rfl ?_
              refine qr_iload_n 59 rfl g276 rfl ?_
              refine qr_iconst 60 rfl rfl ?_
              refine qr_iload 62 rfl g279 rfl ?_
              refine qr_ishl 63 rfl rfl ?_
              refine qy_shl1 (N := 5) (by omega) (fun v309 hv309 => ?_)
              refine qr_ior 64 rfl rfl ?_
              refine qy_can (fun v310 hv310 => ?_)
              refine qr_iload_n 65 rfl g277 rfl ?_
              refine qr_iload 67 rfl g278 rfl ?_
              have hs311 : 0 ≤ σ303 86 43 ∧ σ303 86 43 ≤ 32 := hI305.1 86 43
              have hs312 : σ303 86 43 = (σ 86 43) := (hG306.1 86 43 (by decide)).trans ((hk286).trans rfl)
              have hs313 : 0 ≤ σ303 86 6 ∧ σ303 86 6 ≤ 32 := hI305.1 86 6
              have hs314 : σ303 86 6 = (σ 86 6) := (hG306.1 86 6 (by decide)).trans ((hk285).trans rfl)
              refine qr_callN 70 rfl rfl rfl (sf_243_86t5 (d := d + 0) hI305 hv310 r3 r4 (by omega) (by omega) (by omega)) ?_
              rintro _ _ ⟨σ316, α317, rfl, hI318, hG319, v315, rfl, hv315⟩
              have hF320 : qFr [(86, 15), (86, 23), (86, 30)] [96, 114] σ α σ316 α317 := qFr_t hF307 hG319 (by decide) (by decide)
              show qr_W (qe L xs vb) (d + 7) qx_e243 _ (70, _, [.int (qz v315)], qw σ316 α317 κ ρ, 0, 0)
              refine qr_if_eq 75 73 rfl rfl rfl (qrg hv315 (by decide) (by decide)) (fun h321 => ?_) (fun h321 => ?_)
              · skip
                refine qr_iinc _ 78 rfl g279 (by decide) rfl rfl ?_
                refine qr_goto 13 rfl rfl ?_
                exact ih289 _ (u280 + 1) σ316 α317 (by omega) (qm_gk g274 (by decide) (Or.inl (by decide))) (qm_gk g275 (by decide) (Or.inl (by decide))) (qm_gk g276 (by decide) (Or.inl (by decide))) (qm_gk g277 (by decide) (Or.inl (by decide))) (qm_gk g278 (by decide) (Or.inr rfl)) (qm_ge _ _ _) (by omega) hI318 hF320 ((hG319.1 86 6 (by decide)).trans ((hG306.1 86 6 (by decide)).trans ((hk285).trans rfl))) ((hG319.1 86 43 (by decide)).trans ((hG306.1 86 43 (by decide)).trans ((hk286).trans rfl)))
              · skip
                refine qr_iconst 74 rfl rfl ?_
                refine qr_retZ rfl rfl (Or.inr rfl) (by decide) (by decide) ?_
                exact ⟨_, _, rfl, hI318, hF320, 1, rfl, (by decide)⟩
          · skip
            refine qr_goto 75 rfl rfl ?_
            refine qr_iinc _ 78 rfl g279 (by decide) rfl rfl ?_
            refine qr_goto 13 rfl rfl ?_
            exact ih289 _ (u280 + 1) σ281 α282 (by omega) (qm_gk g274 (by decide) (Or.inl (by decide))) (qm_gk g275 (by decide) (Or.inl (by decide))) (qm_gk g276 (by decide) (Or.inl (by decide))) (qm_gk g277 (by decide) (Or.inl (by decide))) (qm_gk g278 (by decide) (Or.inr rfl)) (qm_ge _ _ _) (by omega) hI283 hF284 ((hk285).trans rfl) ((hk286).trans rfl)
    exact hL288 ((6 - 0 + 1 : Int)).toNat _ 0 σ α (by omega) rfl rfl rfl rfl rfl rfl (by decide) hI hF0 (rfl) (rfl)
  · skip
    refine qr_iconst 9 rfl rfl ?_
    refine qr_retZ rfl rfl (Or.inr rfl) (by decide) (by decide) ?_
    exact ⟨_, _, rfl, hI, hF0, 1, rfl, (by decide)⟩
end
section
set_option maxHeartbeats 4000000 in
set_option maxRecDepth 20000 in
/-- OneRoofModel.orders -/
theorem sf_243_86t3 {L : Nat} {xs : Nat → Int} {vb : Bool} {d : Nat} {σ α : Nat → Nat → Int} {κ : Nat → Option Nat} {ρ : Nat} {x2 : Int} {x3 : Int} {x4 : Int} (hI : qI σ α κ ρ) (r2 : (-2147483648) ≤ x2 ∧ x2 ≤ 2147483647) (r3 : (-2147483648) ≤ x3 ∧ x3 ≤ 2147483647) (r4 : 100 ≤ x4 ∧ x4 ≤ 2499) (p0 : 1 ≤ σ 86 6) (p1 : σ 86 43 ≤ 6) (p2 : 3 ≤ σ 86 43) : qm_T (qe L xs vb) (d + 9) 243 [.ref 86, .int (qz 3), .int (qz x2), .int (qz x3), .int (qz x4)] (qw σ α κ ρ) (fun r w' => ∃ σ' α', w' = qw σ' α' κ ρ ∧ qI σ' α' κ ρ ∧ qFr [(86, 15), (86, 23), (86, 30)] [96, 114] σ α σ' α' ∧ ∃ v : Int, r = some (.int (qz v)) ∧ (0 ≤ v ∧ v ≤ 1)) := by
  refine qr_start (d := d + 8) qv_e243 (Nat.le_of_ble_eq_true rfl) ?_
  show qr_W (qe L xs vb) (d + 8) qx_e243 _ (0, [(0, .ref 86), (1, .int (qz 3)), (2, .int (qz x2)), (3, .int (qz x3)), (4, .int (qz x4))], [], _, 0, 0)
  have hF0 := qFr_rf [(86, 15), (86, 23), (86, 30)] [96, 114] σ α
  have hz86_6 : 0 ≤ σ 86 6 ∧ σ 86 6 ≤ 32 := hI.1 86 6
  have hz86_43 : 0 ≤ σ 86 43 ∧ σ 86 43 ≤ 32 := hI.1 86 43
  refine qr_iload_n 1 rfl rfl rfl ?_
  refine qr_aload_n 2 rfl rfl rfl ?_
  refine qr_get 5 rfl rfl rfl (by decide) rfl ?_
  refine qr_icmp_ne 10 8 rfl rfl rfl (by decide) (qrg hz86_43 (by decide) (by decide)) (fun h1 => ?_) (fun h1 => ?_)
  · skip
    refine qr_iconst 11 rfl rfl ?_
    refine qr_istore _ 13 rfl (by decide) rfl rfl ?_
    have hL288 : ∀ (n : Nat) (ls : qm_L) (u280 : Int) (σ281 α282 : Nat → Nat → Int), 6 - u280 < (n : Int) → qm_get ls 0 = some (.ref 86) → qm_get ls 1 = some (.int (qz 3)) → qm_get ls 2 = some (.int (qz x2)) → qm_get ls 3 = some (.int (qz x3)) → qm_get ls 4 = some (.int (qz x4)) → qm_get ls 5 = some (.int (qz u280)) → (0 ≤ u280 ∧ u280 ≤ 6) → qI σ281 α282 κ ρ → qFr [(86, 15), (86, 23), (86, 30)] [96, 114] σ α σ281 α282 → σ281 86 6 = (σ 86 6) → σ281 86 43 = (σ 86 43) → qr_W (qe L xs vb) (d + 8) qx_e243 (fun r w' => ∃ σ' α', w' = qw σ' α' κ ρ ∧ qI σ' α' κ ρ ∧ qFr [(86, 15), (86, 23), (86, 30)] [96, 114] σ α σ' α' ∧ ∃ v : Int, r = some (.int (qz v)) ∧ (0 ≤ v ∧ v ≤ 1)) (13, ls, [], qw σ281 α282 κ ρ, 0, 0) := by
      intro n
      induction n with
      | zero => intro ls u280 σ281 α282 hm g274 g275 g276 g277 g278 g279 hf287 hI283 hF284 hk285 hk286; exact False.elim (by omega)
      | succ n ih289 =>
        intro ls u280 σ281 α282 hm g274 g275 g276 g277 g278 g279 hf287 hI283 hF284 hk285 hk286
        refine qr_iload 15 rfl g279 rfl ?_
        refine qr_aload_n 16 rfl g274 rfl ?_
        refine qr_get 19 rfl rfl rfl (by decide) rfl ?_
        refine qy_v (σ 86 43) ((hk286).trans rfl) ?_
        refine qr_icmp_ge 81 22 rfl rfl rfl (qrg hf287 (by decide) (by decide)) (qrg hz86_43 (by decide) (by decide)) (fun h290 => ?_) (fun h290 => ?_)
        · skip
          refine qr_iconst 82 rfl rfl ?_
          refine qr_retZ rfl rfl (Or.inl rfl) (by decide) (by decide) ?_
          exact ⟨_, _, rfl, hI283, hF284, 0, rfl, (by decide)⟩
        · skip
          refine qr_iload_n 23 rfl g276 rfl ?_
          refine qr_iload 25 rfl g279 rfl ?_
          refine qr_ishr 26 rfl rfl ?_
          refine qy_can (fun v291 hv291 => ?_)
          refine qr_iconst 27 rfl rfl ?_
          refine qr_iand 28 rfl rfl ?_
          refine qy_andr (by omega) (fun v292 hv292 => ?_)
          refine qr_iconst 29 rfl rfl ?_
          refine qr_icmp_ne 35 32 rfl rfl rfl (by omega) (by decide) (fun h293 => ?_) (fun h293 => ?_)
          · skip
            refine qr_aload_n 36 rfl g274 rfl ?_
            refine qr_get 39 rfl rfl rfl (by decide) rfl ?_
            refine qr_iload_n 40 rfl g275 rfl ?_
            refine qr_iload 42 rfl g279 rfl ?_
            refine qr_iastore 43 rfl (by decide) rfl (by decide) (by decide) rfl ?_
            refine qy_wA (qw_r α282 114 (qzu (α282 114) (3 : Int).toNat u280)) rfl (fun α294 e295 => ?_)
            have hI296 : qI σ281 α294 κ ρ := by rw [e295]; exact qI_r hI283 114 _ rfl (show 0 ≤ u280 ∧ u280 ≤ 5 by omega)
            have hF297 : qFr [(86, 15), (86, 23), (86, 30)] [96, 114] σ α σ281 α294 := by rw [e295]; exact qFr_r hF284 114 _ (by decide)
            refine qr_aload_n 44 rfl g274 rfl ?_
            refine qr_iload_n 45 rfl g275 rfl ?_
            refine qr_iload_n 46 rfl g277 rfl ?_
            refine qr_iload 48 rfl g278 rfl ?_
            have hs298 : 0 ≤ σ281 86 43 ∧ σ281 86 43 ≤ 32 := hI296.1 86 43
            have hs299 : σ281 86 43 = (σ 86 43) := (hk286).trans rfl
            have hs300 : 0 ≤ σ281 86 6 ∧ σ281 86 6 ≤ 32 := hI296.1 86 6
            have hs301 : σ281 86 6 = (σ 86 6) := (hk285).trans rfl
            refine qr_callN 51 rfl rfl rfl (sf_244_86 (d := d + 2) hI296 (by decide) r3 (qrg r4 (by decide) (by decide)) (by omega) (by omega)) ?_
            rintro _ _ ⟨σ303, α304, rfl, hI305, hG306, v302, rfl, hv302⟩
            have hF307 : qFr [(86, 15), (86, 23), (86, 30)] [96, 114] σ α σ303 α304 := qFr_t hF297 hG306 (by decide) (by decide)
            show qr_W (qe L xs vb) (d + 8) qx_e243 _ (51, _, [.int (qz v302)], qw σ303 α304 κ ρ, 0, 0)
            refine qr_if_ne 75 54 rfl rfl rfl (qrg hv302 (by decide) (by decide)) (fun h308 => ?_) (fun h308 => ?_)
            · skip
              refine qr_iinc _ 78 rfl g279 (by decide) rfl rfl ?_
              refine qr_goto 13 rfl rfl ?_
              exact ih289 _ (u280 + 1) σ303 α304 (by omega) (qm_gk g274 (by decide) (Or.inl (by decide))) (qm_gk g275 (by decide) (Or.inl (by decide))) (qm_gk g276 (by decide) (Or.inl (by decide))) (qm_gk g277 (by decide) (Or.inl (by decide))) (qm_gk g278 (by decide) (Or.inr rfl)) (qm_ge _ _ _) (by omega) hI305 hF307 ((hG306.1 86 6 (by decide)).trans ((hk285).trans rfl)) ((hG306.1 86 43 (by decide)).trans ((hk286).trans rfl))
            · skip
              refine qr_aload_n 55 rfl g274 rfl ?_
              refine qr_iload_n 56 rfl g275 rfl ?_
              refine qr_iconst 57 rfl rfl ?_
              refine qr_iadd 58 rfl rfl ?_
              refine qy_v 4 rfl ?_
              refine qr_iload_n 59 rfl g276 rfl ?_
              refine qr_iconst 60 rfl rfl ?_
              refine qr_iload 62 rfl g279 rfl ?_
              refine qr_ishl 63 rfl rfl ?_
              refine qy_shl1 (N := 5) (by omega) (fun v309 hv309 => ?_)
              refine qr_ior 64 rfl rfl ?_
              refine qy_can (fun v310 hv310 => ?_)
              refine qr_iload_n 65 rfl g277 rfl ?_
              refine qr_iload 67 rfl g278 rfl ?_
              have hs311 : 0 ≤ σ303 86 43 ∧ σ303 86 43 ≤ 32 := hI305.1 86 43
              have hs312 : σ303 86 43 = (σ 86 43) := (hG306.1 86 43 (by decide)).trans ((hk286).trans rfl)
              have hs313 : 0 ≤ σ303 86 6 ∧ σ303 86 6 ≤ 32 := hI305.1 86 6
              have hs314 : σ303 86 6 = (σ 86 6) := (hG306.1 86 6 (by decide)).trans ((hk285).trans rfl)
              refine qr_callN 70 rfl rfl rfl (sf_243_86t4 (d := d + 0) hI305 hv310 r3 r4 (by omega) (by omega) (by omega)) ?_
              rintro _ _ ⟨σ316, α317, rfl, hI318, hG319, v315, rfl, hv315⟩
              have hF320 : qFr [(86, 15), (86, 23), (86, 30)] [96, 114] σ α σ316 α317 := qFr_t hF307 hG319 (by decide) (by decide)
              show qr_W (qe L xs vb) (d + 8) qx_e243 _ (70, _, [.int (qz v315)], qw σ316 α317 κ ρ, 0, 0)
              refine qr_if_eq 75 73 rfl rfl rfl (qrg hv315 (by decide) (by decide)) (fun h321 => ?_) (fun h321 => ?_)
              · skip
                refine qr_iinc _ 78 rfl g279 (by decide) rfl rfl ?_
                refine qr_goto 13 rfl rfl ?_
                exact ih289 _ (u280 + 1) σ316 α317 (by omega) (qm_gk g274 (by decide) (Or.inl (by decide))) (qm_gk g275 (by decide) (Or.inl (by decide))) (qm_gk g276 (by decide) (Or.inl (by decide))) (qm_gk g277 (by decide) (Or.inl (by decide))) (qm_gk g278 (by decide) (Or.inr rfl)) (qm_ge _ _ _) (by omega) hI318 hF320 ((hG319.1 86 6 (by decide)).trans ((hG306.1 86 6 (by decide)).trans ((hk285).trans rfl))) ((hG319.1 86 43 (by decide)).trans ((hG306.1 86 43 (by decide)).trans ((hk286).trans rfl)))
              · skip
                refine qr_iconst 74 rfl rfl ?_
                refine qr_retZ rfl rfl (Or.inr rfl) (by decide) (by decide) ?_
                exact ⟨_, _, rfl, hI318, hF320, 1, rfl, (by decide)⟩
          · skip
            refine qr_goto 75 rfl rfl ?_
            refine qr_iinc _ 78 rfl g279 (by decide) rfl rfl ?_
            refine qr_goto 13 rfl rfl ?_
            exact ih289 _ (u280 + 1) σ281 α282 (by omega) (qm_gk g274 (by decide) (Or.inl (by decide))) (qm_gk g275 (by decide) (Or.inl (by decide))) (qm_gk g276 (by decide) (Or.inl (by decide))) (qm_gk g277 (by decide) (Or.inl (by decide))) (qm_gk g278 (by decide) (Or.inr rfl)) (qm_ge _ _ _) (by omega) hI283 hF284 ((hk285).trans rfl) ((hk286).trans rfl)
    exact hL288 ((6 - 0 + 1 : Int)).toNat _ 0 σ α (by omega) rfl rfl rfl rfl rfl rfl (by decide) hI hF0 (rfl) (rfl)
  · skip
    refine qr_iconst 9 rfl rfl ?_
    refine qr_retZ rfl rfl (Or.inr rfl) (by decide) (by decide) ?_
    exact ⟨_, _, rfl, hI, hF0, 1, rfl, (by decide)⟩

set_option maxHeartbeats 4000000 in
set_option maxRecDepth 20000 in
/-- OneRoofModel.orders -/
theorem sf_243_86t2 {L : Nat} {xs : Nat → Int} {vb : Bool} {d : Nat} {σ α : Nat → Nat → Int} {κ : Nat → Option Nat} {ρ : Nat} {x2 : Int} {x3 : Int} {x4 : Int} (hI : qI σ α κ ρ) (r2 : (-2147483648) ≤ x2 ∧ x2 ≤ 2147483647) (r3 : (-2147483648) ≤ x3 ∧ x3 ≤ 2147483647) (r4 : 100 ≤ x4 ∧ x4 ≤ 2499) (p0 : 1 ≤ σ 86 6) (p1 : σ 86 43 ≤ 6) (p2 : 2 ≤ σ 86 43) : qm_T (qe L xs vb) (d + 10) 243 [.ref 86, .int (qz 2), .int (qz x2), .int (qz x3), .int (qz x4)] (qw σ α κ ρ) (fun r w' => ∃ σ' α', w' = qw σ' α' κ ρ ∧ qI σ' α' κ ρ ∧ qFr [(86, 15), (86, 23), (86, 30)] [96, 114] σ α σ' α' ∧ ∃ v : Int, r = some (.int (qz v)) ∧ (0 ≤ v ∧ v ≤ 1)) := by
  refine qr_start (d := d + 9) qv_e243 (Nat.le_of_ble_eq_true rfl) ?_
  show qr_W (qe L xs vb) (d + 9) qx_e243 _ (0, [(0, .ref 86), (1, .int (qz 2)), (2, .int (qz x2)), (3, .int (qz x3)), (4, .int (qz x4))], [], _, 0, 0)
  have hF0 := qFr_rf [(86, 15), (86, 23), (86, 30)] [96, 114] σ α
  have hz86_6 : 0 ≤ σ 86 6 ∧ σ 86 6 ≤ 32 := hI.1 86 6
  have hz86_43 : 0 ≤ σ 86 43 ∧ σ 86 43 ≤ 32 := hI.1 86 43
  refine qr_iload_n 1 rfl rfl rfl ?_
  refine qr_aload_n 2 rfl rfl rfl ?_
  refine qr_get 5 rfl rfl rfl (by decide) rfl ?_
  refine qr_icmp_ne 10 8 rfl rfl rfl (by decide) (qrg hz86_43 (by decide) (by decide)) (fun h1 => ?_) (fun h1 => ?_)
  · skip
    refine qr_iconst 11 rfl rfl ?_
    refine qr_istore _ 13 rfl (by decide) rfl rfl ?_
    have hL288 : ∀ (n : Nat) (ls : qm_L) (u280 : Int) (σ281 α282 : Nat → Nat → Int), 6 - u280 < (n : Int) → qm_get ls 0 = some (.ref 86) → qm_get ls 1 = some (.int (qz 2)) → qm_get ls 2 = some (.int (qz x2)) → qm_get ls 3 = some (.int (qz x3)) → qm_get ls 4 = some (.int (qz x4)) → qm_get ls 5 = some (.int (qz u280)) → (0 ≤ u280 ∧ u280 ≤ 6) → qI σ281 α282 κ ρ → qFr [(86, 15), (86, 23), (86, 30)] [96, 114] σ α σ281 α282 → σ281 86 6 = (σ 86 6) → σ281 86 43 = (σ 86 43) → qr_W (qe L xs vb) (d + 9) qx_e243 (fun r w' => ∃ σ' α', w' = qw σ' α' κ ρ ∧ qI σ' α' κ ρ ∧ qFr [(86, 15), (86, 23), (86, 30)] [96, 114] σ α σ' α' ∧ ∃ v : Int, r = some (.int (qz v)) ∧ (0 ≤ v ∧ v ≤ 1)) (13, ls, [], qw σ281 α282 κ ρ, 0, 0) := by
      intro n
      induction n with
      | zero => intro ls u280 σ281 α282 hm g274 g275 g276 g277 g278 g279 hf287 hI283 hF284 hk285 hk286; exact False.elim (by omega)
      | succ n ih289 =>
        intro ls u280 σ281 α282 hm g274 g275 g276 g277 g278 g279 hf287 hI283 hF284 hk285 hk286
        refine qr_iload 15 rfl g279 rfl ?_
        refine qr_aload_n 16 rfl g274 rfl ?_
        refine qr_get 19 rfl rfl rfl (by decide) rfl ?_
        refine qy_v (σ 86 43) ((hk286).trans rfl) ?_
        refine qr_icmp_ge 81 22 rfl rfl rfl (qrg hf287 (by decide) (by decide)) (qrg hz86_43 (by decide) (by decide)) (fun h290 => ?_) (fun h290 => ?_)
        · skip
          refine qr_iconst 82 rfl rfl ?_
          refine qr_retZ rfl rfl (Or.inl rfl) (by decide) (by decide) ?_
          exact ⟨_, _, rfl, hI283, hF284, 0, rfl, (by decide)⟩
        · skip
          refine qr_iload_n 23 rfl g276 rfl ?_
          refine qr_iload 25 rfl g279 rfl ?_
          refine qr_ishr 26 rfl rfl ?_
          refine qy_can (fun v291 hv291 => ?_)
          refine qr_iconst 27 rfl rfl ?_
          refine qr_iand 28 rfl rfl ?_
          refine qy_andr (by omega) (fun v292 hv292 => ?_)
          refine qr_iconst 29 rfl rfl ?_
          refine qr_icmp_ne 35 32 rfl rfl rfl (by omega) (by decide) (fun h293 => ?_) (fun h293 => ?_)
          · skip
            refine qr_aload_n 36 rfl g274 rfl ?_
            refine qr_get 39 rfl rfl rfl (by decide) rfl ?_
            refine qr_iload_n 40 rfl g275 rfl ?_
            refine qr_iload 42 rfl g279 rfl ?_
            refine qr_iastore 43 rfl (by decide) rfl (by decide) (by decide) rfl ?_
            refine qy_wA (qw_r α282 114 (qzu (α282 114) (2 : Int).toNat u280)) rfl (fun α294 e295 => ?_)
            have hI296 : qI σ281 α294 κ ρ := by rw [e295]; exact qI_r hI283 114 _ rfl (show 0 ≤ u280 ∧ u280 ≤ 5 by omega)
            have hF297 : qFr [(86, 15), (86, 23), (86, 30)] [96, 114] σ α σ281 α294 := by rw [e295]; exact qFr_r hF284 114 _ (by decide)
            refine qr_aload_n 44 rfl g274 rfl ?_
            refine qr_iload_n 45 rfl g275 rfl ?_
            refine qr_iload_n 46 rfl g277 rfl ?_
            refine qr_iload 48 rfl g278 rfl ?_
            have hs298 : 0 ≤ σ281 86 43 ∧ σ281 86 43 ≤ 32 := hI296.1 86 43
            have hs299 : σ281 86 43 = (σ 86 43) := (hk286).trans rfl
            have hs300 : 0 ≤ σ281 86 6 ∧ σ281 86 6 ≤ 32 := hI296.1 86 6
            have hs301 : σ281 86 6 = (σ 86 6) := (hk285).trans rfl
            refine qr_callN 51 rfl rfl rfl (sf_244_86 (d := d + 3) hI296 (by decide) r3 (qrg r4 (by decide) (by decide)) (by omega) (by omega)) ?_
            rintro _ _ ⟨σ303, α304, rfl, hI305, hG306, v302, rfl, hv302⟩
            have hF307 : qFr [(86, 15), (86, 23), (86, 30)] [96, 114] σ α σ303 α304 := qFr_t hF297 hG306 (by decide) (by decide)
            show qr_W (qe L xs vb) (d + 9) qx_e243 _ (51, _, [.int (qz v302)], qw σ303 α304 κ ρ, 0, 0)
            refine qr_if_ne 75 54 rfl rfl rfl (qrg hv302 (by decide) (by decide)) (fun h308 => ?_) (fun h308 => ?_)
            · skip
              refine qr_iinc _ 78 rfl g279 (by decide) rfl rfl ?_
              refine qr_goto 13 rfl rfl ?_
              exact ih289 _ (u280 + 1) σ303 α304 (by omega) (qm_gk g274 (by decide) (Or.inl (by decide))) (qm_gk g275 (by decide) (Or.inl (by decide))) (qm_gk g276 (by decide) (Or.inl (by decide))) (qm_gk g277 (by decide) (Or.inl (by decide))) (qm_gk g278 (by decide) (Or.inr rfl)) (qm_ge _ _ _) (by omega) hI305 hF307 ((hG306.1 86 6 (by decide)).trans ((hk285).trans rfl)) ((hG306.1 86 43 (by decide)).trans ((hk286).trans rfl))
            · skip
              refine qr_aload_n 55 rfl g274 rfl ?_
              refine qr_iload_n 56 rfl g275 rfl ?_
              refine qr_iconst 57 rfl rfl ?_
              refine qr_iadd 58 rfl rfl ?_
              refine qy_v 3 rfl ?_
              refine qr_iload_n 59 rfl g276 rfl ?_
              refine qr_iconst 60 rfl rfl ?_
              refine qr_iload 62 rfl g279 rfl ?_
              refine qr_ishl 63 rfl rfl ?_
              refine qy_shl1 (N := 5) (by omega) (fun v309 hv309 => ?_)
              refine qr_ior 64 rfl rfl ?_
              refine qy_can (fun v310 hv310 => ?_)
              refine qr_iload_n 65 rfl g277 rfl ?_
              refine qr_iload 67 rfl g278 rfl ?_
              have hs311 : 0 ≤ σ303 86 43 ∧ σ303 86 43 ≤ 32 := hI305.1 86 43
              have hs312 : σ303 86 43 = (σ 86 43) := (hG306.1 86 43 (by decide)).trans ((hk286).trans rfl)
              have hs313 : 0 ≤ σ303 86 6 ∧ σ303 86 6 ≤ 32 := hI305.1 86 6
              have hs314 : σ303 86 6 = (σ 86 6) := (hG306.1 86 6 (by decide)).trans ((hk285).trans rfl)
              refine qr_callN 70 rfl rfl rfl (sf_243_86t3 (d := d + 0) hI305 hv310 r3 r4 (by omega) (by omega) (by omega)) ?_
              rintro _ _ ⟨σ316, α317, rfl, hI318, hG319, v315, rfl, hv315⟩
              have hF320 : qFr [(86, 15), (86, 23), (86, 30)] [96, 114] σ α σ316 α317 := qFr_t hF307 hG319 (by decide) (by decide)
              show qr_W (qe L xs vb) (d + 9) qx_e243 _ (70, _, [.int (qz v315)], qw σ316 α317 κ ρ, 0, 0)
              refine qr_if_eq 75 73 rfl rfl rfl (qrg hv315 (by decide) (by decide)) (fun h321 => ?_) (fun h321 => ?_)
              · skip
                refine qr_iinc _ 78 rfl g279 (by decide) rfl rfl ?_
                refine qr_goto 13 rfl rfl ?_
                exact ih289 _ (u280 + 1) σ316 α317 (by omega) (qm_gk g274 (by decide) (Or.inl (by decide))) (qm_gk g275 (by decide) (Or.inl (by decide))) (qm_gk g276 (by decide) (Or.inl (by decide))) (qm_gk g277 (by decide) (Or.inl (by decide))) (qm_gk g278 (by decide) (Or.inr rfl)) (qm_ge _ _ _) (by omega) hI318 hF320 ((hG319.1 86 6 (by decide)).trans ((hG306.1 86 6 (by decide)).trans ((hk285).trans rfl))) ((hG319.1 86 43 (by decide)).trans ((hG306.1 86 43 (by decide)).trans ((hk286).trans rfl)))
              · skip
                refine qr_iconst 74 rfl rfl ?_
                refine qr_retZ rfl rfl (Or.inr rfl) (by decide) (by decide) ?_
                exact ⟨_, _, rfl, hI318, hF320, 1, rfl, (by decide)⟩
          · skip
            refine qr_goto 75 rfl rfl ?_
            refine qr_iinc _ 78 rfl g279 (by decide) rfl rfl ?_
            refine qr_goto 13 rfl rfl ?_
            exact ih289 _ (u280 + 1) σ281 α282 (by omega) (qm_gk g274 (by decide) (Or.inl (by decide))) (qm_gk g275 (by decide) (Or.inl (by decide))) (qm_gk g276 (by decide) (Or.inl (by decide))) (qm_gk g277 (by decide) (Or.inl (by decide))) (qm_gk g278 (by decide) (Or.inr rfl)) (qm_ge _ _ _) (by omega) hI283 hF284 ((hk285).trans rfl) ((hk286).trans rfl)
    exact hL288 ((6 - 0 + 1 : Int)).toNat _ 0 σ α (by omega) rfl rfl rfl rfl rfl rfl (by decide) hI hF0 (rfl) (rfl)
  · skip
    refine qr_iconst 9 rfl rfl ?_
    refine qr_retZ rfl rfl (Or.inr rfl) (by decide) (by decide) ?_
    exact ⟨_, _, rfl, hI, hF0, 1, rfl, (by decide)⟩

set_option maxHeartbeats 4000000 in
set_option maxRecDepth 20000 in
/-- OneRoofModel.orders -/
theorem sf_243_86t1 {L : Nat} {xs : Nat → Int} {vb : Bool} {d : Nat} {σ α : Nat → Nat → Int} {κ : Nat → Option Nat} {ρ : Nat} {x2 : Int} {x3 : Int} {x4 : Int} (hI : qI σ α κ ρ) (r2 : (-2147483648) ≤ x2 ∧ x2 ≤ 2147483647) (r3 : (-2147483648) ≤ x3 ∧ x3 ≤ 2147483647) (r4 : 100 ≤ x4 ∧ x4 ≤ 2499) (p0 : 1 ≤ σ 86 6) (p1 : σ 86 43 ≤ 6) (p2 : 1 ≤ σ 86 43) : qm_T (qe L xs vb) (d + 11) 243 [.ref 86, .int (qz 1), .int (qz x2), .int (qz x3), .int (qz x4)] (qw σ α κ ρ) (fun r w' => ∃ σ' α', w' = qw σ' α' κ ρ ∧ qI σ' α' κ ρ ∧ qFr [(86, 15), (86, 23), (86, 30)] [96, 114] σ α σ' α' ∧ ∃ v : Int, r = some (.int (qz v)) ∧ (0 ≤ v ∧ v ≤ 1)) := by
  refine qr_start (d := d + 10) qv_e243 (Nat.le_of_ble_eq_true rfl) ?_
  show qr_W (qe L xs vb) (d + 10) qx_e243 _ (0, [(0, .ref 86), (1, .int (qz 1)), (2, .int (qz x2)), (3, .int (qz x3)), (4, .int (qz x4))], [], _, 0, 0)
  have hF0 := qFr_rf [(86, 15), (86, 23), (86, 30)] [96, 114] σ α
  have hz86_6 : 0 ≤ σ 86 6 ∧ σ 86 6 ≤ 32 := hI.1 86 6
  have hz86_43 : 0 ≤ σ 86 43 ∧ σ 86 43 ≤ 32 := hI.1 86 43
  refine qr_iload_n 1 rfl rfl rfl ?_
  refine qr_aload_n 2 rfl rfl rfl ?_
  refine qr_get 5 rfl rfl rfl (by decide) rfl ?_
  refine qr_icmp_ne 10 8 rfl rfl rfl (by decide) (qrg hz86_43 (by decide) (by decide)) (fun h1 => ?_) (fun h1 => ?_)
  · skip
    refine qr_iconst 11 rfl rfl ?_
    refine qr_istore _ 13 rfl (by decide) rfl rfl ?_
    have hL288 : ∀ (n : Nat) (ls : qm_L) (u280 : Int) (σ281 α282 : Nat → Nat → Int), 6 - u280 < (n : Int) → qm_get ls 0 = some (.ref 86) → qm_get ls 1 = some (.int (qz 1)) → qm_get ls 2 = some (.int (qz x2)) → qm_get ls 3 = some (.int (qz x3)) → qm_get ls 4 = some (.int (qz x4)) → qm_get ls 5 = some (.int (qz u280)) → (0 ≤ u280 ∧ u280 ≤ 6) → qI σ281 α282 κ ρ → qFr [(86, 15), (86, 23), (86, 30)] [96, 114] σ α σ281 α282 → σ281 86 6 = (σ 86 6) → σ281 86 43 = (σ 86 43) → qr_W (qe L xs vb) (d + 10) qx_e243 (fun r w' => ∃ σ' α', w' = qw σ' α' κ ρ ∧ qI σ' α' κ ρ ∧ qFr [(86, 15), (86, 23), (86, 30)] [96, 114] σ α σ' α' ∧ ∃ v : Int, r = some (.int (qz v)) ∧ (0 ≤ v ∧ v ≤ 1)) (13, ls, [], qw σ281 α282 κ ρ, 0, 0) := by
      intro n
      induction n with
      | zero => intro ls u280 σ281 α282 hm g274 g275 g276 g277 g278 g279 hf287 hI283 hF284 hk285 hk286; exact False.elim (by omega)
      | succ n ih289 =>
        intro ls u280 σ281 α282 hm g274 g275 g276 g277 g278 g279 hf287 hI283 hF284 hk285 hk286
        refine qr_iload 15 rfl g279 rfl ?_
        refine qr_aload_n 16 rfl g274 rfl ?_
        refine qr_get 19 rfl rfl rfl (by decide) rfl ?_
        refine qy_v (σ 86 43) ((hk286).trans rfl) ?_
        refine qr_icmp_ge 81 22 rfl rfl rfl (qrg hf287 (by decide) (by decide)) (qrg hz86_43 (by decide) (by decide)) (fun h290 => ?_) (fun h290 => ?_)
        · skip
          refine qr_iconst 82 rfl rfl ?_
          refine qr_retZ rfl rfl (Or.inl rfl) (by decide) (by decide) ?_
          exact ⟨_, _, rfl, hI283, hF284, 0, rfl, (by decide)⟩
        · skip
          refine qr_iload_n 23 rfl g276 rfl ?_
          refine qr_iload 25 rfl g279 rfl ?_
          refine qr_ishr 26 rfl rfl ?_
          refine qy_can (fun v291 hv291 => ?_)
          refine qr_iconst 27 rfl rfl ?_
          refine qr_iand 28 rfl rfl ?_
          refine qy_andr (by omega) (fun v292 hv292 => ?_)
          refine qr_iconst 29 rfl rfl ?_
          refine qr_icmp_ne 35 32 rfl rfl rfl (by omega) (by decide) (fun h293 => ?_) (fun h293 => ?_)
          · skip
            refine qr_aload_n 36 rfl g274 rfl ?_
            refine qr_get 39 rfl rfl rfl (by decide) rfl ?_
            refine qr_iload_n 40 rfl g275 rfl ?_
            refine qr_iload 42 rfl g279 rfl ?_
            refine qr_iastore 43 rfl (by decide) rfl (by decide) (by decide) rfl ?_
            refine qy_wA (qw_r α282 114 (qzu (α282 114) (1 : Int).toNat u280)) rfl (fun α294 e295 => ?_)
            have hI296 : qI σ281 α294 κ ρ := by rw [e295]; exact qI_r hI283 114 _ rfl (show 0 ≤ u280 ∧ u280 ≤ 5 by omega)
            have hF297 : qFr [(86, 15), (86, 23), (86, 30)] [96, 114] σ α σ281 α294 := by rw [e295]; exact qFr_r hF284 114 _ (by decide)
            refine qr_aload_n 44 rfl g274 rfl ?_
            refine qr_iload_n 45 rfl g275 rfl ?_
            refine qr_iload_n 46 rfl g277 rfl ?_
            refine qr_iload 48 rfl g278 rfl ?_
            have hs298 : 0 ≤ σ281 86 43 ∧ σ281 86 43 ≤ 32 := hI296.1 86 43
            have hs299 : σ281 86 43 = (σ 86 43) := (hk286).trans rfl
            have hs300 : 0 ≤ σ281 86 6 ∧ σ281 86 6 ≤ 32 := hI296.1 86 6
            have hs301 : σ281 86 6 = (σ 86 6) := (hk285).trans rfl
            refine qr_callN 51 rfl rfl rfl (sf_244_86 (d := d + 4) hI296 (by decide) r3 (qrg r4 (by decide) (by decide)) (by omega) (by omega)) ?_
            rintro _ _ ⟨σ303, α304, rfl, hI305, hG306, v302, rfl, hv302⟩
            have hF307 : qFr [(86, 15), (86, 23), (86, 30)] [96, 114] σ α σ303 α304 := qFr_t hF297 hG306 (by decide) (by decide)
            show qr_W (qe L xs vb) (d + 10) qx_e243 _ (51, _, [.int (qz v302)], qw σ303 α304 κ ρ, 0, 0)
            refine qr_if_ne 75 54 rfl rfl rfl (qrg hv302 (by decide) (by decide)) (fun h308 => ?_) (fun h308 => ?_)
            · skip
              refine qr_iinc _ 78 rfl g279 (by decide) rfl rfl ?_
              refine qr_goto 13 rfl rfl ?_
              exact ih289 _ (u280 + 1) σ303 α304 (by omega) (qm_gk g274 (by decide) (Or.inl (by decide))) (qm_gk g275 (by decide) (Or.inl (by decide))) (qm_gk g276 (by decide) (Or.inl (by decide))) (qm_gk g277 (by decide) (Or.inl (by decide))) (qm_gk g278 (by decide) (Or.inr rfl)) (qm_ge _ _ _) (by omega) hI305 hF307 ((hG306.1 86 6 (by decide)).trans ((hk285).trans rfl)) ((hG306.1 86 43 (by decide)).trans ((hk286).trans rfl))
            · skip
              refine qr_aload_n 55 rfl g274 rfl ?_
              refine qr_iload_n 56 rfl g275 rfl ?_
              refine qr_iconst 57 rfl rfl ?_
              refine qr_iadd 58 rfl rfl ?_
              refine qy_v 2 rfl ?_
              refine qr_iload_n 59 rfl g276 rfl ?_
              refine qr_iconst 60 rfl rfl ?_
              refine qr_iload 62 rfl g279 rfl ?_
              refine qr_ishl 63 rfl rfl ?_
              refine qy_shl1 (N := 5) (by omega) (fun v309 hv309 => ?_)
              refine qr_ior 64 rfl rfl ?_
              refine qy_can (fun v310 hv310 => ?_)
              refine qr_iload_n 65 rfl g277 rfl ?_
              refine qr_iload 67 rfl g278 rfl ?_
              have hs311 : 0 ≤ σ303 86 43 ∧ σ303 86 43 ≤ 32 := hI305.1 86 43
              have hs312 : σ303 86 43 = (σ 86 43) := (hG306.1 86 43 (by decide)).trans ((hk286).trans rfl)
              have hs313 : 0 ≤ σ303 86 6 ∧ σ303 86 6 ≤ 32 := hI305.1 86 6
              have hs314 : σ303 86 6 = (σ 86 6) := (hG306.1 86 6 (by decide)).trans ((hk285).trans rfl)
              refine qr_callN 70 rfl rfl rfl (sf_243_86t2 (d := d + 0) hI305 hv310 r3 r4 (by omega) (by omega) (by omega)) ?_
              rintro _ _ ⟨σ316, α317, rfl, hI318, hG319, v315, rfl, hv315⟩
              have hF320 : qFr [(86, 15), (86, 23), (86, 30)] [96, 114] σ α σ316 α317 := qFr_t hF307 hG319 (by decide) (by decide)
              show qr_W (qe L xs vb) (d + 10) qx_e243 _ (70, _, [.int (qz v315)], qw σ316 α317 κ ρ, 0, 0)
              refine qr_if_eq 75 73 rfl rfl rfl (qrg hv315 (by decide) (by decide)) (fun h321 => ?_) (fun h321 => ?_)
              · skip
                refine qr_iinc _ 78 rfl g279 (by decide) rfl rfl ?_
                refine qr_goto 13 rfl rfl ?_
                exact ih289 _ (u280 + 1) σ316 α317 (by omega) (qm_gk g274 (by decide) (Or.inl (by decide))) (qm_gk g275 (by decide) (Or.inl (by decide))) (qm_gk g276 (by decide) (Or.inl (by decide))) (qm_gk g277 (by decide) (Or.inl (by decide))) (qm_gk g278 (by decide) (Or.inr rfl)) (qm_ge _ _ _) (by omega) hI318 hF320 ((hG319.1 86 6 (by decide)).trans ((hG306.1 86 6 (by decide)).trans ((hk285).trans rfl))) ((hG319.1 86 43 (by decide)).trans ((hG306.1 86 43 (by decide)).trans ((hk286).trans rfl)))
              · skip
                refine qr_iconst 74 rfl rfl ?_
                refine qr_retZ rfl rfl (Or.inr rfl) (by decide) (by decide) ?_
                exact ⟨_, _, rfl, hI318, hF320, 1, rfl, (by decide)⟩
          · skip
            refine qr_goto 75 rfl rfl ?_
            refine qr_iinc _ 78 rfl g279 (by decide) rfl rfl ?_
            refine qr_goto 13 rfl rfl ?_
            exact ih289 _ (u280 + 1) σ281 α282 (by omega) (qm_gk g274 (by decide) (Or.inl (by decide))) (qm_gk g275 (by decide) (Or.inl (by decide))) (qm_gk g276 (by decide) (Or.inl (by decide))) (qm_gk g277 (by decide) (Or.inl (by decide))) (qm_gk g278 (by decide) (Or.inr rfl)) (qm_ge _ _ _) (by omega) hI283 hF284 ((hk285).trans rfl) ((hk286).trans rfl)
    exact hL288 ((6 - 0 + 1 : Int)).toNat _ 0 σ α (by omega) rfl rfl rfl rfl rfl rfl (by decide) hI hF0 (rfl) (rfl)
  · skip
    refine qr_iconst 9 rfl rfl ?_
    refine qr_retZ rfl rfl (Or.inr rfl) (by decide) (by decide) ?_
    exact ⟨_, _, rfl, hI, hF0, 1, rfl, (by decide)⟩

set_option maxHeartbeats 4000000 in
set_option maxRecDepth 20000 in
/-- OneRoofModel.orders -/
theorem sf_243_86t0 {L : Nat} {xs : Nat → Int} {vb : Bool} {d : Nat} {σ α : Nat → Nat → Int} {κ : Nat → Option Nat} {ρ : Nat} {x2 : Int} {x3 : Int} {x4 : Int} (hI : qI σ α κ ρ) (r2 : (-2147483648) ≤ x2 ∧ x2 ≤ 2147483647) (r3 : (-2147483648) ≤ x3 ∧ x3 ≤ 2147483647) (r4 : 100 ≤ x4 ∧ x4 ≤ 2499) (p0 : 1 ≤ σ 86 6) (p1 : σ 86 43 ≤ 6) (p2 : 0 ≤ σ 86 43) : qm_T (qe L xs vb) (d + 12) 243 [.ref 86, .int (qz 0), .int (qz x2), .int (qz x3), .int (qz x4)] (qw σ α κ ρ) (fun r w' => ∃ σ' α', w' = qw σ' α' κ ρ ∧ qI σ' α' κ ρ ∧ qFr [(86, 15), (86, 23), (86, 30)] [96, 114] σ α σ' α' ∧ ∃ v : Int, r = some (.int (qz v)) ∧ (0 ≤ v ∧ v ≤ 1)) := by
  refine qr_start (d := d + 11) qv_e243 (Nat.le_of_ble_eq_true rfl) ?_
  show qr_W (qe L xs vb) (d + 11) qx_e243 _ (0, [(0, .ref 86), (1, .int (qz 0)), (2, .int (qz x2)), (3, .int (qz x3)), (4, .int (qz x4))], [], _, 0, 0)
  have hF0 := qFr_rf [(86, 15), (86, 23), (86, 30)] [96, 114] σ α
  have hz86_6 : 0 ≤ σ 86 6 ∧ σ 86 6 ≤ 32 := hI.1 86 6
  have hz86_43 : 0 ≤ σ 86 43 ∧ σ 86 43 ≤ 32 := hI.1 86 43
  refine qr_iload_n 1 rfl rfl rfl ?_
  refine qr_aload_n 2 rfl rfl rfl ?_
  refine qr_get 5 rfl rfl rfl (by decide) rfl ?_
  refine qr_icmp_ne 10 8 rfl rfl rfl (by decide) (qrg hz86_43 (by decide) (by decide)) (fun h1 => ?_) (fun h1 => ?_)
  · skip
    refine qr_iconst 11 rfl rfl ?_
    refine qr_istore _ 13 rfl (by decide) rfl rfl ?_
    have hL288 : ∀ (n : Nat) (ls : qm_L) (u280 : Int) (σ281 α282 : Nat → Nat → Int), 6 - u280 < (n : Int) → qm_get ls 0 = some (.ref 86) → qm_get ls 1 = some (.int (qz 0)) → qm_get ls 2 = some (.int (qz x2)) → qm_get ls 3 = some (.int (qz x3)) → qm_get ls 4 = some (.int (qz x4)) → qm_get ls 5 = some (.int (qz u280)) → (0 ≤ u280 ∧ u280 ≤ 6) → qI σ281 α282 κ ρ → qFr [(86, 15), (86, 23), (86, 30)] [96, 114] σ α σ281 α282 → σ281 86 6 = (σ 86 6) → σ281 86 43 = (σ 86 43) → qr_W (qe L xs vb) (d + 11) qx_e243 (fun r w' => ∃ σ' α', w' = qw σ' α' κ ρ ∧ qI σ' α' κ ρ ∧ qFr [(86, 15), (86, 23), (86, 30)] [96, 114] σ α σ' α' ∧ ∃ v : Int, r = some (.int (qz v)) ∧ (0 ≤ v ∧ v ≤ 1)) (13, ls, [], qw σ281 α282 κ ρ, 0, 0) := by
      intro n
      induction n with
      | zero => intro ls u280 σ281 α282 hm g274 g275 g276 g277 g278 g279 hf287 hI283 hF284 hk285 hk286; exact False.elim (by omega)
      | succ n ih289 =>
        intro ls u280 σ281 α282 hm g274 g275 g276 g277 g278 g279 hf287 hI283 hF284 hk285 hk286
        refine qr_iload 15 rfl g279 rfl ?_
        refine qr_aload_n 16 rfl g274 rfl ?_
        refine qr_get 19 rfl rfl rfl (by decide) rfl ?_
        refine qy_v (σ 86 43) ((hk286).trans rfl) ?_
        refine qr_icmp_ge 81 22 rfl rfl rfl (qrg hf287 (by decide) (by decide)) (qrg hz86_43 (by decide) (by decide)) (fun h290 => ?_) (fun h290 => ?_)
        · skip
          refine qr_iconst 82 rfl rfl ?_
          refine qr_retZ rfl rfl (Or.inl rfl) (by decide) (by decide) ?_
          exact ⟨_, _, rfl, hI283, hF284, 0, rfl, (by decide)⟩
        · skip
          refine qr_iload_n 23 rfl g276 rfl ?_
          refine qr_iload 25 rfl g279 rfl ?_
          refine qr_ishr 26 rfl rfl ?_
          refine qy_can (fun v291 hv291 => ?_)
          refine qr_iconst 27 rfl rfl ?_
          refine qr_iand 28 rfl rfl ?_
          refine qy_andr (by omega) (fun v292 hv292 => ?_)
          refine qr_iconst 29 rfl rfl ?_
          refine qr_icmp_ne 35 32 rfl rfl rfl (by omega) (by decide) (fun h293 => ?_) (fun h293 => ?_)
          · skip
            refine qr_aload_n 36 rfl g274 rfl ?_
            refine qr_get 39 rfl rfl rfl (by decide) rfl ?_
            refine qr_iload_n 40 rfl g275 rfl ?_
            refine qr_iload 42 rfl g279 rfl ?_
            refine qr_iastore 43 rfl (by decide) rfl (by decide) (by decide) rfl ?_
            refine qy_wA (qw_r α282 114 (qzu (α282 114) (0 : Int).toNat u280)) rfl (fun α294 e295 => ?_)
            have hI296 : qI σ281 α294 κ ρ := by rw [e295]; exact qI_r hI283 114 _ rfl (show 0 ≤ u280 ∧ u280 ≤ 5 by omega)
            have hF297 : qFr [(86, 15), (86, 23), (86, 30)] [96, 114] σ α σ281 α294 := by rw [e295]; exact qFr_r hF284 114 _ (by decide)
            refine qr_aload_n 44 rfl g274 rfl ?_
            refine qr_iload_n 45 rfl g275 rfl ?_
            refine qr_iload_n 46 rfl g277 rfl ?_
            refine qr_iload 48 rfl g278 rfl ?_
            have hs298 : 0 ≤ σ281 86 43 ∧ σ281 86 43 ≤ 32 := hI296.1 86 43
            have hs299 : σ281 86 43 = (σ 86 43) := (hk286).trans rfl
            have hs300 : 0 ≤ σ281 86 6 ∧ σ281 86 6 ≤ 32 := hI296.1 86 6
            have hs301 : σ281 86 6 = (σ 86 6) := (hk285).trans rfl
            refine qr_callN 51 rfl rfl rfl (sf_244_86 (d := d + 5) hI296 (by decide) r3 (qrg r4 (by decide) (by decide)) (by omega) (by omega)) ?_
            rintro _ _ ⟨σ303, α304, rfl, hI305, hG306, v302, rfl, hv302⟩
            have hF307 : qFr [(86, 15), (86, 23), (86, 30)] [96, 114] σ α σ303 α304 := qFr_t hF297 hG306 (by decide) (by decide)
            show qr_W (qe L xs vb) (d + 11) qx_e243 _ (51, _, [.int (qz v302)], qw σ303 α304 κ ρ, 0, 0)
            refine qr_if_ne 75 54 rfl rfl rfl (qrg hv302 (by decide) (by decide)) (fun h308 => ?_) (fun h308 => ?_)
            · skip
              refine qr_iinc _ 78 rfl g279 (by decide) rfl rfl ?_
              refine qr_goto 13 rfl rfl ?_
              exact ih289 _ (u280 + 1) σ303 α304 (by omega) (qm_gk g274 (by decide) (Or.inl (by decide))) (qm_gk g275 (by decide) (Or.inl (by decide))) (qm_gk g276 (by decide) (Or.inl (by decide))) (qm_gk g277 (by decide) (Or.inl (by decide))) (qm_gk g278 (by decide) (Or.inr rfl)) (qm_ge _ _ _) (by omega) hI305 hF307 ((hG306.1 86 6 (by decide)).trans ((hk285).trans rfl)) ((hG306.1 86 43 (by decide)).trans ((hk286).trans rfl))
            · skip
              refine qr_aload_n 55 rfl g274 rfl ?_
              refine qr_iload_n 56 rfl g275 rfl ?_
              refine qr_iconst 57 rfl rfl ?_
              refine qr_iadd 58 rfl rfl ?_
              refine qy_v 1 rfl ?_
              refine qr_iload_n 59 rfl g276 rfl ?_
              refine qr_iconst 60 rfl rfl ?_
              refine qr_iload 62 rfl g279 rfl ?_
              refine qr_ishl 63 rfl rfl ?_
              refine qy_shl1 (N := 5) (by omega) (fun v309 hv309 => ?_)
              refine qr_ior 64 rfl rfl ?_
              refine qy_can (fun v310 hv310 => ?_)
              refine qr_iload_n 65 rfl g277 rfl ?_
              refine qr_iload 67 rfl g278 rfl ?_
              have hs311 : 0 ≤ σ303 86 43 ∧ σ303 86 43 ≤ 32 := hI305.1 86 43
              have hs312 : σ303 86 43 = (σ 86 43) := (hG306.1 86 43 (by decide)).trans ((hk286).trans rfl)
              have hs313 : 0 ≤ σ303 86 6 ∧ σ303 86 6 ≤ 32 := hI305.1 86 6
              have hs314 : σ303 86 6 = (σ 86 6) := (hG306.1 86 6 (by decide)).trans ((hk285).trans rfl)
              refine qr_callN 70 rfl rfl rfl (sf_243_86t1 (d := d + 0) hI305 hv310 r3 r4 (by omega) (by omega) (by omega)) ?_
              rintro _ _ ⟨σ316, α317, rfl, hI318, hG319, v315, rfl, hv315⟩
              have hF320 : qFr [(86, 15), (86, 23), (86, 30)] [96, 114] σ α σ316 α317 := qFr_t hF307 hG319 (by decide) (by decide)
              show qr_W (qe L xs vb) (d + 11) qx_e243 _ (70, _, [.int (qz v315)], qw σ316 α317 κ ρ, 0, 0)
              refine qr_if_eq 75 73 rfl rfl rfl (qrg hv315 (by decide) (by decide)) (fun h321 => ?_) (fun h321 => ?_)
              · skip
                refine qr_iinc _ 78 rfl g279 (by decide) rfl rfl ?_
                refine qr_goto 13 rfl rfl ?_
                exact ih289 _ (u280 + 1) σ316 α317 (by omega) (qm_gk g274 (by decide) (Or.inl (by decide))) (qm_gk g275 (by decide) (Or.inl (by decide))) (qm_gk g276 (by decide) (Or.inl (by decide))) (qm_gk g277 (by decide) (Or.inl (by decide))) (qm_gk g278 (by decide) (Or.inr rfl)) (qm_ge _ _ _) (by omega) hI318 hF320 ((hG319.1 86 6 (by decide)).trans ((hG306.1 86 6 (by decide)).trans ((hk285).trans rfl))) ((hG319.1 86 43 (by decide)).trans ((hG306.1 86 43 (by decide)).trans ((hk286).trans rfl)))
              · skip
                refine qr_iconst 74 rfl rfl ?_
                refine qr_retZ rfl rfl (Or.inr rfl) (by decide) (by decide) ?_
                exact ⟨_, _, rfl, hI318, hF320, 1, rfl, (by decide)⟩
          · skip
            refine qr_goto 75 rfl rfl ?_
            refine qr_iinc _ 78 rfl g279 (by decide) rfl rfl ?_
            refine qr_goto 13 rfl rfl ?_
            exact ih289 _ (u280 + 1) σ281 α282 (by omega) (qm_gk g274 (by decide) (Or.inl (by decide))) (qm_gk g275 (by decide) (Or.inl (by decide))) (qm_gk g276 (by decide) (Or.inl (by decide))) (qm_gk g277 (by decide) (Or.inl (by decide))) (qm_gk g278 (by decide) (Or.inr rfl)) (qm_ge _ _ _) (by omega) hI283 hF284 ((hk285).trans rfl) ((hk286).trans rfl)
    exact hL288 ((6 - 0 + 1 : Int)).toNat _ 0 σ α (by omega) rfl rfl rfl rfl rfl rfl (by decide) hI hF0 (rfl) (rfl)
  · skip
    refine qr_iconst 9 rfl rfl ?_
    refine qr_retZ rfl rfl (Or.inr rfl) (by decide) (by decide) ?_
    exact ⟨_, _, rfl, hI, hF0, 1, rfl, (by decide)⟩

set_option maxHeartbeats 4000000 in
set_option maxRecDepth 20000 in
/-- OneRoofModel.leave -/
theorem sf_242_86 {L : Nat} {xs : Nat → Int} {vb : Bool} {d : Nat} {σ α : Nat → Nat → Int} {κ : Nat → Option Nat} {ρ : Nat} {x1 : Int} {x2 : Int} {x3 : Int} (hI : qI σ α κ ρ) (r1 : (-9223372036854775808) ≤ x1 ∧ x1 ≤ 9223372036854775807) (r2 : (-2147483648) ≤ x2 ∧ x2 ≤ 2147483647) (r3 : (-2147483648) ≤ x3 ∧ x3 ≤ 2147483647) : qm_T (qe L xs vb) (d + 13) 242 [.ref 86, .long (ql x1), .int (qz x2), .int (qz x3)] (qw σ α κ ρ) (fun r w' => ∃ σ' α', w' = qw σ' α' κ ρ ∧ qI σ' α' κ ρ ∧ qFr [(86, 15), (86, 23), (86, 30), (86, 43)] [96, 110, 114] σ α σ' α' ∧ ∃ v : Int, r = some (.int (qz v)) ∧ ((-2147483648) ≤ v ∧ v ≤ 2147483647)) := by
  refine qr_start (d := d + 12) qv_e242 (Nat.le_of_ble_eq_true rfl) ?_
  show qr_W (qe L xs vb) (d + 12) qx_e242 _ (0, [(0, .ref 86), (1, .long (ql x1)), (3, .int (qz x2)), (4, .int (qz x3))], [], _, 0, 0)
  have hF0 := qFr_rf [(86, 15), (86, 23), (86, 30), (86, 43)] [96, 110, 114] σ α
  have hz86_6 : 0 ≤ σ 86 6 ∧ σ 86 6 ≤ 32 := hI.1 86 6
  refine qr_iload_n 1 rfl rfl rfl ?_
  refine qr_callN 4 rfl rfl rfl (sf_192 (d := d + 10) hI r2) ?_
  rintro _ _ ⟨rfl, v1, rfl, hv1, hp2⟩
  show qr_W (qe L xs vb) (d + 12) qx_e242 _ (4, _, [.int (qz v1)], qw σ α κ ρ, 0, 0)
  refine qr_if_eq 32 7 rfl rfl rfl (qrg hv1 (by decide) (by decide)) (fun h3 => ?_) (fun h3 => ?_)
  · skip
    refine qr_iconst 33 rfl rfl ?_
    refine qr_retI rfl rfl (by decide) (by decide) ?_
    exact ⟨_, _, rfl, hI, hF0, (-1), rfl, (by decide)⟩
  · skip
    refine qr_iload 9 rfl rfl rfl ?_
    refine qr_i2l 10 rfl r3 rfl ?_
    refine qr_ldc2 100 13 rfl (by decide) rfl ?_
    refine qr_ldc2 2499 16 rfl (by decide) rfl ?_
    refine qr_callN 19 rfl rfl rfl (sf_176 (d := d + 11) hI (qrg r3 (by decide) (by decide)) (by decide) (by decide)) ?_
    rintro _ _ ⟨rfl, v4, rfl, hv4, hp5⟩
    show qr_W (qe L xs vb) (d + 12) qx_e242 _ (19, _, [.int (qz v4)], qw σ α κ ρ, 0, 0)
    refine qr_if_eq 32 22 rfl rfl rfl (qrg hv4 (by decide) (by decide)) (fun h6 => ?_) (fun h6 => ?_)
    · skip
      refine qr_iconst 33 rfl rfl ?_
      refine qr_retI rfl rfl (by decide) (by decide) ?_
      exact ⟨_, _, rfl, hI, hF0, (-1), rfl, (by decide)⟩
    · skip
      refine qr_aload_n 23 rfl rfl rfl ?_
      refine qr_lload_n 24 rfl rfl rfl ?_
      refine qr_bipush 26 rfl (by decide) rfl ?_
      refine qr_callN 29 rfl rfl rfl (sf_234_86p (d := d + 10) hI r1 (by decide)) ?_
      have hs9 : 0 ≤ σ 86 6 ∧ σ 86 6 ≤ 32 := hI.1 86 6
      rintro _ _ ⟨σ10, α11, rfl, hI12, hG13, v7, rfl, hv7, hp8⟩
      have hF14 : qFr [(86, 15), (86, 23), (86, 30), (86, 43)] [96, 110, 114] σ α σ10 α11 := qFr_t hF0 hG13 (by decide) (by decide)
      have hs15 : 0 ≤ σ10 86 43 ∧ σ10 86 43 ≤ 32 := hI12.1 86 43
      show qr_W (qe L xs vb) (d + 12) qx_e242 _ (29, _, [.int (qz v7)], qw σ10 α11 κ ρ, 0, 0)
      refine qr_if_ne 34 32 rfl rfl rfl (qrg hv7 (by decide) (by decide)) (fun h16 => ?_) (fun h16 => ?_)
      · skip
        refine qr_aload_n 35 rfl rfl rfl ?_
        refine qr_iconst 36 rfl rfl ?_
        refine qr_iconst 37 rfl rfl ?_
        refine qr_iload_n 38 rfl rfl rfl ?_
        refine qr_iload 40 rfl rfl rfl ?_
        have hs17 : 0 ≤ σ10 86 43 ∧ σ10 86 43 ≤ 32 := hI12.1 86 43
        have hs18 : 0 ≤ σ10 86 6 ∧ σ10 86 6 ≤ 32 := hI12.1 86 6
        have hs19 : σ10 86 6 = (σ 86 6) := (hG13.1 86 6 (by decide)).trans rfl
        refine qr_callN 43 rfl rfl rfl (sf_243_86t0 (d := d + 0) hI12 (by decide) r2 (by omega) (by omega) (by omega) (by omega)) ?_
        rintro _ _ ⟨σ21, α22, rfl, hI23, hG24, v20, rfl, hv20⟩
        have hF25 : qFr [(86, 15), (86, 23), (86, 30), (86, 43)] [96, 110, 114] σ α σ21 α22 := qFr_t hF14 hG24 (by decide) (by decide)
        show qr_W (qe L xs vb) (d + 12) qx_e242 _ (43, _, [.int (qz v20)], qw σ21 α22 κ ρ, 0, 0)
        refine qr_if_ne 49 46 rfl rfl rfl (qrg hv20 (by decide) (by decide)) (fun h26 => ?_) (fun h26 => ?_)
        · skip
          refine qr_iconst 50 rfl rfl ?_
          refine qr_istore _ 52 rfl (by decide) rfl rfl ?_
          refine qr_iconst 53 rfl rfl ?_
          refine qr_istore _ 55 rfl (by decide) rfl rfl ?_
          have hL103 : ∀ (n : Nat) (ls : qm_L) (u98 u100 : Int), 6 - u100 < (n : Int) → qm_get ls 0 = some (.ref 86) → qm_get ls 5 = some (.int (qz u98)) → qm_get ls 6 = some (.int (qz u100)) → ((-2147483648) ≤ u98 ∧ u98 ≤ 2147483647) → (0 ≤ u100 ∧ u100 ≤ 6) → qr_W (qe L xs vb) (d + 12) qx_e242 (fun r w' => ∃ σ' α', w' = qw σ' α' κ ρ ∧ qI σ' α' κ ρ ∧ qFr [(86, 15), (86, 23), (86, 30), (86, 43)] [96, 110, 114] σ α σ' α' ∧ ∃ v : Int, r = some (.int (qz v)) ∧ ((-2147483648) ≤ v ∧ v ≤ 2147483647)) (55, ls, [], qw σ21 α22 κ ρ, 0, 0) := by
            intro n
            induction n with
            | zero => intro ls u98 u100 hm g96 g97 g99 hf101 hf102; exact False.elim (by omega)
            | succ n ih104 =>
              intro ls u98 u100 hm g96 g97 g99 hf101 hf102
              refine qr_iload 57 rfl g99 rfl ?_
              refine qr_aload_n 58 rfl g96 rfl ?_
              refine qr_get 61 rfl rfl rfl (by decide) rfl ?_
              refine qy_v (σ10 86 43) ((hG24.1 86 43 (by decide)).trans rfl) ?_
              refine qr_icmp_ge 87 64 rfl rfl rfl (qrg hf102 (by decide) (by decide)) (by omega) (fun h105 => ?_) (fun h105 => ?_)
              · skip
                refine qr_iload 89 rfl g97 rfl ?_
                refine qr_retI rfl rfl (by decide) (by decide) ?_
                exact ⟨_, _, rfl, hI23, hF25, u98, rfl, hf101⟩
              · skip
                refine qr_bipush 66 rfl (by decide) rfl ?_
                refine qr_iload 68 rfl g97 rfl ?_
                refine qr_imul 69 rfl rfl ?_
                refine qy_can (fun v106 hv106 => ?_)
                refine qr_aload_n 70 rfl g96 rfl ?_
                refine qr_get 73 rfl rfl rfl (by decide) rfl ?_
                refine qr_iload 75 rfl g99 rfl ?_
                refine qr_iaload 76 rfl rfl (by omega) (by decide) rfl ?_
                refine qr_topI (fun v107 hv107 => ?_)
                have hs108 : 0 ≤ v107 ∧ v107 ≤ 5 := by rw [hv107]; exact hI23.2.1 114 _ (show _ < 6 by omega)
                refine qr_iadd 77 rfl rfl ?_
                refine qy_can (fun v109 hv109 => ?_)
                refine qr_iconst 78 rfl rfl ?_
                refine qr_iadd 79 rfl rfl ?_
                refine qy_can (fun v110 hv110 => ?_)
                refine qr_istore _ 81 rfl (by decide) rfl rfl ?_
                refine qr_iinc _ 84 rfl (qm_gk g99 (by decide) (Or.inl (by decide))) (by decide) rfl rfl ?_
                refine qr_goto 55 rfl rfl ?_
                exact ih104 _ v110 (u100 + 1) (by omega) (qm_gk (qm_gk g96 (by decide) (Or.inl (by decide))) (by decide) (Or.inl (by decide))) (qm_gk (qm_ge _ _ _) (by decide) (Or.inr rfl)) (qm_ge _ _ _) hv110 (by omega)
          exact hL103 ((6 - 0 + 1 : Int)).toNat _ 0 0 (by omega) rfl rfl rfl (by decide) (by decide)
        · skip
          refine qr_bipush 48 rfl (by decide) rfl ?_
          refine qr_retI rfl rfl (by decide) (by decide) ?_
          exact ⟨_, _, rfl, hI23, hF25, (-2), rfl, (by decide)⟩
      · skip
        refine qr_iconst 33 rfl rfl ?_
        refine qr_retI rfl rfl (by decide) (by decide) ?_
        exact ⟨_, _, rfl, hI12, hF14, (-1), rfl, (by decide)⟩
end
section
theorem qzf_can (f : Nat → Int) : qzf f = qzf (fun j => (qz (f j)).toInt) := funext fun j => qz_of (qz (f j))
theorem qI_rw {σ α : Nat → Nat → Int} {κ : Nat → Option Nat} {ρ : Nat} (h : qI σ α κ ρ) (a : Nat) (g : Nat → Int) (hsp : [65, 71, 74, 77, 78, 91, 94, 95, 96].contains a = false) (hg : ∀ j, j < (qI_rr a).1 → (qI_rr a).2.1 ≤ g j ∧ g j ≤ (qI_rr a).2.2) : qI σ (qw_r α a g) κ ρ := by
  refine ⟨h.1, fun a' j hj => ?_, h.2.2.1, qIx_r h.2.2.2 a _ hsp⟩
  by_cases h1 : a' = a
  · subst h1
    rw [qw_r_eq]
    exact hg j hj
  · rw [qw_r_ne h1]
    exact h.2.1 a' j hj
theorem qI_sw {σ α : Nat → Nat → Int} {κ : Nat → Option Nat} {ρ : Nat} (h : qI σ α κ ρ) (i x : Nat) (hx : x = 50 ∨ x = 54 ∨ x = 82) : qI σ α (va_up κ i (some ρ)) x := by
  refine ⟨h.1, h.2.1, ⟨?_, ?_, hx⟩, h.2.2.2⟩
  · by_cases e : 0 = i
    · exact ⟨ρ, if_pos e, h.2.2.1.2.2⟩
    · obtain ⟨y, h1, h2⟩ := h.2.2.1.1
      exact ⟨y, (if_neg e).trans h1, h2⟩
  · by_cases e : 1 = i
    · exact ⟨ρ, if_pos e, h.2.2.1.2.2⟩
    · obtain ⟨y, h1, h2⟩ := h.2.2.1.2.1
      exact ⟨y, (if_neg e).trans h1, h2⟩
end
section
/-! the fresh objects keep the ranges -/
theorem qI_st0 : qI_st.all (fun q => decide (q.2.2.1 ≤ 0 ∧ 0 ≤ q.2.2.2)) = true := by decide +kernel
theorem qI_rt0 : qI_rt.all (fun q => decide (q.2.2.1 ≤ 0 ∧ 0 ≤ q.2.2.2)) = true := by decide +kernel
theorem qI_sr0 (a k : Nat) : (qI_sr a k).1 ≤ 0 ∧ 0 ≤ (qI_sr a k).2 := by
  unfold qI_sr
  cases h : qI_st.find? (fun q => q.1 == a && q.2.1 == k) with
  | none => exact ⟨by decide, by decide⟩
  | some q => exact of_decide_eq_true (List.all_eq_true.mp qI_st0 q (List.mem_of_find?_eq_some h))
theorem qI_rr0 (a : Nat) : (qI_rr a).2.1 ≤ 0 ∧ 0 ≤ (qI_rr a).2.2 := by
  unfold qI_rr
  cases h : qI_rt.find? (fun q => q.1 == a) with
  | none => exact ⟨by decide, by decide⟩
  | some q => exact of_decide_eq_true (List.all_eq_true.mp qI_rt0 q (List.mem_of_find?_eq_some h))
/-- numbers and rows of the fresh objects, with what nothing reads at 0 -/
def qJ_s (s : Nat → Nat → Int) : Nat → Nat → Int := fun a k => if (a = 50 ∨ a = 54 ∨ a = 82) ∧ ¬ (3 ≤ k ∧ k ≤ 7) then 0 else qo_s s a k
def qJ_r (g : Nat → Nat → Int) : Nat → Nat → Int := fun a => if a = 52 ∨ a = 56 ∨ a = 84 then (fun j => (qz (qo_r g a j)).toInt) else qo_r g a
theorem qJ_w (s g : Nat → Nat → Int) : qw (qo_s s) (qo_r g) qo_k 82 = qw (qJ_s s) (qJ_r g) qo_k 82 := by
  have e1 : qzf (qo_r g 52) = qzf (qJ_r g 52) := qzf_can _
  have e2 : qzf (qo_r g 56) = qzf (qJ_r g 56) := qzf_can _
  have e3 : qzf (qo_r g 84) = qzf (qJ_r g 84) := qzf_can _
  unfold qw
  rw [e1, e2, e3]
  rfl
theorem qJ_so {s : Nat → Nat → Int} (a k : Nat) (h : ¬ (a = 50 ∨ a = 54 ∨ a = 82)) : qJ_s s a k = if a = 86 ∧ k = 51 then -1 else 0 := by
  unfold qJ_s qo_s
  rw [if_neg (fun q => h q.1), if_neg (fun q => h (Or.inl q)), if_neg (fun q => h (Or.inr (Or.inl q))), if_neg (fun q => h (Or.inr (Or.inr q)))]
  by_cases h1 : a = 86 <;> by_cases h2 : k = 51 <;> simp [h1, h2]
theorem qJ_ro {g : Nat → Nat → Int} (a : Nat) (h : ¬ (a = 24 ∨ a = 26 ∨ a = 51 ∨ a = 52 ∨ a = 55 ∨ a = 56 ∨ a = 83 ∨ a = 84 ∨ a = 45 ∨ a = 108 ∨ a = 121)) (j : Nat) : qJ_r g a j = 0 := by
  unfold qJ_r
  rw [if_neg (by omega)]
  unfold qo_r
  rw [if_neg (by omega), if_neg (by omega), if_neg (by omega), if_neg (by omega), if_neg (by omega), if_neg (by omega), if_neg (by omega), if_neg (by omega), if_neg (by omega), if_neg (by omega), if_neg (by omega)]
theorem qJ_I {s g : Nat → Nat → Int} (h : qo_ok s g) : qI (qJ_s s) (qJ_r g) qo_k 82 := by
  have z : ∀ a k, ¬ (a = 50 ∨ a = 54 ∨ a = 82) → ¬ (a = 86 ∧ k = 51) → qJ_s s a k = 0 := fun a k h1 h2 => (qJ_so a k h1).trans (if_neg h2)
  refine ⟨fun a k => ?_, fun a j hj => ?_, ⟨⟨50, rfl, Or.inl rfl⟩, ⟨54, rfl, Or.inr (Or.inl rfl)⟩, Or.inr (Or.inr rfl)⟩, ?_, ?_, ?_, ?_, ?_, ?_, ?_⟩
  · by_cases h1 : a = 50 ∨ a = 54 ∨ a = 82
    · by_cases h2 : 3 ≤ k ∧ k ≤ 7
      · have hk : k = 3 ∨ k = 4 ∨ k = 5 ∨ k = 6 ∨ k = 7 := by omega
        have h3 := h.1
        have h40 := h.2.1 0 (by decide)
        have h41 := h.2.1 1 (by decide)
        have h42 := h.2.1 2 (by decide)
        rcases h1 with rfl | rfl | rfl <;> rcases hk with rfl | rfl | rfl | rfl | rfl
        · show 0 ≤ s 0 3 ∧ s 0 3 ≤ 120; omega
        · show 0 ≤ s 0 4 ∧ s 0 4 ≤ 120; omega
        · show 0 ≤ s 0 5 ∧ s 0 5 ≤ 122; omega
        · show -2147483648 ≤ s 0 6 ∧ s 0 6 ≤ 2147483647; omega
        · show 0 ≤ s 0 7 ∧ s 0 7 ≤ 1; omega
        · show 0 ≤ s 1 3 ∧ s 1 3 ≤ 120; omega
        · show 0 ≤ s 1 4 ∧ s 1 4 ≤ 120; omega
        · show 0 ≤ s 1 5 ∧ s 1 5 ≤ 122; omega
        · show -2147483648 ≤ s 1 6 ∧ s 1 6 ≤ 2147483647; omega
        · show 0 ≤ s 1 7 ∧ s 1 7 ≤ 1; omega
        · show 0 ≤ s 2 3 ∧ s 2 3 ≤ 120; omega
        · show 0 ≤ s 2 4 ∧ s 2 4 ≤ 120; omega
        · show 0 ≤ s 2 5 ∧ s 2 5 ≤ 122; omega
        · show -2147483648 ≤ s 2 6 ∧ s 2 6 ≤ 2147483647; omega
        · show 0 ≤ s 2 7 ∧ s 2 7 ≤ 1; omega
      · have e : qJ_s s a k = 0 := if_pos ⟨h1, h2⟩
        rw [e]
        exact qI_sr0 a k
    · by_cases h2 : a = 86 ∧ k = 51
      · obtain ⟨rfl, rfl⟩ := h2
        show -9223372036854775808 ≤ (-1 : Int) ∧ (-1 : Int) ≤ 9223372036854775807
        decide
      · rw [z a k h1 h2]
        exact qI_sr0 a k
  · by_cases h1 : a = 24 ∨ a = 26 ∨ a = 51 ∨ a = 52 ∨ a = 55 ∨ a = 56 ∨ a = 83 ∨ a = 84 ∨ a = 45 ∨ a = 108 ∨ a = 121
    · rcases h1 with rfl | rfl | rfl | rfl | rfl | rfl | rfl | rfl | rfl | rfl | rfl
      · have e := h.2.2.1 24 (Or.inl rfl) j hj
        show 0 ≤ g 24 j ∧ g 24 j ≤ 99
        rw [e]
        split <;> omega
      · have e := h.2.2.1 26 (Or.inr rfl) j hj
        show 0 ≤ g 26 j ∧ g 26 j ≤ 99
        rw [e]
        split <;> omega
      · exact h.2.2.2 51 (Or.inl rfl) j
      · exact qz_rng _
      · exact h.2.2.2 55 (Or.inr (Or.inl rfl)) j
      · exact qz_rng _
      · exact h.2.2.2 83 (Or.inr (Or.inr rfl)) j
      · exact qz_rng _
      · show 0 ≤ (qzu (qzu (qzu (qzu (qzu (qzu (fun _ => (0 : Int)) 0 6) 1 6) 2 6) 3 6) 4 6) 5 6) j ∧ (qzu (qzu (qzu (qzu (qzu (qzu (fun _ => (0 : Int)) 0 6) 1 6) 2 6) 3 6) 4 6) 5 6) j ≤ 6
        unfold qzu
        repeat' split
        all_goals first | omega | (dsimp only; omega)
      · show -1 ≤ (qzu (qzu (fun _ => (0 : Int)) 0 (-1)) 1 (-1)) j ∧ (qzu (qzu (fun _ => (0 : Int)) 0 (-1)) 1 (-1)) j ≤ 120
        unfold qzu
        repeat' split
        all_goals first | omega | (dsimp only; omega)
      · show -1 ≤ (qzu (qzu (qzu (qzu (qzu (qzu (fun _ => (0 : Int)) 0 (-1)) 1 (-1)) 2 (-1)) 3 (-1)) 4 (-1)) 5 (-1)) j ∧ (qzu (qzu (qzu (qzu (qzu (qzu (fun _ => (0 : Int)) 0 (-1)) 1 (-1)) 2 (-1)) 3 (-1)) 4 (-1)) 5 (-1)) j ≤ 64
        unfold qzu
        repeat' split
        all_goals first | omega | (dsimp only; omega)
    · rw [qJ_ro a h1 j]
      exact qI_rr0 a
  · intro i j _ hj
    have e : qJ_s s 64 2 = 0 := rfl
    rw [e] at hj
    omega
  · rintro a (rfl | rfl) j _
    · show (0 : Int) % 100 ≤ 31; decide
    · show (0 : Int) % 100 ≤ 31; decide
  · intro j _
    show ((0 : Int) = 0 → (0 : Int) ≤ 39) ∧ ((0 : Int) = 2 → (0 : Int) ≤ 31) ∧ (¬ (0 : Int) = 0 → ¬ (0 : Int) = 1 → ¬ (0 : Int) = 2 → (0 : Int) ≤ 59)
    omega
  · intro j _
    show (0 : Int) < (j : Int) ∨ (j = 0 ∧ (0 : Int) = 0)
    omega
  · show (0 : Int) ≤ 0
    decide
  · intro j hj
    have e : qJ_s s 86 11 = 0 := rfl
    rw [e] at hj
    omega
  · intro hk
    have e : qJ_s s 86 15 = 0 := rfl
    rw [e] at hk
    exact absurd hk (by decide)
end
section
/-! what the makers of state do, exactly -/
def qnar (s x : Int) : Int := if s = 0 then qz_i2b x else if s = 1 then qz_i2s x else if s = 2 then (qz x).toInt else if s = 3 then x else if x = 0 then 0 else 1
theorem qna_b {x v1 v2 : Int} (h1 : qz v1 = qz x) (h2 : qz v2 = qz (qz_i2b v1)) (r : -2147483648 ≤ v2 ∧ v2 ≤ 2147483647) : v2 = qz_i2b x := by
  have e : qz_i2b v1 = qz_i2b x := by unfold qz_i2b; rw [h1]
  have h3 := congrArg Int32.toInt h2
  rw [e, qz_ti r, qz_ti (show -2147483648 ≤ qz_i2b x ∧ qz_i2b x ≤ 2147483647 from qz_rng _)] at h3
  exact h3
theorem qna_s {x v1 v2 : Int} (h1 : qz v1 = qz x) (h2 : qz v2 = qz (qz_i2s v1)) (r : -2147483648 ≤ v2 ∧ v2 ≤ 2147483647) : v2 = qz_i2s x := by
  have e : qz_i2s v1 = qz_i2s x := by unfold qz_i2s; rw [h1]
  have h3 := congrArg Int32.toInt h2
  rw [e, qz_ti r, qz_ti (show -2147483648 ≤ qz_i2s x ∧ qz_i2s x ≤ 2147483647 from qz_rng _)] at h3
  exact h3
theorem qna_i {x v1 : Int} (h1 : qz v1 = qz x) (r : -2147483648 ≤ v1 ∧ v1 ≤ 2147483647) : v1 = (qz x).toInt := by
  have h3 := congrArg Int32.toInt h1
  rw [qz_ti r] at h3
  exact h3
theorem ql_ushr32 {a : Int} (h : 0 ≤ a ∧ a ≤ 9223372036854775807) : ql_ushr a 32 = a / 4294967296 := by
  have h1 : ql (ql_ushr a 32) = ql (ql_ushr a 32) := rfl
  have g1 : qlu (ql_ushr a 32) = qlu a / 4294967296 := qlu_ushrN 32 (by decide) (by decide) h1
  have g2 := qlu_nn h
  have g3 := qlu_sm (v := ql_ushr a 32) (ql_rng _) (by omega)
  omega
/-- nothing but 0 on b places from a on -/
def qzfl (f : Nat → Int) (a b : Nat) : Nat → Int := fun j => if a ≤ j ∧ j < a + b then 0 else f j
theorem qzfl_0 (f : Nat → Int) (a : Nat) : f = qzfl f a 0 := by
  funext j
  unfold qzfl
  rw [if_neg (by omega)]
theorem qzfl_s {f : Nat → Int} {a b i c : Nat} (hi : i = a + b) (hc : c = b + 1) : qzu (qzfl f a b) i 0 = qzfl f a c := by
  funext j
  show (if j = i then 0 else (if a ≤ j ∧ j < a + b then 0 else f j)) = if a ≤ j ∧ j < a + c then 0 else f j
  by_cases h : j = i
  · rw [if_pos h, if_pos (by omega)]
  · rw [if_neg h]
    by_cases h2 : a ≤ j ∧ j < a + b
    · rw [if_pos h2, if_pos (by omega)]
    · rw [if_neg h2, if_neg (by omega)]
theorem qcpy_0 (f g : Nat → Int) (a b : Nat) : g = va_cpy f g a b 0 := by
  funext j
  unfold va_cpy
  rw [if_neg (by omega)]
theorem qcpy_s {f g : Nat → Int} {a b n i c : Nat} {x : Int} (hi : i = b + n) (hc : c = n + 1) (hx : x = f (a + n)) : qzu (va_cpy f g a b n) i x = va_cpy f g a b c := by
  funext j
  show (if j = i then x else (if b ≤ j ∧ j < b + n then f (a + (j - b)) else g j)) = if b ≤ j ∧ j < b + c then f (a + (j - b)) else g j
  by_cases h : j = i
  · rw [if_pos h, if_pos (by omega), hx]
    congr 1
    omega
  · rw [if_neg h]
    by_cases h2 : b ≤ j ∧ j < b + n
    · rw [if_pos h2, if_pos (by omega)]
    · rw [if_neg h2, if_neg (by omega)]
theorem qcpy_2 (f h : Nat → Int) (a b n : Nat) : va_cpy (va_cpy f h a 0 n) f 0 b n = va_cpy f f a b n := by
  funext j
  unfold va_cpy
  by_cases h2 : b ≤ j ∧ j < b + n
  · rw [if_pos h2, if_pos h2, if_pos (by omega)]
    congr 1
    omega
  · rw [if_neg h2, if_neg h2]
theorem qzu_self {f : Nat → Int} {i : Nat} {x : Int} (h : x = f i) : f = qzu f i x := by
  funext j
  unfold qzu
  split
  · next e => rw [e, h]
  · rfl
/-- people from a row: f what stands at a place, c how many came, s how many there are, their lords, their weights -/
def qfit (s a b c : Int) : Prop := (a = -1 ∨ (0 ≤ a ∧ a < s)) ∧ (1 ≤ b ∧ b ≤ 99) ∧ (c = 0 ∨ c = 1)

set_option maxHeartbeats 4000000 in
set_option maxRecDepth 20000 in
/-- OneRoof$Folk.fits -/
theorem sf_39_17x {L : Nat} {xs : Nat → Int} {vb : Bool} {d : Nat} {σ α : Nat → Nat → Int} {κ : Nat → Option Nat} {ρ : Nat} {x1 : Int} {x2 : Int} {x3 : Int} (hI : qI σ α κ ρ) (r1 : (-2147483648) ≤ x1 ∧ x1 ≤ 2147483647) (r2 : (-2147483648) ≤ x2 ∧ x2 ≤ 2147483647) (r3 : (-2147483648) ≤ x3 ∧ x3 ≤ 2147483647) : qm_T (qe L xs vb) (d + 2) 39 [.ref 17, .int (qz x1), .int (qz x2), .int (qz x3)] (qw σ α κ ρ) (fun r w' => w' = qw σ α κ ρ ∧ ∃ v : Int, r = some (.int (qz v)) ∧ (0 ≤ v ∧ v ≤ 1) ∧ ((v = 1 ∧ ((x1 = -1 ∨ (0 ≤ x1 ∧ x1 < σ 17 6)) ∧ 1 ≤ x2 ∧ x2 ≤ 99 ∧ (x3 = 0 ∨ x3 = 1))) ∨ (v = 0 ∧ ¬ (((x1 = -1 ∨ (0 ≤ x1 ∧ x1 < σ 17 6)) ∧ 1 ≤ x2 ∧ x2 ≤ 99 ∧ (x3 = 0 ∨ x3 = 1)))))) := by
  refine qr_start (d := d + 1) qv_e39 (Nat.le_of_ble_eq_true rfl) ?_
  show qr_W (qe L xs vb) (d + 1) qx_e39 _ (0, [(0, .ref 17), (1, .int (qz x1)), (2, .int (qz x2)), (3, .int (qz x3))], [], _, 0, 0)
  have hz17_6 : 0 ≤ σ 17 6 ∧ σ 17 6 ≤ 32 := hI.1 17 6
  refine qr_iload_n 1 rfl rfl rfl ?_
  refine qr_iconst 2 rfl rfl ?_
  refine qr_icmp_eq 13 5 rfl rfl rfl r1 (by decide) (fun h1 => ?_) (fun h1 => ?_)
  · skip
    refine qr_iload_n 14 rfl rfl rfl ?_
    refine qr_iconst 15 rfl rfl ?_
    refine qr_icmp_lt 35 18 rfl rfl rfl r2 (by decide) (fun h2 => ?_) (fun h2 => ?_)
    · skip
      refine qr_iconst 36 rfl rfl ?_
      refine qr_retZ rfl rfl (Or.inl rfl) (by decide) (by decide) ?_
      exact ⟨rfl, 0, rfl, (by decide), by omega⟩
    · skip
      refine qr_iload_n 19 rfl rfl rfl ?_
      refine qr_bipush 21 rfl (by decide) rfl ?_
      refine qr_icmp_gt 35 24 rfl rfl rfl r2 (by decide) (fun h3 => ?_) (fun h3 => ?_)
      · skip
        refine qr_iconst 36 rfl rfl ?_
        refine qr_retZ rfl rfl (Or.inl rfl) (by decide) (by decide) ?_
        exact ⟨rfl, 0, rfl, (by decide), by omega⟩
      · skip
        refine qr_iload_n 25 rfl rfl rfl ?_
        refine qr_callN 28 rfl rfl rfl (sf_41 (d := d + 0) hI r3) ?_
        rintro _ _ ⟨rfl, v4, rfl, hv4, hp5⟩
        show qr_W (qe L xs vb) (d + 1) qx_e39 _ (28, _, [.int (qz v4)], qw σ α κ ρ, 0, 0)
        refine qr_if_eq 35 31 rfl rfl rfl (qrg hv4 (by decide) (by decide)) (fun h6 => ?_) (fun h6 => ?_)
        · skip
          refine qr_iconst 36 rfl rfl ?_
          refine qr_retZ rfl rfl (Or.inl rfl) (by decide) (by decide) ?_
          exact ⟨rfl, 0, rfl, (by decide), by omega⟩
        · skip
          refine qr_iconst 32 rfl rfl ?_
          refine qr_goto 36 rfl rfl ?_
          refine qr_retZ rfl rfl (Or.inr rfl) (by decide) (by decide) ?_
          exact ⟨rfl, 1, rfl, (by decide), by omega⟩
  · skip
    refine qr_aload_n 6 rfl rfl rfl ?_
    refine qr_iload_n 7 rfl rfl rfl ?_
    refine qr_callN 10 rfl rfl rfl (sf_40_17 (d := d + 0) hI r1) ?_
    have hs9 : 0 ≤ σ 17 6 ∧ σ 17 6 ≤ 32 := hI.1 17 6
    rintro _ _ ⟨rfl, v7, rfl, hv7, hp8⟩
    show qr_W (qe L xs vb) (d + 1) qx_e39 _ (10, _, [.int (qz v7)], qw σ α κ ρ, 0, 0)
    refine qr_if_eq 35 13 rfl rfl rfl (qrg hv7 (by decide) (by decide)) (fun h10 => ?_) (fun h10 => ?_)
    · skip
      refine qr_iconst 36 rfl rfl ?_
      refine qr_retZ rfl rfl (Or.inl rfl) (by decide) (by decide) ?_
      exact ⟨rfl, 0, rfl, (by decide), by omega⟩
    · skip
      refine qr_iload_n 14 rfl rfl rfl ?_
      refine qr_iconst 15 rfl rfl ?_
      refine qr_icmp_lt 35 18 rfl rfl rfl r2 (by decide) (fun h11 => ?_) (fun h11 => ?_)
      · skip
        refine qr_iconst 36 rfl rfl ?_
        refine qr_retZ rfl rfl (Or.inl rfl) (by decide) (by decide) ?_
        exact ⟨rfl, 0, rfl, (by decide), by omega⟩
      · skip
        refine qr_iload_n 19 rfl rfl rfl ?_
        refine qr_bipush 21 rfl (by decide) rfl ?_
        refine qr_icmp_gt 35 24 rfl rfl rfl r2 (by decide) (fun h12 => ?_) (fun h12 => ?_)
        · skip
          refine qr_iconst 36 rfl rfl ?_
          refine qr_retZ rfl rfl (Or.inl rfl) (by decide) (by decide) ?_
          exact ⟨rfl, 0, rfl, (by decide), by omega⟩
        · skip
          refine qr_iload_n 25 rfl rfl rfl ?_
          refine qr_callN 28 rfl rfl rfl (sf_41 (d := d + 0) hI r3) ?_
          rintro _ _ ⟨rfl, v13, rfl, hv13, hp14⟩
          show qr_W (qe L xs vb) (d + 1) qx_e39 _ (28, _, [.int (qz v13)], qw σ α κ ρ, 0, 0)
          refine qr_if_eq 35 31 rfl rfl rfl (qrg hv13 (by decide) (by decide)) (fun h15 => ?_) (fun h15 => ?_)
          · skip
            refine qr_iconst 36 rfl rfl ?_
            refine qr_retZ rfl rfl (Or.inl rfl) (by decide) (by decide) ?_
            exact ⟨rfl, 0, rfl, (by decide), by omega⟩
          · skip
            refine qr_iconst 32 rfl rfl ?_
            refine qr_goto 36 rfl rfl ?_
            refine qr_retZ rfl rfl (Or.inr rfl) (by decide) (by decide) ?_
            exact ⟨rfl, 1, rfl, (by decide), by omega⟩

set_option maxHeartbeats 4000000 in
set_option maxRecDepth 20000 in
/-- OneRoof.road -/
theorem sf_126_16x {L : Nat} {xs : Nat → Int} {vb : Bool} {d : Nat} {σ α : Nat → Nat → Int} {κ : Nat → Option Nat} {ρ : Nat} {x1 : Int} {x2 : Int} (hI : qI σ α κ ρ) (r1 : (-2147483648) ≤ x1 ∧ x1 ≤ 2147483647) (r2 : (-2147483648) ≤ x2 ∧ x2 ≤ 2147483647) : qm_T (qe L xs vb) (d + 2) 126 [.ref 16, .int (qz x1), .int (qz x2)] (qw σ α κ ρ) (fun r w' => ∃ α', w' = qw σ α' κ ρ ∧ qI σ α' κ ρ ∧ qFr [] [21] σ α σ α' ∧ ∃ v : Int, r = some (.int (qz v)) ∧ ((-2147483648) ≤ v ∧ v ≤ 2147483647) ∧ (((v = -1 ∧ ¬ (0 ≤ x1 ∧ x1 < σ 17 6 ∧ 0 ≤ x2 ∧ x2 ≤ 3)) ∧ α' 21 = α 21) ∨ (((0 ≤ x1 ∧ x1 < σ 17 6 ∧ 0 ≤ x2 ∧ x2 ≤ 3) ∧ v = α 21 (x1 : Int).toNat) ∧ α' 21 = qzu (α 21) (x1 : Int).toNat (x2)))) := by
  refine qr_start (d := d + 1) qv_e126 (Nat.le_of_ble_eq_true rfl) ?_
  show qr_W (qe L xs vb) (d + 1) qx_e126 _ (0, [(0, .ref 16), (1, .int (qz x1)), (2, .int (qz x2))], [], _, 0, 0)
  have hF0 := qFr_rf [] [21] σ α
  have hz17_6 : 0 ≤ σ 17 6 ∧ σ 17 6 ≤ 32 := hI.1 17 6
  refine qr_aload_n 1 rfl rfl rfl ?_
  refine qr_get 4 rfl rfl rfl (by decide) rfl ?_
  refine qr_iload_n 5 rfl rfl rfl ?_
  refine qr_callN 8 rfl rfl rfl (sf_40_17 (d := d + 0) hI r1) ?_
  have hs3 : 0 ≤ σ 17 6 ∧ σ 17 6 ≤ 32 := hI.1 17 6
  rintro _ _ ⟨rfl, v1, rfl, hv1, hp2⟩
  show qr_W (qe L xs vb) (d + 1) qx_e126 _ (8, _, [.int (qz v1)], qw σ α κ ρ, 0, 0)
  refine qr_if_eq 20 11 rfl rfl rfl (qrg hv1 (by decide) (by decide)) (fun h4 => ?_) (fun h4 => ?_)
  · skip
    refine qr_iconst 21 rfl rfl ?_
    refine qr_retI rfl rfl (by decide) (by decide) ?_
    exact ⟨_, rfl, hI, hF0, (-1), rfl, (by decide), (Or.inl ⟨by omega, rfl⟩)⟩
  · skip
    refine qr_iload_n 12 rfl rfl rfl ?_
    refine qr_if_lt 20 15 rfl rfl rfl r2 (fun h5 => ?_) (fun h5 => ?_)
    · skip
      refine qr_iconst 21 rfl rfl ?_
      refine qr_retI rfl rfl (by decide) (by decide) ?_
      exact ⟨_, rfl, hI, hF0, (-1), rfl, (by decide), (Or.inl ⟨by omega, rfl⟩)⟩
    · skip
      refine qr_iload_n 16 rfl rfl rfl ?_
      refine qr_iconst 17 rfl rfl ?_
      refine qr_icmp_le 22 20 rfl rfl rfl r2 (by decide) (fun h6 => ?_) (fun h6 => ?_)
      · skip
        refine qr_aload_n 23 rfl rfl rfl ?_
        refine qr_get 26 rfl rfl rfl (by decide) rfl ?_
        refine qr_get 29 rfl rfl rfl (by decide) rfl ?_
        refine qr_iload_n 30 rfl rfl rfl ?_
        refine qr_iaload 31 rfl rfl (by omega) (by decide) rfl ?_
        refine qr_topI (fun v7 hv7 => ?_)
        have hs8 : (-2147483648) ≤ v7 ∧ v7 ≤ 2147483647 := by rw [hv7]; exact hI.2.1 21 _ (show _ < 32 by omega)
        refine qr_istore_n _ 32 rfl (by decide) rfl rfl ?_
        refine qr_aload_n 33 rfl rfl rfl ?_
        refine qr_get 36 rfl rfl rfl (by decide) rfl ?_
        refine qr_get 39 rfl rfl rfl (by decide) rfl ?_
        refine qr_iload_n 40 rfl rfl rfl ?_
        refine qr_iload_n 41 rfl rfl rfl ?_
        refine qr_iastore 42 rfl (by decide) rfl (by omega) (by decide) rfl ?_
        refine qy_wA (qw_r α 21 (qzu (α 21) (x1 : Int).toNat x2)) rfl (fun α9 e10 => ?_)
        have hI11 : qI σ α9 κ ρ := by rw [e10]; exact qI_r hI 21 _ rfl (show (-2147483648) ≤ x2 ∧ x2 ≤ 2147483647 by omega)
        have hF12 : qFr [] [21] σ α σ α9 := by rw [e10]; exact qFr_r hF0 21 _ (by decide)
        refine qr_iload_n 43 rfl rfl rfl ?_
        refine qr_retI rfl rfl (by decide) (by decide) ?_
        exact ⟨_, rfl, hI11, hF12, v7, rfl, hs8, (Or.inr (⟨by omega, ((congrFun e10 21).trans (qw_r_eq.trans (congrArg (fun f => qzu f (x1 : Int).toNat x2) rfl)))⟩))⟩
      · skip
        refine qr_iconst 21 rfl rfl ?_
        refine qr_retI rfl rfl (by decide) (by decide) ?_
        exact ⟨_, rfl, hI, hF0, (-1), rfl, (by decide), (Or.inl ⟨by omega, rfl⟩)⟩

set_option maxHeartbeats 4000000 in
set_option maxRecDepth 20000 in
/-- OneRoof$Pegs.isEmpty -/
theorem sf_45_44x {L : Nat} {xs : Nat → Int} {vb : Bool} {d : Nat} {σ α : Nat → Nat → Int} {κ : Nat → Option Nat} {ρ : Nat} {x1 : Int} (hI : qI σ α κ ρ) (r1 : 0 ≤ x1 ∧ x1 ≤ 5) : qm_T (qe L xs vb) (d + 1) 45 [.ref 44, .int (qz x1)] (qw σ α κ ρ) (fun r w' => w' = qw σ α κ ρ ∧ ∃ v : Int, r = some (.int (qz v)) ∧ (0 ≤ v ∧ v ≤ 1) ∧ ((v = 1 ∧ α 45 (x1 : Int).toNat = 6) ∨ (v = 0 ∧ ¬ (α 45 (x1 : Int).toNat = 6)))) := by
  refine qr_start (d := d + 0) qv_e45 (Nat.le_of_ble_eq_true rfl) ?_
  show qr_W (qe L xs vb) (d + 0) qx_e45 _ (0, [(0, .ref 44), (1, .int (qz x1))], [], _, 0, 0)
  refine qr_aload_n 1 rfl rfl rfl ?_
  refine qr_get 4 rfl rfl rfl (by decide) rfl ?_
  refine qr_iload_n 5 rfl rfl rfl ?_
  refine qr_iaload 6 rfl rfl (qrgi r1 (by decide) (by decide)) (by decide) rfl ?_
  refine qr_topI (fun v1 hv1 => ?_)
  have hs2 : 0 ≤ v1 ∧ v1 ≤ 6 := by rw [hv1]; exact hI.2.1 45 _ (show _ < 6 from qrgt r1 (by decide) (by decide))
  refine qr_bipush 8 rfl (by decide) rfl ?_
  refine qr_icmp_ne 15 11 rfl rfl rfl (qrg hs2 (by decide) (by decide)) (by decide) (fun h3 => ?_) (fun h3 => ?_)
  · skip
    refine qr_iconst 16 rfl rfl ?_
    refine qr_retZ rfl rfl (Or.inl rfl) (by decide) (by decide) ?_
    exact ⟨rfl, 0, rfl, (by decide), by omega⟩
  · skip
    refine qr_iconst 12 rfl rfl ?_
    refine qr_goto 16 rfl rfl ?_
    refine qr_retZ rfl rfl (Or.inr rfl) (by decide) (by decide) ?_
    exact ⟨rfl, 1, rfl, (by decide), by omega⟩

set_option maxHeartbeats 4000000 in
set_option maxRecDepth 20000 in
/-- OneRoof$Pegs.isRow -/
theorem sf_47_44x {L : Nat} {xs : Nat → Int} {vb : Bool} {d : Nat} {σ α : Nat → Nat → Int} {κ : Nat → Option Nat} {ρ : Nat} {x1 : Int} (hI : qI σ α κ ρ) (r1 : 0 ≤ x1 ∧ x1 ≤ 5) : qm_T (qe L xs vb) (d + 1) 47 [.ref 44, .int (qz x1)] (qw σ α κ ρ) (fun r w' => w' = qw σ α κ ρ ∧ ∃ v : Int, r = some (.int (qz v)) ∧ (0 ≤ v ∧ v ≤ 1) ∧ ((v = 1 ∧ α 45 (x1 : Int).toNat < 5) ∨ (v = 0 ∧ ¬ (α 45 (x1 : Int).toNat < 5)))) := by
  refine qr_start (d := d + 0) qv_e47 (Nat.le_of_ble_eq_true rfl) ?_
  show qr_W (qe L xs vb) (d + 0) qx_e47 _ (0, [(0, .ref 44), (1, .int (qz x1))], [], _, 0, 0)
  refine qr_aload_n 1 rfl rfl rfl ?_
  refine qr_get 4 rfl rfl rfl (by decide) rfl ?_
  refine qr_iload_n 5 rfl rfl rfl ?_
  refine qr_iaload 6 rfl rfl (qrgi r1 (by decide) (by decide)) (by decide) rfl ?_
  refine qr_topI (fun v1 hv1 => ?_)
  have hs2 : 0 ≤ v1 ∧ v1 ≤ 6 := by rw [hv1]; exact hI.2.1 45 _ (show _ < 6 from qrgt r1 (by decide) (by decide))
  refine qr_iconst 7 rfl rfl ?_
  refine qr_icmp_ge 14 10 rfl rfl rfl (qrg hs2 (by decide) (by decide)) (by decide) (fun h3 => ?_) (fun h3 => ?_)
  · skip
    refine qr_iconst 15 rfl rfl ?_
    refine qr_retZ rfl rfl (Or.inl rfl) (by decide) (by decide) ?_
    exact ⟨rfl, 0, rfl, (by decide), by omega⟩
  · skip
    refine qr_iconst 11 rfl rfl ?_
    refine qr_goto 15 rfl rfl ?_
    refine qr_retZ rfl rfl (Or.inr rfl) (by decide) (by decide) ?_
    exact ⟨rfl, 1, rfl, (by decide), by omega⟩

set_option maxHeartbeats 4000000 in
set_option maxRecDepth 20000 in
/-- OneRoof$Pegs.isRowOf -/
theorem sf_46_44x {L : Nat} {xs : Nat → Int} {vb : Bool} {d : Nat} {σ α : Nat → Nat → Int} {κ : Nat → Option Nat} {ρ : Nat} {x1 : Int} {x2 : Int} (hI : qI σ α κ ρ) (r1 : 0 ≤ x1 ∧ x1 ≤ 5) (r2 : (-2147483648) ≤ x2 ∧ x2 ≤ 2147483647) : qm_T (qe L xs vb) (d + 2) 46 [.ref 44, .int (qz x1), .int (qz x2)] (qw σ α κ ρ) (fun r w' => w' = qw σ α κ ρ ∧ ∃ v : Int, r = some (.int (qz v)) ∧ (0 ≤ v ∧ v ≤ 1) ∧ ((v = 1 ∧ (α 45 (x1 : Int).toNat < 5 ∧ α 45 (x1 : Int).toNat = x2)) ∨ (v = 0 ∧ ¬ ((α 45 (x1 : Int).toNat < 5 ∧ α 45 (x1 : Int).toNat = x2))))) := by
  refine qr_start (d := d + 1) qv_e46 (Nat.le_of_ble_eq_true rfl) ?_
  show qr_W (qe L xs vb) (d + 1) qx_e46 _ (0, [(0, .ref 44), (1, .int (qz x1)), (2, .int (qz x2))], [], _, 0, 0)
  refine qr_aload_n 1 rfl rfl rfl ?_
  refine qr_iload_n 2 rfl rfl rfl ?_
  refine qr_callN 5 rfl rfl rfl (sf_47_44x (d := d + 0) hI r1) ?_
  rintro _ _ ⟨rfl, v1, rfl, hv1, hp2⟩
  show qr_W (qe L xs vb) (d + 1) qx_e46 _ (5, _, [.int (qz v1)], qw σ α κ ρ, 0, 0)
  refine qr_if_eq 22 8 rfl rfl rfl (qrg hv1 (by decide) (by decide)) (fun h3 => ?_) (fun h3 => ?_)
  · skip
    refine qr_iconst 23 rfl rfl ?_
    refine qr_retZ rfl rfl (Or.inl rfl) (by decide) (by decide) ?_
    exact ⟨rfl, 0, rfl, (by decide), by omega⟩
  · skip
    refine qr_aload_n 9 rfl rfl rfl ?_
    refine qr_get 12 rfl rfl rfl (by decide) rfl ?_
    refine qr_iload_n 13 rfl rfl rfl ?_
    refine qr_iaload 14 rfl rfl (qrgi r1 (by decide) (by decide)) (by decide) rfl ?_
    refine qr_topI (fun v4 hv4 => ?_)
    have hs5 : 0 ≤ v4 ∧ v4 ≤ 6 := by rw [hv4]; exact hI.2.1 45 _ (show _ < 6 from qrgt r1 (by decide) (by decide))
    refine qr_iload_n 15 rfl rfl rfl ?_
    refine qr_icmp_ne 22 18 rfl rfl rfl (qrg hs5 (by decide) (by decide)) r2 (fun h6 => ?_) (fun h6 => ?_)
    · skip
      refine qr_iconst 23 rfl rfl ?_
      refine qr_retZ rfl rfl (Or.inl rfl) (by decide) (by decide) ?_
      exact ⟨rfl, 0, rfl, (by decide), by omega⟩
    · skip
      refine qr_iconst 19 rfl rfl ?_
      refine qr_goto 23 rfl rfl ?_
      refine qr_retZ rfl rfl (Or.inr rfl) (by decide) (by decide) ?_
      exact ⟨rfl, 1, rfl, (by decide), by omega⟩

set_option maxHeartbeats 4000000 in
set_option maxRecDepth 20000 in
/-- OneRoof$Pegs.hang -/
theorem sf_156_44x {L : Nat} {xs : Nat → Int} {vb : Bool} {d : Nat} {σ α : Nat → Nat → Int} {κ : Nat → Option Nat} {ρ : Nat} {x1 : Int} {x2 : Int} (hI : qI σ α κ ρ) (r1 : 0 ≤ x1 ∧ x1 ≤ 5) (r2 : (-1) ≤ x2 ∧ x2 ≤ 59) : qm_T (qe L xs vb) (d + 1) 156 [.ref 44, .int (qz x1), .int (qz x2)] (qw σ α κ ρ) (fun r w' => ∃ α', w' = qw σ α' κ ρ ∧ qI σ α' κ ρ ∧ qFr [] [45, 46, 47] σ α σ α' ∧ r = none ∧ α' 45 = qzu (α 45) (x1 : Int).toNat (if x2 < 0 then 6 else 5) ∧ α' 46 = qzu (α 46) (x1 : Int).toNat (0) ∧ α' 47 = qzu (α 47) (x1 : Int).toNat (x2)) := by
  refine qr_start (d := d + 0) qv_e156 (Nat.le_of_ble_eq_true rfl) ?_
  show qr_W (qe L xs vb) (d + 0) qx_e156 _ (0, [(0, .ref 44), (1, .int (qz x1)), (2, .int (qz x2))], [], _, 0, 0)
  have hF0 := qFr_rf [] [45, 46, 47] σ α
  refine qr_aload_n 1 rfl rfl rfl ?_
  refine qr_get 4 rfl rfl rfl (by decide) rfl ?_
  refine qr_iload_n 5 rfl rfl rfl ?_
  refine qr_iload_n 6 rfl rfl rfl ?_
  refine qr_if_ge 14 9 rfl rfl rfl (qrg r2 (by decide) (by decide)) (fun h1 => ?_) (fun h1 => ?_)
  · skip
    refine qr_iconst 15 rfl rfl ?_
    refine qr_iastore 16 rfl (by decide) rfl (qrgi r1 (by decide) (by decide)) (by decide) rfl ?_
    refine qy_wA (qw_r α 45 (qzu (α 45) (x1 : Int).toNat 5)) rfl (fun α2 e3 => ?_)
    have hI4 : qI σ α2 κ ρ := by rw [e3]; exact qI_r hI 45 _ rfl (show 0 ≤ 5 ∧ 5 ≤ 6 by omega)
    have hF5 : qFr [] [45, 46, 47] σ α σ α2 := by rw [e3]; exact qFr_r hF0 45 _ (by decide)
    refine qr_aload_n 17 rfl rfl rfl ?_
    refine qr_get 20 rfl rfl rfl (by decide) rfl ?_
    refine qr_iload_n 21 rfl rfl rfl ?_
    refine qr_iload_n 22 rfl rfl rfl ?_
    refine qr_iastore 23 rfl (by decide) rfl (qrgi r1 (by decide) (by decide)) (by decide) rfl ?_
    refine qy_wA (qw_r α2 47 (qzu (α2 47) (x1 : Int).toNat x2)) rfl (fun α6 e7 => ?_)
    have hI8 : qI σ α6 κ ρ := by rw [e7]; exact qI_r hI4 47 _ rfl (show (-1) ≤ x2 ∧ x2 ≤ 59 by omega)
    have hF9 : qFr [] [45, 46, 47] σ α σ α6 := by rw [e7]; exact qFr_r hF5 47 _ (by decide)
    refine qr_aload_n 24 rfl rfl rfl ?_
    refine qr_get 27 rfl rfl rfl (by decide) rfl ?_
    refine qr_iload_n 28 rfl rfl rfl ?_
    refine qr_iconst 29 rfl rfl ?_
    refine qr_iastore 30 rfl (by decide) rfl (qrgi r1 (by decide) (by decide)) (by decide) rfl ?_
    refine qy_wA (qw_r α6 46 (qzu (α6 46) (x1 : Int).toNat 0)) rfl (fun α10 e11 => ?_)
    have hI12 : qI σ α10 κ ρ := by rw [e11]; exact qI_r hI8 46 _ rfl (show 0 ≤ 0 ∧ 0 ≤ 60 by omega)
    have hF13 : qFr [] [45, 46, 47] σ α σ α10 := by rw [e11]; exact qFr_r hF9 46 _ (by decide)
    refine qr_retV rfl rfl (by decide) (by decide) ?_
    exact ⟨_, rfl, hI12, hF13, rfl, (((congrFun e11 45).trans ((qw_r_ne (by decide)).trans ((congrFun e7 45).trans ((qw_r_ne (by decide)).trans ((congrFun e3 45).trans (qw_r_eq.trans (congrArg (fun f => qzu f (x1 : Int).toNat 5) rfl))))))).trans (by rw [if_neg (by omega)])), ((congrFun e11 46).trans (qw_r_eq.trans (congrArg (fun f => qzu f (x1 : Int).toNat 0) ((congrFun e7 46).trans ((qw_r_ne (by decide)).trans ((congrFun e3 46).trans ((qw_r_ne (by decide)).trans rfl))))))), ((congrFun e11 47).trans ((qw_r_ne (by decide)).trans ((congrFun e7 47).trans (qw_r_eq.trans (congrArg (fun f => qzu f (x1 : Int).toNat x2) ((congrFun e3 47).trans ((qw_r_ne (by decide)).trans rfl)))))))⟩
  · skip
    refine qr_bipush 11 rfl (by decide) rfl ?_
    refine qr_goto 15 rfl rfl ?_
    refine qr_iastore 16 rfl (by decide) rfl (qrgi r1 (by decide) (by decide)) (by decide) rfl ?_
    refine qy_wA (qw_r α 45 (qzu (α 45) (x1 : Int).toNat 6)) rfl (fun α14 e15 => ?_)
    have hI16 : qI σ α14 κ ρ := by rw [e15]; exact qI_r hI 45 _ rfl (show 0 ≤ 6 ∧ 6 ≤ 6 by omega)
    have hF17 : qFr [] [45, 46, 47] σ α σ α14 := by rw [e15]; exact qFr_r hF0 45 _ (by decide)
    refine qr_aload_n 17 rfl rfl rfl ?_
    refine qr_get 20 rfl rfl rfl (by decide) rfl ?_
    refine qr_iload_n 21 rfl rfl rfl ?_
    refine qr_iload_n 22 rfl rfl rfl ?_
    refine qr_iastore 23 rfl (by decide) rfl (qrgi r1 (by decide) (by decide)) (by decide) rfl ?_
    refine qy_wA (qw_r α14 47 (qzu (α14 47) (x1 : Int).toNat x2)) rfl (fun α18 e19 => ?_)
    have hI20 : qI σ α18 κ ρ := by rw [e19]; exact qI_r hI16 47 _ rfl (show (-1) ≤ x2 ∧ x2 ≤ 59 by omega)
    have hF21 : qFr [] [45, 46, 47] σ α σ α18 := by rw [e19]; exact qFr_r hF17 47 _ (by decide)
    refine qr_aload_n 24 rfl rfl rfl ?_
    refine qr_get 27 rfl rfl rfl (by decide) rfl ?_
    refine qr_iload_n 28 rfl rfl rfl ?_
    refine qr_iconst 29 rfl rfl ?_
    refine qr_iastore 30 rfl (by decide) rfl (qrgi r1 (by decide) (by decide)) (by decide) rfl ?_
    refine qy_wA (qw_r α18 46 (qzu (α18 46) (x1 : Int).toNat 0)) rfl (fun α22 e23 => ?_)
    have hI24 : qI σ α22 κ ρ := by rw [e23]; exact qI_r hI20 46 _ rfl (show 0 ≤ 0 ∧ 0 ≤ 60 by omega)
    have hF25 : qFr [] [45, 46, 47] σ α σ α22 := by rw [e23]; exact qFr_r hF21 46 _ (by decide)
    refine qr_retV rfl rfl (by decide) (by decide) ?_
    exact ⟨_, rfl, hI24, hF25, rfl, (((congrFun e23 45).trans ((qw_r_ne (by decide)).trans ((congrFun e19 45).trans ((qw_r_ne (by decide)).trans ((congrFun e15 45).trans (qw_r_eq.trans (congrArg (fun f => qzu f (x1 : Int).toNat 6) rfl))))))).trans (by rw [if_pos (by omega)])), ((congrFun e23 46).trans (qw_r_eq.trans (congrArg (fun f => qzu f (x1 : Int).toNat 0) ((congrFun e19 46).trans ((qw_r_ne (by decide)).trans ((congrFun e15 46).trans ((qw_r_ne (by decide)).trans rfl))))))), ((congrFun e23 47).trans ((qw_r_ne (by decide)).trans ((congrFun e19 47).trans (qw_r_eq.trans (congrArg (fun f => qzu f (x1 : Int).toNat x2) ((congrFun e15 47).trans ((qw_r_ne (by decide)).trans rfl)))))))⟩

set_option maxHeartbeats 4000000 in
set_option maxRecDepth 20000 in
/-- OneRoof.keep -/
theorem sf_155_16x {L : Nat} {xs : Nat → Int} {vb : Bool} {d : Nat} {σ α : Nat → Nat → Int} {κ : Nat → Option Nat} {ρ : Nat} {x1 : Int} {x2 : Int} (hI : qI σ α κ ρ) (r1 : (-2147483648) ≤ x1 ∧ x1 ≤ 2147483647) (r2 : (-2147483648) ≤ x2 ∧ x2 ≤ 2147483647) : qm_T (qe L xs vb) (d + 2) 155 [.ref 16, .int (qz x1), .int (qz x2)] (qw σ α κ ρ) (fun r w' => ∃ α', w' = qw σ α' κ ρ ∧ qI σ α' κ ρ ∧ qFr [] [45, 46, 47] σ α σ α' ∧ ∃ v : Int, r = some (.int (qz v)) ∧ ((-2147483648) ≤ v ∧ v ≤ 2147483647) ∧ (((v = -1 ∧ ¬ (0 ≤ x1 ∧ x1 ≤ 5 ∧ (x2 = -1 ∨ (0 ≤ x2 ∧ x2 < σ 34 7)))) ∧ α' 45 = α 45 ∧ α' 46 = α 46 ∧ α' 47 = α 47) ∨ ((v = 1 ∧ (0 ≤ x1 ∧ x1 ≤ 5 ∧ (x2 = -1 ∨ (0 ≤ x2 ∧ x2 < σ 34 7)))) ∧ α' 45 = qzu (α 45) (x1 : Int).toNat (if x2 < 0 then 6 else 5) ∧ α' 46 = qzu (α 46) (x1 : Int).toNat (0) ∧ α' 47 = qzu (α 47) (x1 : Int).toNat (x2)))) := by
  refine qr_start (d := d + 1) qv_e155 (Nat.le_of_ble_eq_true rfl) ?_
  show qr_W (qe L xs vb) (d + 1) qx_e155 _ (0, [(0, .ref 16), (1, .int (qz x1)), (2, .int (qz x2))], [], _, 0, 0)
  have hF0 := qFr_rf [] [45, 46, 47] σ α
  have hz34_7 : 0 ≤ σ 34 7 ∧ σ 34 7 ≤ 60 := hI.1 34 7
  refine qr_aload_n 1 rfl rfl rfl ?_
  refine qr_get 4 rfl rfl rfl (by decide) rfl ?_
  refine qr_iload_n 5 rfl rfl rfl ?_
  refine qr_callN 8 rfl rfl rfl (sf_44_44 (d := d + 0) hI r1) ?_
  rintro _ _ ⟨rfl, v1, rfl, hv1, hp2⟩
  show qr_W (qe L xs vb) (d + 1) qx_e155 _ (8, _, [.int (qz v1)], qw σ α κ ρ, 0, 0)
  refine qr_if_eq 27 11 rfl rfl rfl (qrg hv1 (by decide) (by decide)) (fun h3 => ?_) (fun h3 => ?_)
  · skip
    refine qr_iconst 28 rfl rfl ?_
    refine qr_retI rfl rfl (by decide) (by decide) ?_
    exact ⟨_, rfl, hI, hF0, (-1), rfl, (by decide), (Or.inl ⟨by omega, rfl, rfl, rfl⟩)⟩
  · skip
    refine qr_iload_n 12 rfl rfl rfl ?_
    refine qr_iconst 13 rfl rfl ?_
    refine qr_icmp_eq 29 16 rfl rfl rfl r2 (by decide) (fun h4 => ?_) (fun h4 => ?_)
    · skip
      refine qr_aload_n 30 rfl rfl rfl ?_
      refine qr_get 33 rfl rfl rfl (by decide) rfl ?_
      refine qr_iload_n 34 rfl rfl rfl ?_
      refine qr_iload_n 35 rfl rfl rfl ?_
      refine qr_callN 38 rfl rfl rfl (sf_156_44x (d := d + 0) hI (by omega) (by omega)) ?_
      rintro _ _ ⟨α8, rfl, hI9, hG10, rfl, hx5, hx6, hx7⟩
      have hF11 : qFr [] [45, 46, 47] σ α σ α8 := qFr_t hF0 hG10 (by decide) (by decide)
      show qr_W (qe L xs vb) (d + 1) qx_e155 _ (38, _, [], qw σ α8 κ ρ, 0, 0)
      refine qr_iconst 39 rfl rfl ?_
      refine qr_retI rfl rfl (by decide) (by decide) ?_
      exact ⟨_, rfl, hI9, hF11, 1, rfl, (by decide), (Or.inr (⟨by omega, (hx5.trans (congrArg (fun f => qzu (f) (x1 : Int).toNat (if x2 < 0 then 6 else 5)) rfl)), (hx6.trans (congrArg (fun f => qzu (f) (x1 : Int).toNat (0)) rfl)), (hx7.trans (congrArg (fun f => qzu (f) (x1 : Int).toNat (x2)) rfl))⟩))⟩
    · skip
      refine qr_aload_n 17 rfl rfl rfl ?_
      refine qr_get 20 rfl rfl rfl (by decide) rfl ?_
      refine qr_iload_n 21 rfl rfl rfl ?_
      refine qr_callN 24 rfl rfl rfl (sf_73_34 (d := d + 0) hI r2) ?_
      have hs14 : 0 ≤ σ 34 7 ∧ σ 34 7 ≤ 60 := hI.1 34 7
      rintro _ _ ⟨rfl, v12, rfl, hv12, hp13⟩
      show qr_W (qe L xs vb) (d + 1) qx_e155 _ (24, _, [.int (qz v12)], qw σ α κ ρ, 0, 0)
      refine qr_if_ne 29 27 rfl rfl rfl (qrg hv12 (by decide) (by decide)) (fun h15 => ?_) (fun h15 => ?_)
      · skip
        refine qr_aload_n 30 rfl rfl rfl ?_
        refine qr_get 33 rfl rfl rfl (by decide) rfl ?_
        refine qr_iload_n 34 rfl rfl rfl ?_
        refine qr_iload_n 35 rfl rfl rfl ?_
        refine qr_callN 38 rfl rfl rfl (sf_156_44x (d := d + 0) hI (by omega) (by omega)) ?_
        rintro _ _ ⟨α19, rfl, hI20, hG21, rfl, hx16, hx17, hx18⟩
        have hF22 : qFr [] [45, 46, 47] σ α σ α19 := qFr_t hF0 hG21 (by decide) (by decide)
        show qr_W (qe L xs vb) (d + 1) qx_e155 _ (38, _, [], qw σ α19 κ ρ, 0, 0)
        refine qr_iconst 39 rfl rfl ?_
        refine qr_retI rfl rfl (by decide) (by decide) ?_
        exact ⟨_, rfl, hI20, hF22, 1, rfl, (by decide), (Or.inr (⟨by omega, (hx16.trans (congrArg (fun f => qzu (f) (x1 : Int).toNat (if x2 < 0 then 6 else 5)) rfl)), (hx17.trans (congrArg (fun f => qzu (f) (x1 : Int).toNat (0)) rfl)), (hx18.trans (congrArg (fun f => qzu (f) (x1 : Int).toNat (x2)) rfl))⟩))⟩
      · skip
        refine qr_iconst 28 rfl rfl ?_
        refine qr_retI rfl rfl (by decide) (by decide) ?_
        exact ⟨_, rfl, hI, hF0, (-1), rfl, (by decide), (Or.inl ⟨by omega, rfl, rfl, rfl⟩)⟩

set_option maxHeartbeats 4000000 in
set_option maxRecDepth 20000 in
/-- OneRoof$Pegs.hangRow -/
theorem sf_158_44x {L : Nat} {xs : Nat → Int} {vb : Bool} {d : Nat} {σ α : Nat → Nat → Int} {κ : Nat → Option Nat} {ρ : Nat} {x1 : Int} {x2 : Int} {x3 : Int} (hI : qI σ α κ ρ) (r1 : 0 ≤ x1 ∧ x1 ≤ 5) (r2 : 0 ≤ x2 ∧ x2 ≤ 4) (r3 : 0 ≤ x3 ∧ x3 ≤ 60) : qm_T (qe L xs vb) (d + 1) 158 [.ref 44, .int (qz x1), .int (qz x2), .int (qz x3)] (qw σ α κ ρ) (fun r w' => ∃ α', w' = qw σ α' κ ρ ∧ qI σ α' κ ρ ∧ qFr [] [45, 46, 48] σ α σ α' ∧ r = none ∧ α' 45 = qzu (α 45) (x1 : Int).toNat (x2) ∧ α' 46 = qzu (α 46) (x1 : Int).toNat (x3) ∧ α' 48 = qzfl (α 48) (x1 * 60 : Int).toNat (x3 : Int).toNat) := by
  refine qr_start (d := d + 0) qv_e158 (Nat.le_of_ble_eq_true rfl) ?_
  show qr_W (qe L xs vb) (d + 0) qx_e158 _ (0, [(0, .ref 44), (1, .int (qz x1)), (2, .int (qz x2)), (3, .int (qz x3))], [], _, 0, 0)
  have hF0 := qFr_rf [] [45, 46, 48] σ α
  refine qr_aload_n 1 rfl rfl rfl ?_
  refine qr_get 4 rfl rfl rfl (by decide) rfl ?_
  refine qr_iload_n 5 rfl rfl rfl ?_
  refine qr_iload_n 6 rfl rfl rfl ?_
  refine qr_iastore 7 rfl (by decide) rfl (qrgi r1 (by decide) (by decide)) (by decide) rfl ?_
  refine qy_wA (qw_r α 45 (qzu (α 45) (x1 : Int).toNat x2)) rfl (fun α1 e2 => ?_)
  have hI3 : qI σ α1 κ ρ := by rw [e2]; exact qI_r hI 45 _ rfl (show 0 ≤ x2 ∧ x2 ≤ 6 by omega)
  have hF4 : qFr [] [45, 46, 48] σ α σ α1 := by rw [e2]; exact qFr_r hF0 45 _ (by decide)
  refine qr_aload_n 8 rfl rfl rfl ?_
  refine qr_get 11 rfl rfl rfl (by decide) rfl ?_
  refine qr_iload_n 12 rfl rfl rfl ?_
  refine qr_iload_n 13 rfl rfl rfl ?_
  refine qr_iastore 14 rfl (by decide) rfl (qrgi r1 (by decide) (by decide)) (by decide) rfl ?_
  refine qy_wA (qw_r α1 46 (qzu (α1 46) (x1 : Int).toNat x3)) rfl (fun α5 e6 => ?_)
  have hI7 : qI σ α5 κ ρ := by rw [e6]; exact qI_r hI3 46 _ rfl (show 0 ≤ x3 ∧ x3 ≤ 60 by omega)
  have hF8 : qFr [] [45, 46, 48] σ α σ α5 := by rw [e6]; exact qFr_r hF4 46 _ (by decide)
  refine qr_iconst 15 rfl rfl ?_
  refine qr_istore _ 17 rfl (by decide) rfl rfl ?_
  have hL215 : ∀ (n : Nat) (ls : qm_L) (u205 : Int) (α207 : Nat → Nat → Int), 60 - u205 < (n : Int) → qm_get ls 0 = some (.ref 44) → qm_get ls 1 = some (.int (qz x1)) → qm_get ls 3 = some (.int (qz x3)) → qm_get ls 4 = some (.int (qz u205)) → (0 ≤ u205 ∧ u205 ≤ 60) → qI σ α207 κ ρ → qFr [] [45, 46, 48] σ α σ α207 → α207 48 = (qzfl (α 48) (x1 * 60 : Int).toNat (u205 : Int).toNat) → α207 45 = (qzu (α 45) (x1 : Int).toNat x2) → α207 46 = (qzu (α 46) (x1 : Int).toNat x3) → u205 ≤ x3 → qr_W (qe L xs vb) (d + 0) qx_e158 (fun r w' => ∃ α', w' = qw σ α' κ ρ ∧ qI σ α' κ ρ ∧ qFr [] [45, 46, 48] σ α σ α' ∧ r = none ∧ α' 45 = qzu (α 45) (x1 : Int).toNat (x2) ∧ α' 46 = qzu (α 46) (x1 : Int).toNat (x3) ∧ α' 48 = qzfl (α 48) (x1 * 60 : Int).toNat (x3 : Int).toNat) (17, ls, [], qw σ α207 κ ρ, 0, 0) := by
    intro n
    induction n with
    | zero => intro ls u205 α207 hm g201 g202 g203 g204 hf210 hI208 hF209 hx211 hx212 hx213 hx214; exact False.elim (by omega)
    | succ n ih216 =>
      intro ls u205 α207 hm g201 g202 g203 g204 hf210 hI208 hF209 hx211 hx212 hx213 hx214
      refine qr_iload 19 rfl g204 rfl ?_
      refine qr_iload_n 20 rfl g203 rfl ?_
      refine qr_icmp_ge 42 23 rfl rfl rfl (qrg hf210 (by decide) (by decide)) (qrg r3 (by decide) (by decide)) (fun h217 => ?_) (fun h217 => ?_)
      · skip
        refine qr_retV rfl rfl (by decide) (by decide) ?_
        exact ⟨_, rfl, hI208, hF209, rfl, hx212, hx213, (hx211.trans (by congr 1; omega))⟩
      · skip
        refine qr_aload_n 24 rfl g201 rfl ?_
        refine qr_get 27 rfl rfl rfl (by decide) rfl ?_
        refine qr_iload_n 28 rfl g202 rfl ?_
        refine qr_bipush 30 rfl (by decide) rfl ?_
        refine qr_imul 31 rfl rfl ?_
        refine qr_iload 33 rfl g204 rfl ?_
        refine qr_iadd 34 rfl rfl ?_
        refine qr_lconst 35 rfl rfl ?_
        refine qy_vl 0 rfl ?_
        refine qr_lastore 36 rfl (by decide) rfl (by omega) (by decide) rfl ?_
        refine qy_wA (qw_r α207 48 (qzu (α207 48) (((x1 * 60) + u205) : Int).toNat 0)) rfl (fun α218 e219 => ?_)
        have hI220 : qI σ α218 κ ρ := by rw [e219]; exact qI_r hI208 48 _ rfl (show (-9223372036854775808) ≤ 0 ∧ 0 ≤ 9223372036854775807 by omega)
        have hF221 : qFr [] [45, 46, 48] σ α σ α218 := by rw [e219]; exact qFr_r hF209 48 _ (by decide)
        refine qr_iinc _ 39 rfl g204 (by decide) rfl rfl ?_
        refine qr_goto 17 rfl rfl ?_
        exact ih216 _ (u205 + 1) α218 (by omega) (qm_gk g201 (by decide) (Or.inl (by decide))) (qm_gk g202 (by decide) (Or.inl (by decide))) (qm_gk g203 (by decide) (Or.inr rfl)) (qm_ge _ _ _) (by omega) hI220 hF221 (((congrFun e219 48).trans (qw_r_eq.trans (congrArg (fun f => qzu f (((x1 * 60) + u205) : Int).toNat 0) hx211))).trans (qzfl_s (by omega) (by omega))) ((congrFun e219 45).trans ((qw_r_ne (by decide)).trans hx212)) ((congrFun e219 46).trans ((qw_r_ne (by decide)).trans hx213)) (by omega)
  exact hL215 ((60 - 0 + 1 : Int)).toNat _ 0 α5 (by omega) rfl rfl rfl rfl (by decide) hI7 hF8 (((congrFun e6 48).trans ((qw_r_ne (by decide)).trans ((congrFun e2 48).trans ((qw_r_ne (by decide)).trans rfl)))).trans (qzfl_0 _ _)) ((congrFun e6 45).trans ((qw_r_ne (by decide)).trans ((congrFun e2 45).trans (qw_r_eq.trans (congrArg (fun f => qzu f (x1 : Int).toNat x2) rfl))))) ((congrFun e6 46).trans (qw_r_eq.trans (congrArg (fun f => qzu f (x1 : Int).toNat x3) ((congrFun e2 46).trans ((qw_r_ne (by decide)).trans rfl))))) (by omega)

set_option maxHeartbeats 4000000 in
set_option maxRecDepth 20000 in
/-- OneRoof.row -/
theorem sf_157_16x {L : Nat} {xs : Nat → Int} {vb : Bool} {d : Nat} {σ α : Nat → Nat → Int} {κ : Nat → Option Nat} {ρ : Nat} {x1 : Int} {x2 : Int} {x3 : Int} (hI : qI σ α κ ρ) (r1 : (-2147483648) ≤ x1 ∧ x1 ≤ 2147483647) (r2 : (-2147483648) ≤ x2 ∧ x2 ≤ 2147483647) (r3 : (-2147483648) ≤ x3 ∧ x3 ≤ 2147483647) : qm_T (qe L xs vb) (d + 2) 157 [.ref 16, .int (qz x1), .int (qz x2), .int (qz x3)] (qw σ α κ ρ) (fun r w' => ∃ α', w' = qw σ α' κ ρ ∧ qI σ α' κ ρ ∧ qFr [] [45, 46, 48] σ α σ α' ∧ ∃ v : Int, r = some (.int (qz v)) ∧ ((-2147483648) ≤ v ∧ v ≤ 2147483647) ∧ (((v = -1 ∧ ¬ (0 ≤ x1 ∧ x1 ≤ 5 ∧ 0 ≤ x2 ∧ x2 ≤ 4 ∧ x3 ≤ 60)) ∧ α' 45 = α 45 ∧ α' 46 = α 46 ∧ α' 48 = α 48) ∨ ((v = -14 ∧ (0 ≤ x1 ∧ x1 ≤ 5 ∧ 0 ≤ x2 ∧ x2 ≤ 4 ∧ x3 ≤ 60) ∧ x3 < 0) ∧ α' 45 = α 45 ∧ α' 46 = α 46 ∧ α' 48 = α 48) ∨ ((v = 1 ∧ (0 ≤ x1 ∧ x1 ≤ 5 ∧ 0 ≤ x2 ∧ x2 ≤ 4 ∧ x3 ≤ 60) ∧ 0 ≤ x3) ∧ α' 45 = qzu (α 45) (x1 : Int).toNat (x2) ∧ α' 46 = qzu (α 46) (x1 : Int).toNat (x3) ∧ α' 48 = qzfl (α 48) (x1 * 60 : Int).toNat (x3 : Int).toNat))) := by
  refine qr_start (d := d + 1) qv_e157 (Nat.le_of_ble_eq_true rfl) ?_
  show qr_W (qe L xs vb) (d + 1) qx_e157 _ (0, [(0, .ref 16), (1, .int (qz x1)), (2, .int (qz x2)), (3, .int (qz x3))], [], _, 0, 0)
  have hF0 := qFr_rf [] [45, 46, 48] σ α
  refine qr_aload_n 1 rfl rfl rfl ?_
  refine qr_get 4 rfl rfl rfl (by decide) rfl ?_
  refine qr_iload_n 5 rfl rfl rfl ?_
  refine qr_callN 8 rfl rfl rfl (sf_44_44 (d := d + 0) hI r1) ?_
  rintro _ _ ⟨rfl, v1, rfl, hv1, hp2⟩
  show qr_W (qe L xs vb) (d + 1) qx_e157 _ (8, _, [.int (qz v1)], qw σ α κ ρ, 0, 0)
  refine qr_if_eq 26 11 rfl rfl rfl (qrg hv1 (by decide) (by decide)) (fun h3 => ?_) (fun h3 => ?_)
  · skip
    refine qr_iconst 27 rfl rfl ?_
    refine qr_retI rfl rfl (by decide) (by decide) ?_
    exact ⟨_, rfl, hI, hF0, (-1), rfl, (by decide), (Or.inl ⟨by omega, rfl, rfl, rfl⟩)⟩
  · skip
    refine qr_iload_n 12 rfl rfl rfl ?_
    refine qr_if_lt 26 15 rfl rfl rfl r2 (fun h4 => ?_) (fun h4 => ?_)
    · skip
      refine qr_iconst 27 rfl rfl ?_
      refine qr_retI rfl rfl (by decide) (by decide) ?_
      exact ⟨_, rfl, hI, hF0, (-1), rfl, (by decide), (Or.inl ⟨by omega, rfl, rfl, rfl⟩)⟩
    · skip
      refine qr_iload_n 16 rfl rfl rfl ?_
      refine qr_iconst 17 rfl rfl ?_
      refine qr_icmp_ge 26 20 rfl rfl rfl r2 (by decide) (fun h5 => ?_) (fun h5 => ?_)
      · skip
        refine qr_iconst 27 rfl rfl ?_
        refine qr_retI rfl rfl (by decide) (by decide) ?_
        exact ⟨_, rfl, hI, hF0, (-1), rfl, (by decide), (Or.inl ⟨by omega, rfl, rfl, rfl⟩)⟩
      · skip
        refine qr_iload_n 21 rfl rfl rfl ?_
        refine qr_bipush 23 rfl (by decide) rfl ?_
        refine qr_icmp_le 28 26 rfl rfl rfl r3 (by decide) (fun h6 => ?_) (fun h6 => ?_)
        · skip
          refine qr_iload_n 29 rfl rfl rfl ?_
          refine qr_if_ge 35 32 rfl rfl rfl r3 (fun h7 => ?_) (fun h7 => ?_)
          · skip
            refine qr_aload_n 36 rfl rfl rfl ?_
            refine qr_get 39 rfl rfl rfl (by decide) rfl ?_
            refine qr_iload_n 40 rfl rfl rfl ?_
            refine qr_iload_n 41 rfl rfl rfl ?_
            refine qr_iload_n 42 rfl rfl rfl ?_
            refine qr_callN 45 rfl rfl rfl (sf_158_44x (d := d + 0) hI (by omega) (by omega) (by omega)) ?_
            rintro _ _ ⟨α11, rfl, hI12, hG13, rfl, hx8, hx9, hx10⟩
            have hF14 : qFr [] [45, 46, 48] σ α σ α11 := qFr_t hF0 hG13 (by decide) (by decide)
            show qr_W (qe L xs vb) (d + 1) qx_e157 _ (45, _, [], qw σ α11 κ ρ, 0, 0)
            refine qr_iconst 46 rfl rfl ?_
            refine qr_retI rfl rfl (by decide) (by decide) ?_
            exact ⟨_, rfl, hI12, hF14, 1, rfl, (by decide), (Or.inr (Or.inr (⟨by omega, (hx8.trans (congrArg (fun f => qzu (f) (x1 : Int).toNat (x2)) rfl)), (hx9.trans (congrArg (fun f => qzu (f) (x1 : Int).toNat (x3)) rfl)), (hx10.trans (congrArg (fun f => qzfl (f) (x1 * 60 : Int).toNat (x3 : Int).toNat) rfl))⟩)))⟩
          · skip
            refine qr_bipush 34 rfl (by decide) rfl ?_
            refine qr_retI rfl rfl (by decide) (by decide) ?_
            exact ⟨_, rfl, hI, hF0, (-14), rfl, (by decide), (Or.inr (Or.inl ⟨by omega, rfl, rfl, rfl⟩))⟩
        · skip
          refine qr_iconst 27 rfl rfl ?_
          refine qr_retI rfl rfl (by decide) (by decide) ?_
          exact ⟨_, rfl, hI, hF0, (-1), rfl, (by decide), (Or.inl ⟨by omega, rfl, rfl, rfl⟩)⟩

set_option maxHeartbeats 4000000 in
set_option maxRecDepth 20000 in
/-- OneRoof$Pegs.refusalAt -/
theorem sf_160_44x {L : Nat} {xs : Nat → Int} {vb : Bool} {d : Nat} {σ α : Nat → Nat → Int} {κ : Nat → Option Nat} {ρ : Nat} {x1 : Int} {x2 : Int} (hI : qI σ α κ ρ) (r1 : 0 ≤ x1 ∧ x1 ≤ 5) (r2 : (-2147483648) ≤ x2 ∧ x2 ≤ 2147483647) : qm_T (qe L xs vb) (d + 2) 160 [.ref 44, .int (qz x1), .int (qz x2)] (qw σ α κ ρ) (fun r w' => w' = qw σ α κ ρ ∧ ∃ v : Int, r = some (.int (qz v)) ∧ ((-13) ≤ v ∧ v ≤ 0) ∧ ((v = -11 ∧ α 45 (x1 : Int).toNat = 6) ∨ (v = -12 ∧ α 45 (x1 : Int).toNat = 5) ∨ (v = -13 ∧ α 45 (x1 : Int).toNat ≤ 4 ∧ ¬ (0 ≤ x2 ∧ x2 < α 46 (x1 : Int).toNat)) ∨ (v = 0 ∧ α 45 (x1 : Int).toNat ≤ 4 ∧ 0 ≤ x2 ∧ x2 < α 46 (x1 : Int).toNat))) := by
  refine qr_start (d := d + 1) qv_e160 (Nat.le_of_ble_eq_true rfl) ?_
  show qr_W (qe L xs vb) (d + 1) qx_e160 _ (0, [(0, .ref 44), (1, .int (qz x1)), (2, .int (qz x2))], [], _, 0, 0)
  have qx1_45 : 0 ≤ x1 ∧ x1 ≤ 5 → 0 ≤ α 45 (x1 : Int).toNat ∧ α 45 (x1 : Int).toNat ≤ 6 := fun h => hI.2.1 45 _ (show (x1 : Int).toNat < 6 by omega)
  have qx1_46 : 0 ≤ x1 ∧ x1 ≤ 5 → 0 ≤ α 46 (x1 : Int).toNat ∧ α 46 (x1 : Int).toNat ≤ 60 := fun h => hI.2.1 46 _ (show (x1 : Int).toNat < 6 by omega)
  refine qr_aload_n 1 rfl rfl rfl ?_
  refine qr_iload_n 2 rfl rfl rfl ?_
  refine qr_callN 5 rfl rfl rfl (sf_45_44x (d := d + 0) hI r1) ?_
  rintro _ _ ⟨rfl, v1, rfl, hv1, hp2⟩
  show qr_W (qe L xs vb) (d + 1) qx_e160 _ (5, _, [.int (qz v1)], qw σ α κ ρ, 0, 0)
  refine qr_if_eq 11 8 rfl rfl rfl (qrg hv1 (by decide) (by decide)) (fun h3 => ?_) (fun h3 => ?_)
  · skip
    refine qr_aload_n 12 rfl rfl rfl ?_
    refine qr_iload_n 13 rfl rfl rfl ?_
    refine qr_callN 16 rfl rfl rfl (sf_47_44x (d := d + 0) hI r1) ?_
    rintro _ _ ⟨rfl, v4, rfl, hv4, hp5⟩
    show qr_W (qe L xs vb) (d + 1) qx_e160 _ (16, _, [.int (qz v4)], qw σ α κ ρ, 0, 0)
    refine qr_if_ne 22 19 rfl rfl rfl (qrg hv4 (by decide) (by decide)) (fun h6 => ?_) (fun h6 => ?_)
    · skip
      refine qr_iload_n 23 rfl rfl rfl ?_
      refine qr_if_lt 36 26 rfl rfl rfl r2 (fun h7 => ?_) (fun h7 => ?_)
      · skip
        refine qr_bipush 38 rfl (by decide) rfl ?_
        refine qr_goto 42 rfl rfl ?_
        refine qr_retI rfl rfl (by decide) (by decide) ?_
        exact ⟨rfl, (-13), rfl, (by decide), by omega⟩
      · skip
        refine qr_iload_n 27 rfl rfl rfl ?_
        refine qr_aload_n 28 rfl rfl rfl ?_
        refine qr_get 31 rfl rfl rfl (by decide) rfl ?_
        refine qr_iload_n 32 rfl rfl rfl ?_
        refine qr_iaload 33 rfl rfl (qrgi r1 (by decide) (by decide)) (by decide) rfl ?_
        refine qr_topI (fun v8 hv8 => ?_)
        have hs9 : 0 ≤ v8 ∧ v8 ≤ 60 := by rw [hv8]; exact hI.2.1 46 _ (show _ < 6 from qrgt r1 (by decide) (by decide))
        refine qr_icmp_lt 41 36 rfl rfl rfl r2 (qrg hs9 (by decide) (by decide)) (fun h10 => ?_) (fun h10 => ?_)
        · skip
          refine qr_iconst 42 rfl rfl ?_
          refine qr_retI rfl rfl (by decide) (by decide) ?_
          exact ⟨rfl, 0, rfl, (by decide), by omega⟩
        · skip
          refine qr_bipush 38 rfl (by decide) rfl ?_
          refine qr_goto 42 rfl rfl ?_
          refine qr_retI rfl rfl (by decide) (by decide) ?_
          exact ⟨rfl, (-13), rfl, (by decide), by omega⟩
    · skip
      refine qr_bipush 21 rfl (by decide) rfl ?_
      refine qr_retI rfl rfl (by decide) (by decide) ?_
      exact ⟨rfl, (-12), rfl, (by decide), by omega⟩
  · skip
    refine qr_bipush 10 rfl (by decide) rfl ?_
    refine qr_retI rfl rfl (by decide) (by decide) ?_
    exact ⟨rfl, (-11), rfl, (by decide), by omega⟩

set_option maxHeartbeats 4000000 in
set_option maxRecDepth 20000 in
/-- OneRoof$Pegs.narrowed -/
theorem sf_162x {L : Nat} {xs : Nat → Int} {vb : Bool} {d : Nat} {σ α : Nat → Nat → Int} {κ : Nat → Option Nat} {ρ : Nat} {x0 : Int} {x1 : Int} (hI : qI σ α κ ρ) (r0 : 0 ≤ x0 ∧ x0 ≤ 4) (r1 : (-9223372036854775808) ≤ x1 ∧ x1 ≤ 9223372036854775807) : qm_T (qe L xs vb) (d + 1) 162 [.int (qz x0), .long (ql x1)] (qw σ α κ ρ) (fun r w' => w' = qw σ α κ ρ ∧ ∃ v : Int, r = some (.long (ql v)) ∧ ((-9223372036854775808) ≤ v ∧ v ≤ 9223372036854775807) ∧ v = qnar x0 x1) := by
  refine qr_start (d := d + 0) qv_e162 (Nat.le_of_ble_eq_true rfl) ?_
  show qr_W (qe L xs vb) (d + 0) qx_e162 _ (0, [(0, .int (qz x0)), (1, .long (ql x1))], [], _, 0, 0)
  refine qr_iload_n 1 rfl rfl rfl ?_
  have h1 : x0 = 0 ∨ x0 = 1 ∨ x0 = 2 ∨ x0 = 3 ∨ (x0 < 0 ∨ 3 < x0) := by omega
  rcases h1 with h1 | h1 | h1 | h1 | h1
  · skip
    refine qr_tabIn 32 rfl (qrg r0 (by decide) (by decide)) (by rw [h1]; decide) (by rw [h1]; rfl) rfl ?_
    refine qr_lload_n 33 rfl rfl rfl ?_
    refine qr_l2i 34 rfl rfl ?_
    refine qy_canE (fun v3 hv3 hev3 => ?_)
    refine qr_i2b 35 rfl rfl ?_
    refine qy_canE (fun v4 hv4 hev4 => ?_)
    refine qr_i2l 36 rfl hv4 rfl ?_
    refine qr_retL rfl rfl (by decide) (by decide) ?_
    exact ⟨rfl, v4, rfl, (qrg hv4 (by decide) (by decide)), (by unfold qnar; rw [if_pos (by omega)]; exact qna_b hev3 hev4 (by omega))⟩
  · skip
    refine qr_tabIn 37 rfl (qrg r0 (by decide) (by decide)) (by rw [h1]; decide) (by rw [h1]; rfl) rfl ?_
    refine qr_lload_n 38 rfl rfl rfl ?_
    refine qr_l2i 39 rfl rfl ?_
    refine qy_canE (fun v5 hv5 hev5 => ?_)
    refine qr_i2s 40 rfl rfl ?_
    refine qy_canE (fun v6 hv6 hev6 => ?_)
    refine qr_i2l 41 rfl hv6 rfl ?_
    refine qr_retL rfl rfl (by decide) (by decide) ?_
    exact ⟨rfl, v6, rfl, (qrg hv6 (by decide) (by decide)), (by unfold qnar; rw [if_neg (by omega), if_pos (by omega)]; exact qna_s hev5 hev6 (by omega))⟩
  · skip
    refine qr_tabIn 42 rfl (qrg r0 (by decide) (by decide)) (by rw [h1]; decide) (by rw [h1]; rfl) rfl ?_
    refine qr_lload_n 43 rfl rfl rfl ?_
    refine qr_l2i 44 rfl rfl ?_
    refine qy_canE (fun v7 hv7 hev7 => ?_)
    refine qr_i2l 45 rfl hv7 rfl ?_
    refine qr_retL rfl rfl (by decide) (by decide) ?_
    exact ⟨rfl, v7, rfl, (qrg hv7 (by decide) (by decide)), (by unfold qnar; rw [if_neg (by omega), if_neg (by omega), if_pos (by omega)]; exact qna_i hev7 (by omega))⟩
  · skip
    refine qr_tabIn 46 rfl (qrg r0 (by decide) (by decide)) (by rw [h1]; decide) (by rw [h1]; rfl) rfl ?_
    refine qr_lload_n 47 rfl rfl rfl ?_
    refine qr_retL rfl rfl (by decide) (by decide) ?_
    exact ⟨rfl, x1, rfl, r1, (by unfold qnar; rw [if_neg (by omega), if_neg (by omega), if_neg (by omega), if_pos (by omega)])⟩
  · skip
    refine qr_tabOut 48 rfl (qrg r0 (by decide) (by decide)) (by omega) rfl ?_
    refine qr_lload_n 49 rfl rfl rfl ?_
    refine qr_lconst 50 rfl rfl ?_
    refine qy_vl 0 rfl ?_
    refine qr_lc_eq 58 54 rfl rfl rfl rfl r1 (by decide) (fun h8 => ?_) (fun h8 => ?_)
    · skip
      refine qr_lconst 59 rfl rfl ?_
      refine qy_vl 0 rfl ?_
      refine qr_retL rfl rfl (by decide) (by decide) ?_
      exact ⟨rfl, 0, rfl, (by decide), (by unfold qnar; rw [if_neg (by omega), if_neg (by omega), if_neg (by omega), if_neg (by omega)]; first | (rw [if_pos (by omega)]) | (rw [if_neg (by omega)]))⟩
    · skip
      refine qr_lconst 55 rfl rfl ?_
      refine qy_vl 1 rfl ?_
      refine qr_goto 59 rfl rfl ?_
      refine qr_retL rfl rfl (by decide) (by decide) ?_
      exact ⟨rfl, 1, rfl, (by decide), (by unfold qnar; rw [if_neg (by omega), if_neg (by omega), if_neg (by omega), if_neg (by omega)]; first | (rw [if_pos (by omega)]) | (rw [if_neg (by omega)]))⟩

set_option maxHeartbeats 4000000 in
set_option maxRecDepth 20000 in
/-- OneRoof$Pegs.store -/
theorem sf_161_44x {L : Nat} {xs : Nat → Int} {vb : Bool} {d : Nat} {σ α : Nat → Nat → Int} {κ : Nat → Option Nat} {ρ : Nat} {x1 : Int} {x2 : Int} {x3 : Int} (hI : qI σ α κ ρ) (r1 : 0 ≤ x1 ∧ x1 ≤ 5) (r2 : 0 ≤ x2 ∧ x2 ≤ 59) (r3 : (-9223372036854775808) ≤ x3 ∧ x3 ≤ 9223372036854775807) (p0 : α 45 (x1 : Int).toNat ≤ 4) : qm_T (qe L xs vb) (d + 2) 161 [.ref 44, .int (qz x1), .int (qz x2), .long (ql x3)] (qw σ α κ ρ) (fun r w' => ∃ α', w' = qw σ α' κ ρ ∧ qI σ α' κ ρ ∧ qFr [] [48] σ α σ α' ∧ r = none ∧ α' 48 = qzu (α 48) (x1 * 60 + x2 : Int).toNat (qnar (α 45 (x1 : Int).toNat) x3)) := by
  refine qr_start (d := d + 1) qv_e161 (Nat.le_of_ble_eq_true rfl) ?_
  show qr_W (qe L xs vb) (d + 1) qx_e161 _ (0, [(0, .ref 44), (1, .int (qz x1)), (2, .int (qz x2)), (3, .long (ql x3))], [], _, 0, 0)
  have hF0 := qFr_rf [] [48] σ α
  refine qr_aload_n 1 rfl rfl rfl ?_
  refine qr_get 4 rfl rfl rfl (by decide) rfl ?_
  refine qr_iload_n 5 rfl rfl rfl ?_
  refine qr_bipush 7 rfl (by decide) rfl ?_
  refine qr_imul 8 rfl rfl ?_
  refine qr_iload_n 9 rfl rfl rfl ?_
  refine qr_iadd 10 rfl rfl ?_
  refine qr_aload_n 11 rfl rfl rfl ?_
  refine qr_get 14 rfl rfl rfl (by decide) rfl ?_
  refine qr_iload_n 15 rfl rfl rfl ?_
  refine qr_iaload 16 rfl rfl (qrgi r1 (by decide) (by decide)) (by decide) rfl ?_
  refine qr_topI (fun v1 hv1 => ?_)
  have hs2 : 0 ≤ v1 ∧ v1 ≤ 6 := by rw [hv1]; exact hI.2.1 45 _ (show _ < 6 from qrgt r1 (by decide) (by decide))
  refine qr_lload_n 17 rfl rfl rfl ?_
  refine qr_callN 20 rfl rfl rfl (sf_162x (d := d + 0) hI (by omega) r3) ?_
  rintro _ _ ⟨rfl, v3, rfl, hv3, hp4⟩
  show qr_W (qe L xs vb) (d + 1) qx_e161 _ (20, _, [.long (ql v3), .int (qz ((x1 * 60) + x2)), .ref 48], qw σ α κ ρ, 0, 0)
  refine qr_lastore 21 rfl (by decide) rfl (by omega) (by decide) rfl ?_
  refine qy_wA (qw_r α 48 (qzu (α 48) (((x1 * 60) + x2) : Int).toNat v3)) rfl (fun α5 e6 => ?_)
  have hI7 : qI σ α5 κ ρ := by rw [e6]; exact qI_r hI 48 _ rfl (show (-9223372036854775808) ≤ v3 ∧ v3 ≤ 9223372036854775807 by omega)
  have hF8 : qFr [] [48] σ α σ α5 := by rw [e6]; exact qFr_r hF0 48 _ (by decide)
  refine qr_retV rfl rfl (by decide) (by decide) ?_
  exact ⟨_, rfl, hI7, hF8, rfl, (((congrFun e6 48).trans (qw_r_eq.trans (congrArg (fun f => qzu f (((x1 * 60) + x2) : Int).toNat v3) rfl))).trans (by rw [hp4, hv1]))⟩

set_option maxHeartbeats 4000000 in
set_option maxRecDepth 20000 in
/-- OneRoof.put -/
theorem sf_159_16x {L : Nat} {xs : Nat → Int} {vb : Bool} {d : Nat} {σ α : Nat → Nat → Int} {κ : Nat → Option Nat} {ρ : Nat} {x1 : Int} {x2 : Int} {x3 : Int} (hI : qI σ α κ ρ) (r1 : (-2147483648) ≤ x1 ∧ x1 ≤ 2147483647) (r2 : (-2147483648) ≤ x2 ∧ x2 ≤ 2147483647) (r3 : (-9223372036854775808) ≤ x3 ∧ x3 ≤ 9223372036854775807) : qm_T (qe L xs vb) (d + 3) 159 [.ref 16, .int (qz x1), .int (qz x2), .long (ql x3)] (qw σ α κ ρ) (fun r w' => ∃ α', w' = qw σ α' κ ρ ∧ qI σ α' κ ρ ∧ qFr [] [48] σ α σ α' ∧ ∃ v : Int, r = some (.int (qz v)) ∧ ((-2147483648) ≤ v ∧ v ≤ 2147483647) ∧ (((v = -1 ∧ ¬ (0 ≤ x1 ∧ x1 ≤ 5)) ∧ α' 48 = α 48) ∨ (((0 ≤ x1 ∧ x1 ≤ 5) ∧ ¬ v = 0 ∧ ((v = -11 ∧ α 45 (x1 : Int).toNat = 6) ∨ (v = -12 ∧ α 45 (x1 : Int).toNat = 5) ∨ (v = -13 ∧ α 45 (x1 : Int).toNat ≤ 4 ∧ ¬ (0 ≤ x2 ∧ x2 < α 46 (x1 : Int).toNat)) ∨ (v = 0 ∧ α 45 (x1 : Int).toNat ≤ 4 ∧ 0 ≤ x2 ∧ x2 < α 46 (x1 : Int).toNat))) ∧ α' 48 = α 48) ∨ ((v = 1 ∧ (0 ≤ x1 ∧ x1 ≤ 5) ∧ α 45 (x1 : Int).toNat ≤ 4 ∧ 0 ≤ x2 ∧ x2 < α 46 (x1 : Int).toNat) ∧ α' 48 = qzu (α 48) (x1 * 60 + x2 : Int).toNat (qnar (α 45 (x1 : Int).toNat) x3)))) := by
  refine qr_start (d := d + 2) qv_e159 (Nat.le_of_ble_eq_true rfl) ?_
  show qr_W (qe L xs vb) (d + 2) qx_e159 _ (0, [(0, .ref 16), (1, .int (qz x1)), (2, .int (qz x2)), (3, .long (ql x3))], [], _, 0, 0)
  have hF0 := qFr_rf [] [48] σ α
  have qx1_45 : 0 ≤ x1 ∧ x1 ≤ 5 → 0 ≤ α 45 (x1 : Int).toNat ∧ α 45 (x1 : Int).toNat ≤ 6 := fun h => hI.2.1 45 _ (show (x1 : Int).toNat < 6 by omega)
  have qx1_46 : 0 ≤ x1 ∧ x1 ≤ 5 → 0 ≤ α 46 (x1 : Int).toNat ∧ α 46 (x1 : Int).toNat ≤ 60 := fun h => hI.2.1 46 _ (show (x1 : Int).toNat < 6 by omega)
  refine qr_aload_n 1 rfl rfl rfl ?_
  refine qr_get 4 rfl rfl rfl (by decide) rfl ?_
  refine qr_iload_n 5 rfl rfl rfl ?_
  refine qr_callN 8 rfl rfl rfl (sf_44_44 (d := d + 1) hI r1) ?_
  rintro _ _ ⟨rfl, v1, rfl, hv1, hp2⟩
  show qr_W (qe L xs vb) (d + 2) qx_e159 _ (8, _, [.int (qz v1)], qw σ α κ ρ, 0, 0)
  refine qr_if_ne 13 11 rfl rfl rfl (qrg hv1 (by decide) (by decide)) (fun h3 => ?_) (fun h3 => ?_)
  · skip
    refine qr_aload_n 14 rfl rfl rfl ?_
    refine qr_get 17 rfl rfl rfl (by decide) rfl ?_
    refine qr_iload_n 18 rfl rfl rfl ?_
    refine qr_iload_n 19 rfl rfl rfl ?_
    refine qr_callN 22 rfl rfl rfl (sf_160_44x (d := d + 0) hI (by omega) r2) ?_
    rintro _ _ ⟨rfl, v4, rfl, hv4, hp5⟩
    show qr_W (qe L xs vb) (d + 2) qx_e159 _ (22, _, [.int (qz v4)], qw σ α κ ρ, 0, 0)
    refine qr_istore _ 24 rfl (by decide) rfl rfl ?_
    refine qr_iload 26 rfl rfl rfl ?_
    refine qr_if_eq 32 29 rfl rfl rfl (qrg hv4 (by decide) (by decide)) (fun h6 => ?_) (fun h6 => ?_)
    · skip
      refine qr_aload_n 33 rfl rfl rfl ?_
      refine qr_get 36 rfl rfl rfl (by decide) rfl ?_
      refine qr_iload_n 37 rfl rfl rfl ?_
      refine qr_iload_n 38 rfl rfl rfl ?_
      refine qr_lload_n 39 rfl rfl rfl ?_
      refine qr_callN 42 rfl rfl rfl (sf_161_44x (d := d + 0) hI (by omega) (by omega) r3 (by omega)) ?_
      rintro _ _ ⟨α8, rfl, hI9, hG10, rfl, hx7⟩
      have hF11 : qFr [] [48] σ α σ α8 := qFr_t hF0 hG10 (by decide) (by decide)
      show qr_W (qe L xs vb) (d + 2) qx_e159 _ (42, _, [], qw σ α8 κ ρ, 0, 0)
      refine qr_iconst 43 rfl rfl ?_
      refine qr_retI rfl rfl (by decide) (by decide) ?_
      exact ⟨_, rfl, hI9, hF11, 1, rfl, (by decide), (Or.inr (Or.inr (⟨by omega, (hx7.trans (congrArg (fun f => qzu (f) (x1 * 60 + x2 : Int).toNat (qnar (α 45 (x1 : Int).toNat) x3)) rfl))⟩)))⟩
    · skip
      refine qr_iload 31 rfl rfl rfl ?_
      refine qr_retI rfl rfl (by decide) (by decide) ?_
      exact ⟨_, rfl, hI, hF0, v4, rfl, (qrg hv4 (by decide) (by decide)), (Or.inr (Or.inl ⟨by omega, rfl⟩))⟩
  · skip
    refine qr_iconst 12 rfl rfl ?_
    refine qr_retI rfl rfl (by decide) (by decide) ?_
    exact ⟨_, rfl, hI, hF0, (-1), rfl, (by decide), (Or.inl ⟨by omega, rfl⟩)⟩

set_option maxHeartbeats 4000000 in
set_option maxRecDepth 20000 in
/-- OneRoof$Pegs.at -/
theorem sf_48_44x {L : Nat} {xs : Nat → Int} {vb : Bool} {d : Nat} {σ α : Nat → Nat → Int} {κ : Nat → Option Nat} {ρ : Nat} {x1 : Int} {x2 : Int} (hI : qI σ α κ ρ) (r1 : 0 ≤ x1 ∧ x1 ≤ 5) (r2 : 0 ≤ x2 ∧ x2 ≤ 59) : qm_T (qe L xs vb) (d + 1) 48 [.ref 44, .int (qz x1), .int (qz x2)] (qw σ α κ ρ) (fun r w' => w' = qw σ α κ ρ ∧ ∃ v : Int, r = some (.long (ql v)) ∧ ((-9223372036854775808) ≤ v ∧ v ≤ 9223372036854775807) ∧ v = α 48 (x1 * 60 + x2 : Int).toNat) := by
  refine qr_start (d := d + 0) qv_e48 (Nat.le_of_ble_eq_true rfl) ?_
  show qr_W (qe L xs vb) (d + 0) qx_e48 _ (0, [(0, .ref 44), (1, .int (qz x1)), (2, .int (qz x2))], [], _, 0, 0)
  refine qr_aload_n 1 rfl rfl rfl ?_
  refine qr_get 4 rfl rfl rfl (by decide) rfl ?_
  refine qr_iload_n 5 rfl rfl rfl ?_
  refine qr_bipush 7 rfl (by decide) rfl ?_
  refine qr_imul 8 rfl rfl ?_
  refine qr_iload_n 9 rfl rfl rfl ?_
  refine qr_iadd 10 rfl rfl ?_
  refine qr_laload 11 rfl (by decide) rfl (by omega) (by decide) rfl ?_
  refine qr_topL (fun v1 hv1 => ?_)
  have hs2 : (-9223372036854775808) ≤ v1 ∧ v1 ≤ 9223372036854775807 := by rw [hv1]; exact hI.2.1 48 _ (show _ < 360 by omega)
  refine qr_retL rfl rfl (by decide) (by decide) ?_
  exact ⟨rfl, v1, rfl, hs2, by omega⟩

set_option maxHeartbeats 4000000 in
set_option maxRecDepth 20000 in
/-- OneRoof.element -/
theorem sf_163_16x {L : Nat} {xs : Nat → Int} {vb : Bool} {d : Nat} {σ α : Nat → Nat → Int} {κ : Nat → Option Nat} {ρ : Nat} {x1 : Int} {x2 : Int} (hI : qI σ α κ ρ) (r1 : (-2147483648) ≤ x1 ∧ x1 ≤ 2147483647) (r2 : (-2147483648) ≤ x2 ∧ x2 ≤ 2147483647) : qm_T (qe L xs vb) (d + 3) 163 [.ref 16, .int (qz x1), .int (qz x2)] (qw σ α κ ρ) (fun r w' => w' = qw σ α κ ρ ∧ ∃ v : Int, r = some (.long (ql v)) ∧ ((-9223372036854775808) ≤ v ∧ v ≤ 9223372036854775807) ∧ ((v = -9223372036854775808 ∧ ¬ (0 ≤ x1 ∧ x1 ≤ 5 ∧ α 45 (x1 : Int).toNat ≤ 4 ∧ 0 ≤ x2 ∧ x2 < α 46 (x1 : Int).toNat)) ∨ ((0 ≤ x1 ∧ x1 ≤ 5 ∧ α 45 (x1 : Int).toNat ≤ 4 ∧ 0 ≤ x2 ∧ x2 < α 46 (x1 : Int).toNat) ∧ v = α 48 (x1 * 60 + x2 : Int).toNat))) := by
  refine qr_start (d := d + 2) qv_e163 (Nat.le_of_ble_eq_true rfl) ?_
  show qr_W (qe L xs vb) (d + 2) qx_e163 _ (0, [(0, .ref 16), (1, .int (qz x1)), (2, .int (qz x2))], [], _, 0, 0)
  have qx1_45 : 0 ≤ x1 ∧ x1 ≤ 5 → 0 ≤ α 45 (x1 : Int).toNat ∧ α 45 (x1 : Int).toNat ≤ 6 := fun h => hI.2.1 45 _ (show (x1 : Int).toNat < 6 by omega)
  have qx1_46 : 0 ≤ x1 ∧ x1 ≤ 5 → 0 ≤ α 46 (x1 : Int).toNat ∧ α 46 (x1 : Int).toNat ≤ 60 := fun h => hI.2.1 46 _ (show (x1 : Int).toNat < 6 by omega)
  refine qr_aload_n 1 rfl rfl rfl ?_
  refine qr_get 4 rfl rfl rfl (by decide) rfl ?_
  refine qr_iload_n 5 rfl rfl rfl ?_
  refine qr_callN 8 rfl rfl rfl (sf_44_44 (d := d + 1) hI r1) ?_
  rintro _ _ ⟨rfl, v1, rfl, hv1, hp2⟩
  show qr_W (qe L xs vb) (d + 2) qx_e163 _ (8, _, [.int (qz v1)], qw σ α κ ρ, 0, 0)
  refine qr_if_eq 23 11 rfl rfl rfl (qrg hv1 (by decide) (by decide)) (fun h3 => ?_) (fun h3 => ?_)
  · skip
    refine qr_ldc2 (-9223372036854775808) 26 rfl (by decide) rfl ?_
    refine qr_retL rfl rfl (by decide) (by decide) ?_
    exact ⟨rfl, (-9223372036854775808), rfl, (by decide), by omega⟩
  · skip
    refine qr_aload_n 12 rfl rfl rfl ?_
    refine qr_get 15 rfl rfl rfl (by decide) rfl ?_
    refine qr_iload_n 16 rfl rfl rfl ?_
    refine qr_iload_n 17 rfl rfl rfl ?_
    refine qr_callN 20 rfl rfl rfl (sf_160_44x (d := d + 0) hI (by omega) r2) ?_
    rintro _ _ ⟨rfl, v4, rfl, hv4, hp5⟩
    show qr_W (qe L xs vb) (d + 2) qx_e163 _ (20, _, [.int (qz v4)], qw σ α κ ρ, 0, 0)
    refine qr_if_eq 27 23 rfl rfl rfl (qrg hv4 (by decide) (by decide)) (fun h6 => ?_) (fun h6 => ?_)
    · skip
      refine qr_aload_n 28 rfl rfl rfl ?_
      refine qr_get 31 rfl rfl rfl (by decide) rfl ?_
      refine qr_iload_n 32 rfl rfl rfl ?_
      refine qr_iload_n 33 rfl rfl rfl ?_
      refine qr_callN 36 rfl rfl rfl (sf_48_44x (d := d + 1) hI (by omega) (by omega)) ?_
      rintro _ _ ⟨rfl, v7, rfl, hv7, hp8⟩
      show qr_W (qe L xs vb) (d + 2) qx_e163 _ (36, _, [.long (ql v7)], qw σ α κ ρ, 0, 0)
      refine qr_retL rfl rfl (by decide) (by decide) ?_
      exact ⟨rfl, v7, rfl, hv7, by omega⟩
    · skip
      refine qr_ldc2 (-9223372036854775808) 26 rfl (by decide) rfl ?_
      refine qr_retL rfl rfl (by decide) (by decide) ?_
      exact ⟨rfl, (-9223372036854775808), rfl, (by decide), by omega⟩

set_option maxHeartbeats 4000000 in
set_option maxRecDepth 20000 in
/-- OneRoof$Pegs.hasRun -/
theorem sf_165_44x {L : Nat} {xs : Nat → Int} {vb : Bool} {d : Nat} {σ α : Nat → Nat → Int} {κ : Nat → Option Nat} {ρ : Nat} {x1 : Int} {x2 : Int} {x3 : Int} (hI : qI σ α κ ρ) (r1 : 0 ≤ x1 ∧ x1 ≤ 5) (r2 : (-2147483648) ≤ x2 ∧ x2 ≤ 2147483647) (r3 : (-2147483648) ≤ x3 ∧ x3 ≤ 2147483647) : qm_T (qe L xs vb) (d + 1) 165 [.ref 44, .int (qz x1), .int (qz x2), .int (qz x3)] (qw σ α κ ρ) (fun r w' => w' = qw σ α κ ρ ∧ ∃ v : Int, r = some (.int (qz v)) ∧ (0 ≤ v ∧ v ≤ 1) ∧ ((v = 1 ∧ (0 ≤ x2 ∧ 0 ≤ x3 ∧ x3 ≤ α 46 (x1 : Int).toNat ∧ x2 ≤ α 46 (x1 : Int).toNat - x3)) ∨ (v = 0 ∧ ¬ ((0 ≤ x2 ∧ 0 ≤ x3 ∧ x3 ≤ α 46 (x1 : Int).toNat ∧ x2 ≤ α 46 (x1 : Int).toNat - x3))))) := by
  refine qr_start (d := d + 0) qv_e165 (Nat.le_of_ble_eq_true rfl) ?_
  show qr_W (qe L xs vb) (d + 0) qx_e165 _ (0, [(0, .ref 44), (1, .int (qz x1)), (2, .int (qz x2)), (3, .int (qz x3))], [], _, 0, 0)
  have qx1_45 : 0 ≤ x1 ∧ x1 ≤ 5 → 0 ≤ α 45 (x1 : Int).toNat ∧ α 45 (x1 : Int).toNat ≤ 6 := fun h => hI.2.1 45 _ (show (x1 : Int).toNat < 6 by omega)
  have qx1_46 : 0 ≤ x1 ∧ x1 ≤ 5 → 0 ≤ α 46 (x1 : Int).toNat ∧ α 46 (x1 : Int).toNat ≤ 60 := fun h => hI.2.1 46 _ (show (x1 : Int).toNat < 6 by omega)
  refine qr_iload_n 1 rfl rfl rfl ?_
  refine qr_if_lt 34 4 rfl rfl rfl r2 (fun h1 => ?_) (fun h1 => ?_)
  · skip
    refine qr_iconst 35 rfl rfl ?_
    refine qr_retZ rfl rfl (Or.inl rfl) (by decide) (by decide) ?_
    exact ⟨rfl, 0, rfl, (by decide), by omega⟩
  · skip
    refine qr_iload_n 5 rfl rfl rfl ?_
    refine qr_if_lt 34 8 rfl rfl rfl r3 (fun h2 => ?_) (fun h2 => ?_)
    · skip
      refine qr_iconst 35 rfl rfl ?_
      refine qr_retZ rfl rfl (Or.inl rfl) (by decide) (by decide) ?_
      exact ⟨rfl, 0, rfl, (by decide), by omega⟩
    · skip
      refine qr_iload_n 9 rfl rfl rfl ?_
      refine qr_aload_n 10 rfl rfl rfl ?_
      refine qr_get 13 rfl rfl rfl (by decide) rfl ?_
      refine qr_iload_n 14 rfl rfl rfl ?_
      refine qr_iaload 15 rfl rfl (qrgi r1 (by decide) (by decide)) (by decide) rfl ?_
      refine qr_topI (fun v3 hv3 => ?_)
      have hs4 : 0 ≤ v3 ∧ v3 ≤ 60 := by rw [hv3]; exact hI.2.1 46 _ (show _ < 6 from qrgt r1 (by decide) (by decide))
      refine qr_icmp_gt 34 18 rfl rfl rfl r3 (qrg hs4 (by decide) (by decide)) (fun h5 => ?_) (fun h5 => ?_)
      · skip
        refine qr_iconst 35 rfl rfl ?_
        refine qr_retZ rfl rfl (Or.inl rfl) (by decide) (by decide) ?_
        exact ⟨rfl, 0, rfl, (by decide), by omega⟩
      · skip
        refine qr_iload_n 19 rfl rfl rfl ?_
        refine qr_aload_n 20 rfl rfl rfl ?_
        refine qr_get 23 rfl rfl rfl (by decide) rfl ?_
        refine qr_iload_n 24 rfl rfl rfl ?_
        refine qr_iaload 25 rfl rfl (qrgi r1 (by decide) (by decide)) (by decide) rfl ?_
        refine qr_topI (fun v6 hv6 => ?_)
        have hs7 : 0 ≤ v6 ∧ v6 ≤ 60 := by rw [hv6]; exact hI.2.1 46 _ (show _ < 6 from qrgt r1 (by decide) (by decide))
        refine qr_iload_n 26 rfl rfl rfl ?_
        refine qr_isub 27 rfl rfl ?_
        refine qr_icmp_gt 34 30 rfl rfl rfl r2 (by omega) (fun h8 => ?_) (fun h8 => ?_)
        · skip
          refine qr_iconst 35 rfl rfl ?_
          refine qr_retZ rfl rfl (Or.inl rfl) (by decide) (by decide) ?_
          exact ⟨rfl, 0, rfl, (by decide), by omega⟩
        · skip
          refine qr_iconst 31 rfl rfl ?_
          refine qr_goto 35 rfl rfl ?_
          refine qr_retZ rfl rfl (Or.inr rfl) (by decide) (by decide) ?_
          exact ⟨rfl, 1, rfl, (by decide), by omega⟩

set_option maxHeartbeats 4000000 in
set_option maxRecDepth 20000 in
/-- OneRoof$Pegs.copyRun -/
theorem sf_166_44x {L : Nat} {xs : Nat → Int} {vb : Bool} {d : Nat} {σ α : Nat → Nat → Int} {κ : Nat → Option Nat} {ρ : Nat} {x1 : Int} {x2 : Int} {x3 : Int} {x4 : Int} {x5 : Int} (hI : qI σ α κ ρ) (r1 : 0 ≤ x1 ∧ x1 ≤ 5) (r2 : 0 ≤ x2 ∧ x2 ≤ 60) (r3 : 0 ≤ x3 ∧ x3 ≤ 5) (r4 : 0 ≤ x4 ∧ x4 ≤ 60) (r5 : 0 ≤ x5 ∧ x5 ≤ 60) (p0 : x2 + x5 ≤ 60) (p1 : x4 + x5 ≤ 60) : qm_T (qe L xs vb) (d + 1) 166 [.ref 44, .int (qz x1), .int (qz x2), .int (qz x3), .int (qz x4), .int (qz x5)] (qw σ α κ ρ) (fun r w' => ∃ α', w' = qw σ α' κ ρ ∧ qI σ α' κ ρ ∧ qFr [] [48] σ α σ α' ∧ r = none ∧ α' 48 = va_cpy (α 48) (α 48) (x1 * 60 + x2 : Int).toNat (x3 * 60 + x4 : Int).toNat (x5 : Int).toNat) := by
  refine qr_start (d := d + 0) qv_e166 (Nat.le_of_ble_eq_true rfl) ?_
  show qr_W (qe L xs vb) (d + 0) qx_e166 _ (0, [(0, .ref 44), (1, .int (qz x1)), (2, .int (qz x2)), (3, .int (qz x3)), (4, .int (qz x4)), (5, .int (qz x5))], [], _, 0, 0)
  have hF0 := qFr_rf [] [48] σ α
  refine qr_aload_n 1 rfl rfl rfl ?_
  refine qr_get 4 rfl rfl rfl (by decide) rfl ?_
  refine qr_iload_n 5 rfl rfl rfl ?_
  refine qr_bipush 7 rfl (by decide) rfl ?_
  refine qr_imul 8 rfl rfl ?_
  refine qr_iload_n 9 rfl rfl rfl ?_
  refine qr_iadd 10 rfl rfl ?_
  refine qr_aload_n 11 rfl rfl rfl ?_
  refine qr_get 14 rfl rfl rfl (by decide) rfl ?_
  refine qr_iload_n 15 rfl rfl rfl ?_
  refine qr_bipush 17 rfl (by decide) rfl ?_
  refine qr_imul 18 rfl rfl ?_
  refine qr_iload 20 rfl rfl rfl ?_
  refine qr_iadd 21 rfl rfl ?_
  refine qr_iload 23 rfl rfl rfl ?_
  refine qy_copyl 26 rfl (by decide) (by decide) rfl rfl (by omega) (by omega) (by omega) (by omega) (by omega) (by decide) (by decide) rfl ?_
  refine qy_wA (qw_r α 48 (va_cpy (α 48) (α 48) (((x1 * 60) + x2) : Int).toNat (((x3 * 60) + x4) : Int).toNat (x5 : Int).toNat)) rfl (fun α1 e2 => ?_)
  have hI3 : qI σ α1 κ ρ := by rw [e2]; exact qI_cpy hI 48 48 rfl rfl (show _ ≤ 360 by omega)
  have hF4 : qFr [] [48] σ α σ α1 := by rw [e2]; exact qFr_r hF0 48 _ (by decide)
  refine qr_retV rfl rfl (by decide) (by decide) ?_
  exact ⟨_, rfl, hI3, hF4, rfl, ((congrFun e2 48).trans qw_r_eq)⟩

set_option maxHeartbeats 4000000 in
set_option maxRecDepth 20000 in
/-- OneRoof.shift -/
theorem sf_164_16x {L : Nat} {xs : Nat → Int} {vb : Bool} {d : Nat} {σ α : Nat → Nat → Int} {κ : Nat → Option Nat} {ρ : Nat} {x1 : Int} {x2 : Int} {x3 : Int} {x4 : Int} {x5 : Int} (hI : qI σ α κ ρ) (r1 : (-2147483648) ≤ x1 ∧ x1 ≤ 2147483647) (r2 : (-2147483648) ≤ x2 ∧ x2 ≤ 2147483647) (r3 : (-2147483648) ≤ x3 ∧ x3 ≤ 2147483647) (r4 : (-2147483648) ≤ x4 ∧ x4 ≤ 2147483647) (r5 : (-2147483648) ≤ x5 ∧ x5 ≤ 2147483647) : qm_T (qe L xs vb) (d + 3) 164 [.ref 16, .int (qz x1), .int (qz x2), .int (qz x3), .int (qz x4), .int (qz x5)] (qw σ α κ ρ) (fun r w' => ∃ α', w' = qw σ α' κ ρ ∧ qI σ α' κ ρ ∧ qFr [] [48] σ α σ α' ∧ ∃ v : Int, r = some (.int (qz v)) ∧ ((-2147483648) ≤ v ∧ v ≤ 2147483647) ∧ (((v = -1 ∧ ¬ (0 ≤ x1 ∧ x1 ≤ 5 ∧ 0 ≤ x3 ∧ x3 ≤ 5)) ∧ α' 48 = α 48) ∨ ((v = -11 ∧ (0 ≤ x1 ∧ x1 ≤ 5 ∧ 0 ≤ x3 ∧ x3 ≤ 5) ∧ (α 45 (x1 : Int).toNat = 6 ∨ α 45 (x3 : Int).toNat = 6)) ∧ α' 48 = α 48) ∨ ((v = -12 ∧ (0 ≤ x1 ∧ x1 ≤ 5 ∧ 0 ≤ x3 ∧ x3 ≤ 5) ∧ ¬ (α 45 (x1 : Int).toNat = 6 ∨ α 45 (x3 : Int).toNat = 6) ∧ ¬ (α 45 (x1 : Int).toNat < 5 ∧ α 45 (x3 : Int).toNat = α 45 (x1 : Int).toNat)) ∧ α' 48 = α 48) ∨ ((v = -13 ∧ (0 ≤ x1 ∧ x1 ≤ 5 ∧ 0 ≤ x3 ∧ x3 ≤ 5) ∧ ¬ (α 45 (x1 : Int).toNat = 6 ∨ α 45 (x3 : Int).toNat = 6) ∧ (α 45 (x1 : Int).toNat < 5 ∧ α 45 (x3 : Int).toNat = α 45 (x1 : Int).toNat) ∧ ¬ (0 ≤ x2 ∧ 0 ≤ x5 ∧ x5 ≤ α 46 (x1 : Int).toNat ∧ x2 ≤ α 46 (x1 : Int).toNat - x5 ∧ 0 ≤ x4 ∧ x5 ≤ α 46 (x3 : Int).toNat ∧ x4 ≤ α 46 (x3 : Int).toNat - x5)) ∧ α' 48 = α 48) ∨ ((v = x5 ∧ (0 ≤ x1 ∧ x1 ≤ 5 ∧ 0 ≤ x3 ∧ x3 ≤ 5) ∧ ¬ (α 45 (x1 : Int).toNat = 6 ∨ α 45 (x3 : Int).toNat = 6) ∧ (α 45 (x1 : Int).toNat < 5 ∧ α 45 (x3 : Int).toNat = α 45 (x1 : Int).toNat) ∧ (0 ≤ x2 ∧ 0 ≤ x5 ∧ x5 ≤ α 46 (x1 : Int).toNat ∧ x2 ≤ α 46 (x1 : Int).toNat - x5 ∧ 0 ≤ x4 ∧ x5 ≤ α 46 (x3 : Int).toNat ∧ x4 ≤ α 46 (x3 : Int).toNat - x5)) ∧ α' 48 = va_cpy (α 48) (α 48) (x1 * 60 + x2 : Int).toNat (x3 * 60 + x4 : Int).toNat (x5 : Int).toNat))) := by
  refine qr_start (d := d + 2) qv_e164 (Nat.le_of_ble_eq_true rfl) ?_
  show qr_W (qe L xs vb) (d + 2) qx_e164 _ (0, [(0, .ref 16), (1, .int (qz x1)), (2, .int (qz x2)), (3, .int (qz x3)), (4, .int (qz x4)), (5, .int (qz x5))], [], _, 0, 0)
  have hF0 := qFr_rf [] [48] σ α
  have qx1_45 : 0 ≤ x1 ∧ x1 ≤ 5 → 0 ≤ α 45 (x1 : Int).toNat ∧ α 45 (x1 : Int).toNat ≤ 6 := fun h => hI.2.1 45 _ (show (x1 : Int).toNat < 6 by omega)
  have qx1_46 : 0 ≤ x1 ∧ x1 ≤ 5 → 0 ≤ α 46 (x1 : Int).toNat ∧ α 46 (x1 : Int).toNat ≤ 60 := fun h => hI.2.1 46 _ (show (x1 : Int).toNat < 6 by omega)
  have qx3_45 : 0 ≤ x3 ∧ x3 ≤ 5 → 0 ≤ α 45 (x3 : Int).toNat ∧ α 45 (x3 : Int).toNat ≤ 6 := fun h => hI.2.1 45 _ (show (x3 : Int).toNat < 6 by omega)
  have qx3_46 : 0 ≤ x3 ∧ x3 ≤ 5 → 0 ≤ α 46 (x3 : Int).toNat ∧ α 46 (x3 : Int).toNat ≤ 60 := fun h => hI.2.1 46 _ (show (x3 : Int).toNat < 6 by omega)
  refine qr_aload_n 1 rfl rfl rfl ?_
  refine qr_get 4 rfl rfl rfl (by decide) rfl ?_
  refine qr_iload_n 5 rfl rfl rfl ?_
  refine qr_callN 8 rfl rfl rfl (sf_44_44 (d := d + 1) hI r1) ?_
  rintro _ _ ⟨rfl, v1, rfl, hv1, hp2⟩
  show qr_W (qe L xs vb) (d + 2) qx_e164 _ (8, _, [.int (qz v1)], qw σ α κ ρ, 0, 0)
  refine qr_if_eq 22 11 rfl rfl rfl (qrg hv1 (by decide) (by decide)) (fun h3 => ?_) (fun h3 => ?_)
  · skip
    refine qr_iconst 23 rfl rfl ?_
    refine qr_retI rfl rfl (by decide) (by decide) ?_
    exact ⟨_, rfl, hI, hF0, (-1), rfl, (by decide), (Or.inl ⟨by omega, rfl⟩)⟩
  · skip
    refine qr_aload_n 12 rfl rfl rfl ?_
    refine qr_get 15 rfl rfl rfl (by decide) rfl ?_
    refine qr_iload_n 16 rfl rfl rfl ?_
    refine qr_callN 19 rfl rfl rfl (sf_44_44 (d := d + 1) hI r3) ?_
    rintro _ _ ⟨rfl, v4, rfl, hv4, hp5⟩
    show qr_W (qe L xs vb) (d + 2) qx_e164 _ (19, _, [.int (qz v4)], qw σ α κ ρ, 0, 0)
    refine qr_if_ne 24 22 rfl rfl rfl (qrg hv4 (by decide) (by decide)) (fun h6 => ?_) (fun h6 => ?_)
    · skip
      refine qr_aload_n 25 rfl rfl rfl ?_
      refine qr_get 28 rfl rfl rfl (by decide) rfl ?_
      refine qr_iload_n 29 rfl rfl rfl ?_
      refine qr_callN 32 rfl rfl rfl (sf_45_44x (d := d + 1) hI (by omega)) ?_
      rintro _ _ ⟨rfl, v7, rfl, hv7, hp8⟩
      show qr_W (qe L xs vb) (d + 2) qx_e164 _ (32, _, [.int (qz v7)], qw σ α κ ρ, 0, 0)
      refine qr_if_ne 46 35 rfl rfl rfl (qrg hv7 (by decide) (by decide)) (fun h9 => ?_) (fun h9 => ?_)
      · skip
        refine qr_bipush 48 rfl (by decide) rfl ?_
        refine qr_retI rfl rfl (by decide) (by decide) ?_
        exact ⟨_, rfl, hI, hF0, (-11), rfl, (by decide), (Or.inr (Or.inl ⟨by omega, rfl⟩))⟩
      · skip
        refine qr_aload_n 36 rfl rfl rfl ?_
        refine qr_get 39 rfl rfl rfl (by decide) rfl ?_
        refine qr_iload_n 40 rfl rfl rfl ?_
        refine qr_callN 43 rfl rfl rfl (sf_45_44x (d := d + 1) hI (by omega)) ?_
        rintro _ _ ⟨rfl, v10, rfl, hv10, hp11⟩
        show qr_W (qe L xs vb) (d + 2) qx_e164 _ (43, _, [.int (qz v10)], qw σ α κ ρ, 0, 0)
        refine qr_if_eq 49 46 rfl rfl rfl (qrg hv10 (by decide) (by decide)) (fun h12 => ?_) (fun h12 => ?_)
        · skip
          refine qr_aload_n 50 rfl rfl rfl ?_
          refine qr_get 53 rfl rfl rfl (by decide) rfl ?_
          refine qr_iload_n 54 rfl rfl rfl ?_
          refine qr_callN 57 rfl rfl rfl (sf_47_44x (d := d + 1) hI (by omega)) ?_
          rintro _ _ ⟨rfl, v13, rfl, hv13, hp14⟩
          show qr_W (qe L xs vb) (d + 2) qx_e164 _ (57, _, [.int (qz v13)], qw σ α κ ρ, 0, 0)
          refine qr_if_eq 80 60 rfl rfl rfl (qrg hv13 (by decide) (by decide)) (fun h15 => ?_) (fun h15 => ?_)
          · skip
            refine qr_bipush 82 rfl (by decide) rfl ?_
            refine qr_retI rfl rfl (by decide) (by decide) ?_
            exact ⟨_, rfl, hI, hF0, (-12), rfl, (by decide), (Or.inr (Or.inr (Or.inl ⟨by omega, rfl⟩)))⟩
          · skip
            refine qr_aload_n 61 rfl rfl rfl ?_
            refine qr_get 64 rfl rfl rfl (by decide) rfl ?_
            refine qr_iload_n 65 rfl rfl rfl ?_
            refine qr_aload_n 66 rfl rfl rfl ?_
            refine qr_get 69 rfl rfl rfl (by decide) rfl ?_
            refine qr_get 72 rfl rfl rfl (by decide) rfl ?_
            refine qr_iload_n 73 rfl rfl rfl ?_
            refine qr_iaload 74 rfl rfl (by omega) (by decide) rfl ?_
            refine qr_topI (fun v16 hv16 => ?_)
            have hs17 : 0 ≤ v16 ∧ v16 ≤ 6 := by rw [hv16]; exact hI.2.1 45 _ (show _ < 6 by omega)
            refine qr_callN 77 rfl rfl rfl (sf_46_44x (d := d + 0) hI (by omega) (qrg hs17 (by decide) (by decide))) ?_
            rintro _ _ ⟨rfl, v18, rfl, hv18, hp19⟩
            show qr_W (qe L xs vb) (d + 2) qx_e164 _ (77, _, [.int (qz v18)], qw σ α κ ρ, 0, 0)
            refine qr_if_ne 83 80 rfl rfl rfl (qrg hv18 (by decide) (by decide)) (fun h20 => ?_) (fun h20 => ?_)
            · skip
              refine qr_aload_n 84 rfl rfl rfl ?_
              refine qr_get 87 rfl rfl rfl (by decide) rfl ?_
              refine qr_iload_n 88 rfl rfl rfl ?_
              refine qr_iload_n 89 rfl rfl rfl ?_
              refine qr_iload 91 rfl rfl rfl ?_
              refine qr_callN 94 rfl rfl rfl (sf_165_44x (d := d + 1) hI (by omega) r2 r5) ?_
              rintro _ _ ⟨rfl, v21, rfl, hv21, hp22⟩
              show qr_W (qe L xs vb) (d + 2) qx_e164 _ (94, _, [.int (qz v21)], qw σ α κ ρ, 0, 0)
              refine qr_if_eq 112 97 rfl rfl rfl (qrg hv21 (by decide) (by decide)) (fun h23 => ?_) (fun h23 => ?_)
              · skip
                refine qr_bipush 114 rfl (by decide) rfl ?_
                refine qr_retI rfl rfl (by decide) (by decide) ?_
                exact ⟨_, rfl, hI, hF0, (-13), rfl, (by decide), (Or.inr (Or.inr (Or.inr (Or.inl ⟨by omega, rfl⟩))))⟩
              · skip
                refine qr_aload_n 98 rfl rfl rfl ?_
                refine qr_get 101 rfl rfl rfl (by decide) rfl ?_
                refine qr_iload_n 102 rfl rfl rfl ?_
                refine qr_iload 104 rfl rfl rfl ?_
                refine qr_iload 106 rfl rfl rfl ?_
                refine qr_callN 109 rfl rfl rfl (sf_165_44x (d := d + 1) hI (by omega) r4 r5) ?_
                rintro _ _ ⟨rfl, v24, rfl, hv24, hp25⟩
                show qr_W (qe L xs vb) (d + 2) qx_e164 _ (109, _, [.int (qz v24)], qw σ α κ ρ, 0, 0)
                refine qr_if_ne 115 112 rfl rfl rfl (qrg hv24 (by decide) (by decide)) (fun h26 => ?_) (fun h26 => ?_)
                · skip
                  refine qr_aload_n 116 rfl rfl rfl ?_
                  as_aux_lemma =>
                    refine qr_get 119 rfl rfl rfl (by decide) rfl ?_
                    refine qr_iload_n 120 rfl rfl rfl ?_
                    refine qr_iload_n 121 rfl rfl rfl ?_
                    refine qr_iload_n 122 rfl rfl rfl ?_
                    refine qr_iload 124 rfl rfl rfl ?_
                    refine qr_iload 126 rfl rfl rfl ?_
                    refine qr_callN 129 rfl rfl rfl (sf_166_44x (d := d + 1) hI (by omega) (by omega) (by omega) (by omega) (by omega) (by omega) (by omega)) ?_
                    rintro _ _ ⟨α28, rfl, hI29, hG30, rfl, hx27⟩
                    have hF31 : qFr [] [48] σ α σ α28 := qFr_t hF0 hG30 (by decide) (by decide)
                    show qr_W (qe L xs vb) (d + 2) qx_e164 _ (129, _, [], qw σ α28 κ ρ, 0, 0)
                    refine qr_iload 131 rfl rfl rfl ?_
                    refine qr_retI rfl rfl (by decide) (by decide) ?_
                    exact ⟨_, rfl, hI29, hF31, x5, rfl, r5, (Or.inr (Or.inr (Or.inr (Or.inr (⟨by omega, (hx27.trans (congrArg (fun f => va_cpy (f) (f) (x1 * 60 + x2 : Int).toNat (x3 * 60 + x4 : Int).toNat (x5 : Int).toNat) rfl))⟩)))))⟩
                · skip
                  refine qr_bipush 114 rfl (by decide) rfl ?_
                  as_aux_lemma =>
                    refine qr_retI rfl rfl (by decide) (by decide) ?_
                    exact ⟨_, rfl, hI, hF0, (-13), rfl, (by decide), (Or.inr (Or.inr (Or.inr (Or.inl ⟨by omega, rfl⟩))))⟩
            · skip
              refine qr_bipush 82 rfl (by decide) rfl ?_
              refine qr_retI rfl rfl (by decide) (by decide) ?_
              exact ⟨_, rfl, hI, hF0, (-12), rfl, (by decide), (Or.inr (Or.inr (Or.inl ⟨by omega, rfl⟩)))⟩
        · skip
          refine qr_bipush 48 rfl (by decide) rfl ?_
          refine qr_retI rfl rfl (by decide) (by decide) ?_
          exact ⟨_, rfl, hI, hF0, (-11), rfl, (by decide), (Or.inr (Or.inl ⟨by omega, rfl⟩))⟩
    · skip
      refine qr_iconst 23 rfl rfl ?_
      refine qr_retI rfl rfl (by decide) (by decide) ?_
      exact ⟨_, rfl, hI, hF0, (-1), rfl, (by decide), (Or.inl ⟨by omega, rfl⟩)⟩

set_option maxHeartbeats 4000000 in
set_option maxRecDepth 20000 in
/-- OneRoofModel.road -/
theorem sf_241_86x {L : Nat} {xs : Nat → Int} {vb : Bool} {d : Nat} {σ α : Nat → Nat → Int} {κ : Nat → Option Nat} {ρ : Nat} {x1 : Int} {x2 : Int} (hI : qI σ α κ ρ) (r1 : (-2147483648) ≤ x1 ∧ x1 ≤ 2147483647) (r2 : (-2147483648) ≤ x2 ∧ x2 ≤ 2147483647) : qm_T (qe L xs vb) (d + 3) 241 [.ref 86, .int (qz x1), .int (qz x2)] (qw σ α κ ρ) (fun r w' => ∃ α', w' = qw σ α' κ ρ ∧ qI σ α' κ ρ ∧ qFr [] [93] σ α σ α' ∧ ∃ v : Int, r = some (.int (qz v)) ∧ ((-2147483648) ≤ v ∧ v ≤ 2147483647) ∧ (((v = -1 ∧ ¬ (0 ≤ x1 ∧ x1 < σ 86 6 ∧ 0 ≤ x2 ∧ x2 ≤ 3)) ∧ α' 93 = α 93) ∨ (((0 ≤ x1 ∧ x1 < σ 86 6 ∧ 0 ≤ x2 ∧ x2 ≤ 3) ∧ v = α 93 (x1 : Int).toNat) ∧ α' 93 = qzu (α 93) (x1 : Int).toNat (x2)))) := by
  refine qr_start (d := d + 2) qv_e241 (Nat.le_of_ble_eq_true rfl) ?_
  show qr_W (qe L xs vb) (d + 2) qx_e241 _ (0, [(0, .ref 86), (1, .int (qz x1)), (2, .int (qz x2))], [], _, 0, 0)
  have hF0 := qFr_rf [] [93] σ α
  have hz86_6 : 0 ≤ σ 86 6 ∧ σ 86 6 ≤ 32 := hI.1 86 6
  refine qr_aload_n 1 rfl rfl rfl ?_
  refine qr_iload_n 2 rfl rfl rfl ?_
  refine qr_callN 5 rfl rfl rfl (sf_180_86 (d := d + 0) hI r1) ?_
  have hs3 : 0 ≤ σ 86 6 ∧ σ 86 6 ≤ 32 := hI.1 86 6
  rintro _ _ ⟨rfl, v1, rfl, hv1, hp2⟩
  show qr_W (qe L xs vb) (d + 2) qx_e241 _ (5, _, [.int (qz v1)], qw σ α κ ρ, 0, 0)
  refine qr_if_eq 20 8 rfl rfl rfl (qrg hv1 (by decide) (by decide)) (fun h4 => ?_) (fun h4 => ?_)
  · skip
    refine qr_iconst 21 rfl rfl ?_
    refine qr_retI rfl rfl (by decide) (by decide) ?_
    exact ⟨_, rfl, hI, hF0, (-1), rfl, (by decide), (Or.inl ⟨by omega, rfl⟩)⟩
  · skip
    refine qr_iload_n 9 rfl rfl rfl ?_
    refine qr_i2l 10 rfl r2 rfl ?_
    refine qr_lconst 11 rfl rfl ?_
    refine qy_vl 0 rfl ?_
    refine qr_ldc2 3 14 rfl (by decide) rfl ?_
    refine qr_callN 17 rfl rfl rfl (sf_176 (d := d + 1) hI (qrg r2 (by decide) (by decide)) (by decide) (by decide)) ?_
    rintro _ _ ⟨rfl, v5, rfl, hv5, hp6⟩
    show qr_W (qe L xs vb) (d + 2) qx_e241 _ (17, _, [.int (qz v5)], qw σ α κ ρ, 0, 0)
    refine qr_if_ne 22 20 rfl rfl rfl (qrg hv5 (by decide) (by decide)) (fun h7 => ?_) (fun h7 => ?_)
    · skip
      refine qr_aload_n 23 rfl rfl rfl ?_
      refine qr_get 26 rfl rfl rfl (by decide) rfl ?_
      refine qr_iload_n 27 rfl rfl rfl ?_
      refine qr_iaload 28 rfl rfl (by omega) (by decide) rfl ?_
      refine qr_topI (fun v8 hv8 => ?_)
      have hs9 : (-2147483648) ≤ v8 ∧ v8 ≤ 2147483647 := by rw [hv8]; exact hI.2.1 93 _ (show _ < 32 by omega)
      refine qr_istore_n _ 29 rfl (by decide) rfl rfl ?_
      refine qr_aload_n 30 rfl rfl rfl ?_
      refine qr_get 33 rfl rfl rfl (by decide) rfl ?_
      refine qr_iload_n 34 rfl rfl rfl ?_
      refine qr_iload_n 35 rfl rfl rfl ?_
      refine qr_iastore 36 rfl (by decide) rfl (by omega) (by decide) rfl ?_
      refine qy_wA (qw_r α 93 (qzu (α 93) (x1 : Int).toNat x2)) rfl (fun α10 e11 => ?_)
      have hI12 : qI σ α10 κ ρ := by rw [e11]; exact qI_r hI 93 _ rfl (show (-2147483648) ≤ x2 ∧ x2 ≤ 2147483647 by omega)
      have hF13 : qFr [] [93] σ α σ α10 := by rw [e11]; exact qFr_r hF0 93 _ (by decide)
      refine qr_iload_n 37 rfl rfl rfl ?_
      refine qr_retI rfl rfl (by decide) (by decide) ?_
      exact ⟨_, rfl, hI12, hF13, v8, rfl, hs9, (Or.inr (⟨by omega, ((congrFun e11 93).trans (qw_r_eq.trans (congrArg (fun f => qzu f (x1 : Int).toNat x2) rfl)))⟩))⟩
    · skip
      refine qr_iconst 21 rfl rfl ?_
      refine qr_retI rfl rfl (by decide) (by decide) ?_
      exact ⟨_, rfl, hI, hF0, (-1), rfl, (by decide), (Or.inl ⟨by omega, rfl⟩)⟩

set_option maxHeartbeats 4000000 in
set_option maxRecDepth 20000 in
/-- OneRoofModel.keep -/
theorem sf_262_86x {L : Nat} {xs : Nat → Int} {vb : Bool} {d : Nat} {σ α : Nat → Nat → Int} {κ : Nat → Option Nat} {ρ : Nat} {x1 : Int} {x2 : Int} (hI : qI σ α κ ρ) (r1 : (-2147483648) ≤ x1 ∧ x1 ≤ 2147483647) (r2 : (-2147483648) ≤ x2 ∧ x2 ≤ 2147483647) : qm_T (qe L xs vb) (d + 3) 262 [.ref 86, .int (qz x1), .int (qz x2)] (qw σ α κ ρ) (fun r w' => ∃ α', w' = qw σ α' κ ρ ∧ qI σ α' κ ρ ∧ qFr [] [121, 122] σ α σ α' ∧ ∃ v : Int, r = some (.int (qz v)) ∧ ((-2147483648) ≤ v ∧ v ≤ 2147483647) ∧ (((v = -1 ∧ ¬ (0 ≤ x1 ∧ x1 ≤ 5 ∧ (x2 = -1 ∨ (0 ≤ x2 ∧ x2 < σ 86 24)))) ∧ α' 121 = α 121 ∧ α' 122 = α 122) ∨ ((v = 1 ∧ (0 ≤ x1 ∧ x1 ≤ 5 ∧ (x2 = -1 ∨ (0 ≤ x2 ∧ x2 < σ 86 24)))) ∧ α' 121 = qzu (α 121) (x1 : Int).toNat (x2) ∧ α' 122 = qzu (α 122) (x1 : Int).toNat (0)))) := by
  refine qr_start (d := d + 2) qv_e262 (Nat.le_of_ble_eq_true rfl) ?_
  show qr_W (qe L xs vb) (d + 2) qx_e262 _ (0, [(0, .ref 86), (1, .int (qz x1)), (2, .int (qz x2))], [], _, 0, 0)
  have hF0 := qFr_rf [] [121, 122] σ α
  have hz86_24 : 0 ≤ σ 86 24 ∧ σ 86 24 ≤ 60 := hI.1 86 24
  refine qr_iload_n 1 rfl rfl rfl ?_
  refine qr_callN 4 rfl rfl rfl (sf_178 (d := d + 0) hI r1) ?_
  rintro _ _ ⟨rfl, v1, rfl, hv1, hp2⟩
  show qr_W (qe L xs vb) (d + 2) qx_e262 _ (4, _, [.int (qz v1)], qw σ α κ ρ, 0, 0)
  refine qr_if_eq 20 7 rfl rfl rfl (qrg hv1 (by decide) (by decide)) (fun h3 => ?_) (fun h3 => ?_)
  · skip
    refine qr_iconst 21 rfl rfl ?_
    refine qr_retI rfl rfl (by decide) (by decide) ?_
    exact ⟨_, rfl, hI, hF0, (-1), rfl, (by decide), (Or.inl ⟨by omega, rfl, rfl⟩)⟩
  · skip
    refine qr_iload_n 8 rfl rfl rfl ?_
    refine qr_iconst 9 rfl rfl ?_
    refine qr_icmp_eq 22 12 rfl rfl rfl r2 (by decide) (fun h4 => ?_) (fun h4 => ?_)
    · skip
      refine qr_aload_n 23 rfl rfl rfl ?_
      refine qr_get 26 rfl rfl rfl (by decide) rfl ?_
      refine qr_iload_n 27 rfl rfl rfl ?_
      refine qr_iload_n 28 rfl rfl rfl ?_
      refine qr_iastore 29 rfl (by decide) rfl (by omega) (by decide) rfl ?_
      refine qy_wA (qw_r α 121 (qzu (α 121) (x1 : Int).toNat x2)) rfl (fun α5 e6 => ?_)
      have hI7 : qI σ α5 κ ρ := by rw [e6]; exact qI_r hI 121 _ rfl (show (-1) ≤ x2 ∧ x2 ≤ 64 by omega)
      have hF8 : qFr [] [121, 122] σ α σ α5 := by rw [e6]; exact qFr_r hF0 121 _ (by decide)
      refine qr_aload_n 30 rfl rfl rfl ?_
      refine qr_get 33 rfl rfl rfl (by decide) rfl ?_
      refine qr_iload_n 34 rfl rfl rfl ?_
      refine qr_iconst 35 rfl rfl ?_
      refine qr_iastore 36 rfl (by decide) rfl (by omega) (by decide) rfl ?_
      refine qy_wA (qw_r α5 122 (qzu (α5 122) (x1 : Int).toNat 0)) rfl (fun α9 e10 => ?_)
      have hI11 : qI σ α9 κ ρ := by rw [e10]; exact qI_r hI7 122 _ rfl (show 0 ≤ 0 ∧ 0 ≤ 60 by omega)
      have hF12 : qFr [] [121, 122] σ α σ α9 := by rw [e10]; exact qFr_r hF8 122 _ (by decide)
      refine qr_iconst 37 rfl rfl ?_
      refine qr_retI rfl rfl (by decide) (by decide) ?_
      exact ⟨_, rfl, hI11, hF12, 1, rfl, (by decide), (Or.inr (⟨by omega, ((congrFun e10 121).trans ((qw_r_ne (by decide)).trans ((congrFun e6 121).trans (qw_r_eq.trans (congrArg (fun f => qzu f (x1 : Int).toNat x2) rfl))))), ((congrFun e10 122).trans (qw_r_eq.trans (congrArg (fun f => qzu f (x1 : Int).toNat 0) ((congrFun e6 122).trans ((qw_r_ne (by decide)).trans rfl)))))⟩))⟩
    · skip
      refine qr_aload_n 13 rfl rfl rfl ?_
      refine qr_iload_n 14 rfl rfl rfl ?_
      refine qr_callN 17 rfl rfl rfl (sf_200_86 (d := d + 0) hI r2) ?_
      have hs15 : 0 ≤ σ 86 24 ∧ σ 86 24 ≤ 60 := hI.1 86 24
      rintro _ _ ⟨rfl, v13, rfl, hv13, hp14⟩
      show qr_W (qe L xs vb) (d + 2) qx_e262 _ (17, _, [.int (qz v13)], qw σ α κ ρ, 0, 0)
      refine qr_if_ne 22 20 rfl rfl rfl (qrg hv13 (by decide) (by decide)) (fun h16 => ?_) (fun h16 => ?_)
      · skip
        refine qr_aload_n 23 rfl rfl rfl ?_
        refine qr_get 26 rfl rfl rfl (by decide) rfl ?_
        refine qr_iload_n 27 rfl rfl rfl ?_
        refine qr_iload_n 28 rfl rfl rfl ?_
        refine qr_iastore 29 rfl (by decide) rfl (by omega) (by decide) rfl ?_
        refine qy_wA (qw_r α 121 (qzu (α 121) (x1 : Int).toNat x2)) rfl (fun α17 e18 => ?_)
        have hI19 : qI σ α17 κ ρ := by rw [e18]; exact qI_r hI 121 _ rfl (show (-1) ≤ x2 ∧ x2 ≤ 64 by omega)
        have hF20 : qFr [] [121, 122] σ α σ α17 := by rw [e18]; exact qFr_r hF0 121 _ (by decide)
        refine qr_aload_n 30 rfl rfl rfl ?_
        refine qr_get 33 rfl rfl rfl (by decide) rfl ?_
        refine qr_iload_n 34 rfl rfl rfl ?_
        refine qr_iconst 35 rfl rfl ?_
        refine qr_iastore 36 rfl (by decide) rfl (by omega) (by decide) rfl ?_
        refine qy_wA (qw_r α17 122 (qzu (α17 122) (x1 : Int).toNat 0)) rfl (fun α21 e22 => ?_)
        have hI23 : qI σ α21 κ ρ := by rw [e22]; exact qI_r hI19 122 _ rfl (show 0 ≤ 0 ∧ 0 ≤ 60 by omega)
        have hF24 : qFr [] [121, 122] σ α σ α21 := by rw [e22]; exact qFr_r hF20 122 _ (by decide)
        refine qr_iconst 37 rfl rfl ?_
        refine qr_retI rfl rfl (by decide) (by decide) ?_
        exact ⟨_, rfl, hI23, hF24, 1, rfl, (by decide), (Or.inr (⟨by omega, ((congrFun e22 121).trans ((qw_r_ne (by decide)).trans ((congrFun e18 121).trans (qw_r_eq.trans (congrArg (fun f => qzu f (x1 : Int).toNat x2) rfl))))), ((congrFun e22 122).trans (qw_r_eq.trans (congrArg (fun f => qzu f (x1 : Int).toNat 0) ((congrFun e18 122).trans ((qw_r_ne (by decide)).trans rfl)))))⟩))⟩
      · skip
        refine qr_iconst 21 rfl rfl ?_
        refine qr_retI rfl rfl (by decide) (by decide) ?_
        exact ⟨_, rfl, hI, hF0, (-1), rfl, (by decide), (Or.inl ⟨by omega, rfl, rfl⟩)⟩

set_option maxHeartbeats 4000000 in
set_option maxRecDepth 20000 in
/-- OneRoofModel.row -/
theorem sf_263_86x {L : Nat} {xs : Nat → Int} {vb : Bool} {d : Nat} {σ α : Nat → Nat → Int} {κ : Nat → Option Nat} {ρ : Nat} {x1 : Int} {x2 : Int} {x3 : Int} (hI : qI σ α κ ρ) (r1 : (-2147483648) ≤ x1 ∧ x1 ≤ 2147483647) (r2 : (-2147483648) ≤ x2 ∧ x2 ≤ 2147483647) (r3 : (-2147483648) ≤ x3 ∧ x3 ≤ 2147483647) : qm_T (qe L xs vb) (d + 3) 263 [.ref 86, .int (qz x1), .int (qz x2), .int (qz x3)] (qw σ α κ ρ) (fun r w' => ∃ α', w' = qw σ α' κ ρ ∧ qI σ α' κ ρ ∧ qFr [] [121, 122, 123] σ α σ α' ∧ ∃ v : Int, r = some (.int (qz v)) ∧ ((-2147483648) ≤ v ∧ v ≤ 2147483647) ∧ (((v = -1 ∧ ¬ (0 ≤ x1 ∧ x1 ≤ 5 ∧ 0 ≤ x2 ∧ x2 ≤ 4 ∧ x3 ≤ 60)) ∧ α' 121 = α 121 ∧ α' 122 = α 122 ∧ α' 123 = α 123) ∨ ((v = -14 ∧ (0 ≤ x1 ∧ x1 ≤ 5 ∧ 0 ≤ x2 ∧ x2 ≤ 4 ∧ x3 ≤ 60) ∧ x3 < 0) ∧ α' 121 = α 121 ∧ α' 122 = α 122 ∧ α' 123 = α 123) ∨ ((v = 1 ∧ (0 ≤ x1 ∧ x1 ≤ 5 ∧ 0 ≤ x2 ∧ x2 ≤ 4 ∧ x3 ≤ 60) ∧ 0 ≤ x3) ∧ α' 121 = qzu (α 121) (x1 : Int).toNat (60 + x2) ∧ α' 122 = qzu (α 122) (x1 : Int).toNat (x3) ∧ α' 123 = qzfl (α 123) (60 * x1 : Int).toNat 60))) := by
  refine qr_start (d := d + 2) qv_e263 (Nat.le_of_ble_eq_true rfl) ?_
  show qr_W (qe L xs vb) (d + 2) qx_e263 _ (0, [(0, .ref 86), (1, .int (qz x1)), (2, .int (qz x2)), (3, .int (qz x3))], [], _, 0, 0)
  have hF0 := qFr_rf [] [121, 122, 123] σ α
  refine qr_iload_n 1 rfl rfl rfl ?_
  refine qr_callN 4 rfl rfl rfl (sf_178 (d := d + 0) hI r1) ?_
  rintro _ _ ⟨rfl, v1, rfl, hv1, hp2⟩
  show qr_W (qe L xs vb) (d + 2) qx_e263 _ (4, _, [.int (qz v1)], qw σ α κ ρ, 0, 0)
  refine qr_if_eq 25 7 rfl rfl rfl (qrg hv1 (by decide) (by decide)) (fun h3 => ?_) (fun h3 => ?_)
  · skip
    refine qr_iconst 26 rfl rfl ?_
    refine qr_retI rfl rfl (by decide) (by decide) ?_
    exact ⟨_, rfl, hI, hF0, (-1), rfl, (by decide), (Or.inl ⟨by omega, rfl, rfl, rfl⟩)⟩
  · skip
    refine qr_iload_n 8 rfl rfl rfl ?_
    refine qr_i2l 9 rfl r2 rfl ?_
    refine qr_lconst 10 rfl rfl ?_
    refine qy_vl 0 rfl ?_
    refine qr_ldc2 4 13 rfl (by decide) rfl ?_
    refine qr_callN 16 rfl rfl rfl (sf_176 (d := d + 1) hI (qrg r2 (by decide) (by decide)) (by decide) (by decide)) ?_
    rintro _ _ ⟨rfl, v4, rfl, hv4, hp5⟩
    show qr_W (qe L xs vb) (d + 2) qx_e263 _ (16, _, [.int (qz v4)], qw σ α κ ρ, 0, 0)
    refine qr_if_eq 25 19 rfl rfl rfl (qrg hv4 (by decide) (by decide)) (fun h6 => ?_) (fun h6 => ?_)
    · skip
      refine qr_iconst 26 rfl rfl ?_
      refine qr_retI rfl rfl (by decide) (by decide) ?_
      exact ⟨_, rfl, hI, hF0, (-1), rfl, (by decide), (Or.inl ⟨by omega, rfl, rfl, rfl⟩)⟩
    · skip
      refine qr_iload_n 20 rfl rfl rfl ?_
      refine qr_bipush 22 rfl (by decide) rfl ?_
      refine qr_icmp_le 27 25 rfl rfl rfl r3 (by decide) (fun h7 => ?_) (fun h7 => ?_)
      · skip
        refine qr_iload_n 28 rfl rfl rfl ?_
        refine qr_if_ge 34 31 rfl rfl rfl r3 (fun h8 => ?_) (fun h8 => ?_)
        · skip
          refine qr_aload_n 35 rfl rfl rfl ?_
          refine qr_get 38 rfl rfl rfl (by decide) rfl ?_
          refine qr_iload_n 39 rfl rfl rfl ?_
          refine qr_bipush 41 rfl (by decide) rfl ?_
          refine qr_iload_n 42 rfl rfl rfl ?_
          refine qr_iadd 43 rfl rfl ?_
          refine qr_iastore 44 rfl (by decide) rfl (by omega) (by decide) rfl ?_
          refine qy_wA (qw_r α 121 (qzu (α 121) (x1 : Int).toNat (60 + x2))) rfl (fun α9 e10 => ?_)
          have hI11 : qI σ α9 κ ρ := by rw [e10]; exact qI_r hI 121 _ rfl (show (-1) ≤ (60 + x2) ∧ (60 + x2) ≤ 64 by omega)
          have hF12 : qFr [] [121, 122, 123] σ α σ α9 := by rw [e10]; exact qFr_r hF0 121 _ (by decide)
          refine qr_aload_n 45 rfl rfl rfl ?_
          refine qr_get 48 rfl rfl rfl (by decide) rfl ?_
          refine qr_iload_n 49 rfl rfl rfl ?_
          refine qr_iload_n 50 rfl rfl rfl ?_
          refine qr_iastore 51 rfl (by decide) rfl (by omega) (by decide) rfl ?_
          refine qy_wA (qw_r α9 122 (qzu (α9 122) (x1 : Int).toNat x3)) rfl (fun α13 e14 => ?_)
          have hI15 : qI σ α13 κ ρ := by rw [e14]; exact qI_r hI11 122 _ rfl (show 0 ≤ x3 ∧ x3 ≤ 60 by omega)
          have hF16 : qFr [] [121, 122, 123] σ α σ α13 := by rw [e14]; exact qFr_r hF12 122 _ (by decide)
          refine qr_bipush 53 rfl (by decide) rfl ?_
          refine qr_iload_n 54 rfl rfl rfl ?_
          refine qr_imul 55 rfl rfl ?_
          refine qr_istore _ 57 rfl (by decide) rfl rfl ?_
          have hL87 : ∀ (n : Nat) (ls : qm_L) (u76 : Int) (α78 : Nat → Nat → Int), 360 - u76 < (n : Int) → qm_get ls 0 = some (.ref 86) → qm_get ls 1 = some (.int (qz x1)) → qm_get ls 4 = some (.int (qz u76)) → (0 ≤ u76 ∧ u76 ≤ 360) → qI σ α78 κ ρ → qFr [] [121, 122, 123] σ α σ α78 → α78 123 = (qzfl (α 123) (60 * x1 : Int).toNat (u76 - 60 * x1 : Int).toNat) → α78 121 = (qzu (α 121) (x1 : Int).toNat (60 + x2)) → α78 122 = (qzu (α 122) (x1 : Int).toNat x3) → 60 * x1 ≤ u76 ∧ u76 ≤ 60 * x1 + 60 → (60 * x1) ≤ u76 → qr_W (qe L xs vb) (d + 2) qx_e263 (fun r w' => ∃ α', w' = qw σ α' κ ρ ∧ qI σ α' κ ρ ∧ qFr [] [121, 122, 123] σ α σ α' ∧ ∃ v : Int, r = some (.int (qz v)) ∧ ((-2147483648) ≤ v ∧ v ≤ 2147483647) ∧ (((v = -1 ∧ ¬ (0 ≤ x1 ∧ x1 ≤ 5 ∧ 0 ≤ x2 ∧ x2 ≤ 4 ∧ x3 ≤ 60)) ∧ α' 121 = α 121 ∧ α' 122 = α 122 ∧ α' 123 = α 123) ∨ ((v = -14 ∧ (0 ≤ x1 ∧ x1 ≤ 5 ∧ 0 ≤ x2 ∧ x2 ≤ 4 ∧ x3 ≤ 60) ∧ x3 < 0) ∧ α' 121 = α 121 ∧ α' 122 = α 122 ∧ α' 123 = α 123) ∨ ((v = 1 ∧ (0 ≤ x1 ∧ x1 ≤ 5 ∧ 0 ≤ x2 ∧ x2 ≤ 4 ∧ x3 ≤ 60) ∧ 0 ≤ x3) ∧ α' 121 = qzu (α 121) (x1 : Int).toNat (60 + x2) ∧ α' 122 = qzu (α 122) (x1 : Int).toNat (x3) ∧ α' 123 = qzfl (α 123) (60 * x1 : Int).toNat 60))) (57, ls, [], qw σ α78 κ ρ, 0, 0) := by
            intro n
            induction n with
            | zero => intro ls u76 α78 hm g73 g74 g75 hf81 hI79 hF80 hx82 hx83 hx84 hx85 hx86; exact False.elim (by omega)
            | succ n ih88 =>
              intro ls u76 α78 hm g73 g74 g75 hf81 hI79 hF80 hx82 hx83 hx84 hx85 hx86
              refine qr_iload 59 rfl g75 rfl ?_
              refine qr_bipush 61 rfl (by decide) rfl ?_
              refine qr_iload_n 62 rfl g74 rfl ?_
              refine qr_imul 63 rfl rfl ?_
              refine qr_bipush 65 rfl (by decide) rfl ?_
              refine qr_iadd 66 rfl rfl ?_
              refine qr_icmp_ge 83 69 rfl rfl rfl (qrg hf81 (by decide) (by decide)) (by omega) (fun h89 => ?_) (fun h89 => ?_)
              · skip
                refine qr_iconst 84 rfl rfl ?_
                refine qr_retI rfl rfl (by decide) (by decide) ?_
                exact ⟨_, rfl, hI79, hF80, 1, rfl, (by decide), (Or.inr (Or.inr (⟨by omega, hx83, hx84, (hx82.trans (by congr 1; omega))⟩)))⟩
              · skip
                refine qr_aload_n 70 rfl g73 rfl ?_
                refine qr_get 73 rfl rfl rfl (by decide) rfl ?_
                refine qr_iload 75 rfl g75 rfl ?_
                refine qr_lconst 76 rfl rfl ?_
                refine qy_vl 0 rfl ?_
                refine qr_lastore 77 rfl (by decide) rfl (by omega) (by decide) rfl ?_
                refine qy_wA (qw_r α78 123 (qzu (α78 123) (u76 : Int).toNat 0)) rfl (fun α90 e91 => ?_)
                have hI92 : qI σ α90 κ ρ := by rw [e91]; exact qI_r hI79 123 _ rfl (show (-9223372036854775808) ≤ 0 ∧ 0 ≤ 9223372036854775807 by omega)
                have hF93 : qFr [] [121, 122, 123] σ α σ α90 := by rw [e91]; exact qFr_r hF80 123 _ (by decide)
                refine qr_iinc _ 80 rfl g75 (by decide) rfl rfl ?_
                refine qr_goto 57 rfl rfl ?_
                exact ih88 _ (u76 + 1) α90 (by omega) (qm_gk g73 (by decide) (Or.inl (by decide))) (qm_gk g74 (by decide) (Or.inl (by decide))) (qm_ge _ _ _) (by omega) hI92 hF93 (((congrFun e91 123).trans (qw_r_eq.trans (congrArg (fun f => qzu f (u76 : Int).toNat 0) hx82))).trans (qzfl_s (by omega) (by omega))) ((congrFun e91 121).trans ((qw_r_ne (by decide)).trans hx83)) ((congrFun e91 122).trans ((qw_r_ne (by decide)).trans hx84)) (by omega) (by omega)
          exact hL87 ((360 - (60 * x1) + 1 : Int)).toNat _ (60 * x1) α13 (by omega) rfl rfl rfl (by omega) hI15 hF16 (((congrFun e14 123).trans ((qw_r_ne (by decide)).trans ((congrFun e10 123).trans ((qw_r_ne (by decide)).trans rfl)))).trans ((qzfl_0 _ _).trans (by congr 1; omega))) ((congrFun e14 121).trans ((qw_r_ne (by decide)).trans ((congrFun e10 121).trans (qw_r_eq.trans (congrArg (fun f => qzu f (x1 : Int).toNat (60 + x2)) rfl))))) ((congrFun e14 122).trans (qw_r_eq.trans (congrArg (fun f => qzu f (x1 : Int).toNat x3) ((congrFun e10 122).trans ((qw_r_ne (by decide)).trans rfl))))) (by omega) (by omega)
        · skip
          refine qr_bipush 33 rfl (by decide) rfl ?_
          refine qr_retI rfl rfl (by decide) (by decide) ?_
          exact ⟨_, rfl, hI, hF0, (-14), rfl, (by decide), (Or.inr (Or.inl ⟨by omega, rfl, rfl, rfl⟩))⟩
      · skip
        refine qr_iconst 26 rfl rfl ?_
        refine qr_retI rfl rfl (by decide) (by decide) ?_
        exact ⟨_, rfl, hI, hF0, (-1), rfl, (by decide), (Or.inl ⟨by omega, rfl, rfl, rfl⟩)⟩

set_option maxHeartbeats 4000000 in
set_option maxRecDepth 20000 in
/-- OneRoofModel.refusal -/
theorem sf_265_86x {L : Nat} {xs : Nat → Int} {vb : Bool} {d : Nat} {σ α : Nat → Nat → Int} {κ : Nat → Option Nat} {ρ : Nat} {x1 : Int} {x2 : Int} (hI : qI σ α κ ρ) (r1 : (-2147483648) ≤ x1 ∧ x1 ≤ 2147483647) (r2 : (-2147483648) ≤ x2 ∧ x2 ≤ 2147483647) : qm_T (qe L xs vb) (d + 3) 265 [.ref 86, .int (qz x1), .int (qz x2)] (qw σ α κ ρ) (fun r w' => w' = qw σ α κ ρ ∧ ∃ v : Int, r = some (.int (qz v)) ∧ ((-13) ≤ v ∧ v ≤ 0) ∧ ((v = -1 ∧ ¬ (0 ≤ x1 ∧ x1 ≤ 5)) ∨ (v = -11 ∧ 0 ≤ x1 ∧ x1 ≤ 5 ∧ α 121 (x1 : Int).toNat < 0) ∨ (v = -12 ∧ 0 ≤ x1 ∧ x1 ≤ 5 ∧ 0 ≤ α 121 (x1 : Int).toNat ∧ α 121 (x1 : Int).toNat < 60) ∨ (v = -13 ∧ 0 ≤ x1 ∧ x1 ≤ 5 ∧ 60 ≤ α 121 (x1 : Int).toNat ∧ ¬ (0 ≤ x2 ∧ x2 < α 122 (x1 : Int).toNat)) ∨ (v = 0 ∧ 0 ≤ x1 ∧ x1 ≤ 5 ∧ 60 ≤ α 121 (x1 : Int).toNat ∧ 0 ≤ x2 ∧ x2 < α 122 (x1 : Int).toNat))) := by
  refine qr_start (d := d + 2) qv_e265 (Nat.le_of_ble_eq_true rfl) ?_
  show qr_W (qe L xs vb) (d + 2) qx_e265 _ (0, [(0, .ref 86), (1, .int (qz x1)), (2, .int (qz x2))], [], _, 0, 0)
  have qx1_121 : 0 ≤ x1 ∧ x1 ≤ 5 → -1 ≤ α 121 (x1 : Int).toNat ∧ α 121 (x1 : Int).toNat ≤ 64 := fun h => hI.2.1 121 _ (show (x1 : Int).toNat < 6 by omega)
  have qx1_122 : 0 ≤ x1 ∧ x1 ≤ 5 → 0 ≤ α 122 (x1 : Int).toNat ∧ α 122 (x1 : Int).toNat ≤ 60 := fun h => hI.2.1 122 _ (show (x1 : Int).toNat < 6 by omega)
  refine qr_iload_n 1 rfl rfl rfl ?_
  refine qr_callN 4 rfl rfl rfl (sf_178 (d := d + 0) hI r1) ?_
  rintro _ _ ⟨rfl, v1, rfl, hv1, hp2⟩
  show qr_W (qe L xs vb) (d + 2) qx_e265 _ (4, _, [.int (qz v1)], qw σ α κ ρ, 0, 0)
  refine qr_if_ne 9 7 rfl rfl rfl (qrg hv1 (by decide) (by decide)) (fun h3 => ?_) (fun h3 => ?_)
  · skip
    refine qr_aload_n 10 rfl rfl rfl ?_
    refine qr_get 13 rfl rfl rfl (by decide) rfl ?_
    refine qr_iload_n 14 rfl rfl rfl ?_
    refine qr_iaload 15 rfl rfl (by omega) (by decide) rfl ?_
    refine qr_topI (fun v4 hv4 => ?_)
    have hs5 : (-1) ≤ v4 ∧ v4 ≤ 64 := by rw [hv4]; exact hI.2.1 121 _ (show _ < 6 by omega)
    refine qr_if_ge 21 18 rfl rfl rfl (qrg hs5 (by decide) (by decide)) (fun h6 => ?_) (fun h6 => ?_)
    · skip
      refine qr_aload_n 22 rfl rfl rfl ?_
      refine qr_get 25 rfl rfl rfl (by decide) rfl ?_
      refine qr_iload_n 26 rfl rfl rfl ?_
      refine qr_iaload 27 rfl rfl (by omega) (by decide) rfl ?_
      refine qr_topI (fun v7 hv7 => ?_)
      have hs8 : (-1) ≤ v7 ∧ v7 ≤ 64 := by rw [hv7]; exact hI.2.1 121 _ (show _ < 6 by omega)
      refine qr_bipush 29 rfl (by decide) rfl ?_
      refine qr_icmp_ge 35 32 rfl rfl rfl (qrg hs8 (by decide) (by decide)) (by decide) (fun h9 => ?_) (fun h9 => ?_)
      · skip
        refine qr_iload_n 36 rfl rfl rfl ?_
        refine qr_if_lt 53 39 rfl rfl rfl r2 (fun h10 => ?_) (fun h10 => ?_)
        · skip
          refine qr_bipush 55 rfl (by decide) rfl ?_
          refine qr_retI rfl rfl (by decide) (by decide) ?_
          exact ⟨rfl, (-13), rfl, (by decide), by omega⟩
        · skip
          refine qr_iload_n 40 rfl rfl rfl ?_
          refine qr_aload_n 41 rfl rfl rfl ?_
          refine qr_get 44 rfl rfl rfl (by decide) rfl ?_
          refine qr_iload_n 45 rfl rfl rfl ?_
          refine qr_iaload 46 rfl rfl (by omega) (by decide) rfl ?_
          refine qr_topI (fun v11 hv11 => ?_)
          have hs12 : 0 ≤ v11 ∧ v11 ≤ 60 := by rw [hv11]; exact hI.2.1 122 _ (show _ < 6 by omega)
          refine qr_icmp_ge 53 49 rfl rfl rfl r2 (qrg hs12 (by decide) (by decide)) (fun h13 => ?_) (fun h13 => ?_)
          · skip
            refine qr_bipush 55 rfl (by decide) rfl ?_
            refine qr_retI rfl rfl (by decide) (by decide) ?_
            exact ⟨rfl, (-13), rfl, (by decide), by omega⟩
          · skip
            refine qr_iconst 50 rfl rfl ?_
            refine qr_goto 55 rfl rfl ?_
            refine qr_retI rfl rfl (by decide) (by decide) ?_
            exact ⟨rfl, 0, rfl, (by decide), by omega⟩
      · skip
        refine qr_bipush 34 rfl (by decide) rfl ?_
        refine qr_retI rfl rfl (by decide) (by decide) ?_
        exact ⟨rfl, (-12), rfl, (by decide), by omega⟩
    · skip
      refine qr_bipush 20 rfl (by decide) rfl ?_
      refine qr_retI rfl rfl (by decide) (by decide) ?_
      exact ⟨rfl, (-11), rfl, (by decide), by omega⟩
  · skip
    refine qr_iconst 8 rfl rfl ?_
    refine qr_retI rfl rfl (by decide) (by decide) ?_
    exact ⟨rfl, (-1), rfl, (by decide), by omega⟩

set_option maxHeartbeats 4000000 in
set_option maxRecDepth 20000 in
/-- OneRoofModel.asSort -/
theorem sf_266x {L : Nat} {xs : Nat → Int} {vb : Bool} {d : Nat} {σ α : Nat → Nat → Int} {κ : Nat → Option Nat} {ρ : Nat} {x0 : Int} {x1 : Int} (hI : qI σ α κ ρ) (r0 : 0 ≤ x0 ∧ x0 ≤ 4) (r1 : (-9223372036854775808) ≤ x1 ∧ x1 ≤ 9223372036854775807) : qm_T (qe L xs vb) (d + 1) 266 [.int (qz x0), .long (ql x1)] (qw σ α κ ρ) (fun r w' => w' = qw σ α κ ρ ∧ ∃ v : Int, r = some (.long (ql v)) ∧ ((-9223372036854775808) ≤ v ∧ v ≤ 9223372036854775807) ∧ v = qnar x0 x1) := by
  refine qr_start (d := d + 0) qv_e266 (Nat.le_of_ble_eq_true rfl) ?_
  show qr_W (qe L xs vb) (d + 0) qx_e266 _ (0, [(0, .int (qz x0)), (1, .long (ql x1))], [], _, 0, 0)
  refine qr_iload_n 1 rfl rfl rfl ?_
  refine qr_if_ne 11 4 rfl rfl rfl (qrg r0 (by decide) (by decide)) (fun h1 => ?_) (fun h1 => ?_)
  · skip
    refine qr_iload_n 12 rfl rfl rfl ?_
    refine qr_iconst 13 rfl rfl ?_
    refine qr_icmp_ne 23 16 rfl rfl rfl (qrg r0 (by decide) (by decide)) (by decide) (fun h2 => ?_) (fun h2 => ?_)
    · skip
      refine qr_iload_n 24 rfl rfl rfl ?_
      refine qr_iconst 25 rfl rfl ?_
      refine qr_icmp_ne 34 28 rfl rfl rfl (qrg r0 (by decide) (by decide)) (by decide) (fun h3 => ?_) (fun h3 => ?_)
      · skip
        refine qr_iload_n 35 rfl rfl rfl ?_
        refine qr_iconst 36 rfl rfl ?_
        refine qr_icmp_ne 53 39 rfl rfl rfl (qrg r0 (by decide) (by decide)) (by decide) (fun h4 => ?_) (fun h4 => ?_)
        · skip
          refine qr_lload_n 54 rfl rfl rfl ?_
          refine qr_retL rfl rfl (by decide) (by decide) ?_
          exact ⟨rfl, x1, rfl, r1, (by unfold qnar; rw [if_neg (by omega), if_neg (by omega), if_neg (by omega), if_pos (by omega)])⟩
        · skip
          refine qr_lload_n 40 rfl rfl rfl ?_
          refine qr_lconst 41 rfl rfl ?_
          refine qy_vl 0 rfl ?_
          refine qr_lc_eq 49 45 rfl rfl rfl rfl r1 (by decide) (fun h5 => ?_) (fun h5 => ?_)
          · skip
            refine qr_lconst 50 rfl rfl ?_
            refine qy_vl 0 rfl ?_
            refine qr_goto 54 rfl rfl ?_
            refine qr_retL rfl rfl (by decide) (by decide) ?_
            exact ⟨rfl, 0, rfl, (by decide), (by unfold qnar; rw [if_neg (by omega), if_neg (by omega), if_neg (by omega), if_neg (by omega)]; first | (rw [if_pos (by omega)]) | (rw [if_neg (by omega)]))⟩
          · skip
            refine qr_lconst 46 rfl rfl ?_
            refine qy_vl 1 rfl ?_
            refine qr_goto 54 rfl rfl ?_
            refine qr_retL rfl rfl (by decide) (by decide) ?_
            exact ⟨rfl, 1, rfl, (by decide), (by unfold qnar; rw [if_neg (by omega), if_neg (by omega), if_neg (by omega), if_neg (by omega)]; first | (rw [if_pos (by omega)]) | (rw [if_neg (by omega)]))⟩
      · skip
        refine qr_lload_n 29 rfl rfl rfl ?_
        refine qr_l2i 30 rfl rfl ?_
        refine qy_canE (fun v6 hv6 hev6 => ?_)
        refine qr_i2l 31 rfl hv6 rfl ?_
        refine qr_goto 54 rfl rfl ?_
        refine qr_retL rfl rfl (by decide) (by decide) ?_
        exact ⟨rfl, v6, rfl, (qrg hv6 (by decide) (by decide)), (by unfold qnar; rw [if_neg (by omega), if_neg (by omega), if_pos (by omega)]; exact qna_i hev6 (by omega))⟩
    · skip
      refine qr_lload_n 17 rfl rfl rfl ?_
      refine qr_l2i 18 rfl rfl ?_
      refine qy_canE (fun v7 hv7 hev7 => ?_)
      refine qr_i2s 19 rfl rfl ?_
      refine qy_canE (fun v8 hv8 hev8 => ?_)
      refine qr_i2l 20 rfl hv8 rfl ?_
      refine qr_goto 54 rfl rfl ?_
      refine qr_retL rfl rfl (by decide) (by decide) ?_
      exact ⟨rfl, v8, rfl, (qrg hv8 (by decide) (by decide)), (by unfold qnar; rw [if_neg (by omega), if_pos (by omega)]; exact qna_s hev7 hev8 (by omega))⟩
  · skip
    refine qr_lload_n 5 rfl rfl rfl ?_
    refine qr_l2i 6 rfl rfl ?_
    refine qy_canE (fun v9 hv9 hev9 => ?_)
    refine qr_i2b 7 rfl rfl ?_
    refine qy_canE (fun v10 hv10 hev10 => ?_)
    refine qr_i2l 8 rfl hv10 rfl ?_
    refine qr_goto 54 rfl rfl ?_
    refine qr_retL rfl rfl (by decide) (by decide) ?_
    exact ⟨rfl, v10, rfl, (qrg hv10 (by decide) (by decide)), (by unfold qnar; rw [if_pos (by omega)]; exact qna_b hev9 hev10 (by omega))⟩

set_option maxHeartbeats 4000000 in
set_option maxRecDepth 20000 in
/-- OneRoofModel.put -/
theorem sf_264_86x {L : Nat} {xs : Nat → Int} {vb : Bool} {d : Nat} {σ α : Nat → Nat → Int} {κ : Nat → Option Nat} {ρ : Nat} {x1 : Int} {x2 : Int} {x3 : Int} (hI : qI σ α κ ρ) (r1 : (-2147483648) ≤ x1 ∧ x1 ≤ 2147483647) (r2 : (-2147483648) ≤ x2 ∧ x2 ≤ 2147483647) (r3 : (-9223372036854775808) ≤ x3 ∧ x3 ≤ 9223372036854775807) : qm_T (qe L xs vb) (d + 4) 264 [.ref 86, .int (qz x1), .int (qz x2), .long (ql x3)] (qw σ α κ ρ) (fun r w' => ∃ α', w' = qw σ α' κ ρ ∧ qI σ α' κ ρ ∧ qFr [] [123] σ α σ α' ∧ ∃ v : Int, r = some (.int (qz v)) ∧ ((-2147483648) ≤ v ∧ v ≤ 2147483647) ∧ (((¬ v = 0 ∧ ((v = -1 ∧ ¬ (0 ≤ x1 ∧ x1 ≤ 5)) ∨ (v = -11 ∧ 0 ≤ x1 ∧ x1 ≤ 5 ∧ α 121 (x1 : Int).toNat < 0) ∨ (v = -12 ∧ 0 ≤ x1 ∧ x1 ≤ 5 ∧ 0 ≤ α 121 (x1 : Int).toNat ∧ α 121 (x1 : Int).toNat < 60) ∨ (v = -13 ∧ 0 ≤ x1 ∧ x1 ≤ 5 ∧ 60 ≤ α 121 (x1 : Int).toNat ∧ ¬ (0 ≤ x2 ∧ x2 < α 122 (x1 : Int).toNat)) ∨ (v = 0 ∧ 0 ≤ x1 ∧ x1 ≤ 5 ∧ 60 ≤ α 121 (x1 : Int).toNat ∧ 0 ≤ x2 ∧ x2 < α 122 (x1 : Int).toNat))) ∧ α' 123 = α 123) ∨ ((v = 1 ∧ (0 ≤ x1 ∧ x1 ≤ 5) ∧ 60 ≤ α 121 (x1 : Int).toNat ∧ 0 ≤ x2 ∧ x2 < α 122 (x1 : Int).toNat) ∧ α' 123 = qzu (α 123) (60 * x1 + x2 : Int).toNat (qnar (α 121 (x1 : Int).toNat - 60) x3)))) := by
  refine qr_start (d := d + 3) qv_e264 (Nat.le_of_ble_eq_true rfl) ?_
  show qr_W (qe L xs vb) (d + 3) qx_e264 _ (0, [(0, .ref 86), (1, .int (qz x1)), (2, .int (qz x2)), (3, .long (ql x3))], [], _, 0, 0)
  have hF0 := qFr_rf [] [123] σ α
  have qx1_121 : 0 ≤ x1 ∧ x1 ≤ 5 → -1 ≤ α 121 (x1 : Int).toNat ∧ α 121 (x1 : Int).toNat ≤ 64 := fun h => hI.2.1 121 _ (show (x1 : Int).toNat < 6 by omega)
  have qx1_122 : 0 ≤ x1 ∧ x1 ≤ 5 → 0 ≤ α 122 (x1 : Int).toNat ∧ α 122 (x1 : Int).toNat ≤ 60 := fun h => hI.2.1 122 _ (show (x1 : Int).toNat < 6 by omega)
  refine qr_aload_n 1 rfl rfl rfl ?_
  refine qr_iload_n 2 rfl rfl rfl ?_
  refine qr_iload_n 3 rfl rfl rfl ?_
  refine qr_callN 6 rfl rfl rfl (sf_265_86x (d := d + 0) hI r1 r2) ?_
  rintro _ _ ⟨rfl, v1, rfl, hv1, hp2⟩
  show qr_W (qe L xs vb) (d + 3) qx_e264 _ (6, _, [.int (qz v1)], qw σ α κ ρ, 0, 0)
  refine qr_istore _ 8 rfl (by decide) rfl rfl ?_
  refine qr_iload 10 rfl rfl rfl ?_
  refine qr_if_ne 37 13 rfl rfl rfl (qrg hv1 (by decide) (by decide)) (fun h3 => ?_) (fun h3 => ?_)
  · skip
    refine qr_iload 39 rfl rfl rfl ?_
    refine qr_if_ne 46 42 rfl rfl rfl (qrg hv1 (by decide) (by decide)) (fun h4 => ?_) (fun h => False.elim (by omega))
    refine qr_iload 48 rfl rfl rfl ?_
    refine qr_retI rfl rfl (by decide) (by decide) ?_
    exact ⟨_, rfl, hI, hF0, v1, rfl, (qrg hv1 (by decide) (by decide)), (Or.inl ⟨by omega, rfl⟩)⟩
  · skip
    refine qr_aload_n 14 rfl rfl rfl ?_
    refine qr_get 17 rfl rfl rfl (by decide) rfl ?_
    refine qr_bipush 19 rfl (by decide) rfl ?_
    refine qr_iload_n 20 rfl rfl rfl ?_
    refine qr_imul 21 rfl rfl ?_
    refine qr_iload_n 22 rfl rfl rfl ?_
    refine qr_iadd 23 rfl rfl ?_
    refine qr_aload_n 24 rfl rfl rfl ?_
    refine qr_get 27 rfl rfl rfl (by decide) rfl ?_
    refine qr_iload_n 28 rfl rfl rfl ?_
    refine qr_iaload 29 rfl rfl (by omega) (by decide) rfl ?_
    refine qr_topI (fun v5 hv5 => ?_)
    have hs6 : (-1) ≤ v5 ∧ v5 ≤ 64 := by rw [hv5]; exact hI.2.1 121 _ (show _ < 6 by omega)
    refine qr_bipush 31 rfl (by decide) rfl ?_
    refine qr_isub 32 rfl rfl ?_
    refine qr_lload_n 33 rfl rfl rfl ?_
    refine qr_callN 36 rfl rfl rfl (sf_266x (d := d + 2) hI (by omega) r3) ?_
    rintro _ _ ⟨rfl, v7, rfl, hv7, hp8⟩
    show qr_W (qe L xs vb) (d + 3) qx_e264 _ (36, _, [.long (ql v7), .int (qz ((60 * x1) + x2)), .ref 123], qw σ α κ ρ, 0, 0)
    refine qr_lastore 37 rfl (by decide) rfl (by omega) (by decide) rfl ?_
    refine qy_wA (qw_r α 123 (qzu (α 123) (((60 * x1) + x2) : Int).toNat v7)) rfl (fun α9 e10 => ?_)
    have hI11 : qI σ α9 κ ρ := by rw [e10]; exact qI_r hI 123 _ rfl (show (-9223372036854775808) ≤ v7 ∧ v7 ≤ 9223372036854775807 by omega)
    have hF12 : qFr [] [123] σ α σ α9 := by rw [e10]; exact qFr_r hF0 123 _ (by decide)
    refine qr_iload 39 rfl rfl rfl ?_
    refine qr_if_ne 46 42 rfl rfl rfl (qrg hv1 (by decide) (by decide)) (fun h => False.elim (by omega)) (fun h13 => ?_)
    refine qr_iconst 43 rfl rfl ?_
    refine qr_goto 48 rfl rfl ?_
    refine qr_retI rfl rfl (by decide) (by decide) ?_
    exact ⟨_, rfl, hI11, hF12, 1, rfl, (by decide), (Or.inr (⟨by omega, (((congrFun e10 123).trans (qw_r_eq.trans (congrArg (fun f => qzu f (((60 * x1) + x2) : Int).toNat v7) rfl))).trans (by rw [hp8, hv5]))⟩))⟩

set_option maxHeartbeats 4000000 in
set_option maxRecDepth 20000 in
/-- OneRoofModel.element -/
theorem sf_267_86x {L : Nat} {xs : Nat → Int} {vb : Bool} {d : Nat} {σ α : Nat → Nat → Int} {κ : Nat → Option Nat} {ρ : Nat} {x1 : Int} {x2 : Int} (hI : qI σ α κ ρ) (r1 : (-2147483648) ≤ x1 ∧ x1 ≤ 2147483647) (r2 : (-2147483648) ≤ x2 ∧ x2 ≤ 2147483647) : qm_T (qe L xs vb) (d + 4) 267 [.ref 86, .int (qz x1), .int (qz x2)] (qw σ α κ ρ) (fun r w' => w' = qw σ α κ ρ ∧ ∃ v : Int, r = some (.long (ql v)) ∧ ((-9223372036854775808) ≤ v ∧ v ≤ 9223372036854775807) ∧ ((v = -9223372036854775808 ∧ ¬ (0 ≤ x1 ∧ x1 ≤ 5 ∧ 60 ≤ α 121 (x1 : Int).toNat ∧ 0 ≤ x2 ∧ x2 < α 122 (x1 : Int).toNat)) ∨ ((0 ≤ x1 ∧ x1 ≤ 5 ∧ 60 ≤ α 121 (x1 : Int).toNat ∧ 0 ≤ x2 ∧ x2 < α 122 (x1 : Int).toNat) ∧ v = α 123 (60 * x1 + x2 : Int).toNat))) := by
  refine qr_start (d := d + 3) qv_e267 (Nat.le_of_ble_eq_true rfl) ?_
  show qr_W (qe L xs vb) (d + 3) qx_e267 _ (0, [(0, .ref 86), (1, .int (qz x1)), (2, .int (qz x2))], [], _, 0, 0)
  have qx1_121 : 0 ≤ x1 ∧ x1 ≤ 5 → -1 ≤ α 121 (x1 : Int).toNat ∧ α 121 (x1 : Int).toNat ≤ 64 := fun h => hI.2.1 121 _ (show (x1 : Int).toNat < 6 by omega)
  have qx1_122 : 0 ≤ x1 ∧ x1 ≤ 5 → 0 ≤ α 122 (x1 : Int).toNat ∧ α 122 (x1 : Int).toNat ≤ 60 := fun h => hI.2.1 122 _ (show (x1 : Int).toNat < 6 by omega)
  refine qr_aload_n 1 rfl rfl rfl ?_
  refine qr_iload_n 2 rfl rfl rfl ?_
  refine qr_iload_n 3 rfl rfl rfl ?_
  refine qr_callN 6 rfl rfl rfl (sf_265_86x (d := d + 0) hI r1 r2) ?_
  rintro _ _ ⟨rfl, v1, rfl, hv1, hp2⟩
  show qr_W (qe L xs vb) (d + 3) qx_e267 _ (6, _, [.int (qz v1)], qw σ α κ ρ, 0, 0)
  refine qr_if_eq 15 9 rfl rfl rfl (qrg hv1 (by decide) (by decide)) (fun h3 => ?_) (fun h3 => ?_)
  · skip
    refine qr_aload_n 16 rfl rfl rfl ?_
    refine qr_get 19 rfl rfl rfl (by decide) rfl ?_
    refine qr_bipush 21 rfl (by decide) rfl ?_
    refine qr_iload_n 22 rfl rfl rfl ?_
    refine qr_imul 23 rfl rfl ?_
    refine qr_iload_n 24 rfl rfl rfl ?_
    refine qr_iadd 25 rfl rfl ?_
    refine qr_laload 26 rfl (by decide) rfl (by omega) (by decide) rfl ?_
    refine qr_topL (fun v4 hv4 => ?_)
    have hs5 : (-9223372036854775808) ≤ v4 ∧ v4 ≤ 9223372036854775807 := by rw [hv4]; exact hI.2.1 123 _ (show _ < 360 by omega)
    refine qr_retL rfl rfl (by decide) (by decide) ?_
    exact ⟨rfl, v4, rfl, hs5, by omega⟩
  · skip
    refine qr_ldc2 (-9223372036854775808) 12 rfl (by decide) rfl ?_
    refine qr_goto 26 rfl rfl ?_
    refine qr_retL rfl rfl (by decide) (by decide) ?_
    exact ⟨rfl, (-9223372036854775808), rfl, (by decide), by omega⟩

set_option maxHeartbeats 4000000 in
set_option maxRecDepth 20000 in
/-- OneRoofModel.shift -/
theorem sf_268_86x {L : Nat} {xs : Nat → Int} {vb : Bool} {d : Nat} {σ α : Nat → Nat → Int} {κ : Nat → Option Nat} {ρ : Nat} {x1 : Int} {x2 : Int} {x3 : Int} {x4 : Int} {x5 : Int} (hI : qI σ α κ ρ) (r1 : (-2147483648) ≤ x1 ∧ x1 ≤ 2147483647) (r2 : (-2147483648) ≤ x2 ∧ x2 ≤ 2147483647) (r3 : (-2147483648) ≤ x3 ∧ x3 ≤ 2147483647) (r4 : (-2147483648) ≤ x4 ∧ x4 ≤ 2147483647) (r5 : (-2147483648) ≤ x5 ∧ x5 ≤ 2147483647) : qm_T (qe L xs vb) (d + 3) 268 [.ref 86, .int (qz x1), .int (qz x2), .int (qz x3), .int (qz x4), .int (qz x5)] (qw σ α κ ρ) (fun r w' => ∃ α', w' = qw σ α' κ ρ ∧ qI σ α' κ ρ ∧ qFr [] [123, 124] σ α σ α' ∧ ∃ v : Int, r = some (.int (qz v)) ∧ ((-2147483648) ≤ v ∧ v ≤ 2147483647) ∧ (((v = -1 ∧ ¬ (0 ≤ x1 ∧ x1 ≤ 5 ∧ 0 ≤ x3 ∧ x3 ≤ 5)) ∧ α' 123 = α 123) ∨ ((v = -11 ∧ (0 ≤ x1 ∧ x1 ≤ 5 ∧ 0 ≤ x3 ∧ x3 ≤ 5) ∧ (α 121 (x1 : Int).toNat < 0 ∨ α 121 (x3 : Int).toNat < 0)) ∧ α' 123 = α 123) ∨ ((v = -12 ∧ (0 ≤ x1 ∧ x1 ≤ 5 ∧ 0 ≤ x3 ∧ x3 ≤ 5) ∧ ¬ (α 121 (x1 : Int).toNat < 0 ∨ α 121 (x3 : Int).toNat < 0) ∧ ¬ (60 ≤ α 121 (x1 : Int).toNat ∧ α 121 (x1 : Int).toNat = α 121 (x3 : Int).toNat)) ∧ α' 123 = α 123) ∨ ((v = -13 ∧ (0 ≤ x1 ∧ x1 ≤ 5 ∧ 0 ≤ x3 ∧ x3 ≤ 5) ∧ ¬ (α 121 (x1 : Int).toNat < 0 ∨ α 121 (x3 : Int).toNat < 0) ∧ (60 ≤ α 121 (x1 : Int).toNat ∧ α 121 (x1 : Int).toNat = α 121 (x3 : Int).toNat) ∧ ¬ (0 ≤ x2 ∧ 0 ≤ x5 ∧ x5 ≤ α 122 (x1 : Int).toNat ∧ x2 ≤ α 122 (x1 : Int).toNat - x5 ∧ 0 ≤ x4 ∧ x5 ≤ α 122 (x3 : Int).toNat ∧ x4 ≤ α 122 (x3 : Int).toNat - x5)) ∧ α' 123 = α 123) ∨ ((v = x5 ∧ (0 ≤ x1 ∧ x1 ≤ 5 ∧ 0 ≤ x3 ∧ x3 ≤ 5) ∧ ¬ (α 121 (x1 : Int).toNat < 0 ∨ α 121 (x3 : Int).toNat < 0) ∧ (60 ≤ α 121 (x1 : Int).toNat ∧ α 121 (x1 : Int).toNat = α 121 (x3 : Int).toNat) ∧ (0 ≤ x2 ∧ 0 ≤ x5 ∧ x5 ≤ α 122 (x1 : Int).toNat ∧ x2 ≤ α 122 (x1 : Int).toNat - x5 ∧ 0 ≤ x4 ∧ x5 ≤ α 122 (x3 : Int).toNat ∧ x4 ≤ α 122 (x3 : Int).toNat - x5)) ∧ α' 123 = va_cpy (α 123) (α 123) (60 * x1 + x2 : Int).toNat (60 * x3 + x4 : Int).toNat (x5 : Int).toNat))) := by
  refine qr_start (d := d + 2) qv_e268 (Nat.le_of_ble_eq_true rfl) ?_
  show qr_W (qe L xs vb) (d + 2) qx_e268 _ (0, [(0, .ref 86), (1, .int (qz x1)), (2, .int (qz x2)), (3, .int (qz x3)), (4, .int (qz x4)), (5, .int (qz x5))], [], _, 0, 0)
  have hF0 := qFr_rf [] [123, 124] σ α
  have qx1_121 : 0 ≤ x1 ∧ x1 ≤ 5 → -1 ≤ α 121 (x1 : Int).toNat ∧ α 121 (x1 : Int).toNat ≤ 64 := fun h => hI.2.1 121 _ (show (x1 : Int).toNat < 6 by omega)
  have qx1_122 : 0 ≤ x1 ∧ x1 ≤ 5 → 0 ≤ α 122 (x1 : Int).toNat ∧ α 122 (x1 : Int).toNat ≤ 60 := fun h => hI.2.1 122 _ (show (x1 : Int).toNat < 6 by omega)
  have qx3_121 : 0 ≤ x3 ∧ x3 ≤ 5 → -1 ≤ α 121 (x3 : Int).toNat ∧ α 121 (x3 : Int).toNat ≤ 64 := fun h => hI.2.1 121 _ (show (x3 : Int).toNat < 6 by omega)
  have qx3_122 : 0 ≤ x3 ∧ x3 ≤ 5 → 0 ≤ α 122 (x3 : Int).toNat ∧ α 122 (x3 : Int).toNat ≤ 60 := fun h => hI.2.1 122 _ (show (x3 : Int).toNat < 6 by omega)
  refine qr_iload_n 1 rfl rfl rfl ?_
  refine qr_callN 4 rfl rfl rfl (sf_178 (d := d + 0) hI r1) ?_
  rintro _ _ ⟨rfl, v1, rfl, hv1, hp2⟩
  show qr_W (qe L xs vb) (d + 2) qx_e268 _ (4, _, [.int (qz v1)], qw σ α κ ρ, 0, 0)
  refine qr_if_eq 14 7 rfl rfl rfl (qrg hv1 (by decide) (by decide)) (fun h3 => ?_) (fun h3 => ?_)
  · skip
    refine qr_iconst 15 rfl rfl ?_
    refine qr_retI rfl rfl (by decide) (by decide) ?_
    exact ⟨_, rfl, hI, hF0, (-1), rfl, (by decide), (Or.inl ⟨by omega, rfl⟩)⟩
  · skip
    refine qr_iload_n 8 rfl rfl rfl ?_
    refine qr_callN 11 rfl rfl rfl (sf_178 (d := d + 0) hI r3) ?_
    rintro _ _ ⟨rfl, v4, rfl, hv4, hp5⟩
    show qr_W (qe L xs vb) (d + 2) qx_e268 _ (11, _, [.int (qz v4)], qw σ α κ ρ, 0, 0)
    refine qr_if_ne 16 14 rfl rfl rfl (qrg hv4 (by decide) (by decide)) (fun h6 => ?_) (fun h6 => ?_)
    · skip
      refine qr_aload_n 17 rfl rfl rfl ?_
      refine qr_get 20 rfl rfl rfl (by decide) rfl ?_
      refine qr_iload_n 21 rfl rfl rfl ?_
      refine qr_iaload 22 rfl rfl (by omega) (by decide) rfl ?_
      refine qr_topI (fun v7 hv7 => ?_)
      have hs8 : (-1) ≤ v7 ∧ v7 ≤ 64 := by rw [hv7]; exact hI.2.1 121 _ (show _ < 6 by omega)
      refine qr_if_lt 34 25 rfl rfl rfl (qrg hs8 (by decide) (by decide)) (fun h9 => ?_) (fun h9 => ?_)
      · skip
        refine qr_bipush 36 rfl (by decide) rfl ?_
        refine qr_retI rfl rfl (by decide) (by decide) ?_
        exact ⟨_, rfl, hI, hF0, (-11), rfl, (by decide), (Or.inr (Or.inl ⟨by omega, rfl⟩))⟩
      · skip
        refine qr_aload_n 26 rfl rfl rfl ?_
        refine qr_get 29 rfl rfl rfl (by decide) rfl ?_
        refine qr_iload_n 30 rfl rfl rfl ?_
        refine qr_iaload 31 rfl rfl (by omega) (by decide) rfl ?_
        refine qr_topI (fun v10 hv10 => ?_)
        have hs11 : (-1) ≤ v10 ∧ v10 ≤ 64 := by rw [hv10]; exact hI.2.1 121 _ (show _ < 6 by omega)
        refine qr_if_ge 37 34 rfl rfl rfl (qrg hs11 (by decide) (by decide)) (fun h12 => ?_) (fun h12 => ?_)
        · skip
          refine qr_aload_n 38 rfl rfl rfl ?_
          refine qr_get 41 rfl rfl rfl (by decide) rfl ?_
          refine qr_iload_n 42 rfl rfl rfl ?_
          refine qr_iaload 43 rfl rfl (by omega) (by decide) rfl ?_
          refine qr_topI (fun v13 hv13 => ?_)
          have hs14 : (-1) ≤ v13 ∧ v13 ≤ 64 := by rw [hv13]; exact hI.2.1 121 _ (show _ < 6 by omega)
          refine qr_bipush 45 rfl (by decide) rfl ?_
          refine qr_icmp_lt 63 48 rfl rfl rfl (qrg hs14 (by decide) (by decide)) (by decide) (fun h15 => ?_) (fun h15 => ?_)
          · skip
            refine qr_bipush 65 rfl (by decide) rfl ?_
            refine qr_retI rfl rfl (by decide) (by decide) ?_
            exact ⟨_, rfl, hI, hF0, (-12), rfl, (by decide), (Or.inr (Or.inr (Or.inl ⟨by omega, rfl⟩)))⟩
          · skip
            refine qr_aload_n 49 rfl rfl rfl ?_
            refine qr_get 52 rfl rfl rfl (by decide) rfl ?_
            refine qr_iload_n 53 rfl rfl rfl ?_
            refine qr_iaload 54 rfl rfl (by omega) (by decide) rfl ?_
            refine qr_topI (fun v16 hv16 => ?_)
            have hs17 : (-1) ≤ v16 ∧ v16 ≤ 64 := by rw [hv16]; exact hI.2.1 121 _ (show _ < 6 by omega)
            refine qr_aload_n 55 rfl rfl rfl ?_
            refine qr_get 58 rfl rfl rfl (by decide) rfl ?_
            refine qr_iload_n 59 rfl rfl rfl ?_
            refine qr_iaload 60 rfl rfl (by omega) (by decide) rfl ?_
            refine qr_topI (fun v18 hv18 => ?_)
            have hs19 : (-1) ≤ v18 ∧ v18 ≤ 64 := by rw [hv18]; exact hI.2.1 121 _ (show _ < 6 by omega)
            refine qr_icmp_eq 66 63 rfl rfl rfl (qrg hs17 (by decide) (by decide)) (qrg hs19 (by decide) (by decide)) (fun h20 => ?_) (fun h20 => ?_)
            · skip
              refine qr_iload 68 rfl rfl rfl ?_
              refine qr_if_lt 107 71 rfl rfl rfl r5 (fun h21 => ?_) (fun h21 => ?_)
              · skip
                refine qr_bipush 109 rfl (by decide) rfl ?_
                refine qr_retI rfl rfl (by decide) (by decide) ?_
                exact ⟨_, rfl, hI, hF0, (-13), rfl, (by decide), (Or.inr (Or.inr (Or.inr (Or.inl ⟨by omega, rfl⟩))))⟩
              · skip
                refine qr_iload_n 72 rfl rfl rfl ?_
                refine qr_if_lt 107 75 rfl rfl rfl r2 (fun h22 => ?_) (fun h22 => ?_)
                · skip
                  refine qr_bipush 109 rfl (by decide) rfl ?_
                  refine qr_retI rfl rfl (by decide) (by decide) ?_
                  exact ⟨_, rfl, hI, hF0, (-13), rfl, (by decide), (Or.inr (Or.inr (Or.inr (Or.inl ⟨by omega, rfl⟩))))⟩
                · skip
                  refine qr_iload 77 rfl rfl rfl ?_
                  refine qr_if_lt 107 80 rfl rfl rfl r4 (fun h23 => ?_) (fun h23 => ?_)
                  · skip
                    refine qr_bipush 109 rfl (by decide) rfl ?_
                    refine qr_retI rfl rfl (by decide) (by decide) ?_
                    exact ⟨_, rfl, hI, hF0, (-13), rfl, (by decide), (Or.inr (Or.inr (Or.inr (Or.inl ⟨by omega, rfl⟩))))⟩
                  · skip
                    refine qr_iload_n 81 rfl rfl rfl ?_
                    refine qr_aload_n 82 rfl rfl rfl ?_
                    refine qr_get 85 rfl rfl rfl (by decide) rfl ?_
                    refine qr_iload_n 86 rfl rfl rfl ?_
                    refine qr_iaload 87 rfl rfl (by omega) (by decide) rfl ?_
                    refine qr_topI (fun v24 hv24 => ?_)
                    have hs25 : 0 ≤ v24 ∧ v24 ≤ 60 := by rw [hv24]; exact hI.2.1 122 _ (show _ < 6 by omega)
                    refine qr_iload 89 rfl rfl rfl ?_
                    refine qr_isub 90 rfl rfl ?_
                    refine qr_icmp_gt 107 93 rfl rfl rfl r2 (by omega) (fun h26 => ?_) (fun h26 => ?_)
                    · skip
                      refine qr_bipush 109 rfl (by decide) rfl ?_
                      refine qr_retI rfl rfl (by decide) (by decide) ?_
                      exact ⟨_, rfl, hI, hF0, (-13), rfl, (by decide), (Or.inr (Or.inr (Or.inr (Or.inl ⟨by omega, rfl⟩))))⟩
                    · skip
                      refine qr_iload 95 rfl rfl rfl ?_
                      refine qr_aload_n 96 rfl rfl rfl ?_
                      refine qr_get 99 rfl rfl rfl (by decide) rfl ?_
                      refine qr_iload_n 100 rfl rfl rfl ?_
                      refine qr_iaload 101 rfl rfl (by omega) (by decide) rfl ?_
                      refine qr_topI (fun v27 hv27 => ?_)
                      have hs28 : 0 ≤ v27 ∧ v27 ≤ 60 := by rw [hv27]; exact hI.2.1 122 _ (show _ < 6 by omega)
                      as_aux_lemma =>
                        refine qr_iload 103 rfl rfl rfl ?_
                        refine qr_isub 104 rfl rfl ?_
                        refine qr_icmp_le 110 107 rfl rfl rfl r4 (by omega) (fun h29 => ?_) (fun h29 => ?_)
                        · skip
                          refine qr_iconst 111 rfl rfl ?_
                          refine qr_istore _ 113 rfl (by decide) rfl rfl ?_
                          have hL4156 : ∀ (n : Nat) (ls : qm_L) (u4147 : Int) (α4149 : Nat → Nat → Int), 60 - u4147 < (n : Int) → qm_get ls 0 = some (.ref 86) → qm_get ls 1 = some (.int (qz x1)) → qm_get ls 2 = some (.int (qz x2)) → qm_get ls 3 = some (.int (qz x3)) → qm_get ls 4 = some (.int (qz x4)) → qm_get ls 5 = some (.int (qz x5)) → qm_get ls 6 = some (.int (qz u4147)) → (0 ≤ u4147 ∧ u4147 ≤ 60) → qI σ α4149 κ ρ → qFr [] [123, 124] σ α σ α4149 → α4149 123 = (α 123) → α4149 124 = (va_cpy (α 123) (α 124) (60 * x1 + x2 : Int).toNat 0 (u4147 : Int).toNat) → u4147 ≤ x5 → qr_W (qe L xs vb) (d + 2) qx_e268 (fun r w' => ∃ α', w' = qw σ α' κ ρ ∧ qI σ α' κ ρ ∧ qFr [] [123, 124] σ α σ α' ∧ ∃ v : Int, r = some (.int (qz v)) ∧ ((-2147483648) ≤ v ∧ v ≤ 2147483647) ∧ (((v = -1 ∧ ¬ (0 ≤ x1 ∧ x1 ≤ 5 ∧ 0 ≤ x3 ∧ x3 ≤ 5)) ∧ α' 123 = α 123) ∨ ((v = -11 ∧ (0 ≤ x1 ∧ x1 ≤ 5 ∧ 0 ≤ x3 ∧ x3 ≤ 5) ∧ (α 121 (x1 : Int).toNat < 0 ∨ α 121 (x3 : Int).toNat < 0)) ∧ α' 123 = α 123) ∨ ((v = -12 ∧ (0 ≤ x1 ∧ x1 ≤ 5 ∧ 0 ≤ x3 ∧ x3 ≤ 5) ∧ ¬ (α 121 (x1 : Int).toNat < 0 ∨ α 121 (x3 : Int).toNat < 0) ∧ ¬ (60 ≤ α 121 (x1 : Int).toNat ∧ α 121 (x1 : Int).toNat = α 121 (x3 : Int).toNat)) ∧ α' 123 = α 123) ∨ ((v = -13 ∧ (0 ≤ x1 ∧ x1 ≤ 5 ∧ 0 ≤ x3 ∧ x3 ≤ 5) ∧ ¬ (α 121 (x1 : Int).toNat < 0 ∨ α 121 (x3 : Int).toNat < 0) ∧ (60 ≤ α 121 (x1 : Int).toNat ∧ α 121 (x1 : Int).toNat = α 121 (x3 : Int).toNat) ∧ ¬ (0 ≤ x2 ∧ 0 ≤ x5 ∧ x5 ≤ α 122 (x1 : Int).toNat ∧ x2 ≤ α 122 (x1 : Int).toNat - x5 ∧ 0 ≤ x4 ∧ x5 ≤ α 122 (x3 : Int).toNat ∧ x4 ≤ α 122 (x3 : Int).toNat - x5)) ∧ α' 123 = α 123) ∨ ((v = x5 ∧ (0 ≤ x1 ∧ x1 ≤ 5 ∧ 0 ≤ x3 ∧ x3 ≤ 5) ∧ ¬ (α 121 (x1 : Int).toNat < 0 ∨ α 121 (x3 : Int).toNat < 0) ∧ (60 ≤ α 121 (x1 : Int).toNat ∧ α 121 (x1 : Int).toNat = α 121 (x3 : Int).toNat) ∧ (0 ≤ x2 ∧ 0 ≤ x5 ∧ x5 ≤ α 122 (x1 : Int).toNat ∧ x2 ≤ α 122 (x1 : Int).toNat - x5 ∧ 0 ≤ x4 ∧ x5 ≤ α 122 (x3 : Int).toNat ∧ x4 ≤ α 122 (x3 : Int).toNat - x5)) ∧ α' 123 = va_cpy (α 123) (α 123) (60 * x1 + x2 : Int).toNat (60 * x3 + x4 : Int).toNat (x5 : Int).toNat))) (113, ls, [], qw σ α4149 κ ρ, 0, 0) := by
                            intro n
                            induction n with
                            | zero => intro ls u4147 α4149 hm g4140 g4141 g4142 g4143 g4144 g4145 g4146 hf4152 hI4150 hF4151 hx4153 hx4154 hx4155; exact False.elim (by omega)
                            | succ n ih4157 =>
                              intro ls u4147 α4149 hm g4140 g4141 g4142 g4143 g4144 g4145 g4146 hf4152 hI4150 hF4151 hx4153 hx4154 hx4155
                              refine qr_iload 115 rfl g4146 rfl ?_
                              refine qr_iload 117 rfl g4145 rfl ?_
                              refine qr_icmp_ge 147 120 rfl rfl rfl (qrg hf4152 (by decide) (by decide)) r5 (fun h4158 => ?_) (fun h4158 => ?_)
                              · skip
                                refine qr_iconst 148 rfl rfl ?_
                                refine qr_istore _ 150 rfl (by decide) rfl rfl ?_
                                have hL4413 : ∀ (n : Nat) (ls : qm_L) (u4404 : Int) (α4406 : Nat → Nat → Int), 60 - u4404 < (n : Int) → qm_get ls 0 = some (.ref 86) → qm_get ls 3 = some (.int (qz x3)) → qm_get ls 4 = some (.int (qz x4)) → qm_get ls 5 = some (.int (qz x5)) → qm_get ls 6 = some (.int (qz u4404)) → (0 ≤ u4404 ∧ u4404 ≤ 60) → qI σ α4406 κ ρ → qFr [] [123, 124] σ α σ α4406 → α4406 124 = (va_cpy (α 123) (α 124) (60 * x1 + x2 : Int).toNat 0 (x5 : Int).toNat) → α4406 123 = (va_cpy (va_cpy (α 123) (α 124) (60 * x1 + x2 : Int).toNat 0 (x5 : Int).toNat) (α 123) 0 (60 * x3 + x4 : Int).toNat (u4404 : Int).toNat) → u4404 ≤ x5 → qr_W (qe L xs vb) (d + 2) qx_e268 (fun r w' => ∃ α', w' = qw σ α' κ ρ ∧ qI σ α' κ ρ ∧ qFr [] [123, 124] σ α σ α' ∧ ∃ v : Int, r = some (.int (qz v)) ∧ ((-2147483648) ≤ v ∧ v ≤ 2147483647) ∧ (((v = -1 ∧ ¬ (0 ≤ x1 ∧ x1 ≤ 5 ∧ 0 ≤ x3 ∧ x3 ≤ 5)) ∧ α' 123 = α 123) ∨ ((v = -11 ∧ (0 ≤ x1 ∧ x1 ≤ 5 ∧ 0 ≤ x3 ∧ x3 ≤ 5) ∧ (α 121 (x1 : Int).toNat < 0 ∨ α 121 (x3 : Int).toNat < 0)) ∧ α' 123 = α 123) ∨ ((v = -12 ∧ (0 ≤ x1 ∧ x1 ≤ 5 ∧ 0 ≤ x3 ∧ x3 ≤ 5) ∧ ¬ (α 121 (x1 : Int).toNat < 0 ∨ α 121 (x3 : Int).toNat < 0) ∧ ¬ (60 ≤ α 121 (x1 : Int).toNat ∧ α 121 (x1 : Int).toNat = α 121 (x3 : Int).toNat)) ∧ α' 123 = α 123) ∨ ((v = -13 ∧ (0 ≤ x1 ∧ x1 ≤ 5 ∧ 0 ≤ x3 ∧ x3 ≤ 5) ∧ ¬ (α 121 (x1 : Int).toNat < 0 ∨ α 121 (x3 : Int).toNat < 0) ∧ (60 ≤ α 121 (x1 : Int).toNat ∧ α 121 (x1 : Int).toNat = α 121 (x3 : Int).toNat) ∧ ¬ (0 ≤ x2 ∧ 0 ≤ x5 ∧ x5 ≤ α 122 (x1 : Int).toNat ∧ x2 ≤ α 122 (x1 : Int).toNat - x5 ∧ 0 ≤ x4 ∧ x5 ≤ α 122 (x3 : Int).toNat ∧ x4 ≤ α 122 (x3 : Int).toNat - x5)) ∧ α' 123 = α 123) ∨ ((v = x5 ∧ (0 ≤ x1 ∧ x1 ≤ 5 ∧ 0 ≤ x3 ∧ x3 ≤ 5) ∧ ¬ (α 121 (x1 : Int).toNat < 0 ∨ α 121 (x3 : Int).toNat < 0) ∧ (60 ≤ α 121 (x1 : Int).toNat ∧ α 121 (x1 : Int).toNat = α 121 (x3 : Int).toNat) ∧ (0 ≤ x2 ∧ 0 ≤ x5 ∧ x5 ≤ α 122 (x1 : Int).toNat ∧ x2 ≤ α 122 (x1 : Int).toNat - x5 ∧ 0 ≤ x4 ∧ x5 ≤ α 122 (x3 : Int).toNat ∧ x4 ≤ α 122 (x3 : Int).toNat - x5)) ∧ α' 123 = va_cpy (α 123) (α 123) (60 * x1 + x2 : Int).toNat (60 * x3 + x4 : Int).toNat (x5 : Int).toNat))) (150, ls, [], qw σ α4406 κ ρ, 0, 0) := by
                                  intro n
                                  induction n with
                                  | zero => intro ls u4404 α4406 hm g4399 g4400 g4401 g4402 g4403 hf4409 hI4407 hF4408 hx4410 hx4411 hx4412; exact False.elim (by omega)
                                  | succ n ih4414 =>
                                    intro ls u4404 α4406 hm g4399 g4400 g4401 g4402 g4403 hf4409 hI4407 hF4408 hx4410 hx4411 hx4412
                                    refine qr_iload 152 rfl g4403 rfl ?_
                                    refine qr_iload 154 rfl g4402 rfl ?_
                                    refine qr_icmp_ge 185 157 rfl rfl rfl (qrg hf4409 (by decide) (by decide)) r5 (fun h4415 => ?_) (fun h4415 => ?_)
                                    · skip
                                      refine qr_iload 187 rfl g4402 rfl ?_
                                      refine qr_retI rfl rfl (by decide) (by decide) ?_
                                      exact ⟨_, rfl, hI4407, hF4408, x5, rfl, r5, (Or.inr (Or.inr (Or.inr (Or.inr (⟨by omega, (hx4411.trans ((by congr 1; omega : _ = va_cpy (va_cpy (α 123) (α 124) (60 * x1 + x2 : Int).toNat 0 (x5 : Int).toNat) (α 123) 0 (60 * x3 + x4 : Int).toNat (x5 : Int).toNat).trans (qcpy_2 _ _ _ _ _)))⟩)))))⟩
                                    · skip
                                      refine qr_aload_n 158 rfl g4399 rfl ?_
                                      refine qr_get 161 rfl rfl rfl (by decide) rfl ?_
                                      refine qr_bipush 163 rfl (by decide) rfl ?_
                                      refine qr_iload_n 164 rfl g4400 rfl ?_
                                      refine qr_imul 165 rfl rfl ?_
                                      refine qr_iload 167 rfl g4401 rfl ?_
                                      refine qr_iadd 168 rfl rfl ?_
                                      refine qr_iload 170 rfl g4403 rfl ?_
                                      refine qr_iadd 171 rfl rfl ?_
                                      refine qr_aload_n 172 rfl g4399 rfl ?_
                                      refine qr_get 175 rfl rfl rfl (by decide) rfl ?_
                                      refine qr_iload 177 rfl g4403 rfl ?_
                                      refine qr_laload 178 rfl (by decide) rfl (by omega) (by decide) rfl ?_
                                      refine qr_topL (fun v4416 hv4416 => ?_)
                                      have hs4417 : (-9223372036854775808) ≤ v4416 ∧ v4416 ≤ 9223372036854775807 := by rw [hv4416]; exact hI4407.2.1 124 _ (show _ < 60 by omega)
                                      have hrv4416 : v4416 = (va_cpy (α 123) (α 124) (60 * x1 + x2 : Int).toNat 0 (x5 : Int).toNat) (u4404 : Int).toNat := hv4416.trans (congrFun hx4410 _)
                                      refine qr_lastore 179 rfl (by decide) rfl (by omega) (by decide) rfl ?_
                                      refine qy_wA (qw_r α4406 123 (qzu (α4406 123) ((((60 * x3) + x4) + u4404) : Int).toNat v4416)) rfl (fun α4418 e4419 => ?_)
                                      have hI4420 : qI σ α4418 κ ρ := by rw [e4419]; exact qI_r hI4407 123 _ rfl (show (-9223372036854775808) ≤ v4416 ∧ v4416 ≤ 9223372036854775807 by omega)
                                      have hF4421 : qFr [] [123, 124] σ α σ α4418 := by rw [e4419]; exact qFr_r hF4408 123 _ (by decide)
                                      refine qr_iinc _ 182 rfl g4403 (by decide) rfl rfl ?_
                                      refine qr_goto 150 rfl rfl ?_
                                      exact ih4414 _ (u4404 + 1) α4418 (by omega) (qm_gk g4399 (by decide) (Or.inl (by decide))) (qm_gk g4400 (by decide) (Or.inl (by decide))) (qm_gk g4401 (by decide) (Or.inl (by decide))) (qm_gk g4402 (by decide) (Or.inr rfl)) (qm_ge _ _ _) (by omega) hI4420 hF4421 ((congrFun e4419 124).trans ((qw_r_ne (by decide)).trans hx4410)) (((congrFun e4419 123).trans (qw_r_eq.trans (congrArg (fun f => qzu f ((((60 * x3) + x4) + u4404) : Int).toNat v4416) hx4411))).trans (qcpy_s (by omega) (by omega) (by rw [hv4416, hx4410]; congr 1; omega))) (by omega)
                                exact hL4413 ((60 - 0 + 1 : Int)).toNat _ 0 α4149 (by omega) (qm_gk g4140 (by decide) (Or.inl (by decide))) (qm_gk g4143 (by decide) (Or.inl (by decide))) (qm_gk g4144 (by decide) (Or.inl (by decide))) (qm_gk g4145 (by decide) (Or.inr rfl)) (qm_ge _ _ _) (by decide) hI4150 hF4151 (hx4154.trans (by congr 1; omega)) (hx4153.trans (qcpy_0 _ _ _ _)) (by omega)
                              · skip
                                refine qr_aload_n 121 rfl g4140 rfl ?_
                                refine qr_get 124 rfl rfl rfl (by decide) rfl ?_
                                refine qr_iload 126 rfl g4146 rfl ?_
                                refine qr_aload_n 127 rfl g4140 rfl ?_
                                refine qr_get 130 rfl rfl rfl (by decide) rfl ?_
                                refine qr_bipush 132 rfl (by decide) rfl ?_
                                refine qr_iload_n 133 rfl g4141 rfl ?_
                                refine qr_imul 134 rfl rfl ?_
                                refine qr_iload_n 135 rfl g4142 rfl ?_
                                refine qr_iadd 136 rfl rfl ?_
                                refine qr_iload 138 rfl g4146 rfl ?_
                                refine qr_iadd 139 rfl rfl ?_
                                refine qr_laload 140 rfl (by decide) rfl (by omega) (by decide) rfl ?_
                                refine qr_topL (fun v4422 hv4422 => ?_)
                                have hs4423 : (-9223372036854775808) ≤ v4422 ∧ v4422 ≤ 9223372036854775807 := by rw [hv4422]; exact hI4150.2.1 123 _ (show _ < 360 by omega)
                                refine qr_lastore 141 rfl (by decide) rfl (by omega) (by decide) rfl ?_
                                refine qy_wA (qw_r α4149 124 (qzu (α4149 124) (u4147 : Int).toNat v4422)) rfl (fun α4424 e4425 => ?_)
                                have hI4426 : qI σ α4424 κ ρ := by rw [e4425]; exact qI_r hI4150 124 _ rfl (show (-9223372036854775808) ≤ v4422 ∧ v4422 ≤ 9223372036854775807 by omega)
                                have hF4427 : qFr [] [123, 124] σ α σ α4424 := by rw [e4425]; exact qFr_r hF4151 124 _ (by decide)
                                refine qr_iinc _ 144 rfl g4146 (by decide) rfl rfl ?_
                                refine qr_goto 113 rfl rfl ?_
                                exact ih4157 _ (u4147 + 1) α4424 (by omega) (qm_gk g4140 (by decide) (Or.inl (by decide))) (qm_gk g4141 (by decide) (Or.inl (by decide))) (qm_gk g4142 (by decide) (Or.inl (by decide))) (qm_gk g4143 (by decide) (Or.inl (by decide))) (qm_gk g4144 (by decide) (Or.inl (by decide))) (qm_gk g4145 (by decide) (Or.inr rfl)) (qm_ge _ _ _) (by omega) hI4426 hF4427 ((congrFun e4425 123).trans ((qw_r_ne (by decide)).trans hx4153)) (((congrFun e4425 124).trans (qw_r_eq.trans (congrArg (fun f => qzu f (u4147 : Int).toNat v4422) hx4154))).trans (qcpy_s (by omega) (by omega) (by rw [hv4422, hx4153]; congr 1; omega))) (by omega)
                          exact hL4156 ((60 - 0 + 1 : Int)).toNat _ 0 α (by omega) rfl rfl rfl rfl rfl rfl rfl (by decide) hI hF0 rfl (rfl.trans (qcpy_0 _ _ _ _)) (by omega)
                        · skip
                          refine qr_bipush 109 rfl (by decide) rfl ?_
                          refine qr_retI rfl rfl (by decide) (by decide) ?_
                          exact ⟨_, rfl, hI, hF0, (-13), rfl, (by decide), (Or.inr (Or.inr (Or.inr (Or.inl ⟨by omega, rfl⟩))))⟩
            · skip
              refine qr_bipush 65 rfl (by decide) rfl ?_
              refine qr_retI rfl rfl (by decide) (by decide) ?_
              exact ⟨_, rfl, hI, hF0, (-12), rfl, (by decide), (Or.inr (Or.inr (Or.inl ⟨by omega, rfl⟩)))⟩
        · skip
          refine qr_bipush 36 rfl (by decide) rfl ?_
          refine qr_retI rfl rfl (by decide) (by decide) ?_
          exact ⟨_, rfl, hI, hF0, (-11), rfl, (by decide), (Or.inr (Or.inl ⟨by omega, rfl⟩))⟩
    · skip
      refine qr_iconst 15 rfl rfl ?_
      refine qr_retI rfl rfl (by decide) (by decide) ?_
      exact ⟨_, rfl, hI, hF0, (-1), rfl, (by decide), (Or.inl ⟨by omega, rfl⟩)⟩
end
section
/-! people from a row: f what stands at a place (b ahead of it), len how long the row is, i the first place; c how many came, s how many there are, L their lords, W their weights -/
def qpa (f : Nat → Int) (b j : Int) : Int := (qz (f (b + j).toNat)).toInt
def qpc (f : Nat → Int) (b len i c s : Int) : Prop := 0 ≤ i + 3 * c ∧ i + 3 * c + 2 < len ∧ s < 32 ∧ qfit s (qpa f b (i + 3 * c)) (qpa f b (i + 3 * c + 1)) (qpa f b (i + 3 * c + 2))
end
section
/-! what both sides hold alike -/
def qpg (s n h : Int) : Prop := (s = 6 ∧ h = -1) ∨ (s = 5 ∧ h = n ∧ 0 ≤ n ∧ n ≤ 59) ∨ (0 ≤ s ∧ s ≤ 4 ∧ h = 60 + s)
def qR (σ α : Nat → Nat → Int) : Prop := σ 17 6 = σ 86 6 ∧ σ 27 7 = σ 86 16 ∧ σ 34 7 = σ 86 24 ∧ α 18 = α 91 ∧ α 19 = α 92 ∧ α 21 = α 93 ∧ α 46 = α 122 ∧ (∀ d : Nat, d < 6 → qpg (α 45 d) (α 47 d) (α 121 d)) ∧ (∀ d i : Nat, d < 6 → (i : Int) < α 46 d → α 48 (60 * d + i) = α 123 (60 * d + i))
def qR_S : List (Nat × Nat) := [(17, 6), (27, 7), (34, 7), (86, 6), (86, 16), (86, 24)]
def qR_R : List Nat := [18, 19, 21, 45, 46, 47, 48, 91, 92, 93, 121, 122, 123]
theorem qR_fr {S : List (Nat × Nat)} {R : List Nat} {σ α σ' α' : Nat → Nat → Int} (hG : qFr S R σ α σ' α') (hs : qR_S.all (fun x => !S.contains x) = true) (hr : qR_R.all (fun x => !R.contains x) = true) (h : qR σ α) : qR σ' α' := by
  have es : ∀ a k, (a, k) ∈ qR_S → σ' a k = σ a k := fun a k hm => hG.1 a k (fun hn => by
    have h1 := List.all_eq_true.mp hs (a, k) hm
    rw [List.contains_iff_mem.mpr hn] at h1
    exact absurd h1 (by decide))
  have er : ∀ a, a ∈ qR_R → α' a = α a := fun a hm => hG.2 a (fun hn => by
    have h1 := List.all_eq_true.mp hr a hm
    rw [List.contains_iff_mem.mpr hn] at h1
    exact absurd h1 (by decide))
  unfold qR
  rw [es 17 6 (by decide), es 86 6 (by decide), es 27 7 (by decide), es 86 16 (by decide), es 34 7 (by decide), es 86 24 (by decide), er 18 (by decide), er 19 (by decide), er 21 (by decide), er 45 (by decide), er 46 (by decide), er 47 (by decide), er 48 (by decide), er 91 (by decide), er 92 (by decide), er 93 (by decide), er 121 (by decide), er 122 (by decide), er 123 (by decide)]
  exact h

set_option maxHeartbeats 4000000 in
theorem rl_road {σ α σ1 α1 σ2 α2 : Nat → Nat → Int} {κ : Nat → Option Nat} {ρ : Nat} {x1 x2 v1 v2 : Int} (hI : qI σ α κ ρ) (hR : qR σ α) (hG1 : qFr [] [21] σ α σ1 α1) (hG2 : qFr [] [93] σ1 α1 σ2 α2) (hx : ((v1 = -1 ∧ ¬ (0 ≤ x1 ∧ x1 < σ 17 6 ∧ 0 ≤ x2 ∧ x2 ≤ 3)) ∧ α1 21 = α 21) ∨ (((0 ≤ x1 ∧ x1 < σ 17 6 ∧ 0 ≤ x2 ∧ x2 ≤ 3) ∧ v1 = α 21 (x1 : Int).toNat) ∧ α1 21 = qzu (α 21) (x1 : Int).toNat (x2))) (hy : ((v2 = -1 ∧ ¬ (0 ≤ x1 ∧ x1 < σ1 86 6 ∧ 0 ≤ x2 ∧ x2 ≤ 3)) ∧ α2 93 = α1 93) ∨ (((0 ≤ x1 ∧ x1 < σ1 86 6 ∧ 0 ≤ x2 ∧ x2 ≤ 3) ∧ v2 = α1 93 (x1 : Int).toNat) ∧ α2 93 = qzu (α1 93) (x1 : Int).toNat (x2))) : v1 = v2 ∧ qR σ2 α2 := by
  obtain ⟨r1, r2, r3, r4, r5, r6, r7, r8, r9⟩ := hR
  have c17_6 := hG1.1 17 6 (by decide)
  have d17_6 := hG2.1 17 6 (by decide)
  have c27_7 := hG1.1 27 7 (by decide)
  have d27_7 := hG2.1 27 7 (by decide)
  have c34_7 := hG1.1 34 7 (by decide)
  have d34_7 := hG2.1 34 7 (by decide)
  have c86_6 := hG1.1 86 6 (by decide)
  have d86_6 := hG2.1 86 6 (by decide)
  have c86_16 := hG1.1 86 16 (by decide)
  have d86_16 := hG2.1 86 16 (by decide)
  have c86_24 := hG1.1 86 24 (by decide)
  have d86_24 := hG2.1 86 24 (by decide)
  have c18 := hG1.2 18 (by decide)
  have d18 := hG2.2 18 (by decide)
  have c19 := hG1.2 19 (by decide)
  have d19 := hG2.2 19 (by decide)
  have d21 := hG2.2 21 (by decide)
  have c45 := hG1.2 45 (by decide)
  have d45 := hG2.2 45 (by decide)
  have c46 := hG1.2 46 (by decide)
  have d46 := hG2.2 46 (by decide)
  have c47 := hG1.2 47 (by decide)
  have d47 := hG2.2 47 (by decide)
  have c48 := hG1.2 48 (by decide)
  have d48 := hG2.2 48 (by decide)
  have c91 := hG1.2 91 (by decide)
  have d91 := hG2.2 91 (by decide)
  have c92 := hG1.2 92 (by decide)
  have d92 := hG2.2 92 (by decide)
  have c93 := hG1.2 93 (by decide)
  have c121 := hG1.2 121 (by decide)
  have d121 := hG2.2 121 (by decide)
  have c122 := hG1.2 122 (by decide)
  have d122 := hG2.2 122 (by decide)
  have c123 := hG1.2 123 (by decide)
  have d123 := hG2.2 123 (by decide)
  rcases hx with ⟨xn0, x21⟩ | ⟨xn0, x21⟩
  · rcases hy with ⟨yn0, y93⟩ | ⟨yn0, y93⟩
    · skip
      have hv : v1 = v2 := by omega
      refine ⟨hv, by omega, by omega, by omega, ?_, ?_, ?_, ?_, ?_, ?_⟩
      · exact by rw [d18, c18, d91, c91, r4]
      · exact by rw [d19, c19, d92, c92, r5]
      · exact by rw [d21, x21, y93, c93, r6]
      · exact by rw [d46, c46, d122, c122, r7]
      · exact (by rw [d45, c45, d47, c47, d121, c121]; exact r8)
      · exact (by rw [d46, c46, d48, c48, d123, c123]; exact r9)
    · exact False.elim (by omega)
  · rcases hy with ⟨yn0, y93⟩ | ⟨yn0, y93⟩
    · exact False.elim (by omega)
    · skip
      have e93 : α 21 (x1 : Int).toNat = α 93 (x1 : Int).toNat := by rw [r6]
      rw [c93] at yn0
      have hv : v1 = v2 := by omega
      refine ⟨hv, by omega, by omega, by omega, ?_, ?_, ?_, ?_, ?_, ?_⟩
      · exact by rw [d18, c18, d91, c91, r4]
      · exact by rw [d19, c19, d92, c92, r5]
      · exact by rw [d21, x21, y93, c93, r6]
      · exact by rw [d46, c46, d122, c122, r7]
      · exact (by rw [d45, c45, d47, c47, d121, c121]; exact r8)
      · exact (by rw [d46, c46, d48, c48, d123, c123]; exact r9)

set_option maxHeartbeats 4000000 in
theorem rl_keep {σ α σ1 α1 σ2 α2 : Nat → Nat → Int} {κ : Nat → Option Nat} {ρ : Nat} {x1 x2 v1 v2 : Int} (hI : qI σ α κ ρ) (hR : qR σ α) (hG1 : qFr [] [45, 46, 47] σ α σ1 α1) (hG2 : qFr [] [121, 122] σ1 α1 σ2 α2) (hx : ((v1 = -1 ∧ ¬ (0 ≤ x1 ∧ x1 ≤ 5 ∧ (x2 = -1 ∨ (0 ≤ x2 ∧ x2 < σ 34 7)))) ∧ α1 45 = α 45 ∧ α1 46 = α 46 ∧ α1 47 = α 47) ∨ ((v1 = 1 ∧ (0 ≤ x1 ∧ x1 ≤ 5 ∧ (x2 = -1 ∨ (0 ≤ x2 ∧ x2 < σ 34 7)))) ∧ α1 45 = qzu (α 45) (x1 : Int).toNat (if x2 < 0 then 6 else 5) ∧ α1 46 = qzu (α 46) (x1 : Int).toNat (0) ∧ α1 47 = qzu (α 47) (x1 : Int).toNat (x2))) (hy : ((v2 = -1 ∧ ¬ (0 ≤ x1 ∧ x1 ≤ 5 ∧ (x2 = -1 ∨ (0 ≤ x2 ∧ x2 < σ1 86 24)))) ∧ α2 121 = α1 121 ∧ α2 122 = α1 122) ∨ ((v2 = 1 ∧ (0 ≤ x1 ∧ x1 ≤ 5 ∧ (x2 = -1 ∨ (0 ≤ x2 ∧ x2 < σ1 86 24)))) ∧ α2 121 = qzu (α1 121) (x1 : Int).toNat (x2) ∧ α2 122 = qzu (α1 122) (x1 : Int).toNat (0))) : v1 = v2 ∧ qR σ2 α2 := by
  obtain ⟨r1, r2, r3, r4, r5, r6, r7, r8, r9⟩ := hR
  have c17_6 := hG1.1 17 6 (by decide)
  have d17_6 := hG2.1 17 6 (by decide)
  have c27_7 := hG1.1 27 7 (by decide)
  have d27_7 := hG2.1 27 7 (by decide)
  have c34_7 := hG1.1 34 7 (by decide)
  have d34_7 := hG2.1 34 7 (by decide)
  have c86_6 := hG1.1 86 6 (by decide)
  have d86_6 := hG2.1 86 6 (by decide)
  have c86_16 := hG1.1 86 16 (by decide)
  have d86_16 := hG2.1 86 16 (by decide)
  have c86_24 := hG1.1 86 24 (by decide)
  have d86_24 := hG2.1 86 24 (by decide)
  have c18 := hG1.2 18 (by decide)
  have d18 := hG2.2 18 (by decide)
  have c19 := hG1.2 19 (by decide)
  have d19 := hG2.2 19 (by decide)
  have c21 := hG1.2 21 (by decide)
  have d21 := hG2.2 21 (by decide)
  have d45 := hG2.2 45 (by decide)
  have d46 := hG2.2 46 (by decide)
  have d47 := hG2.2 47 (by decide)
  have c48 := hG1.2 48 (by decide)
  have d48 := hG2.2 48 (by decide)
  have c91 := hG1.2 91 (by decide)
  have d91 := hG2.2 91 (by decide)
  have c92 := hG1.2 92 (by decide)
  have d92 := hG2.2 92 (by decide)
  have c93 := hG1.2 93 (by decide)
  have d93 := hG2.2 93 (by decide)
  have c121 := hG1.2 121 (by decide)
  have c122 := hG1.2 122 (by decide)
  have c123 := hG1.2 123 (by decide)
  have d123 := hG2.2 123 (by decide)
  have hs : 0 ≤ σ 34 7 ∧ σ 34 7 ≤ 60 := hI.1 34 7
  rcases hx with ⟨xn0, x45, x46, x47⟩ | ⟨xn0, x45, x46, x47⟩
  · rcases hy with ⟨yn0, y121, y122⟩ | ⟨yn0, y121, y122⟩
    · skip
      have hv : v1 = v2 := by omega
      refine ⟨hv, by omega, by omega, by omega, ?_, ?_, ?_, ?_, ?_, ?_⟩
      · exact by rw [d18, c18, d91, c91, r4]
      · exact by rw [d19, c19, d92, c92, r5]
      · exact by rw [d21, c21, d93, c93, r6]
      · exact by rw [d46, x46, y122, c122, r7]
      · exact (by rw [d45, x45, d47, x47, y121, c121]; exact r8)
      · exact (by rw [d46, x46, d48, c48, d123, c123]; exact r9)
    · exact False.elim (by omega)
  · rcases hy with ⟨yn0, y121, y122⟩ | ⟨yn0, y121, y122⟩
    · exact False.elim (by omega)
    · skip
      have hv : v1 = v2 := by omega
      refine ⟨hv, by omega, by omega, by omega, ?_, ?_, ?_, ?_, ?_, ?_⟩
      · exact by rw [d18, c18, d91, c91, r4]
      · exact by rw [d19, c19, d92, c92, r5]
      · exact by rw [d21, c21, d93, c93, r6]
      · exact by rw [d46, x46, y122, c122, r7]
      · intro d hd
        have h8 := r8 d hd
        rw [d45, x45, d47, x47, y121, c121]
        unfold qzu
        by_cases e : d = (x1 : Int).toNat
        · rw [if_pos e, if_pos e, if_pos e]
          unfold qpg
          by_cases e2 : x2 < 0
          · rw [if_pos e2]; omega
          · rw [if_neg e2]; omega
        · rw [if_neg e, if_neg e, if_neg e]
          exact h8
      · intro d i hd hi
        rw [d46, x46] at hi
        rw [d48, c48, d123, c123]
        unfold qzu at hi
        by_cases e : d = (x1 : Int).toNat
        · rw [if_pos e] at hi; omega
        · rw [if_neg e] at hi; exact r9 d i hd hi

set_option maxHeartbeats 4000000 in
theorem rl_row {σ α σ1 α1 σ2 α2 : Nat → Nat → Int} {κ : Nat → Option Nat} {ρ : Nat} {x1 x2 x3 v1 v2 : Int} (hI : qI σ α κ ρ) (hR : qR σ α) (hG1 : qFr [] [45, 46, 48] σ α σ1 α1) (hG2 : qFr [] [121, 122, 123] σ1 α1 σ2 α2) (hx : ((v1 = -1 ∧ ¬ (0 ≤ x1 ∧ x1 ≤ 5 ∧ 0 ≤ x2 ∧ x2 ≤ 4 ∧ x3 ≤ 60)) ∧ α1 45 = α 45 ∧ α1 46 = α 46 ∧ α1 48 = α 48) ∨ ((v1 = -14 ∧ (0 ≤ x1 ∧ x1 ≤ 5 ∧ 0 ≤ x2 ∧ x2 ≤ 4 ∧ x3 ≤ 60) ∧ x3 < 0) ∧ α1 45 = α 45 ∧ α1 46 = α 46 ∧ α1 48 = α 48) ∨ ((v1 = 1 ∧ (0 ≤ x1 ∧ x1 ≤ 5 ∧ 0 ≤ x2 ∧ x2 ≤ 4 ∧ x3 ≤ 60) ∧ 0 ≤ x3) ∧ α1 45 = qzu (α 45) (x1 : Int).toNat (x2) ∧ α1 46 = qzu (α 46) (x1 : Int).toNat (x3) ∧ α1 48 = qzfl (α 48) (x1 * 60 : Int).toNat (x3 : Int).toNat)) (hy : ((v2 = -1 ∧ ¬ (0 ≤ x1 ∧ x1 ≤ 5 ∧ 0 ≤ x2 ∧ x2 ≤ 4 ∧ x3 ≤ 60)) ∧ α2 121 = α1 121 ∧ α2 122 = α1 122 ∧ α2 123 = α1 123) ∨ ((v2 = -14 ∧ (0 ≤ x1 ∧ x1 ≤ 5 ∧ 0 ≤ x2 ∧ x2 ≤ 4 ∧ x3 ≤ 60) ∧ x3 < 0) ∧ α2 121 = α1 121 ∧ α2 122 = α1 122 ∧ α2 123 = α1 123) ∨ ((v2 = 1 ∧ (0 ≤ x1 ∧ x1 ≤ 5 ∧ 0 ≤ x2 ∧ x2 ≤ 4 ∧ x3 ≤ 60) ∧ 0 ≤ x3) ∧ α2 121 = qzu (α1 121) (x1 : Int).toNat (60 + x2) ∧ α2 122 = qzu (α1 122) (x1 : Int).toNat (x3) ∧ α2 123 = qzfl (α1 123) (60 * x1 : Int).toNat 60)) : v1 = v2 ∧ qR σ2 α2 := by
  obtain ⟨r1, r2, r3, r4, r5, r6, r7, r8, r9⟩ := hR
  have c17_6 := hG1.1 17 6 (by decide)
  have d17_6 := hG2.1 17 6 (by decide)
  have c27_7 := hG1.1 27 7 (by decide)
  have d27_7 := hG2.1 27 7 (by decide)
  have c34_7 := hG1.1 34 7 (by decide)
  have d34_7 := hG2.1 34 7 (by decide)
  have c86_6 := hG1.1 86 6 (by decide)
  have d86_6 := hG2.1 86 6 (by decide)
  have c86_16 := hG1.1 86 16 (by decide)
  have d86_16 := hG2.1 86 16 (by decide)
  have c86_24 := hG1.1 86 24 (by decide)
  have d86_24 := hG2.1 86 24 (by decide)
  have c18 := hG1.2 18 (by decide)
  have d18 := hG2.2 18 (by decide)
  have c19 := hG1.2 19 (by decide)
  have d19 := hG2.2 19 (by decide)
  have c21 := hG1.2 21 (by decide)
  have d21 := hG2.2 21 (by decide)
  have d45 := hG2.2 45 (by decide)
  have d46 := hG2.2 46 (by decide)
  have c47 := hG1.2 47 (by decide)
  have d47 := hG2.2 47 (by decide)
  have d48 := hG2.2 48 (by decide)
  have c91 := hG1.2 91 (by decide)
  have d91 := hG2.2 91 (by decide)
  have c92 := hG1.2 92 (by decide)
  have d92 := hG2.2 92 (by decide)
  have c93 := hG1.2 93 (by decide)
  have d93 := hG2.2 93 (by decide)
  have c121 := hG1.2 121 (by decide)
  have c122 := hG1.2 122 (by decide)
  have c123 := hG1.2 123 (by decide)
  rcases hx with ⟨xn0, x45, x46, x48⟩ | ⟨xn0, x45, x46, x48⟩ | ⟨xn0, x45, x46, x48⟩
  · rcases hy with ⟨yn0, y121, y122, y123⟩ | ⟨yn0, y121, y122, y123⟩ | ⟨yn0, y121, y122, y123⟩
    · skip
      have hv : v1 = v2 := by omega
      refine ⟨hv, by omega, by omega, by omega, ?_, ?_, ?_, ?_, ?_, ?_⟩
      · exact by rw [d18, c18, d91, c91, r4]
      · exact by rw [d19, c19, d92, c92, r5]
      · exact by rw [d21, c21, d93, c93, r6]
      · exact by rw [d46, x46, y122, c122, r7]
      · exact (by rw [d45, x45, d47, c47, y121, c121]; exact r8)
      · exact (by rw [d46, x46, d48, x48, y123, c123]; exact r9)
    · exact False.elim (by omega)
    · exact False.elim (by omega)
  · rcases hy with ⟨yn0, y121, y122, y123⟩ | ⟨yn0, y121, y122, y123⟩ | ⟨yn0, y121, y122, y123⟩
    · exact False.elim (by omega)
    · skip
      have hv : v1 = v2 := by omega
      refine ⟨hv, by omega, by omega, by omega, ?_, ?_, ?_, ?_, ?_, ?_⟩
      · exact by rw [d18, c18, d91, c91, r4]
      · exact by rw [d19, c19, d92, c92, r5]
      · exact by rw [d21, c21, d93, c93, r6]
      · exact by rw [d46, x46, y122, c122, r7]
      · exact (by rw [d45, x45, d47, c47, y121, c121]; exact r8)
      · exact (by rw [d46, x46, d48, x48, y123, c123]; exact r9)
    · exact False.elim (by omega)
  · rcases hy with ⟨yn0, y121, y122, y123⟩ | ⟨yn0, y121, y122, y123⟩ | ⟨yn0, y121, y122, y123⟩
    · exact False.elim (by omega)
    · exact False.elim (by omega)
    · skip
      have hv : v1 = v2 := by omega
      refine ⟨hv, by omega, by omega, by omega, ?_, ?_, ?_, ?_, ?_, ?_⟩
      · exact by rw [d18, c18, d91, c91, r4]
      · exact by rw [d19, c19, d92, c92, r5]
      · exact by rw [d21, c21, d93, c93, r6]
      · exact by rw [d46, x46, y122, c122, r7]
      · intro d hd
        have h8 := r8 d hd
        rw [d45, x45, d47, c47, y121, c121]
        unfold qzu
        by_cases e : d = (x1 : Int).toNat
        · rw [if_pos e, if_pos e]
          unfold qpg
          omega
        · rw [if_neg e, if_neg e]
          exact h8
      · intro d i hd hi
        have hl : 0 ≤ α 46 d ∧ α 46 d ≤ 60 := hI.2.1 46 d hd
        rw [d46, x46] at hi
        rw [d48, x48, y123, c123]
        unfold qzu at hi
        unfold qzfl
        by_cases e : d = (x1 : Int).toNat
        · rw [if_pos e] at hi
          rw [if_pos (by omega), if_pos (by omega)]
        · rw [if_neg e] at hi
          rw [if_neg (by omega), if_neg (by omega)]
          exact r9 d i hd hi

set_option maxHeartbeats 4000000 in
theorem rl_put {σ α σ1 α1 σ2 α2 : Nat → Nat → Int} {κ : Nat → Option Nat} {ρ : Nat} {x1 x2 x3 v1 v2 : Int} (hI : qI σ α κ ρ) (hR : qR σ α) (hG1 : qFr [] [48] σ α σ1 α1) (hG2 : qFr [] [123] σ1 α1 σ2 α2) (hx : ((v1 = -1 ∧ ¬ (0 ≤ x1 ∧ x1 ≤ 5)) ∧ α1 48 = α 48) ∨ (((0 ≤ x1 ∧ x1 ≤ 5) ∧ ¬ v1 = 0 ∧ ((v1 = -11 ∧ α 45 (x1 : Int).toNat = 6) ∨ (v1 = -12 ∧ α 45 (x1 : Int).toNat = 5) ∨ (v1 = -13 ∧ α 45 (x1 : Int).toNat ≤ 4 ∧ ¬ (0 ≤ x2 ∧ x2 < α 46 (x1 : Int).toNat)) ∨ (v1 = 0 ∧ α 45 (x1 : Int).toNat ≤ 4 ∧ 0 ≤ x2 ∧ x2 < α 46 (x1 : Int).toNat))) ∧ α1 48 = α 48) ∨ ((v1 = 1 ∧ (0 ≤ x1 ∧ x1 ≤ 5) ∧ α 45 (x1 : Int).toNat ≤ 4 ∧ 0 ≤ x2 ∧ x2 < α 46 (x1 : Int).toNat) ∧ α1 48 = qzu (α 48) (x1 * 60 + x2 : Int).toNat (qnar (α 45 (x1 : Int).toNat) x3))) (hy : ((¬ v2 = 0 ∧ ((v2 = -1 ∧ ¬ (0 ≤ x1 ∧ x1 ≤ 5)) ∨ (v2 = -11 ∧ 0 ≤ x1 ∧ x1 ≤ 5 ∧ α1 121 (x1 : Int).toNat < 0) ∨ (v2 = -12 ∧ 0 ≤ x1 ∧ x1 ≤ 5 ∧ 0 ≤ α1 121 (x1 : Int).toNat ∧ α1 121 (x1 : Int).toNat < 60) ∨ (v2 = -13 ∧ 0 ≤ x1 ∧ x1 ≤ 5 ∧ 60 ≤ α1 121 (x1 : Int).toNat ∧ ¬ (0 ≤ x2 ∧ x2 < α1 122 (x1 : Int).toNat)) ∨ (v2 = 0 ∧ 0 ≤ x1 ∧ x1 ≤ 5 ∧ 60 ≤ α1 121 (x1 : Int).toNat ∧ 0 ≤ x2 ∧ x2 < α1 122 (x1 : Int).toNat))) ∧ α2 123 = α1 123) ∨ ((v2 = 1 ∧ (0 ≤ x1 ∧ x1 ≤ 5) ∧ 60 ≤ α1 121 (x1 : Int).toNat ∧ 0 ≤ x2 ∧ x2 < α1 122 (x1 : Int).toNat) ∧ α2 123 = qzu (α1 123) (60 * x1 + x2 : Int).toNat (qnar (α1 121 (x1 : Int).toNat - 60) x3))) : v1 = v2 ∧ qR σ2 α2 := by
  obtain ⟨r1, r2, r3, r4, r5, r6, r7, r8, r9⟩ := hR
  have c17_6 := hG1.1 17 6 (by decide)
  have d17_6 := hG2.1 17 6 (by decide)
  have c27_7 := hG1.1 27 7 (by decide)
  have d27_7 := hG2.1 27 7 (by decide)
  have c34_7 := hG1.1 34 7 (by decide)
  have d34_7 := hG2.1 34 7 (by decide)
  have c86_6 := hG1.1 86 6 (by decide)
  have d86_6 := hG2.1 86 6 (by decide)
  have c86_16 := hG1.1 86 16 (by decide)
  have d86_16 := hG2.1 86 16 (by decide)
  have c86_24 := hG1.1 86 24 (by decide)
  have d86_24 := hG2.1 86 24 (by decide)
  have c18 := hG1.2 18 (by decide)
  have d18 := hG2.2 18 (by decide)
  have c19 := hG1.2 19 (by decide)
  have d19 := hG2.2 19 (by decide)
  have c21 := hG1.2 21 (by decide)
  have d21 := hG2.2 21 (by decide)
  have c45 := hG1.2 45 (by decide)
  have d45 := hG2.2 45 (by decide)
  have c46 := hG1.2 46 (by decide)
  have d46 := hG2.2 46 (by decide)
  have c47 := hG1.2 47 (by decide)
  have d47 := hG2.2 47 (by decide)
  have d48 := hG2.2 48 (by decide)
  have c91 := hG1.2 91 (by decide)
  have d91 := hG2.2 91 (by decide)
  have c92 := hG1.2 92 (by decide)
  have d92 := hG2.2 92 (by decide)
  have c93 := hG1.2 93 (by decide)
  have d93 := hG2.2 93 (by decide)
  have c121 := hG1.2 121 (by decide)
  have d121 := hG2.2 121 (by decide)
  have c122 := hG1.2 122 (by decide)
  have d122 := hG2.2 122 (by decide)
  have c123 := hG1.2 123 (by decide)
  have hb : 0 ≤ x1 ∧ x1 ≤ 5 → qpg (α 45 (x1 : Int).toNat) (α 47 (x1 : Int).toNat) (α 121 (x1 : Int).toNat) := fun h => r8 _ (by omega)
  have hl : α 46 (x1 : Int).toNat = α 122 (x1 : Int).toNat := by rw [r7]
  rw [c121, c122] at hy
  unfold qpg at hb
  rcases hx with ⟨xn0, x48⟩ | ⟨xn0, x48⟩ | ⟨xn0, x48⟩
  · rcases hy with ⟨yn0, y123⟩ | ⟨yn0, y123⟩
    · skip
      have hv : v1 = v2 := by omega
      refine ⟨hv, by omega, by omega, by omega, ?_, ?_, ?_, ?_, ?_, ?_⟩
      · exact by rw [d18, c18, d91, c91, r4]
      · exact by rw [d19, c19, d92, c92, r5]
      · exact by rw [d21, c21, d93, c93, r6]
      · exact by rw [d46, c46, d122, c122, r7]
      · exact (by rw [d45, c45, d47, c47, d121, c121]; exact r8)
      · exact (by rw [d46, c46, d48, x48, y123, c123]; exact r9)
    · exact False.elim (by omega)
  · rcases hy with ⟨yn0, y123⟩ | ⟨yn0, y123⟩
    · skip
      have hv : v1 = v2 := by omega
      refine ⟨hv, by omega, by omega, by omega, ?_, ?_, ?_, ?_, ?_, ?_⟩
      · exact by rw [d18, c18, d91, c91, r4]
      · exact by rw [d19, c19, d92, c92, r5]
      · exact by rw [d21, c21, d93, c93, r6]
      · exact by rw [d46, c46, d122, c122, r7]
      · exact (by rw [d45, c45, d47, c47, d121, c121]; exact r8)
      · exact (by rw [d46, c46, d48, x48, y123, c123]; exact r9)
    · exact False.elim (by omega)
  · rcases hy with ⟨yn0, y123⟩ | ⟨yn0, y123⟩
    · exact False.elim (by omega)
    · skip
      have hv : v1 = v2 := by omega
      refine ⟨hv, by omega, by omega, by omega, ?_, ?_, ?_, ?_, ?_, ?_⟩
      · exact by rw [d18, c18, d91, c91, r4]
      · exact by rw [d19, c19, d92, c92, r5]
      · exact by rw [d21, c21, d93, c93, r6]
      · exact by rw [d46, c46, d122, c122, r7]
      · exact (by rw [d45, c45, d47, c47, d121, c121]; exact r8)
      · intro d i hd hi
        have hl2 : 0 ≤ α 46 d ∧ α 46 d ≤ 60 := hI.2.1 46 d hd
        have hl3 : 0 ≤ α 46 (x1 : Int).toNat ∧ α 46 (x1 : Int).toNat ≤ 60 := hI.2.1 46 _ (show (x1 : Int).toNat < 6 by omega)
        rw [d46, c46] at hi
        have h9 := r9 d i hd hi
        rw [d48, x48, y123, c123, show α 121 (x1 : Int).toNat - 60 = α 45 (x1 : Int).toNat by omega]
        unfold qzu
        by_cases e : 60 * d + i = (x1 * 60 + x2 : Int).toNat
        · rw [if_pos e, if_pos (by omega)]
        · rw [if_neg e, if_neg (by omega)]
          exact h9

set_option maxHeartbeats 4000000 in
theorem rl_element {σ α : Nat → Nat → Int} {κ : Nat → Option Nat} {ρ : Nat} {x1 x2 v1 v2 : Int} (hI : qI σ α κ ρ) (hR : qR σ α) (hx : ((v1 = -9223372036854775808 ∧ ¬ (0 ≤ x1 ∧ x1 ≤ 5 ∧ α 45 (x1 : Int).toNat ≤ 4 ∧ 0 ≤ x2 ∧ x2 < α 46 (x1 : Int).toNat)) ∨ ((0 ≤ x1 ∧ x1 ≤ 5 ∧ α 45 (x1 : Int).toNat ≤ 4 ∧ 0 ≤ x2 ∧ x2 < α 46 (x1 : Int).toNat) ∧ v1 = α 48 (x1 * 60 + x2 : Int).toNat))) (hy : ((v2 = -9223372036854775808 ∧ ¬ (0 ≤ x1 ∧ x1 ≤ 5 ∧ 60 ≤ α 121 (x1 : Int).toNat ∧ 0 ≤ x2 ∧ x2 < α 122 (x1 : Int).toNat)) ∨ ((0 ≤ x1 ∧ x1 ≤ 5 ∧ 60 ≤ α 121 (x1 : Int).toNat ∧ 0 ≤ x2 ∧ x2 < α 122 (x1 : Int).toNat) ∧ v2 = α 123 (60 * x1 + x2 : Int).toNat))) : v1 = v2 := by
  obtain ⟨r1, r2, r3, r4, r5, r6, r7, r8, r9⟩ := hR
  have hb : 0 ≤ x1 ∧ x1 ≤ 5 → qpg (α 45 (x1 : Int).toNat) (α 47 (x1 : Int).toNat) (α 121 (x1 : Int).toNat) := fun h => r8 _ (by omega)
  have hl : α 46 (x1 : Int).toNat = α 122 (x1 : Int).toNat := by rw [r7]
  unfold qpg at hb
  rcases hx with ⟨h1, h2⟩ | ⟨h1, h2⟩
  · rcases hy with ⟨k1, k2⟩ | ⟨k1, k2⟩
    · rw [h1, k1]
    · exact False.elim (by omega)
  · rcases hy with ⟨k1, k2⟩ | ⟨k1, k2⟩
    · exact False.elim (by omega)
    · have h9 := r9 (x1 : Int).toNat (x2 : Int).toNat (by omega) (by omega)
      rw [h2, k2, show (x1 * 60 + x2 : Int).toNat = 60 * (x1 : Int).toNat + (x2 : Int).toNat by omega, show (60 * x1 + x2 : Int).toNat = 60 * (x1 : Int).toNat + (x2 : Int).toNat by omega]
      exact h9

set_option maxHeartbeats 4000000 in
theorem rl_shift {σ α σ1 α1 σ2 α2 : Nat → Nat → Int} {κ : Nat → Option Nat} {ρ : Nat} {x1 x2 x3 x4 x5 v1 v2 : Int} (hI : qI σ α κ ρ) (hR : qR σ α) (hG1 : qFr [] [48] σ α σ1 α1) (hG2 : qFr [] [123, 124] σ1 α1 σ2 α2) (hx : ((v1 = -1 ∧ ¬ (0 ≤ x1 ∧ x1 ≤ 5 ∧ 0 ≤ x3 ∧ x3 ≤ 5)) ∧ α1 48 = α 48) ∨ ((v1 = -11 ∧ (0 ≤ x1 ∧ x1 ≤ 5 ∧ 0 ≤ x3 ∧ x3 ≤ 5) ∧ (α 45 (x1 : Int).toNat = 6 ∨ α 45 (x3 : Int).toNat = 6)) ∧ α1 48 = α 48) ∨ ((v1 = -12 ∧ (0 ≤ x1 ∧ x1 ≤ 5 ∧ 0 ≤ x3 ∧ x3 ≤ 5) ∧ ¬ (α 45 (x1 : Int).toNat = 6 ∨ α 45 (x3 : Int).toNat = 6) ∧ ¬ (α 45 (x1 : Int).toNat < 5 ∧ α 45 (x3 : Int).toNat = α 45 (x1 : Int).toNat)) ∧ α1 48 = α 48) ∨ ((v1 = -13 ∧ (0 ≤ x1 ∧ x1 ≤ 5 ∧ 0 ≤ x3 ∧ x3 ≤ 5) ∧ ¬ (α 45 (x1 : Int).toNat = 6 ∨ α 45 (x3 : Int).toNat = 6) ∧ (α 45 (x1 : Int).toNat < 5 ∧ α 45 (x3 : Int).toNat = α 45 (x1 : Int).toNat) ∧ ¬ (0 ≤ x2 ∧ 0 ≤ x5 ∧ x5 ≤ α 46 (x1 : Int).toNat ∧ x2 ≤ α 46 (x1 : Int).toNat - x5 ∧ 0 ≤ x4 ∧ x5 ≤ α 46 (x3 : Int).toNat ∧ x4 ≤ α 46 (x3 : Int).toNat - x5)) ∧ α1 48 = α 48) ∨ ((v1 = x5 ∧ (0 ≤ x1 ∧ x1 ≤ 5 ∧ 0 ≤ x3 ∧ x3 ≤ 5) ∧ ¬ (α 45 (x1 : Int).toNat = 6 ∨ α 45 (x3 : Int).toNat = 6) ∧ (α 45 (x1 : Int).toNat < 5 ∧ α 45 (x3 : Int).toNat = α 45 (x1 : Int).toNat) ∧ (0 ≤ x2 ∧ 0 ≤ x5 ∧ x5 ≤ α 46 (x1 : Int).toNat ∧ x2 ≤ α 46 (x1 : Int).toNat - x5 ∧ 0 ≤ x4 ∧ x5 ≤ α 46 (x3 : Int).toNat ∧ x4 ≤ α 46 (x3 : Int).toNat - x5)) ∧ α1 48 = va_cpy (α 48) (α 48) (x1 * 60 + x2 : Int).toNat (x3 * 60 + x4 : Int).toNat (x5 : Int).toNat)) (hy : ((v2 = -1 ∧ ¬ (0 ≤ x1 ∧ x1 ≤ 5 ∧ 0 ≤ x3 ∧ x3 ≤ 5)) ∧ α2 123 = α1 123) ∨ ((v2 = -11 ∧ (0 ≤ x1 ∧ x1 ≤ 5 ∧ 0 ≤ x3 ∧ x3 ≤ 5) ∧ (α1 121 (x1 : Int).toNat < 0 ∨ α1 121 (x3 : Int).toNat < 0)) ∧ α2 123 = α1 123) ∨ ((v2 = -12 ∧ (0 ≤ x1 ∧ x1 ≤ 5 ∧ 0 ≤ x3 ∧ x3 ≤ 5) ∧ ¬ (α1 121 (x1 : Int).toNat < 0 ∨ α1 121 (x3 : Int).toNat < 0) ∧ ¬ (60 ≤ α1 121 (x1 : Int).toNat ∧ α1 121 (x1 : Int).toNat = α1 121 (x3 : Int).toNat)) ∧ α2 123 = α1 123) ∨ ((v2 = -13 ∧ (0 ≤ x1 ∧ x1 ≤ 5 ∧ 0 ≤ x3 ∧ x3 ≤ 5) ∧ ¬ (α1 121 (x1 : Int).toNat < 0 ∨ α1 121 (x3 : Int).toNat < 0) ∧ (60 ≤ α1 121 (x1 : Int).toNat ∧ α1 121 (x1 : Int).toNat = α1 121 (x3 : Int).toNat) ∧ ¬ (0 ≤ x2 ∧ 0 ≤ x5 ∧ x5 ≤ α1 122 (x1 : Int).toNat ∧ x2 ≤ α1 122 (x1 : Int).toNat - x5 ∧ 0 ≤ x4 ∧ x5 ≤ α1 122 (x3 : Int).toNat ∧ x4 ≤ α1 122 (x3 : Int).toNat - x5)) ∧ α2 123 = α1 123) ∨ ((v2 = x5 ∧ (0 ≤ x1 ∧ x1 ≤ 5 ∧ 0 ≤ x3 ∧ x3 ≤ 5) ∧ ¬ (α1 121 (x1 : Int).toNat < 0 ∨ α1 121 (x3 : Int).toNat < 0) ∧ (60 ≤ α1 121 (x1 : Int).toNat ∧ α1 121 (x1 : Int).toNat = α1 121 (x3 : Int).toNat) ∧ (0 ≤ x2 ∧ 0 ≤ x5 ∧ x5 ≤ α1 122 (x1 : Int).toNat ∧ x2 ≤ α1 122 (x1 : Int).toNat - x5 ∧ 0 ≤ x4 ∧ x5 ≤ α1 122 (x3 : Int).toNat ∧ x4 ≤ α1 122 (x3 : Int).toNat - x5)) ∧ α2 123 = va_cpy (α1 123) (α1 123) (60 * x1 + x2 : Int).toNat (60 * x3 + x4 : Int).toNat (x5 : Int).toNat)) : v1 = v2 ∧ qR σ2 α2 := by
  obtain ⟨r1, r2, r3, r4, r5, r6, r7, r8, r9⟩ := hR
  have c17_6 := hG1.1 17 6 (by decide)
  have d17_6 := hG2.1 17 6 (by decide)
  have c27_7 := hG1.1 27 7 (by decide)
  have d27_7 := hG2.1 27 7 (by decide)
  have c34_7 := hG1.1 34 7 (by decide)
  have d34_7 := hG2.1 34 7 (by decide)
  have c86_6 := hG1.1 86 6 (by decide)
  have d86_6 := hG2.1 86 6 (by decide)
  have c86_16 := hG1.1 86 16 (by decide)
  have d86_16 := hG2.1 86 16 (by decide)
  have c86_24 := hG1.1 86 24 (by decide)
  have d86_24 := hG2.1 86 24 (by decide)
  have c18 := hG1.2 18 (by decide)
  have d18 := hG2.2 18 (by decide)
  have c19 := hG1.2 19 (by decide)
  have d19 := hG2.2 19 (by decide)
  have c21 := hG1.2 21 (by decide)
  have d21 := hG2.2 21 (by decide)
  have c45 := hG1.2 45 (by decide)
  have d45 := hG2.2 45 (by decide)
  have c46 := hG1.2 46 (by decide)
  have d46 := hG2.2 46 (by decide)
  have c47 := hG1.2 47 (by decide)
  have d47 := hG2.2 47 (by decide)
  have d48 := hG2.2 48 (by decide)
  have c91 := hG1.2 91 (by decide)
  have d91 := hG2.2 91 (by decide)
  have c92 := hG1.2 92 (by decide)
  have d92 := hG2.2 92 (by decide)
  have c93 := hG1.2 93 (by decide)
  have d93 := hG2.2 93 (by decide)
  have c121 := hG1.2 121 (by decide)
  have d121 := hG2.2 121 (by decide)
  have c122 := hG1.2 122 (by decide)
  have d122 := hG2.2 122 (by decide)
  have c123 := hG1.2 123 (by decide)
  have hb1 : 0 ≤ x1 ∧ x1 ≤ 5 → qpg (α 45 (x1 : Int).toNat) (α 47 (x1 : Int).toNat) (α 121 (x1 : Int).toNat) := fun h => r8 _ (by omega)
  have hb3 : 0 ≤ x3 ∧ x3 ≤ 5 → qpg (α 45 (x3 : Int).toNat) (α 47 (x3 : Int).toNat) (α 121 (x3 : Int).toNat) := fun h => r8 _ (by omega)
  have hl1 : α 46 (x1 : Int).toNat = α 122 (x1 : Int).toNat := by rw [r7]
  have hl3 : α 46 (x3 : Int).toNat = α 122 (x3 : Int).toNat := by rw [r7]
  rw [c121, c122] at hy
  unfold qpg at hb1 hb3
  rcases hx with ⟨xn0, x48⟩ | ⟨xn0, x48⟩ | ⟨xn0, x48⟩ | ⟨xn0, x48⟩ | ⟨xn0, x48⟩
  · rcases hy with ⟨yn0, y123⟩ | ⟨yn0, y123⟩ | ⟨yn0, y123⟩ | ⟨yn0, y123⟩ | ⟨yn0, y123⟩
    · skip
      have hv : v1 = v2 := by omega
      refine ⟨hv, by omega, by omega, by omega, ?_, ?_, ?_, ?_, ?_, ?_⟩
      · exact by rw [d18, c18, d91, c91, r4]
      · exact by rw [d19, c19, d92, c92, r5]
      · exact by rw [d21, c21, d93, c93, r6]
      · exact by rw [d46, c46, d122, c122, r7]
      · exact (by rw [d45, c45, d47, c47, d121, c121]; exact r8)
      · exact (by rw [d46, c46, d48, x48, y123, c123]; exact r9)
    · exact False.elim (by omega)
    · exact False.elim (by omega)
    · exact False.elim (by omega)
    · exact False.elim (by omega)
  · rcases hy with ⟨yn0, y123⟩ | ⟨yn0, y123⟩ | ⟨yn0, y123⟩ | ⟨yn0, y123⟩ | ⟨yn0, y123⟩
    · exact False.elim (by omega)
    · skip
      have hv : v1 = v2 := by omega
      refine ⟨hv, by omega, by omega, by omega, ?_, ?_, ?_, ?_, ?_, ?_⟩
      · exact by rw [d18, c18, d91, c91, r4]
      · exact by rw [d19, c19, d92, c92, r5]
      · exact by rw [d21, c21, d93, c93, r6]
      · exact by rw [d46, c46, d122, c122, r7]
      · exact (by rw [d45, c45, d47, c47, d121, c121]; exact r8)
      · exact (by rw [d46, c46, d48, x48, y123, c123]; exact r9)
    · exact False.elim (by omega)
    · exact False.elim (by omega)
    · exact False.elim (by omega)
  · rcases hy with ⟨yn0, y123⟩ | ⟨yn0, y123⟩ | ⟨yn0, y123⟩ | ⟨yn0, y123⟩ | ⟨yn0, y123⟩
    · exact False.elim (by omega)
    · exact False.elim (by omega)
    · skip
      have hv : v1 = v2 := by omega
      refine ⟨hv, by omega, by omega, by omega, ?_, ?_, ?_, ?_, ?_, ?_⟩
      · exact by rw [d18, c18, d91, c91, r4]
      · exact by rw [d19, c19, d92, c92, r5]
      · exact by rw [d21, c21, d93, c93, r6]
      · exact by rw [d46, c46, d122, c122, r7]
      · exact (by rw [d45, c45, d47, c47, d121, c121]; exact r8)
      · exact (by rw [d46, c46, d48, x48, y123, c123]; exact r9)
    · exact False.elim (by omega)
    · exact False.elim (by omega)
  · rcases hy with ⟨yn0, y123⟩ | ⟨yn0, y123⟩ | ⟨yn0, y123⟩ | ⟨yn0, y123⟩ | ⟨yn0, y123⟩
    · exact False.elim (by omega)
    · exact False.elim (by omega)
    · exact False.elim (by omega)
    · skip
      have hv : v1 = v2 := by omega
      refine ⟨hv, by omega, by omega, by omega, ?_, ?_, ?_, ?_, ?_, ?_⟩
      · exact by rw [d18, c18, d91, c91, r4]
      · exact by rw [d19, c19, d92, c92, r5]
      · exact by rw [d21, c21, d93, c93, r6]
      · exact by rw [d46, c46, d122, c122, r7]
      · exact (by rw [d45, c45, d47, c47, d121, c121]; exact r8)
      · exact (by rw [d46, c46, d48, x48, y123, c123]; exact r9)
    · exact False.elim (by omega)
  · rcases hy with ⟨yn0, y123⟩ | ⟨yn0, y123⟩ | ⟨yn0, y123⟩ | ⟨yn0, y123⟩ | ⟨yn0, y123⟩
    · exact False.elim (by omega)
    · exact False.elim (by omega)
    · exact False.elim (by omega)
    · exact False.elim (by omega)
    · skip
      have hv : v1 = v2 := by omega
      refine ⟨hv, by omega, by omega, by omega, ?_, ?_, ?_, ?_, ?_, ?_⟩
      · exact by rw [d18, c18, d91, c91, r4]
      · exact by rw [d19, c19, d92, c92, r5]
      · exact by rw [d21, c21, d93, c93, r6]
      · exact by rw [d46, c46, d122, c122, r7]
      · exact (by rw [d45, c45, d47, c47, d121, c121]; exact r8)
      · intro d i hd hi
        have hl2 : 0 ≤ α 46 d ∧ α 46 d ≤ 60 := hI.2.1 46 d hd
        have hm1 : 0 ≤ α 46 (x1 : Int).toNat ∧ α 46 (x1 : Int).toNat ≤ 60 := hI.2.1 46 _ (show (x1 : Int).toNat < 6 by omega)
        have hm3 : 0 ≤ α 46 (x3 : Int).toNat ∧ α 46 (x3 : Int).toNat ≤ 60 := hI.2.1 46 _ (show (x3 : Int).toNat < 6 by omega)
        rw [d46, c46] at hi
        have h9 := r9 d i hd hi
        rw [d48, x48, y123, c123]
        unfold va_cpy
        by_cases e : (x3 * 60 + x4 : Int).toNat ≤ 60 * d + i ∧ 60 * d + i < (x3 * 60 + x4 : Int).toNat + (x5 : Int).toNat
        · have h10 := r9 (x1 : Int).toNat ((x2 : Int).toNat + (60 * d + i - (x3 * 60 + x4 : Int).toNat)) (by omega) (by omega)
          rw [if_pos e, if_pos (by omega), show (x1 * 60 + x2 : Int).toNat + (60 * d + i - (x3 * 60 + x4 : Int).toNat) = 60 * (x1 : Int).toNat + ((x2 : Int).toNat + (60 * d + i - (x3 * 60 + x4 : Int).toNat)) by omega, show (60 * x1 + x2 : Int).toNat + (60 * d + i - (60 * x3 + x4 : Int).toNat) = 60 * (x1 : Int).toNat + ((x2 : Int).toNat + (60 * d + i - (x3 * 60 + x4 : Int).toNat)) by omega]
          exact h10
        · rw [if_neg e, if_neg (by omega)]
          exact h9
end
