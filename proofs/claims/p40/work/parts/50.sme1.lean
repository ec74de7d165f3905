set_option maxHeartbeats 4000000 in
set_option maxRecDepth 20000 in
/-- OneRoofModel.lists -/
theorem sf_234_86p {L : Nat} {xs : Nat → Int} {vb : Bool} {d : Nat} {σ α : Nat → Nat → Int} {κ : Nat → Option Nat} {ρ : Nat} {x1 : Int} {x2 : Int} (hI : qI σ α κ ρ) (r1 : (-9223372036854775808) ≤ x1 ∧ x1 ≤ 9223372036854775807) (r2 : 0 ≤ x2 ∧ x2 ≤ 12) : qm_T (qe L xs vb) (d + 2) 234 [.ref 86, .long (ql x1), .int (qz x2)] (qw σ α κ ρ) (fun r w' => ∃ σ' α', w' = qw σ' α' κ ρ ∧ qI σ' α' κ ρ ∧ qFr [(86, 43)] [110] σ α σ' α' ∧ ∃ v : Int, r = some (.int (qz v)) ∧ (0 ≤ v ∧ v ≤ 1) ∧ (v = 0 ∨ (v = 1 ∧ 1 ≤ σ' 86 43 ∧ σ' 86 43 ≤ x2 ∧ 1 ≤ σ 86 6))) := by
  refine qr_start (d := d + 1) qv_e234 (Nat.le_of_ble_eq_true rfl) ?_
  show qr_W (qe L xs vb) (d + 1) qx_e234 _ (0, [(0, .ref 86), (1, .long (ql x1)), (3, .int (qz x2))], [], _, 0, 0)
  have hF0 := qFr_rf [(86, 43)] [110] σ α
  have hz86_6 : 0 ≤ σ 86 6 ∧ σ 86 6 ≤ 32 := hI.1 86 6
  refine qr_aload_n 1 rfl rfl rfl ?_
  refine qr_iconst 2 rfl rfl ?_
  refine qr_put 5 rfl (by decide) rfl (Nat.le_of_ble_eq_true rfl) (Nat.le_of_ble_eq_true rfl) (Or.inl rfl) (qr_fitI rfl _) rfl ?_
  refine qy_wS (qw_s σ 86 43 0) rfl (fun σ1 e2 => ?_)
  have hI3 : qI σ1 α κ ρ := by rw [e2]; exact qI_s hI 86 43 rfl (show 0 ≤ 0 ∧ 0 ≤ 32 by omega)
  have hF4 : qFr [(86, 43)] [110] σ α σ1 α := by rw [e2]; exact qFr_s hF0 86 43 _ (by decide)
  refine qr_iconst 6 rfl rfl ?_
  refine qr_istore _ 8 rfl (by decide) rfl rfl ?_
  have hL423 : ∀ (n : Nat) (ls : qm_L) (u414 : Int) (σ415 α416 : Nat → Nat → Int), 32 - u414 < (n : Int) → qm_get ls 0 = some (.ref 86) → qm_get ls 1 = some (.long (ql x1)) → qm_get ls 3 = some (.int (qz x2)) → qm_get ls 4 = some (.int (qz u414)) → (0 ≤ u414 ∧ u414 ≤ 32) → qI σ415 α416 κ ρ → qFr [(86, 43)] [110] σ α σ415 α416 → σ415 86 6 = (σ 86 6) → σ415 86 43 ≤ u414 → (σ415 86 43 = 0 ∨ 1 ≤ σ 86 6) → qr_W (qe L xs vb) (d + 1) qx_e234 (fun r w' => ∃ σ' α', w' = qw σ' α' κ ρ ∧ qI σ' α' κ ρ ∧ qFr [(86, 43)] [110] σ α σ' α' ∧ ∃ v : Int, r = some (.int (qz v)) ∧ (0 ≤ v ∧ v ≤ 1) ∧ (v = 0 ∨ (v = 1 ∧ 1 ≤ σ' 86 43 ∧ σ' 86 43 ≤ x2 ∧ 1 ≤ σ 86 6))) (8, ls, [], qw σ415 α416 κ ρ, 0, 0) := by
    intro n
    induction n with
    | zero => intro ls u414 σ415 α416 hm g410 g411 g412 g413 hf420 hI417 hF418 hk419 hx421 hx422; exact False.elim (by omega)
    | succ n ih424 =>
      intro ls u414 σ415 α416 hm g410 g411 g412 g413 hf420 hI417 hF418 hk419 hx421 hx422
      refine qr_iload 10 rfl g413 rfl ?_
      refine qr_aload_n 11 rfl g410 rfl ?_
      refine qr_get 14 rfl rfl rfl (by decide) rfl ?_
      refine qy_v (σ 86 6) ((hk419).trans rfl) ?_
      refine qr_icmp_ge 70 17 rfl rfl rfl (qrg hf420 (by decide) (by decide)) (qrg hz86_6 (by decide) (by decide)) (fun h425 => ?_) (fun h425 => ?_)
      · skip
        refine qr_aload_n 71 rfl g410 rfl ?_
        refine qr_lload_n 72 rfl g411 rfl ?_
        refine qr_callN 75 rfl rfl rfl (sf_225_86 (d := d + 0) hI417 r1) ?_
        rintro _ _ ⟨rfl, v426, rfl, hv426⟩
        show qr_W (qe L xs vb) (d + 1) qx_e234 _ (75, _, [.int (qz v426)], qw σ415 α416 κ ρ, 0, 0)
        refine qr_if_eq 96 78 rfl rfl rfl (qrg hv426 (by decide) (by decide)) (fun h427 => ?_) (fun h427 => ?_)
        · skip
          refine qr_iconst 97 rfl rfl ?_
          refine qr_retZ rfl rfl (Or.inl rfl) (by decide) (by decide) ?_
          exact ⟨_, _, rfl, hI417, hF418, 0, rfl, (by decide), by omega⟩
        · skip
          refine qr_aload_n 79 rfl g410 rfl ?_
          refine qr_get 82 rfl rfl rfl (by decide) rfl ?_
          have hs428 : 0 ≤ σ415 86 43 ∧ σ415 86 43 ≤ 32 := hI417.1 86 43
          refine qr_i2l 83 rfl (qrg hs428 (by decide) (by decide)) rfl ?_
          refine qr_lconst 84 rfl rfl ?_
          refine qy_vl 1 rfl ?_
          refine qr_iload_n 85 rfl g412 rfl ?_
          refine qr_i2l 86 rfl (qrg r2 (by decide) (by decide)) rfl ?_
          refine qr_callN 89 rfl rfl rfl (sf_176 (d := d + 0) hI417 (qrg hs428 (by decide) (by decide)) (by decide) (qrg r2 (by decide) (by decide))) ?_
          rintro _ _ ⟨rfl, v429, rfl, hv429, hp430⟩
          show qr_W (qe L xs vb) (d + 1) qx_e234 _ (89, _, [.int (qz v429)], qw σ415 α416 κ ρ, 0, 0)
          refine qr_if_eq 96 92 rfl rfl rfl (qrg hv429 (by decide) (by decide)) (fun h431 => ?_) (fun h431 => ?_)
          · skip
            refine qr_iconst 97 rfl rfl ?_
            refine qr_retZ rfl rfl (Or.inl rfl) (by decide) (by decide) ?_
            have hw432 : σ415 86 43 = (σ415 86 43) := rfl
            exact ⟨_, _, rfl, hI417, hF418, 0, rfl, (by decide), by omega⟩
          · skip
            refine qr_iconst 93 rfl rfl ?_
            refine qr_goto 97 rfl rfl ?_
            refine qr_retZ rfl rfl (Or.inr rfl) (by decide) (by decide) ?_
            have hw433 : σ415 86 43 = (σ415 86 43) := rfl
            exact ⟨_, _, rfl, hI417, hF418, 1, rfl, (by decide), by omega⟩
      · skip
        refine qr_aload_n 18 rfl g410 rfl ?_
        refine qr_lload_n 19 rfl g411 rfl ?_
        refine qr_callN 22 rfl rfl rfl (sf_225_86 (d := d + 0) hI417 r1) ?_
        rintro _ _ ⟨rfl, v434, rfl, hv434⟩
        show qr_W (qe L xs vb) (d + 1) qx_e234 _ (22, _, [.int (qz v434)], qw σ415 α416 κ ρ, 0, 0)
        refine qr_if_eq 70 25 rfl rfl rfl (qrg hv434 (by decide) (by decide)) (fun h435 => ?_) (fun h435 => ?_)
        · skip
          refine qr_aload_n 71 rfl g410 rfl ?_
          refine qr_lload_n 72 rfl g411 rfl ?_
          refine qr_callN 75 rfl rfl rfl (sf_225_86 (d := d + 0) hI417 r1) ?_
          rintro _ _ ⟨rfl, v436, rfl, hv436⟩
          show qr_W (qe L xs vb) (d + 1) qx_e234 _ (75, _, [.int (qz v436)], qw σ415 α416 κ ρ, 0, 0)
          refine qr_if_eq 96 78 rfl rfl rfl (qrg hv436 (by decide) (by decide)) (fun h437 => ?_) (fun h437 => ?_)
          · skip
            refine qr_iconst 97 rfl rfl ?_
            refine qr_retZ rfl rfl (Or.inl rfl) (by decide) (by decide) ?_
            exact ⟨_, _, rfl, hI417, hF418, 0, rfl, (by decide), by omega⟩
          · skip
            refine qr_aload_n 79 rfl g410 rfl ?_
            refine qr_get 82 rfl rfl rfl (by decide) rfl ?_
            have hs438 : 0 ≤ σ415 86 43 ∧ σ415 86 43 ≤ 32 := hI417.1 86 43
            refine qr_i2l 83 rfl (qrg hs438 (by decide) (by decide)) rfl ?_
            refine qr_lconst 84 rfl rfl ?_
            refine qy_vl 1 rfl ?_
            refine qr_iload_n 85 rfl g412 rfl ?_
            refine qr_i2l 86 rfl (qrg r2 (by decide) (by decide)) rfl ?_
            refine qr_callN 89 rfl rfl rfl (sf_176 (d := d + 0) hI417 (qrg hs438 (by decide) (by decide)) (by decide) (qrg r2 (by decide) (by decide))) ?_
            rintro _ _ ⟨rfl, v439, rfl, hv439, hp440⟩
            show qr_W (qe L xs vb) (d + 1) qx_e234 _ (89, _, [.int (qz v439)], qw σ415 α416 κ ρ, 0, 0)
            refine qr_if_eq 96 92 rfl rfl rfl (qrg hv439 (by decide) (by decide)) (fun h441 => ?_) (fun h441 => ?_)
            · skip
              refine qr_iconst 97 rfl rfl ?_
              refine qr_retZ rfl rfl (Or.inl rfl) (by decide) (by decide) ?_
              have hw442 : σ415 86 43 = (σ415 86 43) := rfl
              exact ⟨_, _, rfl, hI417, hF418, 0, rfl, (by decide), by omega⟩
            · skip
              refine qr_iconst 93 rfl rfl ?_
              refine qr_goto 97 rfl rfl ?_
              refine qr_retZ rfl rfl (Or.inr rfl) (by decide) (by decide) ?_
              have hw443 : σ415 86 43 = (σ415 86 43) := rfl
              exact ⟨_, _, rfl, hI417, hF418, 1, rfl, (by decide), by omega⟩
        · skip
          refine qr_lload_n 26 rfl g411 rfl ?_
          refine qr_aload_n 27 rfl g410 rfl ?_
          refine qr_get 30 rfl rfl rfl (by decide) rfl ?_
          have hs444 : (-9223372036854775808) ≤ σ415 86 10 ∧ σ415 86 10 ≤ 9223372036854775807 := hI417.1 86 10
          refine qr_ldc2 (-1) 33 rfl (by decide) rfl ?_
          refine qr_lxor 34 rfl rfl ?_
          refine qy_canl (fun v445 hv445 => ?_)
          refine qr_land 35 rfl rfl ?_
          refine qy_canl (fun v446 hv446 => ?_)
          refine qr_iload 37 rfl g413 rfl ?_
          refine qr_callN 40 rfl rfl rfl (sf_226 (d := d + 0) hI417 hv446 (qrg hf420 (by decide) (by decide))) ?_
          rintro _ _ ⟨rfl, v447, rfl, hv447⟩
          show qr_W (qe L xs vb) (d + 1) qx_e234 _ (40, _, [.int (qz v447)], qw σ415 α416 κ ρ, 0, 0)
          refine qr_if_eq 64 43 rfl rfl rfl (qrg hv447 (by decide) (by decide)) (fun h448 => ?_) (fun h448 => ?_)
          · skip
            refine qr_iinc _ 67 rfl g413 (by decide) rfl rfl ?_
            refine qr_goto 8 rfl rfl ?_
            exact ih424 _ (u414 + 1) σ415 α416 (by omega) (qm_gk g410 (by decide) (Or.inl (by decide))) (qm_gk g411 (by decide) (Or.inl (by decide))) (qm_gk g412 (by decide) (Or.inr rfl)) (qm_ge _ _ _) (by omega) hI417 hF418 ((hk419).trans rfl) (by omega) (by omega)
          · skip
            refine qr_aload_n 44 rfl g410 rfl ?_
            refine qr_get 47 rfl rfl rfl (by decide) rfl ?_
            refine qr_aload_n 48 rfl g410 rfl ?_
            refine qr_get 51 rfl rfl rfl (by decide) rfl ?_
            have hs449 : 0 ≤ σ415 86 43 ∧ σ415 86 43 ≤ 32 := hI417.1 86 43
            refine qr_iload 53 rfl g413 rfl ?_
            refine qr_iastore 54 rfl (by decide) rfl (by omega) (by decide) rfl ?_
            refine qy_wA (qw_r α416 110 (qzu (α416 110) ((σ415 86 43) : Int).toNat u414)) rfl (fun α450 e451 => ?_)
            have hI452 : qI σ415 α450 κ ρ := by rw [e451]; exact qI_r hI417 110 _ rfl (show 0 ≤ u414 ∧ u414 ≤ 31 by omega)
            have hF453 : qFr [(86, 43)] [110] σ α σ415 α450 := by rw [e451]; exact qFr_r hF418 110 _ (by decide)
            refine qr_aload_n 55 rfl g410 rfl ?_
            refine qr_dup 56 rfl rfl rfl ?_
            refine qr_get 59 rfl rfl rfl (by decide) rfl ?_
            refine qr_iconst 60 rfl rfl ?_
            refine qr_iadd 61 rfl rfl ?_
            refine qr_put 64 rfl (by decide) rfl (Nat.le_of_ble_eq_true rfl) (Nat.le_of_ble_eq_true rfl) (Or.inl rfl) (qr_fitI rfl _) rfl ?_
            refine qy_wS (qw_s σ415 86 43 ((σ415 86 43) + 1)) rfl (fun σ454 e455 => ?_)
            have hI456 : qI σ454 α450 κ ρ := by rw [e455]; exact qI_s hI452 86 43 rfl (show 0 ≤ ((σ415 86 43) + 1) ∧ ((σ415 86 43) + 1) ≤ 32 by omega)
            have hF457 : qFr [(86, 43)] [110] σ α σ454 α450 := by rw [e455]; exact qFr_s hF453 86 43 _ (by decide)
            refine qr_iinc _ 67 rfl g413 (by decide) rfl rfl ?_
            refine qr_goto 8 rfl rfl ?_
            exact ih424 _ (u414 + 1) σ454 α450 (by omega) (qm_gk g410 (by decide) (Or.inl (by decide))) (qm_gk g411 (by decide) (Or.inl (by decide))) (qm_gk g412 (by decide) (Or.inr rfl)) (qm_ge _ _ _) (by omega) hI456 hF457 ((congrFun (congrFun e455 86) 6).trans ((hk419).trans rfl)) (by have hw : σ454 86 43 = ((σ415 86 43) + 1) := (congrFun (congrFun e455 86) 43).trans rfl; omega) (by have hw : σ454 86 43 = ((σ415 86 43) + 1) := (congrFun (congrFun e455 86) 43).trans rfl; omega)
  exact hL423 ((32 - 0 + 1 : Int)).toNat _ 0 σ1 α (by omega) rfl rfl rfl rfl (by decide) hI3 hF4 ((congrFun (congrFun e2 86) 6).trans rfl) (by have hw : σ1 86 43 = 0 := (congrFun (congrFun e2 86) 43).trans rfl; omega) (by have hw : σ1 86 43 = 0 := (congrFun (congrFun e2 86) 43).trans rfl; omega)

set_option maxHeartbeats 4000000 in
set_option maxRecDepth 20000 in
/-- OneRoofModel.findSets -/
theorem sf_235_86 {L : Nat} {xs : Nat → Int} {vb : Bool} {d : Nat} {σ α : Nat → Nat → Int} {κ : Nat → Option Nat} {ρ : Nat} {x1 : Int} (hI : qI σ α κ ρ) (r1 : 0 ≤ x1 ∧ x1 ≤ 23999999) (p0 : 1 ≤ σ 86 6) (p1 : σ 86 43 ≤ 12) : qm_T (qe L xs vb) (d + 48) 235 [.ref 86, .int (qz x1)] (qw σ α κ ρ) (fun r w' => ∃ σ' α', w' = qw σ' α' κ ρ ∧ qI σ' α' κ ρ ∧ qFr [(86, 15), (86, 23), (86, 30), (86, 35), (86, 36), (86, 37), (86, 38), (86, 39), (86, 41)] [96, 109, 111, 112] σ α σ' α' ∧ r = none) := by
  refine qr_start (d := d + 47) qv_e235 (Nat.le_of_ble_eq_true rfl) ?_
  show qr_W (qe L xs vb) (d + 47) qx_e235 _ (0, [(0, .ref 86), (1, .int (qz x1))], [], _, 0, 0)
  have hF0 := qFr_rf [(86, 15), (86, 23), (86, 30), (86, 35), (86, 36), (86, 37), (86, 38), (86, 39), (86, 41)] [96, 109, 111, 112] σ α
  have hz86_6 : 0 ≤ σ 86 6 ∧ σ 86 6 ≤ 32 := hI.1 86 6
  have hz86_43 : 0 ≤ σ 86 43 ∧ σ 86 43 ≤ 32 := hI.1 86 43
  refine qr_iconst 1 rfl rfl ?_
  refine qr_istore_n _ 2 rfl (by decide) rfl rfl ?_
  have hL2471286 : ∀ (n : Nat) (ls : qm_L) (u2471280 : Int) (α2471282 : Nat → Nat → Int), 12 - u2471280 < (n : Int) → qm_get ls 0 = some (.ref 86) → qm_get ls 1 = some (.int (qz x1)) → qm_get ls 2 = some (.int (qz u2471280)) → (0 ≤ u2471280 ∧ u2471280 ≤ 12) → qI σ α2471282 κ ρ → qFr [(86, 15), (86, 23), (86, 30), (86, 35), (86, 36), (86, 37), (86, 38), (86, 39), (86, 41)] [96, 109, 111, 112] σ α σ α2471282 → qr_W (qe L xs vb) (d + 47) qx_e235 (fun r w' => ∃ σ' α', w' = qw σ' α' κ ρ ∧ qI σ' α' κ ρ ∧ qFr [(86, 15), (86, 23), (86, 30), (86, 35), (86, 36), (86, 37), (86, 38), (86, 39), (86, 41)] [96, 109, 111, 112] σ α σ' α' ∧ r = none) (2, ls, [], qw σ α2471282 κ ρ, 0, 0) := by
    intro n
    induction n with
    | zero => intro ls u2471280 α2471282 hm g2471277 g2471278 g2471279 hf2471285 hI2471283 hF2471284; exact False.elim (by omega)
    | succ n ih2471287 =>
      intro ls u2471280 α2471282 hm g2471277 g2471278 g2471279 hf2471285 hI2471283 hF2471284
      refine qr_iload_n 3 rfl g2471279 rfl ?_
      refine qr_aload_n 4 rfl g2471277 rfl ?_
      refine qr_get 7 rfl rfl rfl (by decide) rfl ?_
      refine qr_icmp_ge 23 10 rfl rfl rfl (qrg hf2471285 (by decide) (by decide)) (qrg hz86_43 (by decide) (by decide)) (fun h2471292 => ?_) (fun h2471292 => ?_)
      · skip
        refine qr_iconst 24 rfl rfl ?_
        refine qr_istore_n _ 25 rfl (by decide) rfl rfl ?_
        have hL2823864 : ∀ (n : Nat) (ls : qm_L) (u2823856 : Int) (σ2823857 α2823858 : Nat → Nat → Int), 12 - u2823856 < (n : Int) → qm_get ls 0 = some (.ref 86) → qm_get ls 1 = some (.int (qz x1)) → qm_get ls 2 = some (.int (qz u2823856)) → (0 ≤ u2823856 ∧ u2823856 ≤ 12) → qI σ2823857 α2823858 κ ρ → qFr [(86, 15), (86, 23), (86, 30), (86, 35), (86, 36), (86, 37), (86, 38), (86, 39), (86, 41)] [96, 109, 111, 112] σ α σ2823857 α2823858 → σ2823857 86 6 = (σ 86 6) → σ2823857 86 43 = (σ 86 43) → qr_W (qe L xs vb) (d + 47) qx_e235 (fun r w' => ∃ σ' α', w' = qw σ' α' κ ρ ∧ qI σ' α' κ ρ ∧ qFr [(86, 15), (86, 23), (86, 30), (86, 35), (86, 36), (86, 37), (86, 38), (86, 39), (86, 41)] [96, 109, 111, 112] σ α σ' α' ∧ r = none) (25, ls, [], qw σ2823857 α2823858 κ ρ, 0, 0) := by
          intro n
          induction n with
          | zero => intro ls u2823856 σ2823857 α2823858 hm g2823853 g2823854 g2823855 hf2823863 hI2823859 hF2823860 hk2823861 hk2823862; exact False.elim (by omega)
          | succ n ih2823865 =>
            intro ls u2823856 σ2823857 α2823858 hm g2823853 g2823854 g2823855 hf2823863 hI2823859 hF2823860 hk2823861 hk2823862
            refine qr_iload_n 26 rfl g2823855 rfl ?_
            refine qr_aload_n 27 rfl g2823853 rfl ?_
            refine qr_get 30 rfl rfl rfl (by decide) rfl ?_
            refine qy_v (σ 86 43) ((hk2823862).trans rfl) ?_
            refine qr_icmp_ge 96 33 rfl rfl rfl (qrg hf2823863 (by decide) (by decide)) (qrg hz86_43 (by decide) (by decide)) (fun h2825076 => ?_) (fun h2825076 => ?_)
            · skip
              refine qr_iconst 97 rfl rfl ?_
              refine qr_istore_n _ 98 rfl (by decide) rfl rfl ?_
              have hL2876223 : ∀ (n : Nat) (ls : qm_L) (u2876217 : Int) (α2876219 : Nat → Nat → Int), 4096 - u2876217 < (n : Int) → qm_get ls 0 = some (.ref 86) → qm_get ls 2 = some (.int (qz u2876217)) → (0 ≤ u2876217 ∧ u2876217 ≤ 4096) → qI σ2823857 α2876219 κ ρ → qFr [(86, 15), (86, 23), (86, 30), (86, 35), (86, 36), (86, 37), (86, 38), (86, 39), (86, 41)] [96, 109, 111, 112] σ α σ2823857 α2876219 → qr_W (qe L xs vb) (d + 47) qx_e235 (fun r w' => ∃ σ' α', w' = qw σ' α' κ ρ ∧ qI σ' α' κ ρ ∧ qFr [(86, 15), (86, 23), (86, 30), (86, 35), (86, 36), (86, 37), (86, 38), (86, 39), (86, 41)] [96, 109, 111, 112] σ α σ' α' ∧ r = none) (98, ls, [], qw σ2823857 α2876219 κ ρ, 0, 0) := by
                intro n
                induction n with
                | zero => intro ls u2876217 α2876219 hm g2876215 g2876216 hf2876222 hI2876220 hF2876221; exact False.elim (by omega)
                | succ n ih2876224 =>
                  intro ls u2876217 α2876219 hm g2876215 g2876216 hf2876222 hI2876220 hF2876221
                  refine qr_iload_n 99 rfl g2876216 rfl ?_
                  refine qr_iconst 100 rfl rfl ?_
                  refine qr_aload_n 101 rfl g2876215 rfl ?_
                  refine qr_get 104 rfl rfl rfl (by decide) rfl ?_
                  refine qy_v (σ 86 43) ((hk2823862).trans rfl) ?_
                  refine qr_ishl 105 rfl rfl ?_
                  refine qy_shl1 (N := 12) (by omega) (fun v2876225 hv2876225 => ?_)
                  refine qr_icmp_ge 186 108 rfl rfl rfl (qrg hf2876222 (by decide) (by decide)) (by omega) (fun h2876226 => ?_) (fun h2876226 => ?_)
                  · skip
                    refine qr_retV rfl rfl (by decide) (by decide) ?_
                    exact ⟨_, _, rfl, hI2876220, hF2876221, rfl⟩
                  · skip
                    refine qr_iconst 109 rfl rfl ?_
                    refine qr_istore_n _ 110 rfl (by decide) rfl rfl ?_
                    refine qr_iconst 111 rfl rfl ?_
                    refine qr_istore _ 113 rfl (by decide) rfl rfl ?_
                    have hL2877257 : ∀ (n : Nat) (ls : qm_L) (u2877252 u2877254 : Int), 12 - u2877254 < (n : Int) → qm_get ls 0 = some (.ref 86) → qm_get ls 2 = some (.int (qz u2876217)) → qm_get ls 3 = some (.int (qz u2877252)) → qm_get ls 4 = some (.int (qz u2877254)) → ((-2147483648) ≤ u2877252 ∧ u2877252 ≤ 2147483647) → (0 ≤ u2877254 ∧ u2877254 ≤ 12) → qr_W (qe L xs vb) (d + 47) qx_e235 (fun r w' => ∃ σ' α', w' = qw σ' α' κ ρ ∧ qI σ' α' κ ρ ∧ qFr [(86, 15), (86, 23), (86, 30), (86, 35), (86, 36), (86, 37), (86, 38), (86, 39), (86, 41)] [96, 109, 111, 112] σ α σ' α' ∧ r = none) (113, ls, [], qw σ2823857 α2876219 κ ρ, 0, 0) := by
                      intro n
                      induction n with
                      | zero => intro ls u2877252 u2877254 hm g2877249 g2877250 g2877251 g2877253 hf2877255 hf2877256; exact False.elim (by omega)
                      | succ n ih2877258 =>
                        intro ls u2877252 u2877254 hm g2877249 g2877250 g2877251 g2877253 hf2877255 hf2877256
                        refine qr_iload 115 rfl g2877253 rfl ?_
                        refine qr_aload_n 116 rfl g2877249 rfl ?_
                        refine qr_get 119 rfl rfl rfl (by decide) rfl ?_
                        refine qy_v (σ 86 43) ((hk2823862).trans rfl) ?_
                        have hJ2877305 : ∀ (ls : qm_L) (u2877303 : Int), qm_get ls 0 = some (.ref 86) → qm_get ls 2 = some (.int (qz u2876217)) → qm_get ls 3 = some (.int (qz u2877303)) → ((-2147483648) ≤ u2877303 ∧ u2877303 ≤ 2147483647) → qr_W (qe L xs vb) (d + 47) qx_e235 (fun r w' => ∃ σ' α', w' = qw σ' α' κ ρ ∧ qI σ' α' κ ρ ∧ qFr [(86, 15), (86, 23), (86, 30), (86, 35), (86, 36), (86, 37), (86, 38), (86, 39), (86, 41)] [96, 109, 111, 112] σ α σ' α' ∧ r = none) (173, ls, [], qw σ2823857 α2876219 κ ρ, 0, 0) := by
                          intro ls u2877303 g2877300 g2877301 g2877302 hf2877304
                          refine qr_aload_n 174 rfl g2877300 rfl ?_
                          refine qr_get 177 rfl rfl rfl (by decide) rfl ?_
                          refine qr_iload_n 178 rfl g2877301 rfl ?_
                          refine qr_iload_n 179 rfl g2877302 rfl ?_
                          refine qr_iastore 180 rfl (by decide) rfl (by omega) (by decide) rfl ?_
                          refine qy_wA (qw_r α2876219 112 (qzu (α2876219 112) (u2876217 : Int).toNat u2877303)) rfl (fun α2877306 e2877307 => ?_)
                          have hI2877308 : qI σ2823857 α2877306 κ ρ := by rw [e2877307]; exact qI_r hI2876220 112 _ rfl (show (-2147483648) ≤ u2877303 ∧ u2877303 ≤ 2147483647 by omega)
                          have hF2877309 : qFr [(86, 15), (86, 23), (86, 30), (86, 35), (86, 36), (86, 37), (86, 38), (86, 39), (86, 41)] [96, 109, 111, 112] σ α σ2823857 α2877306 := by rw [e2877307]; exact qFr_r hF2876221 112 _ (by decide)
                          refine qr_iinc _ 183 rfl g2877301 (by decide) rfl rfl ?_
                          refine qr_goto 98 rfl rfl ?_
                          exact ih2876224 _ (u2876217 + 1) α2877306 (by omega) (qm_gk g2877300 (by decide) (Or.inl (by decide))) (qm_ge _ _ _) (by omega) hI2877308 hF2877309
                        refine qr_icmp_ge 173 122 rfl rfl rfl (qrg hf2877256 (by decide) (by decide)) (qrg hz86_43 (by decide) (by decide)) (fun h2877310 => ?_) (fun h2877310 => ?_)
                        · skip
                          exact hJ2877305 _ u2877252 g2877249 g2877250 g2877251 hf2877255
                        · skip
                          refine qr_iload_n 123 rfl g2877251 rfl ?_
                          refine qr_if_lt 173 126 rfl rfl rfl hf2877255 (fun h2877311 => ?_) (fun h2877311 => ?_)
                          · skip
                            exact hJ2877305 _ u2877252 g2877249 g2877250 g2877251 hf2877255
                          · skip
                            refine qr_iload_n 127 rfl g2877250 rfl ?_
                            refine qr_iload 129 rfl g2877253 rfl ?_
                            refine qr_ishr 130 rfl rfl ?_
                            refine qy_can (fun v2877312 hv2877312 => ?_)
                            refine qr_iconst 131 rfl rfl ?_
                            refine qr_iand 132 rfl rfl ?_
                            refine qy_andr (by omega) (fun v2877313 hv2877313 => ?_)
                            refine qr_iconst 133 rfl rfl ?_
                            have hJ2877337 : ∀ (ls : qm_L) (u2877334 : Int), qm_get ls 0 = some (.ref 86) → qm_get ls 2 = some (.int (qz u2876217)) → qm_get ls 3 = some (.int (qz u2877334)) → qm_get ls 4 = some (.int (qz u2877254)) → ((-2147483648) ≤ u2877334 ∧ u2877334 ≤ 2147483647) → qr_W (qe L xs vb) (d + 47) qx_e235 (fun r w' => ∃ σ' α', w' = qw σ' α' κ ρ ∧ qI σ' α' κ ρ ∧ qFr [(86, 15), (86, 23), (86, 30), (86, 35), (86, 36), (86, 37), (86, 38), (86, 39), (86, 41)] [96, 109, 111, 112] σ α σ' α' ∧ r = none) (167, ls, [], qw σ2823857 α2876219 κ ρ, 0, 0) := by
                              intro ls u2877334 g2877331 g2877332 g2877333 g2877335 hf2877336
                              refine qr_iinc _ 170 rfl g2877335 (by decide) rfl rfl ?_
                              refine qr_goto 113 rfl rfl ?_
                              exact ih2877258 _ u2877334 (u2877254 + 1) (by omega) (qm_gk g2877331 (by decide) (Or.inl (by decide))) (qm_gk g2877332 (by decide) (Or.inl (by decide))) (qm_gk g2877333 (by decide) (Or.inr rfl)) (qm_ge _ _ _) hf2877336 (by omega)
                            refine qr_icmp_ne 167 136 rfl rfl rfl (by omega) (by decide) (fun h2877338 => ?_) (fun h2877338 => ?_)
                            · skip
                              exact hJ2877337 _ u2877252 g2877249 g2877250 g2877251 g2877253 hf2877255
                            · skip
                              refine qr_aload_n 137 rfl g2877249 rfl ?_
                              refine qr_get 140 rfl rfl rfl (by decide) rfl ?_
                              refine qr_iload 142 rfl g2877253 rfl ?_
                              refine qr_iaload 143 rfl rfl (by omega) (by decide) rfl ?_
                              refine qr_topI (fun v2877339 hv2877339 => ?_)
                              have hs2877340 : (-2147483648) ≤ v2877339 ∧ v2877339 ≤ 2147483647 := by rw [hv2877339]; exact hI2876220.2.1 111 _ (show _ < 12 by omega)
                              refine qr_iload_n 144 rfl g2877250 rfl ?_
                              refine qr_iand 145 rfl rfl ?_
                              refine qy_andr (by omega) (fun v2877341 hv2877341 => ?_)
                              have hJ2877352 : ∀ (ls : qm_L) (u2877350 : Int), qm_get ls 0 = some (.ref 86) → qm_get ls 2 = some (.int (qz u2876217)) → qm_get ls 4 = some (.int (qz u2877254)) → ((-2147483648) ≤ u2877350 ∧ u2877350 ≤ 2147483647) → qr_W (qe L xs vb) (d + 47) qx_e235 (fun r w' => ∃ σ' α', w' = qw σ' α' κ ρ ∧ qI σ' α' κ ρ ∧ qFr [(86, 15), (86, 23), (86, 30), (86, 35), (86, 36), (86, 37), (86, 38), (86, 39), (86, 41)] [96, 109, 111, 112] σ α σ' α' ∧ r = none) (166, ls, [.int (qz u2877350)], qw σ2823857 α2876219 κ ρ, 0, 0) := by
                                intro ls u2877350 g2877347 g2877348 g2877349 hf2877351
                                refine qr_istore_n _ 167 rfl (by decide) rfl rfl ?_
                                exact hJ2877337 _ u2877350 (qm_gk g2877347 (by decide) (Or.inl (by decide))) (qm_gk g2877348 (by decide) (Or.inr rfl)) (qm_ge _ _ _) (qm_gk g2877349 (by decide) (Or.inl (by decide))) hf2877351
                              refine qr_if_eq 152 148 rfl rfl rfl (by omega) (fun h2877353 => ?_) (fun h2877353 => ?_)
                              · skip
                                refine qr_iload_n 153 rfl g2877251 rfl ?_
                                refine qr_aload_n 154 rfl g2877249 rfl ?_
                                refine qr_get 157 rfl rfl rfl (by decide) rfl ?_
                                refine qr_aload_n 158 rfl g2877249 rfl ?_
                                refine qr_get 161 rfl rfl rfl (by decide) rfl ?_
                                refine qr_iload 163 rfl g2877253 rfl ?_
                                refine qr_iaload 164 rfl rfl (qrgi hf2877256 (by decide) (by decide)) (by decide) rfl ?_
                                refine qr_topI (fun v2877354 hv2877354 => ?_)
                                have hs2877355 : 0 ≤ v2877354 ∧ v2877354 ≤ 31 := by rw [hv2877354]; exact hI2876220.2.1 110 _ (show _ < 32 from qrgt hf2877256 (by decide) (by decide))
                                refine qr_iaload 165 rfl rfl (qrgi hs2877355 (by decide) (by decide)) (by decide) rfl ?_
                                refine qr_topI (fun v2877356 hv2877356 => ?_)
                                have hs2877357 : (-2147483648) ≤ v2877356 ∧ v2877356 ≤ 2147483647 := by rw [hv2877356]; exact hI2876220.2.1 92 _ (show _ < 32 from qrgt hs2877355 (by decide) (by decide))
                                refine qr_iadd 166 rfl rfl ?_
                                refine qy_can (fun v2877358 hv2877358 => ?_)
                                exact hJ2877352 _ v2877358 g2877249 g2877250 g2877253 hv2877358
                              · skip
                                refine qr_iconst 149 rfl rfl ?_
                                refine qr_goto 166 rfl rfl ?_
                                exact hJ2877352 _ (-1) g2877249 g2877250 g2877253 (by decide)
                    exact hL2877257 ((12 - 0 + 1 : Int)).toNat _ 0 0 (by omega) (qm_gk (qm_gk g2876215 (by decide) (Or.inl (by decide))) (by decide) (Or.inl (by decide))) (qm_gk (qm_gk g2876216 (by decide) (Or.inr rfl)) (by decide) (Or.inl (by decide))) (qm_gk (qm_ge _ _ _) (by decide) (Or.inr rfl)) (qm_ge _ _ _) (by decide) (by decide)
              exact hL2876223 ((4096 - 0 + 1 : Int)).toNat _ 0 α2823858 (by omega) (qm_gk g2823853 (by decide) (Or.inl (by decide))) (qm_ge _ _ _) (by decide) hI2823859 hF2823860
            · skip
              refine qr_iconst 34 rfl rfl ?_
              refine qr_istore_n _ 35 rfl (by decide) rfl rfl ?_
              have hL2878471 : ∀ (n : Nat) (ls : qm_L) (u2878463 : Int) (σ2878464 α2878465 : Nat → Nat → Int), 11 - u2878463 < (n : Int) → qm_get ls 0 = some (.ref 86) → qm_get ls 1 = some (.int (qz x1)) → qm_get ls 2 = some (.int (qz u2823856)) → qm_get ls 3 = some (.int (qz u2878463)) → (0 ≤ u2878463 ∧ u2878463 ≤ 11) → qI σ2878464 α2878465 κ ρ → qFr [(86, 15), (86, 23), (86, 30), (86, 35), (86, 36), (86, 37), (86, 38), (86, 39), (86, 41)] [96, 109, 111, 112] σ α σ2878464 α2878465 → σ2878464 86 6 = (σ 86 6) → σ2878464 86 43 = (σ 86 43) → qr_W (qe L xs vb) (d + 47) qx_e235 (fun r w' => ∃ σ' α', w' = qw σ' α' κ ρ ∧ qI σ' α' κ ρ ∧ qFr [(86, 15), (86, 23), (86, 30), (86, 35), (86, 36), (86, 37), (86, 38), (86, 39), (86, 41)] [96, 109, 111, 112] σ α σ' α' ∧ r = none) (35, ls, [], qw σ2878464 α2878465 κ ρ, 0, 0) := by
                intro n
                induction n with
                | zero => intro ls u2878463 σ2878464 α2878465 hm g2878459 g2878460 g2878461 g2878462 hf2878470 hI2878466 hF2878467 hk2878468 hk2878469; exact False.elim (by omega)
                | succ n ih2878472 =>
                  intro ls u2878463 σ2878464 α2878465 hm g2878459 g2878460 g2878461 g2878462 hf2878470 hI2878466 hF2878467 hk2878468 hk2878469
                  refine qr_iload_n 36 rfl g2878462 rfl ?_
                  refine qr_iload_n 37 rfl g2878461 rfl ?_
                  refine qr_icmp_ge 90 40 rfl rfl rfl (qrg hf2878470 (by decide) (by decide)) (qrg hf2823863 (by decide) (by decide)) (fun h2878525 => ?_) (fun h2878525 => ?_)
                  · skip
                    refine qr_iinc _ 93 rfl g2878461 (by decide) rfl rfl ?_
                    refine qr_goto 25 rfl rfl ?_
                    exact ih2823865 _ (u2823856 + 1) σ2878464 α2878465 (by omega) (qm_gk g2878459 (by decide) (Or.inl (by decide))) (qm_gk g2878460 (by decide) (Or.inr rfl)) (qm_ge _ _ _) (by omega) hI2878466 hF2878467 ((hk2878468).trans rfl) ((hk2878469).trans rfl)
                  · skip
                    refine qr_aload_n 41 rfl g2878459 rfl ?_
                    refine qr_aload_n 42 rfl g2878459 rfl ?_
                    refine qr_get 45 rfl rfl rfl (by decide) rfl ?_
                    refine qr_iload_n 46 rfl g2878462 rfl ?_
                    refine qr_iaload 47 rfl rfl (qrgi hf2878470 (by decide) (by decide)) (by decide) rfl ?_
                    refine qr_topI (fun v2878526 hv2878526 => ?_)
                    have hs2878527 : 0 ≤ v2878526 ∧ v2878526 ≤ 31 := by rw [hv2878526]; exact hI2878466.2.1 110 _ (show _ < 32 from qrgt hf2878470 (by decide) (by decide))
                    refine qr_aload_n 48 rfl g2878459 rfl ?_
                    refine qr_get 51 rfl rfl rfl (by decide) rfl ?_
                    refine qr_iload_n 52 rfl g2878461 rfl ?_
                    refine qr_iaload 53 rfl rfl (qrgi hf2823863 (by decide) (by decide)) (by decide) rfl ?_
                    refine qr_topI (fun v2878528 hv2878528 => ?_)
                    have hs2878529 : 0 ≤ v2878528 ∧ v2878528 ≤ 31 := by rw [hv2878528]; exact hI2878466.2.1 110 _ (show _ < 32 from qrgt hf2823863 (by decide) (by decide))
                    refine qr_iload_n 54 rfl g2878460 rfl ?_
                    have hs2878530 : 0 ≤ σ2878464 86 6 ∧ σ2878464 86 6 ≤ 32 := hI2878466.1 86 6
                    have hs2878531 : σ2878464 86 6 = (σ 86 6) := (hk2878468).trans rfl
                    refine qr_callN 57 rfl rfl rfl (sf_232_86 (d := d + 0) hI2878466 hs2878527 hs2878529 r1 (by omega)) ?_
                    rintro _ _ ⟨σ2878533, α2878534, rfl, hI2878535, hG2878536, v2878532, rfl, hv2878532⟩
                    have hF2878537 : qFr [(86, 15), (86, 23), (86, 30), (86, 35), (86, 36), (86, 37), (86, 38), (86, 39), (86, 41)] [96, 109, 111, 112] σ α σ2878533 α2878534 := qFr_t hF2878467 hG2878536 (by decide) (by decide)
                    show qr_W (qe L xs vb) (d + 47) qx_e235 _ (57, _, [.int (qz v2878532)], qw σ2878533 α2878534 κ ρ, 0, 0)
                    have hJ2878562 : ∀ (ls : qm_L) (α2878559 : Nat → Nat → Int), qm_get ls 0 = some (.ref 86) → qm_get ls 1 = some (.int (qz x1)) → qm_get ls 2 = some (.int (qz u2823856)) → qm_get ls 3 = some (.int (qz u2878463)) → qI σ2878533 α2878559 κ ρ → qFr [(86, 15), (86, 23), (86, 30), (86, 35), (86, 36), (86, 37), (86, 38), (86, 39), (86, 41)] [96, 109, 111, 112] σ α σ2878533 α2878559 → qr_W (qe L xs vb) (d + 47) qx_e235 (fun r w' => ∃ σ' α', w' = qw σ' α' κ ρ ∧ qI σ' α' κ ρ ∧ qFr [(86, 15), (86, 23), (86, 30), (86, 35), (86, 36), (86, 37), (86, 38), (86, 39), (86, 41)] [96, 109, 111, 112] σ α σ' α' ∧ r = none) (84, ls, [], qw σ2878533 α2878559 κ ρ, 0, 0) := by
                      intro ls α2878559 g2878554 g2878555 g2878556 g2878557 hI2878560 hF2878561
                      refine qr_iinc _ 87 rfl g2878557 (by decide) rfl rfl ?_
                      refine qr_goto 35 rfl rfl ?_
                      exact ih2878472 _ (u2878463 + 1) σ2878533 α2878559 (by omega) (qm_gk g2878554 (by decide) (Or.inl (by decide))) (qm_gk g2878555 (by decide) (Or.inl (by decide))) (qm_gk g2878556 (by decide) (Or.inr rfl)) (qm_ge _ _ _) (by omega) hI2878560 hF2878561 ((hG2878536.1 86 6 (by decide)).trans ((hk2878468).trans rfl)) ((hG2878536.1 86 43 (by decide)).trans ((hk2878469).trans rfl))
                    refine qr_if_eq 84 60 rfl rfl rfl (qrg hv2878532 (by decide) (by decide)) (fun h2878563 => ?_) (fun h2878563 => ?_)
                    · skip
                      exact hJ2878562 _ α2878534 g2878459 g2878460 g2878461 g2878462 hI2878535 hF2878537
                    · skip
                      refine qr_aload_n 61 rfl g2878459 rfl ?_
                      refine qr_get 64 rfl rfl rfl (by decide) rfl ?_
                      refine qr_iload_n 65 rfl g2878461 rfl ?_
                      refine qr_dup2 66 rfl rfl rfl rfl ?_
                      refine qr_iaload 67 rfl rfl (by omega) (by decide) rfl ?_
                      refine qr_topI (fun v2878564 hv2878564 => ?_)
                      have hs2878565 : (-2147483648) ≤ v2878564 ∧ v2878564 ≤ 2147483647 := by rw [hv2878564]; exact hI2878535.2.1 111 _ (show _ < 12 by omega)
                      refine qr_iconst 68 rfl rfl ?_
                      refine qr_iload_n 69 rfl g2878462 rfl ?_
                      refine qr_ishl 70 rfl rfl ?_
                      refine qy_shl1 (N := 10) (by omega) (fun v2878566 hv2878566 => ?_)
                      refine qr_ior 71 rfl rfl ?_
                      refine qy_can (fun v2878567 hv2878567 => ?_)
                      refine qr_iastore 72 rfl (by decide) rfl (by omega) (by decide) rfl ?_
                      refine qy_wA (qw_r α2878534 111 (qzu (α2878534 111) (u2823856 : Int).toNat v2878567)) rfl (fun α2878568 e2878569 => ?_)
                      have hI2878570 : qI σ2878533 α2878568 κ ρ := by rw [e2878569]; exact qI_r hI2878535 111 _ rfl (show (-2147483648) ≤ v2878567 ∧ v2878567 ≤ 2147483647 by omega)
                      have hF2878571 : qFr [(86, 15), (86, 23), (86, 30), (86, 35), (86, 36), (86, 37), (86, 38), (86, 39), (86, 41)] [96, 109, 111, 112] σ α σ2878533 α2878568 := by rw [e2878569]; exact qFr_r hF2878537 111 _ (by decide)
                      refine qr_aload_n 73 rfl g2878459 rfl ?_
                      refine qr_get 76 rfl rfl rfl (by decide) rfl ?_
                      refine qr_iload_n 77 rfl g2878462 rfl ?_
                      refine qr_dup2 78 rfl rfl rfl rfl ?_
                      refine qr_iaload 79 rfl rfl (qrgi hf2878470 (by decide) (by decide)) (by decide) rfl ?_
                      refine qr_topI (fun v2878572 hv2878572 => ?_)
                      have hs2878573 : (-2147483648) ≤ v2878572 ∧ v2878572 ≤ 2147483647 := by rw [hv2878572]; exact hI2878570.2.1 111 _ (show _ < 12 from qrgt hf2878470 (by decide) (by decide))
                      refine qr_iconst 80 rfl rfl ?_
                      refine qr_iload_n 81 rfl g2878461 rfl ?_
                      refine qr_ishl 82 rfl rfl ?_
                      refine qy_shl1 (N := 11) (by omega) (fun v2878574 hv2878574 => ?_)
                      refine qr_ior 83 rfl rfl ?_
                      refine qy_can (fun v2878575 hv2878575 => ?_)
                      refine qr_iastore 84 rfl (by decide) rfl (qrgi hf2878470 (by decide) (by decide)) (by decide) rfl ?_
                      refine qy_wA (qw_r α2878568 111 (qzu (α2878568 111) (u2878463 : Int).toNat v2878575)) rfl (fun α2878576 e2878577 => ?_)
                      have hI2878578 : qI σ2878533 α2878576 κ ρ := by rw [e2878577]; exact qI_r hI2878570 111 _ rfl (show (-2147483648) ≤ v2878575 ∧ v2878575 ≤ 2147483647 by omega)
                      have hF2878579 : qFr [(86, 15), (86, 23), (86, 30), (86, 35), (86, 36), (86, 37), (86, 38), (86, 39), (86, 41)] [96, 109, 111, 112] σ α σ2878533 α2878576 := by rw [e2878577]; exact qFr_r hF2878571 111 _ (by decide)
                      exact hJ2878562 _ α2878576 g2878459 g2878460 g2878461 g2878462 hI2878578 hF2878579
              exact hL2878471 ((11 - 0 + 1 : Int)).toNat _ 0 σ2823857 α2823858 (by omega) (qm_gk g2823853 (by decide) (Or.inl (by decide))) (qm_gk g2823854 (by decide) (Or.inl (by decide))) (qm_gk g2823855 (by decide) (Or.inr rfl)) (qm_ge _ _ _) (by decide) hI2823859 hF2823860 ((hk2823861).trans rfl) ((hk2823862).trans rfl)
        exact hL2823864 ((12 - 0 + 1 : Int)).toNat _ 0 σ α2471282 (by omega) (qm_gk g2471277 (by decide) (Or.inl (by decide))) (qm_gk g2471278 (by decide) (Or.inr rfl)) (qm_ge _ _ _) (by decide) hI2471283 hF2471284 (rfl) (rfl)
      · skip
        refine qr_aload_n 11 rfl g2471277 rfl ?_
        refine qr_get 14 rfl rfl rfl (by decide) rfl ?_
        refine qr_iload_n 15 rfl g2471279 rfl ?_
        refine qr_iconst 16 rfl rfl ?_
        refine qr_iastore 17 rfl (by decide) rfl (by omega) (by decide) rfl ?_
        refine qy_wA (qw_r α2471282 111 (qzu (α2471282 111) (u2471280 : Int).toNat 0)) rfl (fun α2878580 e2878581 => ?_)
        have hI2878582 : qI σ α2878580 κ ρ := by rw [e2878581]; exact qI_r hI2471283 111 _ rfl (show (-2147483648) ≤ 0 ∧ 0 ≤ 2147483647 by omega)
        have hF2878583 : qFr [(86, 15), (86, 23), (86, 30), (86, 35), (86, 36), (86, 37), (86, 38), (86, 39), (86, 41)] [96, 109, 111, 112] σ α σ α2878580 := by rw [e2878581]; exact qFr_r hF2471284 111 _ (by decide)
        refine qr_iinc _ 20 rfl g2471279 (by decide) rfl rfl ?_
        refine qr_goto 2 rfl rfl ?_
        exact ih2471287 _ (u2471280 + 1) α2878580 (by omega) (qm_gk g2471277 (by decide) (Or.inl (by decide))) (qm_gk g2471278 (by decide) (Or.inr rfl)) (qm_ge _ _ _) (by omega) hI2878582 hF2878583
  exact hL2471286 ((12 - 0 + 1 : Int)).toNat _ 0 α (by omega) rfl rfl rfl (by decide) hI hF0

set_option maxHeartbeats 4000000 in
set_option maxRecDepth 20000 in
/-- OneRoofModel.most -/
theorem sf_233_86 {L : Nat} {xs : Nat → Int} {vb : Bool} {d : Nat} {σ α : Nat → Nat → Int} {κ : Nat → Option Nat} {ρ : Nat} {x1 : Int} {x2 : Int} {x3 : Int} (hI : qI σ α κ ρ) (r1 : (-9223372036854775808) ≤ x1 ∧ x1 ≤ 9223372036854775807) (r2 : (-9223372036854775808) ≤ x2 ∧ x2 ≤ 9223372036854775807) (r3 : (-2147483648) ≤ x3 ∧ x3 ≤ 2147483647) : qm_T (qe L xs vb) (d + 49) 233 [.ref 86, .long (ql x1), .long (ql x2), .int (qz x3)] (qw σ α κ ρ) (fun r w' => ∃ σ' α', w' = qw σ' α' κ ρ ∧ qI σ' α' κ ρ ∧ qFr [(86, 15), (86, 23), (86, 30), (86, 35), (86, 36), (86, 37), (86, 38), (86, 39), (86, 41), (86, 43)] [96, 109, 110, 111, 112] σ α σ' α' ∧ ∃ v : Int, r = some (.long (ql v)) ∧ ((-9223372036854775808) ≤ v ∧ v ≤ 9223372036854775807)) := by
  refine qr_start (d := d + 48) qv_e233 (Nat.le_of_ble_eq_true rfl) ?_
  show qr_W (qe L xs vb) (d + 48) qx_e233 _ (0, [(0, .ref 86), (1, .long (ql x1)), (3, .long (ql x2)), (5, .int (qz x3))], [], _, 0, 0)
  have hF0 := qFr_rf [(86, 15), (86, 23), (86, 30), (86, 35), (86, 36), (86, 37), (86, 38), (86, 39), (86, 41), (86, 43)] [96, 109, 110, 111, 112] σ α
  have hz86_6 : 0 ≤ σ 86 6 ∧ σ 86 6 ≤ 32 := hI.1 86 6
  refine qr_iload 2 rfl rfl rfl ?_
  refine qr_callN 5 rfl rfl rfl (sf_230 (d := d + 45) hI r3) ?_
  rintro _ _ ⟨rfl, v1, rfl, hv1, hp2⟩
  show qr_W (qe L xs vb) (d + 48) qx_e233 _ (5, _, [.int (qz v1)], qw σ α κ ρ, 0, 0)
  refine qr_if_eq 38 8 rfl rfl rfl (qrg hv1 (by decide) (by decide)) (fun h3 => ?_) (fun h3 => ?_)
  · skip
    refine qr_ldc2 (-1) 41 rfl (by decide) rfl ?_
    refine qr_retL rfl rfl (by decide) (by decide) ?_
    exact ⟨_, _, rfl, hI, hF0, (-1), rfl, (by decide)⟩
  · skip
    refine qr_aload_n 9 rfl rfl rfl ?_
    refine qr_lload_n 10 rfl rfl rfl ?_
    refine qr_callN 13 rfl rfl rfl (sf_225_86 (d := d + 47) hI r2) ?_
    rintro _ _ ⟨rfl, v4, rfl, hv4⟩
    show qr_W (qe L xs vb) (d + 48) qx_e233 _ (13, _, [.int (qz v4)], qw σ α κ ρ, 0, 0)
    refine qr_if_eq 38 16 rfl rfl rfl (qrg hv4 (by decide) (by decide)) (fun h5 => ?_) (fun h5 => ?_)
    · skip
      refine qr_ldc2 (-1) 41 rfl (by decide) rfl ?_
      refine qr_retL rfl rfl (by decide) (by decide) ?_
      exact ⟨_, _, rfl, hI, hF0, (-1), rfl, (by decide)⟩
    · skip
      refine qr_lload_n 17 rfl rfl rfl ?_
      refine qr_lload_n 18 rfl rfl rfl ?_
      refine qr_ldc2 (-1) 21 rfl (by decide) rfl ?_
      refine qr_lxor 22 rfl rfl ?_
      refine qy_canl (fun v6 hv6 => ?_)
      refine qr_land 23 rfl rfl ?_
      refine qy_canl (fun v7 hv7 => ?_)
      refine qr_lconst 24 rfl rfl ?_
      refine qy_vl 0 rfl ?_
      refine qr_lc_ne 38 28 rfl rfl rfl rfl hv7 (by decide) (fun h8 => ?_) (fun h8 => ?_)
      · skip
        refine qr_ldc2 (-1) 41 rfl (by decide) rfl ?_
        refine qr_retL rfl rfl (by decide) (by decide) ?_
        exact ⟨_, _, rfl, hI, hF0, (-1), rfl, (by decide)⟩
      · skip
        refine qr_aload_n 29 rfl rfl rfl ?_
        refine qr_lload_n 30 rfl rfl rfl ?_
        refine qr_bipush 32 rfl (by decide) rfl ?_
        refine qr_callN 35 rfl rfl rfl (sf_234_86p (d := d + 46) hI r1 (by decide)) ?_
        have hs11 : 0 ≤ σ 86 6 ∧ σ 86 6 ≤ 32 := hI.1 86 6
        rintro _ _ ⟨σ12, α13, rfl, hI14, hG15, v9, rfl, hv9, hp10⟩
        have hF16 : qFr [(86, 15), (86, 23), (86, 30), (86, 35), (86, 36), (86, 37), (86, 38), (86, 39), (86, 41), (86, 43)] [96, 109, 110, 111, 112] σ α σ12 α13 := qFr_t hF0 hG15 (by decide) (by decide)
        have hs17 : 0 ≤ σ12 86 43 ∧ σ12 86 43 ≤ 32 := hI14.1 86 43
        show qr_W (qe L xs vb) (d + 48) qx_e233 _ (35, _, [.int (qz v9)], qw σ12 α13 κ ρ, 0, 0)
        refine qr_if_ne 42 38 rfl rfl rfl (qrg hv9 (by decide) (by decide)) (fun h18 => ?_) (fun h18 => ?_)
        · skip
          refine qr_aload_n 43 rfl rfl rfl ?_
          refine qr_iload 45 rfl rfl rfl ?_
          have hs19 : 0 ≤ σ12 86 43 ∧ σ12 86 43 ≤ 32 := hI14.1 86 43
          have hs20 : 0 ≤ σ12 86 6 ∧ σ12 86 6 ≤ 32 := hI14.1 86 6
          have hs21 : σ12 86 6 = (σ 86 6) := (hG15.1 86 6 (by decide)).trans rfl
          refine qr_callN 48 rfl rfl rfl (sf_235_86 (d := d + 0) hI14 (by omega) (by omega) (by omega)) ?_
          rintro _ _ ⟨σ22, α23, rfl, hI24, hG25, rfl⟩
          have hF26 : qFr [(86, 15), (86, 23), (86, 30), (86, 35), (86, 36), (86, 37), (86, 38), (86, 39), (86, 41), (86, 43)] [96, 109, 110, 111, 112] σ α σ22 α23 := qFr_t hF16 hG25 (by decide) (by decide)
          show qr_W (qe L xs vb) (d + 48) qx_e233 _ (48, _, [], qw σ22 α23 κ ρ, 0, 0)
          refine qr_iconst 49 rfl rfl ?_
          refine qr_istore _ 51 rfl (by decide) rfl rfl ?_
          refine qr_iconst 52 rfl rfl ?_
          refine qr_istore _ 54 rfl (by decide) rfl rfl ?_
          have hL46673 : ∀ (n : Nat) (ls : qm_L) (u46668 u46670 : Int), 12 - u46670 < (n : Int) → qm_get ls 0 = some (.ref 86) → qm_get ls 3 = some (.long (ql x2)) → qm_get ls 6 = some (.int (qz u46668)) → qm_get ls 7 = some (.int (qz u46670)) → ((-2147483648) ≤ u46668 ∧ u46668 ≤ 2147483647) → (0 ≤ u46670 ∧ u46670 ≤ 12) → qr_W (qe L xs vb) (d + 48) qx_e233 (fun r w' => ∃ σ' α', w' = qw σ' α' κ ρ ∧ qI σ' α' κ ρ ∧ qFr [(86, 15), (86, 23), (86, 30), (86, 35), (86, 36), (86, 37), (86, 38), (86, 39), (86, 41), (86, 43)] [96, 109, 110, 111, 112] σ α σ' α' ∧ ∃ v : Int, r = some (.long (ql v)) ∧ ((-9223372036854775808) ≤ v ∧ v ≤ 9223372036854775807)) (54, ls, [], qw σ22 α23 κ ρ, 0, 0) := by
            intro n
            induction n with
            | zero => intro ls u46668 u46670 hm g46665 g46666 g46667 g46669 hf46671 hf46672; exact False.elim (by omega)
            | succ n ih46674 =>
              intro ls u46668 u46670 hm g46665 g46666 g46667 g46669 hf46671 hf46672
              refine qr_iload 56 rfl g46669 rfl ?_
              refine qr_aload_n 57 rfl g46665 rfl ?_
              refine qr_get 60 rfl rfl rfl (by decide) rfl ?_
              refine qy_v (σ12 86 43) ((hG25.1 86 43 (by decide)).trans rfl) ?_
              refine qr_icmp_ge 96 63 rfl rfl rfl (qrg hf46672 (by decide) (by decide)) (by omega) (fun h46685 => ?_) (fun h46685 => ?_)
              · skip
                refine qr_iconst 97 rfl rfl ?_
                refine qr_istore _ 99 rfl (by decide) rfl rfl ?_
                refine qr_iconst 100 rfl rfl ?_
                refine qr_istore _ 102 rfl (by decide) rfl rfl ?_
                have hL53190 : ∀ (n : Nat) (ls : qm_L) (u53185 u53187 : Int), 4096 - u53187 < (n : Int) → qm_get ls 0 = some (.ref 86) → qm_get ls 6 = some (.int (qz u46668)) → qm_get ls 7 = some (.int (qz u53185)) → qm_get ls 8 = some (.int (qz u53187)) → ((-1) ≤ u53185 ∧ u53185 ≤ 4095) → (0 ≤ u53187 ∧ u53187 ≤ 4096) → qr_W (qe L xs vb) (d + 48) qx_e233 (fun r w' => ∃ σ' α', w' = qw σ' α' κ ρ ∧ qI σ' α' κ ρ ∧ qFr [(86, 15), (86, 23), (86, 30), (86, 35), (86, 36), (86, 37), (86, 38), (86, 39), (86, 41), (86, 43)] [96, 109, 110, 111, 112] σ α σ' α' ∧ ∃ v : Int, r = some (.long (ql v)) ∧ ((-9223372036854775808) ≤ v ∧ v ≤ 9223372036854775807)) (102, ls, [], qw σ22 α23 κ ρ, 0, 0) := by
                  intro n
                  induction n with
                  | zero => intro ls u53185 u53187 hm g53182 g53183 g53184 g53186 hf53188 hf53189; exact False.elim (by omega)
                  | succ n ih53191 =>
                    intro ls u53185 u53187 hm g53182 g53183 g53184 g53186 hf53188 hf53189
                    refine qr_iload 104 rfl g53186 rfl ?_
                    refine qr_iconst 105 rfl rfl ?_
                    refine qr_aload_n 106 rfl g53182 rfl ?_
                    refine qr_get 109 rfl rfl rfl (by decide) rfl ?_
                    refine qy_v (σ12 86 43) ((hG25.1 86 43 (by decide)).trans rfl) ?_
                    refine qr_ishl 110 rfl rfl ?_
                    refine qy_shl1 (N := 12) (by omega) (fun v53192 hv53192 => ?_)
                    refine qr_icmp_ge 215 113 rfl rfl rfl (qrg hf53189 (by decide) (by decide)) (by omega) (fun h53262 => ?_) (fun h53262 => ?_)
                    · skip
                      refine qr_iload 217 rfl g53184 rfl ?_
                      refine qr_if_ge 226 220 rfl rfl rfl (qrg hf53188 (by decide) (by decide)) (fun h53263 => ?_) (fun h53263 => ?_)
                      · skip
                        refine qr_aload_n 227 rfl g53182 rfl ?_
                        refine qr_iload 229 rfl g53184 rfl ?_
                        refine qr_callN 232 rfl rfl rfl (sf_237_86 (d := d + 47) hI24 (qrg hf53188 (by decide) (by decide))) ?_
                        rintro _ _ ⟨rfl, v53264, rfl, hv53264⟩
                        show qr_W (qe L xs vb) (d + 48) qx_e233 _ (232, _, [.long (ql v53264)], qw σ22 α23 κ ρ, 0, 0)
                        refine qr_retL rfl rfl (by decide) (by decide) ?_
                        exact ⟨_, _, rfl, hI24, hF26, v53264, rfl, hv53264⟩
                      · skip
                        refine qr_ldc2 (-2) 223 rfl (by decide) rfl ?_
                        refine qr_goto 232 rfl rfl ?_
                        refine qr_retL rfl rfl (by decide) (by decide) ?_
                        exact ⟨_, _, rfl, hI24, hF26, (-2), rfl, (by decide)⟩
                    · skip
                      refine qr_aload_n 114 rfl g53182 rfl ?_
                      refine qr_get 117 rfl rfl rfl (by decide) rfl ?_
                      refine qr_iload 119 rfl g53186 rfl ?_
                      refine qr_iaload 120 rfl rfl (by omega) (by decide) rfl ?_
                      refine qr_topI (fun v53265 hv53265 => ?_)
                      have hs53266 : (-2147483648) ≤ v53265 ∧ v53265 ≤ 2147483647 := by rw [hv53265]; exact hI24.2.1 112 _ (show _ < 4096 by omega)
                      have hJ53304 : ∀ (ls : qm_L) (u53301 : Int), qm_get ls 0 = some (.ref 86) → qm_get ls 6 = some (.int (qz u46668)) → qm_get ls 7 = some (.int (qz u53301)) → qm_get ls 8 = some (.int (qz u53187)) → ((-1) ≤ u53301 ∧ u53301 ≤ 4095) → qr_W (qe L xs vb) (d + 48) qx_e233 (fun r w' => ∃ σ' α', w' = qw σ' α' κ ρ ∧ qI σ' α' κ ρ ∧ qFr [(86, 15), (86, 23), (86, 30), (86, 35), (86, 36), (86, 37), (86, 38), (86, 39), (86, 41), (86, 43)] [96, 109, 110, 111, 112] σ α σ' α' ∧ ∃ v : Int, r = some (.long (ql v)) ∧ ((-9223372036854775808) ≤ v ∧ v ≤ 9223372036854775807)) (209, ls, [], qw σ22 α23 κ ρ, 0, 0) := by
                        intro ls u53301 g53298 g53299 g53300 g53302 hf53303
                        refine qr_iinc _ 212 rfl g53302 (by decide) rfl rfl ?_
                        refine qr_goto 102 rfl rfl ?_
                        exact ih53191 _ u53301 (u53187 + 1) (by omega) (qm_gk g53298 (by decide) (Or.inl (by decide))) (qm_gk g53299 (by decide) (Or.inl (by decide))) (qm_gk g53300 (by decide) (Or.inr rfl)) (qm_ge _ _ _) hf53303 (by omega)
                      refine qr_if_lt 209 123 rfl rfl rfl hs53266 (fun h53305 => ?_) (fun h53305 => ?_)
                      · skip
                        exact hJ53304 _ u53185 g53182 g53183 g53184 g53186 hf53188
                      · skip
                        refine qr_iload 125 rfl g53183 rfl ?_
                        refine qr_iload 127 rfl g53186 rfl ?_
                        refine qr_iconst 128 rfl rfl ?_
                        refine qr_ixor 129 rfl rfl ?_
                        refine qy_can (fun v53306 hv53306 => ?_)
                        refine qr_iand 130 rfl rfl ?_
                        refine qy_can (fun v53307 hv53307 => ?_)
                        refine qr_if_eq 136 133 rfl rfl rfl hv53307 (fun h53308 => ?_) (fun h53308 => ?_)
                        · skip
                          refine qr_iload 138 rfl g53184 rfl ?_
                          have hJ53325 : ∀ (ls : qm_L) (u53323 : Int), qm_get ls 0 = some (.ref 86) → qm_get ls 6 = some (.int (qz u46668)) → qm_get ls 7 = some (.int (qz u53185)) → qm_get ls 8 = some (.int (qz u53187)) → (0 ≤ u53323 ∧ u53323 ≤ 1) → qr_W (qe L xs vb) (d + 48) qx_e233 (fun r w' => ∃ σ' α', w' = qw σ' α' κ ρ ∧ qI σ' α' κ ρ ∧ qFr [(86, 15), (86, 23), (86, 30), (86, 35), (86, 36), (86, 37), (86, 38), (86, 39), (86, 41), (86, 43)] [96, 109, 110, 111, 112] σ α σ' α' ∧ ∃ v : Int, r = some (.long (ql v)) ∧ ((-9223372036854775808) ≤ v ∧ v ≤ 9223372036854775807)) (193, ls, [.int (qz u53323)], qw σ22 α23 κ ρ, 0, 0) := by
                            intro ls u53323 g53319 g53320 g53321 g53322 hf53324
                            refine qr_istore _ 195 rfl (by decide) rfl rfl ?_
                            refine qr_iload 197 rfl (qm_ge _ _ _) rfl ?_
                            have hJ53331 : ∀ (ls : qm_L) (u53329 : Int), qm_get ls 0 = some (.ref 86) → qm_get ls 6 = some (.int (qz u46668)) → qm_get ls 8 = some (.int (qz u53187)) → ((-1) ≤ u53329 ∧ u53329 ≤ 4095) → qr_W (qe L xs vb) (d + 48) qx_e233 (fun r w' => ∃ σ' α', w' = qw σ' α' κ ρ ∧ qI σ' α' κ ρ ∧ qFr [(86, 15), (86, 23), (86, 30), (86, 35), (86, 36), (86, 37), (86, 38), (86, 39), (86, 41), (86, 43)] [96, 109, 110, 111, 112] σ α σ' α' ∧ ∃ v : Int, r = some (.long (ql v)) ∧ ((-9223372036854775808) ≤ v ∧ v ≤ 9223372036854775807)) (207, ls, [.int (qz u53329)], qw σ22 α23 κ ρ, 0, 0) := by
                              intro ls u53329 g53326 g53327 g53328 hf53330
                              refine qr_istore _ 209 rfl (by decide) rfl rfl ?_
                              exact hJ53304 _ u53329 (qm_gk g53326 (by decide) (Or.inl (by decide))) (qm_gk g53327 (by decide) (Or.inr rfl)) (qm_ge _ _ _) (qm_gk g53328 (by decide) (Or.inl (by decide))) hf53330
                            refine qr_if_eq 205 200 rfl rfl rfl (qrg hf53324 (by decide) (by decide)) (fun h53332 => ?_) (fun h53332 => ?_)
                            · skip
                              refine qr_iload 207 rfl (qm_gk g53321 (by decide) (Or.inl (by decide))) rfl ?_
                              exact hJ53331 _ u53185 (qm_gk g53319 (by decide) (Or.inl (by decide))) (qm_gk g53320 (by decide) (Or.inl (by decide))) (qm_gk g53322 (by decide) (Or.inr rfl)) hf53188
                            · skip
                              refine qr_iload 202 rfl (qm_gk g53322 (by decide) (Or.inr rfl)) rfl ?_
                              refine qr_goto 207 rfl rfl ?_
                              exact hJ53331 _ u53187 (qm_gk g53319 (by decide) (Or.inl (by decide))) (qm_gk g53320 (by decide) (Or.inl (by decide))) (qm_gk g53322 (by decide) (Or.inr rfl)) (by omega)
                          refine qr_if_lt 188 141 rfl rfl rfl (qrg hf53188 (by decide) (by decide)) (fun h53333 => ?_) (fun h53333 => ?_)
                          · skip
                            refine qr_iconst 189 rfl rfl ?_
                            refine qr_goto 193 rfl rfl ?_
                            exact hJ53325 _ 1 g53182 g53183 g53184 g53186 (by decide)
                          · skip
                            refine qr_aload_n 142 rfl g53182 rfl ?_
                            refine qr_get 145 rfl rfl rfl (by decide) rfl ?_
                            refine qr_iload 147 rfl g53186 rfl ?_
                            refine qr_iaload 148 rfl rfl (by omega) (by decide) rfl ?_
                            refine qr_topI (fun v53334 hv53334 => ?_)
                            have hs53335 : (-2147483648) ≤ v53334 ∧ v53334 ≤ 2147483647 := by rw [hv53334]; exact hI24.2.1 112 _ (show _ < 4096 by omega)
                            refine qr_aload_n 149 rfl g53182 rfl ?_
                            refine qr_get 152 rfl rfl rfl (by decide) rfl ?_
                            refine qr_iload 154 rfl g53184 rfl ?_
                            refine qr_iaload 155 rfl rfl (by omega) (by decide) rfl ?_
                            refine qr_topI (fun v53336 hv53336 => ?_)
                            have hs53337 : (-2147483648) ≤ v53336 ∧ v53336 ≤ 2147483647 := by rw [hv53336]; exact hI24.2.1 112 _ (show _ < 4096 from qrgt hf53188 (by decide) (by decide))
                            refine qr_icmp_gt 188 158 rfl rfl rfl hs53335 hs53337 (fun h53338 => ?_) (fun h53338 => ?_)
                            · skip
                              refine qr_iconst 189 rfl rfl ?_
                              refine qr_goto 193 rfl rfl ?_
                              exact hJ53325 _ 1 g53182 g53183 g53184 g53186 (by decide)
                            · skip
                              refine qr_aload_n 159 rfl g53182 rfl ?_
                              refine qr_get 162 rfl rfl rfl (by decide) rfl ?_
                              refine qr_iload 164 rfl g53186 rfl ?_
                              refine qr_iaload 165 rfl rfl (by omega) (by decide) rfl ?_
                              refine qr_topI (fun v53339 hv53339 => ?_)
                              have hs53340 : (-2147483648) ≤ v53339 ∧ v53339 ≤ 2147483647 := by rw [hv53339]; exact hI24.2.1 112 _ (show _ < 4096 by omega)
                              refine qr_aload_n 166 rfl g53182 rfl ?_
                              refine qr_get 169 rfl rfl rfl (by decide) rfl ?_
                              refine qr_iload 171 rfl g53184 rfl ?_
                              refine qr_iaload 172 rfl rfl (by omega) (by decide) rfl ?_
                              refine qr_topI (fun v53341 hv53341 => ?_)
                              have hs53342 : (-2147483648) ≤ v53341 ∧ v53341 ≤ 2147483647 := by rw [hv53341]; exact hI24.2.1 112 _ (show _ < 4096 from qrgt hf53188 (by decide) (by decide))
                              refine qr_icmp_ne 192 175 rfl rfl rfl hs53340 hs53342 (fun h53343 => ?_) (fun h53343 => ?_)
                              · skip
                                refine qr_iconst 193 rfl rfl ?_
                                exact hJ53325 _ 0 g53182 g53183 g53184 g53186 (by decide)
                              · skip
                                refine qr_iload 177 rfl g53186 rfl ?_
                                refine qr_callN 180 rfl rfl rfl (sf_236 (d := d + 47) hI24 (qrg hf53189 (by decide) (by decide))) ?_
                                rintro _ _ ⟨rfl, v53344, rfl, hv53344⟩
                                show qr_W (qe L xs vb) (d + 48) qx_e233 _ (180, _, [.int (qz v53344)], qw σ22 α23 κ ρ, 0, 0)
                                refine qr_iload 182 rfl g53184 rfl ?_
                                refine qr_callN 185 rfl rfl rfl (sf_236 (d := d + 47) hI24 (qrg hf53188 (by decide) (by decide))) ?_
                                rintro _ _ ⟨rfl, v53345, rfl, hv53345⟩
                                show qr_W (qe L xs vb) (d + 48) qx_e233 _ (185, _, [.int (qz v53345), .int (qz v53344)], qw σ22 α23 κ ρ, 0, 0)
                                refine qr_icmp_le 192 188 rfl rfl rfl hv53344 hv53345 (fun h53346 => ?_) (fun h53346 => ?_)
                                · skip
                                  refine qr_iconst 193 rfl rfl ?_
                                  exact hJ53325 _ 0 g53182 g53183 g53184 g53186 (by decide)
                                · skip
                                  refine qr_iconst 189 rfl rfl ?_
                                  refine qr_goto 193 rfl rfl ?_
                                  exact hJ53325 _ 1 g53182 g53183 g53184 g53186 (by decide)
                        · skip
                          refine qr_goto 209 rfl rfl ?_
                          exact hJ53304 _ u53185 g53182 g53183 g53184 g53186 hf53188
                exact hL53190 ((4096 - 0 + 1 : Int)).toNat _ (-1) 0 (by omega) (qm_gk (qm_gk g46665 (by decide) (Or.inl (by decide))) (by decide) (Or.inl (by decide))) (qm_gk (qm_gk g46667 (by decide) (Or.inr rfl)) (by decide) (Or.inl (by decide))) (qm_gk (qm_ge _ _ _) (by decide) (Or.inr rfl)) (qm_ge _ _ _) (by decide) (by decide)
              · skip
                refine qr_iload 65 rfl g46667 rfl ?_
                refine qr_lload_n 66 rfl g46666 rfl ?_
                refine qr_aload_n 67 rfl g46665 rfl ?_
                refine qr_get 70 rfl rfl rfl (by decide) rfl ?_
                refine qr_iload 72 rfl g46669 rfl ?_
                refine qr_iaload 73 rfl rfl (qrgi hf46672 (by decide) (by decide)) (by decide) rfl ?_
                refine qr_topI (fun v53347 hv53347 => ?_)
                have hs53348 : 0 ≤ v53347 ∧ v53347 ≤ 31 := by rw [hv53347]; exact hI24.2.1 110 _ (show _ < 32 from qrgt hf46672 (by decide) (by decide))
                refine qr_callN 76 rfl rfl rfl (sf_226 (d := d + 47) hI24 r2 (qrg hs53348 (by decide) (by decide))) ?_
                rintro _ _ ⟨rfl, v53349, rfl, hv53349⟩
                show qr_W (qe L xs vb) (d + 48) qx_e233 _ (76, _, [.int (qz v53349), .int (qz u46668)], qw σ22 α23 κ ρ, 0, 0)
                have hJ53356 : ∀ (ls : qm_L) (u53354 : Int), qm_get ls 0 = some (.ref 86) → qm_get ls 3 = some (.long (ql x2)) → qm_get ls 7 = some (.int (qz u46670)) → (0 ≤ u53354 ∧ u53354 ≤ 2048) → qr_W (qe L xs vb) (d + 48) qx_e233 (fun r w' => ∃ σ' α', w' = qw σ' α' κ ρ ∧ qI σ' α' κ ρ ∧ qFr [(86, 15), (86, 23), (86, 30), (86, 35), (86, 36), (86, 37), (86, 38), (86, 39), (86, 41), (86, 43)] [96, 109, 110, 111, 112] σ α σ' α' ∧ ∃ v : Int, r = some (.long (ql v)) ∧ ((-9223372036854775808) ≤ v ∧ v ≤ 9223372036854775807)) (87, ls, [.int (qz u53354), .int (qz u46668)], qw σ22 α23 κ ρ, 0, 0) := by
                  intro ls u53354 g53351 g53352 g53353 hf53355
                  refine qr_ior 88 rfl rfl ?_
                  refine qy_can (fun v53357 hv53357 => ?_)
                  refine qr_istore _ 90 rfl (by decide) rfl rfl ?_
                  refine qr_iinc _ 93 rfl (qm_gk g53353 (by decide) (Or.inl (by decide))) (by decide) rfl rfl ?_
                  refine qr_goto 54 rfl rfl ?_
                  exact ih46674 _ v53357 (u46670 + 1) (by omega) (qm_gk (qm_gk g53351 (by decide) (Or.inl (by decide))) (by decide) (Or.inl (by decide))) (qm_gk (qm_gk g53352 (by decide) (Or.inl (by decide))) (by decide) (Or.inl (by decide))) (qm_gk (qm_ge _ _ _) (by decide) (Or.inr rfl)) (qm_ge _ _ _) hv53357 (by omega)
                refine qr_if_eq 86 79 rfl rfl rfl (qrg hv53349 (by decide) (by decide)) (fun h53358 => ?_) (fun h53358 => ?_)
                · skip
                  refine qr_iconst 87 rfl rfl ?_
                  exact hJ53356 _ 0 g46665 g46666 g46669 (by decide)
                · skip
                  refine qr_iconst 80 rfl rfl ?_
                  refine qr_iload 82 rfl g46669 rfl ?_
                  refine qr_ishl 83 rfl rfl ?_
                  refine qy_shl1 (N := 11) (by omega) (fun v53359 hv53359 => ?_)
                  refine qr_goto 87 rfl rfl ?_
                  exact hJ53356 _ v53359 g46665 g46666 g46669 (by omega)
          exact hL46673 ((12 - 0 + 1 : Int)).toNat _ 0 0 (by omega) rfl rfl rfl rfl (by decide) (by decide)
        · skip
          refine qr_ldc2 (-1) 41 rfl (by decide) rfl ?_
          refine qr_retL rfl rfl (by decide) (by decide) ?_
          exact ⟨_, _, rfl, hI14, hF16, (-1), rfl, (by decide)⟩

set_option maxHeartbeats 4000000 in
set_option maxRecDepth 20000 in
/-- OneRoofModel.rooms -/
theorem sf_238_86 {L : Nat} {xs : Nat → Int} {vb : Bool} {d : Nat} {σ α : Nat → Nat → Int} {κ : Nat → Option Nat} {ρ : Nat} {x1 : Int} {x2 : Int} {x3 : Int} (hI : qI σ α κ ρ) (r1 : (-9223372036854775808) ≤ x1 ∧ x1 ≤ 9223372036854775807) (r2 : (-2147483648) ≤ x2 ∧ x2 ≤ 2147483647) (r3 : (-2147483648) ≤ x3 ∧ x3 ≤ 2147483647) : qm_T (qe L xs vb) (d + 49) 238 [.ref 86, .long (ql x1), .int (qz x2), .int (qz x3)] (qw σ α κ ρ) (fun r w' => ∃ σ' α', w' = qw σ' α' κ ρ ∧ qI σ' α' κ ρ ∧ qFr [(86, 15), (86, 23), (86, 30), (86, 35), (86, 36), (86, 37), (86, 38), (86, 39), (86, 41), (86, 43)] [96, 109, 110, 111, 112] σ α σ' α' ∧ ∃ v : Int, r = some (.long (ql v)) ∧ ((-9223372036854775808) ≤ v ∧ v ≤ 9223372036854775807)) := by
  refine qr_start (d := d + 48) qv_e238 (Nat.le_of_ble_eq_true rfl) ?_
  show qr_W (qe L xs vb) (d + 48) qx_e238 _ (0, [(0, .ref 86), (1, .long (ql x1)), (3, .int (qz x2)), (4, .int (qz x3))], [], _, 0, 0)
  have hF0 := qFr_rf [(86, 15), (86, 23), (86, 30), (86, 35), (86, 36), (86, 37), (86, 38), (86, 39), (86, 41), (86, 43)] [96, 109, 110, 111, 112] σ α
  have hz86_6 : 0 ≤ σ 86 6 ∧ σ 86 6 ≤ 32 := hI.1 86 6
  refine qr_iload_n 1 rfl rfl rfl ?_
  refine qr_callN 4 rfl rfl rfl (sf_230 (d := d + 45) hI r2) ?_
  rintro _ _ ⟨rfl, v1, rfl, hv1, hp2⟩
  show qr_W (qe L xs vb) (d + 48) qx_e238 _ (4, _, [.int (qz v1)], qw σ α κ ρ, 0, 0)
  refine qr_if_eq 28 7 rfl rfl rfl (qrg hv1 (by decide) (by decide)) (fun h3 => ?_) (fun h3 => ?_)
  · skip
    refine qr_ldc2 (-1) 31 rfl (by decide) rfl ?_
    refine qr_retL rfl rfl (by decide) (by decide) ?_
    exact ⟨_, _, rfl, hI, hF0, (-1), rfl, (by decide)⟩
  · skip
    refine qr_iload 9 rfl rfl rfl ?_
    refine qr_i2l 10 rfl r3 rfl ?_
    refine qr_lconst 11 rfl rfl ?_
    refine qy_vl 0 rfl ?_
    refine qr_lconst 12 rfl rfl ?_
    refine qy_vl 1 rfl ?_
    refine qr_callN 15 rfl rfl rfl (sf_176 (d := d + 47) hI (qrg r3 (by decide) (by decide)) (by decide) (by decide)) ?_
    rintro _ _ ⟨rfl, v4, rfl, hv4, hp5⟩
    show qr_W (qe L xs vb) (d + 48) qx_e238 _ (15, _, [.int (qz v4)], qw σ α κ ρ, 0, 0)
    refine qr_if_eq 28 18 rfl rfl rfl (qrg hv4 (by decide) (by decide)) (fun h6 => ?_) (fun h6 => ?_)
    · skip
      refine qr_ldc2 (-1) 31 rfl (by decide) rfl ?_
      refine qr_retL rfl rfl (by decide) (by decide) ?_
      exact ⟨_, _, rfl, hI, hF0, (-1), rfl, (by decide)⟩
    · skip
      refine qr_aload_n 19 rfl rfl rfl ?_
      refine qr_lload_n 20 rfl rfl rfl ?_
      refine qr_bipush 22 rfl (by decide) rfl ?_
      refine qr_callN 25 rfl rfl rfl (sf_234_86p (d := d + 46) hI r1 (by decide)) ?_
      have hs9 : 0 ≤ σ 86 6 ∧ σ 86 6 ≤ 32 := hI.1 86 6
      rintro _ _ ⟨σ10, α11, rfl, hI12, hG13, v7, rfl, hv7, hp8⟩
      have hF14 : qFr [(86, 15), (86, 23), (86, 30), (86, 35), (86, 36), (86, 37), (86, 38), (86, 39), (86, 41), (86, 43)] [96, 109, 110, 111, 112] σ α σ10 α11 := qFr_t hF0 hG13 (by decide) (by decide)
      have hs15 : 0 ≤ σ10 86 43 ∧ σ10 86 43 ≤ 32 := hI12.1 86 43
      show qr_W (qe L xs vb) (d + 48) qx_e238 _ (25, _, [.int (qz v7)], qw σ10 α11 κ ρ, 0, 0)
      refine qr_if_ne 32 28 rfl rfl rfl (qrg hv7 (by decide) (by decide)) (fun h16 => ?_) (fun h16 => ?_)
      · skip
        refine qr_aload_n 33 rfl rfl rfl ?_
        refine qr_iload_n 34 rfl rfl rfl ?_
        have hs17 : 0 ≤ σ10 86 43 ∧ σ10 86 43 ≤ 32 := hI12.1 86 43
        have hs18 : 0 ≤ σ10 86 6 ∧ σ10 86 6 ≤ 32 := hI12.1 86 6
        have hs19 : σ10 86 6 = (σ 86 6) := (hG13.1 86 6 (by decide)).trans rfl
        refine qr_callN 37 rfl rfl rfl (sf_235_86 (d := d + 0) hI12 (by omega) (by omega) (by omega)) ?_
        rintro _ _ ⟨σ20, α21, rfl, hI22, hG23, rfl⟩
        have hF24 : qFr [(86, 15), (86, 23), (86, 30), (86, 35), (86, 36), (86, 37), (86, 38), (86, 39), (86, 41), (86, 43)] [96, 109, 110, 111, 112] σ α σ20 α21 := qFr_t hF14 hG23 (by decide) (by decide)
        show qr_W (qe L xs vb) (d + 48) qx_e238 _ (37, _, [], qw σ20 α21 κ ρ, 0, 0)
        refine qr_iconst 38 rfl rfl ?_
        refine qr_aload_n 39 rfl rfl rfl ?_
        refine qr_get 42 rfl rfl rfl (by decide) rfl ?_
        refine qy_v (σ10 86 43) ((hG23.1 86 43 (by decide)).trans rfl) ?_
        refine qr_ishl 43 rfl rfl ?_
        refine qy_shl1 (N := 12) (by omega) (fun v25 hv25 => ?_)
        refine qr_iconst 44 rfl rfl ?_
        refine qr_isub 45 rfl rfl ?_
        refine qr_istore _ 47 rfl (by decide) rfl rfl ?_
        refine qr_iconst 48 rfl rfl ?_
        refine qr_istore _ 50 rfl (by decide) rfl rfl ?_
        refine qr_iconst 51 rfl rfl ?_
        refine qr_istore _ 53 rfl (by decide) rfl rfl ?_
        refine qr_iconst 54 rfl rfl ?_
        refine qr_istore _ 56 rfl (by decide) rfl rfl ?_
        have hL6431 : ∀ (n : Nat) (ls : qm_L) (u6423 u6425 u6427 : Int), 4096 - u6427 < (n : Int) → qm_get ls 0 = some (.ref 86) → qm_get ls 4 = some (.int (qz x3)) → qm_get ls 5 = some (.int (qz (v25 - 1))) → qm_get ls 6 = some (.int (qz u6423)) → qm_get ls 7 = some (.int (qz u6425)) → qm_get ls 8 = some (.int (qz u6427)) → (0 ≤ u6423 ∧ u6423 ≤ 4095) → (0 ≤ u6425 ∧ u6425 ≤ 2147483647) → (0 ≤ u6427 ∧ u6427 ≤ 4096) → qr_W (qe L xs vb) (d + 48) qx_e238 (fun r w' => ∃ σ' α', w' = qw σ' α' κ ρ ∧ qI σ' α' κ ρ ∧ qFr [(86, 15), (86, 23), (86, 30), (86, 35), (86, 36), (86, 37), (86, 38), (86, 39), (86, 41), (86, 43)] [96, 109, 110, 111, 112] σ α σ' α' ∧ ∃ v : Int, r = some (.long (ql v)) ∧ ((-9223372036854775808) ≤ v ∧ v ≤ 9223372036854775807)) (56, ls, [], qw σ20 α21 κ ρ, 0, 0) := by
          intro n
          induction n with
          | zero => intro ls u6423 u6425 u6427 hm g6419 g6420 g6421 g6422 g6424 g6426 hf6428 hf6429 hf6430; exact False.elim (by omega)
          | succ n ih6432 =>
            intro ls u6423 u6425 u6427 hm g6419 g6420 g6421 g6422 g6424 g6426 hf6428 hf6429 hf6430
            refine qr_iload 58 rfl g6426 rfl ?_
            refine qr_iload 60 rfl g6421 rfl ?_
            refine qr_icmp_gt 187 63 rfl rfl rfl (qrg hf6430 (by decide) (by decide)) (by omega) (fun h6433 => ?_) (fun h6433 => ?_)
            · skip
              refine qr_iload 189 rfl g6420 rfl ?_
              refine qr_if_ne 198 192 rfl rfl rfl r3 (fun h6434 => ?_) (fun h6434 => ?_)
              · skip
                refine qr_aload_n 199 rfl g6419 rfl ?_
                refine qr_iload 201 rfl g6422 rfl ?_
                refine qr_callN 204 rfl rfl rfl (sf_237_86 (d := d + 47) hI22 (qrg hf6428 (by decide) (by decide))) ?_
                rintro _ _ ⟨rfl, v6435, rfl, hv6435⟩
                show qr_W (qe L xs vb) (d + 48) qx_e238 _ (204, _, [.long (ql v6435)], qw σ20 α21 κ ρ, 0, 0)
                refine qr_retL rfl rfl (by decide) (by decide) ?_
                exact ⟨_, _, rfl, hI22, hF24, v6435, rfl, hv6435⟩
              · skip
                refine qr_iload 194 rfl g6424 rfl ?_
                refine qr_i2l 195 rfl (qrg hf6429 (by decide) (by decide)) rfl ?_
                refine qr_goto 204 rfl rfl ?_
                refine qr_retL rfl rfl (by decide) (by decide) ?_
                exact ⟨_, _, rfl, hI22, hF24, u6425, rfl, (qrg hf6429 (by decide) (by decide))⟩
            · skip
              refine qr_iload 65 rfl g6421 rfl ?_
              refine qr_iload 67 rfl g6426 rfl ?_
              refine qr_iconst 68 rfl rfl ?_
              refine qr_ixor 69 rfl rfl ?_
              refine qy_can (fun v6436 hv6436 => ?_)
              refine qr_iand 70 rfl rfl ?_
              refine qy_andl (by omega) (fun v6437 hv6437 => ?_)
              refine qr_istore _ 72 rfl (by decide) rfl rfl ?_
              refine qr_iload 74 rfl (qm_ge _ _ _) rfl ?_
              refine qr_istore _ 76 rfl (by decide) rfl rfl ?_
              have hL6562 : ∀ (n : Nat) (ls : qm_L) (u6552 u6554 u6558 : Int), u6558 + 1 < (n : Int) → qm_get ls 0 = some (.ref 86) → qm_get ls 4 = some (.int (qz x3)) → qm_get ls 5 = some (.int (qz (v25 - 1))) → qm_get ls 6 = some (.int (qz u6552)) → qm_get ls 7 = some (.int (qz u6554)) → qm_get ls 8 = some (.int (qz u6427)) → qm_get ls 9 = some (.int (qz v6437)) → qm_get ls 10 = some (.int (qz u6558)) → (0 ≤ u6552 ∧ u6552 ≤ 4095) → (0 ≤ u6554 ∧ u6554 ≤ 2147483647) → ((-1) ≤ u6558 ∧ u6558 ≤ 4095) → qr_W (qe L xs vb) (d + 48) qx_e238 (fun r w' => ∃ σ' α', w' = qw σ' α' κ ρ ∧ qI σ' α' κ ρ ∧ qFr [(86, 15), (86, 23), (86, 30), (86, 35), (86, 36), (86, 37), (86, 38), (86, 39), (86, 41), (86, 43)] [96, 109, 110, 111, 112] σ α σ' α' ∧ ∃ v : Int, r = some (.long (ql v)) ∧ ((-9223372036854775808) ≤ v ∧ v ≤ 9223372036854775807)) (76, ls, [], qw σ20 α21 κ ρ, 0, 0) := by
                intro n
                induction n with
                | zero => intro ls u6552 u6554 u6558 hm g6548 g6549 g6550 g6551 g6553 g6555 g6556 g6557 hf6559 hf6560 hf6561; exact False.elim (by omega)
                | succ n ih6563 =>
                  intro ls u6552 u6554 u6558 hm g6548 g6549 g6550 g6551 g6553 g6555 g6556 g6557 hf6559 hf6560 hf6561
                  refine qr_aload_n 77 rfl g6548 rfl ?_
                  refine qr_get 80 rfl rfl rfl (by decide) rfl ?_
                  refine qr_iload 82 rfl g6555 rfl ?_
                  refine qr_iaload 83 rfl rfl (by omega) (by decide) rfl ?_
                  refine qr_topI (fun v6564 hv6564 => ?_)
                  have hs6565 : (-2147483648) ≤ v6564 ∧ v6564 ≤ 2147483647 := by rw [hv6564]; exact hI22.2.1 112 _ (show _ < 4096 by omega)
                  refine qr_if_lt 181 86 rfl rfl rfl hs6565 (fun h6566 => ?_) (fun h6566 => ?_)
                  · skip
                    refine qr_iinc _ 184 rfl g6555 (by decide) rfl rfl ?_
                    refine qr_goto 56 rfl rfl ?_
                    exact ih6432 _ u6552 u6554 (u6427 + 1) (by omega) (qm_gk g6548 (by decide) (Or.inl (by decide))) (qm_gk g6549 (by decide) (Or.inl (by decide))) (qm_gk g6550 (by decide) (Or.inl (by decide))) (qm_gk g6551 (by decide) (Or.inl (by decide))) (qm_gk g6553 (by decide) (Or.inr rfl)) (qm_ge _ _ _) hf6559 hf6560 (by omega)
                  · skip
                    refine qr_iload 88 rfl g6557 rfl ?_
                    refine qr_if_lt 181 91 rfl rfl rfl (qrg hf6561 (by decide) (by decide)) (fun h6567 => ?_) (fun h6567 => ?_)
                    · skip
                      refine qr_iinc _ 184 rfl g6555 (by decide) rfl rfl ?_
                      refine qr_goto 56 rfl rfl ?_
                      exact ih6432 _ u6552 u6554 (u6427 + 1) (by omega) (qm_gk g6548 (by decide) (Or.inl (by decide))) (qm_gk g6549 (by decide) (Or.inl (by decide))) (qm_gk g6550 (by decide) (Or.inl (by decide))) (qm_gk g6551 (by decide) (Or.inl (by decide))) (qm_gk g6553 (by decide) (Or.inr rfl)) (qm_ge _ _ _) hf6559 hf6560 (by omega)
                    · skip
                      refine qr_aload_n 92 rfl g6548 rfl ?_
                      refine qr_get 95 rfl rfl rfl (by decide) rfl ?_
                      refine qr_iload 97 rfl g6557 rfl ?_
                      refine qr_iaload 98 rfl rfl (by omega) (by decide) rfl ?_
                      refine qr_topI (fun v6568 hv6568 => ?_)
                      have hs6569 : (-2147483648) ≤ v6568 ∧ v6568 ≤ 2147483647 := by rw [hv6568]; exact hI22.2.1 112 _ (show _ < 4096 from qrgt hf6561 (by decide) (by decide))
                      refine qr_if_ge 104 101 rfl rfl rfl hs6569 (fun h6570 => ?_) (fun h6570 => ?_)
                      · skip
                        refine qr_aload_n 105 rfl g6548 rfl ?_
                        refine qr_get 108 rfl rfl rfl (by decide) rfl ?_
                        refine qr_iload 110 rfl g6555 rfl ?_
                        refine qr_iaload 111 rfl rfl (by omega) (by decide) rfl ?_
                        refine qr_topI (fun v6571 hv6571 => ?_)
                        have hs6572 : (-2147483648) ≤ v6571 ∧ v6571 ≤ 2147483647 := by rw [hv6571]; exact hI22.2.1 112 _ (show _ < 4096 by omega)
                        refine qr_aload_n 112 rfl g6548 rfl ?_
                        refine qr_get 115 rfl rfl rfl (by decide) rfl ?_
                        refine qr_iload 117 rfl g6557 rfl ?_
                        refine qr_iaload 118 rfl rfl (by omega) (by decide) rfl ?_
                        refine qr_topI (fun v6573 hv6573 => ?_)
                        have hs6574 : (-2147483648) ≤ v6573 ∧ v6573 ≤ 2147483647 := by rw [hv6573]; exact hI22.2.1 112 _ (show _ < 4096 from qrgt hf6561 (by decide) (by decide))
                        refine qr_iadd 119 rfl rfl ?_
                        refine qy_can (fun v6575 hv6575 => ?_)
                        refine qr_istore _ 121 rfl (by decide) rfl rfl ?_
                        refine qr_iload 123 rfl (qm_ge _ _ _) rfl ?_
                        refine qr_iload 125 rfl (qm_gk g6553 (by decide) (Or.inl (by decide))) rfl ?_
                        refine qr_icmp_gt 152 128 rfl rfl rfl hv6575 (qrg hf6560 (by decide) (by decide)) (fun h6576 => ?_) (fun h6576 => ?_)
                        · skip
                          refine qr_iload 154 rfl (qm_gk g6555 (by decide) (Or.inl (by decide))) rfl ?_
                          refine qr_istore _ 156 rfl (by decide) rfl rfl ?_
                          refine qr_iload 158 rfl (qm_gk (qm_ge _ _ _) (by decide) (Or.inl (by decide))) rfl ?_
                          refine qr_istore _ 160 rfl (by decide) rfl rfl ?_
                          refine qr_iload 162 rfl (qm_gk (qm_gk (qm_gk g6557 (by decide) (Or.inr rfl)) (by decide) (Or.inl (by decide))) (by decide) (Or.inl (by decide))) rfl ?_
                          refine qr_if_ne 169 165 rfl rfl rfl (qrg hf6561 (by decide) (by decide)) (fun h6577 => ?_) (fun h6577 => ?_)
                          · skip
                            refine qr_iload 171 rfl (qm_gk (qm_gk (qm_gk g6557 (by decide) (Or.inr rfl)) (by decide) (Or.inl (by decide))) (by decide) (Or.inl (by decide))) rfl ?_
                            refine qr_iconst 172 rfl rfl ?_
                            refine qr_isub 173 rfl rfl ?_
                            refine qr_iload 175 rfl (qm_gk (qm_gk (qm_gk g6556 (by decide) (Or.inl (by decide))) (by decide) (Or.inl (by decide))) (by decide) (Or.inl (by decide))) rfl ?_
                            refine qr_iand 176 rfl rfl ?_
                            refine qy_andl (by omega) (fun v6578 hv6578 => ?_)
                            refine qr_istore _ 178 rfl (by decide) rfl rfl ?_
                            refine qr_goto 76 rfl rfl ?_
                            exact ih6563 _ u6427 v6575 v6578 (by omega) (qm_gk (qm_gk (qm_gk (qm_gk g6548 (by decide) (Or.inl (by decide))) (by decide) (Or.inl (by decide))) (by decide) (Or.inl (by decide))) (by decide) (Or.inl (by decide))) (qm_gk (qm_gk (qm_gk (qm_gk g6549 (by decide) (Or.inl (by decide))) (by decide) (Or.inl (by decide))) (by decide) (Or.inl (by decide))) (by decide) (Or.inl (by decide))) (qm_gk (qm_gk (qm_gk (qm_gk g6550 (by decide) (Or.inl (by decide))) (by decide) (Or.inr rfl)) (by decide) (Or.inl (by decide))) (by decide) (Or.inl (by decide))) (qm_gk (qm_gk (qm_ge _ _ _) (by decide) (Or.inr rfl)) (by decide) (Or.inl (by decide))) (qm_gk (qm_ge _ _ _) (by decide) (Or.inl (by decide))) (qm_gk (qm_gk (qm_gk (qm_gk g6555 (by decide) (Or.inl (by decide))) (by decide) (Or.inl (by decide))) (by decide) (Or.inl (by decide))) (by decide) (Or.inl (by decide))) (qm_gk (qm_gk (qm_gk (qm_gk g6556 (by decide) (Or.inl (by decide))) (by decide) (Or.inl (by decide))) (by decide) (Or.inl (by decide))) (by decide) (Or.inr rfl)) (qm_ge _ _ _) (by omega) (by omega) (by omega)
                          · skip
                            refine qr_iconst 166 rfl rfl ?_
                            refine qr_goto 176 rfl rfl ?_
                            refine qr_istore _ 178 rfl (by decide) rfl rfl ?_
                            refine qr_goto 76 rfl rfl ?_
                            exact ih6563 _ u6427 v6575 (-1) (by omega) (qm_gk (qm_gk (qm_gk (qm_gk g6548 (by decide) (Or.inl (by decide))) (by decide) (Or.inl (by decide))) (by decide) (Or.inl (by decide))) (by decide) (Or.inl (by decide))) (qm_gk (qm_gk (qm_gk (qm_gk g6549 (by decide) (Or.inl (by decide))) (by decide) (Or.inl (by decide))) (by decide) (Or.inl (by decide))) (by decide) (Or.inl (by decide))) (qm_gk (qm_gk (qm_gk (qm_gk g6550 (by decide) (Or.inl (by decide))) (by decide) (Or.inr rfl)) (by decide) (Or.inl (by decide))) (by decide) (Or.inl (by decide))) (qm_gk (qm_gk (qm_ge _ _ _) (by decide) (Or.inr rfl)) (by decide) (Or.inl (by decide))) (qm_gk (qm_ge _ _ _) (by decide) (Or.inl (by decide))) (qm_gk (qm_gk (qm_gk (qm_gk g6555 (by decide) (Or.inl (by decide))) (by decide) (Or.inl (by decide))) (by decide) (Or.inl (by decide))) (by decide) (Or.inl (by decide))) (qm_gk (qm_gk (qm_gk (qm_gk g6556 (by decide) (Or.inl (by decide))) (by decide) (Or.inl (by decide))) (by decide) (Or.inl (by decide))) (by decide) (Or.inr rfl)) (qm_ge _ _ _) (by omega) (by omega) (by decide)
                        · skip
                          refine qr_iload 130 rfl (qm_ge _ _ _) rfl ?_
                          refine qr_iload 132 rfl (qm_gk g6553 (by decide) (Or.inl (by decide))) rfl ?_
                          refine qr_icmp_ne 160 135 rfl rfl rfl hv6575 (qrg hf6560 (by decide) (by decide)) (fun h6579 => ?_) (fun h6579 => ?_)
                          · skip
                            refine qr_iload 162 rfl (qm_gk g6557 (by decide) (Or.inr rfl)) rfl ?_
                            refine qr_if_ne 169 165 rfl rfl rfl (qrg hf6561 (by decide) (by decide)) (fun h6580 => ?_) (fun h6580 => ?_)
                            · skip
                              refine qr_iload 171 rfl (qm_gk g6557 (by decide) (Or.inr rfl)) rfl ?_
                              refine qr_iconst 172 rfl rfl ?_
                              refine qr_isub 173 rfl rfl ?_
                              refine qr_iload 175 rfl (qm_gk g6556 (by decide) (Or.inl (by decide))) rfl ?_
                              refine qr_iand 176 rfl rfl ?_
                              refine qy_andl (by omega) (fun v6581 hv6581 => ?_)
                              refine qr_istore _ 178 rfl (by decide) rfl rfl ?_
                              refine qr_goto 76 rfl rfl ?_
                              exact ih6563 _ u6552 u6554 v6581 (by omega) (qm_gk (qm_gk g6548 (by decide) (Or.inl (by decide))) (by decide) (Or.inl (by decide))) (qm_gk (qm_gk g6549 (by decide) (Or.inl (by decide))) (by decide) (Or.inl (by decide))) (qm_gk (qm_gk g6550 (by decide) (Or.inl (by decide))) (by decide) (Or.inl (by decide))) (qm_gk (qm_gk g6551 (by decide) (Or.inl (by decide))) (by decide) (Or.inl (by decide))) (qm_gk (qm_gk g6553 (by decide) (Or.inl (by decide))) (by decide) (Or.inl (by decide))) (qm_gk (qm_gk g6555 (by decide) (Or.inl (by decide))) (by decide) (Or.inl (by decide))) (qm_gk (qm_gk g6556 (by decide) (Or.inl (by decide))) (by decide) (Or.inr rfl)) (qm_ge _ _ _) hf6559 hf6560 (by omega)
                            · skip
                              refine qr_iconst 166 rfl rfl ?_
                              refine qr_goto 176 rfl rfl ?_
                              refine qr_istore _ 178 rfl (by decide) rfl rfl ?_
                              refine qr_goto 76 rfl rfl ?_
                              exact ih6563 _ u6552 u6554 (-1) (by omega) (qm_gk (qm_gk g6548 (by decide) (Or.inl (by decide))) (by decide) (Or.inl (by decide))) (qm_gk (qm_gk g6549 (by decide) (Or.inl (by decide))) (by decide) (Or.inl (by decide))) (qm_gk (qm_gk g6550 (by decide) (Or.inl (by decide))) (by decide) (Or.inl (by decide))) (qm_gk (qm_gk g6551 (by decide) (Or.inl (by decide))) (by decide) (Or.inl (by decide))) (qm_gk (qm_gk g6553 (by decide) (Or.inl (by decide))) (by decide) (Or.inl (by decide))) (qm_gk (qm_gk g6555 (by decide) (Or.inl (by decide))) (by decide) (Or.inl (by decide))) (qm_gk (qm_gk g6556 (by decide) (Or.inl (by decide))) (by decide) (Or.inr rfl)) (qm_ge _ _ _) hf6559 hf6560 (by decide)
                          · skip
                            refine qr_aload_n 136 rfl (qm_gk g6548 (by decide) (Or.inl (by decide))) rfl ?_
                            refine qr_get 139 rfl rfl rfl (by decide) rfl ?_
                            refine qr_iload 141 rfl (qm_gk g6555 (by decide) (Or.inl (by decide))) rfl ?_
                            refine qr_iaload 142 rfl rfl (by omega) (by decide) rfl ?_
                            refine qr_topI (fun v6582 hv6582 => ?_)
                            have hs6583 : (-2147483648) ≤ v6582 ∧ v6582 ≤ 2147483647 := by rw [hv6582]; exact hI22.2.1 112 _ (show _ < 4096 by omega)
                            refine qr_aload_n 143 rfl (qm_gk g6548 (by decide) (Or.inl (by decide))) rfl ?_
                            refine qr_get 146 rfl rfl rfl (by decide) rfl ?_
                            refine qr_iload 148 rfl (qm_gk g6551 (by decide) (Or.inl (by decide))) rfl ?_
                            refine qr_iaload 149 rfl rfl (qrgi hf6559 (by decide) (by decide)) (by decide) rfl ?_
                            refine qr_topI (fun v6584 hv6584 => ?_)
                            have hs6585 : (-2147483648) ≤ v6584 ∧ v6584 ≤ 2147483647 := by rw [hv6584]; exact hI22.2.1 112 _ (show _ < 4096 from qrgt hf6559 (by decide) (by decide))
                            refine qr_icmp_le 160 152 rfl rfl rfl hs6583 hs6585 (fun h6586 => ?_) (fun h6586 => ?_)
                            · skip
                              refine qr_iload 162 rfl (qm_gk g6557 (by decide) (Or.inr rfl)) rfl ?_
                              refine qr_if_ne 169 165 rfl rfl rfl (qrg hf6561 (by decide) (by decide)) (fun h6587 => ?_) (fun h6587 => ?_)
                              · skip
                                refine qr_iload 171 rfl (qm_gk g6557 (by decide) (Or.inr rfl)) rfl ?_
                                refine qr_iconst 172 rfl rfl ?_
                                refine qr_isub 173 rfl rfl ?_
                                refine qr_iload 175 rfl (qm_gk g6556 (by decide) (Or.inl (by decide))) rfl ?_
                                refine qr_iand 176 rfl rfl ?_
                                refine qy_andl (by omega) (fun v6588 hv6588 => ?_)
                                refine qr_istore _ 178 rfl (by decide) rfl rfl ?_
                                refine qr_goto 76 rfl rfl ?_
                                exact ih6563 _ u6552 u6554 v6588 (by omega) (qm_gk (qm_gk g6548 (by decide) (Or.inl (by decide))) (by decide) (Or.inl (by decide))) (qm_gk (qm_gk g6549 (by decide) (Or.inl (by decide))) (by decide) (Or.inl (by decide))) (qm_gk (qm_gk g6550 (by decide) (Or.inl (by decide))) (by decide) (Or.inl (by decide))) (qm_gk (qm_gk g6551 (by decide) (Or.inl (by decide))) (by decide) (Or.inl (by decide))) (qm_gk (qm_gk g6553 (by decide) (Or.inl (by decide))) (by decide) (Or.inl (by decide))) (qm_gk (qm_gk g6555 (by decide) (Or.inl (by decide))) (by decide) (Or.inl (by decide))) (qm_gk (qm_gk g6556 (by decide) (Or.inl (by decide))) (by decide) (Or.inr rfl)) (qm_ge _ _ _) hf6559 hf6560 (by omega)
                              · skip
                                refine qr_iconst 166 rfl rfl ?_
                                refine qr_goto 176 rfl rfl ?_
                                refine qr_istore _ 178 rfl (by decide) rfl rfl ?_
                                refine qr_goto 76 rfl rfl ?_
                                exact ih6563 _ u6552 u6554 (-1) (by omega) (qm_gk (qm_gk g6548 (by decide) (Or.inl (by decide))) (by decide) (Or.inl (by decide))) (qm_gk (qm_gk g6549 (by decide) (Or.inl (by decide))) (by decide) (Or.inl (by decide))) (qm_gk (qm_gk g6550 (by decide) (Or.inl (by decide))) (by decide) (Or.inl (by decide))) (qm_gk (qm_gk g6551 (by decide) (Or.inl (by decide))) (by decide) (Or.inl (by decide))) (qm_gk (qm_gk g6553 (by decide) (Or.inl (by decide))) (by decide) (Or.inl (by decide))) (qm_gk (qm_gk g6555 (by decide) (Or.inl (by decide))) (by decide) (Or.inl (by decide))) (qm_gk (qm_gk g6556 (by decide) (Or.inl (by decide))) (by decide) (Or.inr rfl)) (qm_ge _ _ _) hf6559 hf6560 (by decide)
                            · skip
                              refine qr_iload 154 rfl (qm_gk g6555 (by decide) (Or.inl (by decide))) rfl ?_
                              refine qr_istore _ 156 rfl (by decide) rfl rfl ?_
                              refine qr_iload 158 rfl (qm_gk (qm_ge _ _ _) (by decide) (Or.inl (by decide))) rfl ?_
                              refine qr_istore _ 160 rfl (by decide) rfl rfl ?_
                              refine qr_iload 162 rfl (qm_gk (qm_gk (qm_gk g6557 (by decide) (Or.inr rfl)) (by decide) (Or.inl (by decide))) (by decide) (Or.inl (by decide))) rfl ?_
                              refine qr_if_ne 169 165 rfl rfl rfl (qrg hf6561 (by decide) (by decide)) (fun h6589 => ?_) (fun h6589 => ?_)
                              · skip
                                refine qr_iload 171 rfl (qm_gk (qm_gk (qm_gk g6557 (by decide) (Or.inr rfl)) (by decide) (Or.inl (by decide))) (by decide) (Or.inl (by decide))) rfl ?_
                                refine qr_iconst 172 rfl rfl ?_
                                refine qr_isub 173 rfl rfl ?_
                                refine qr_iload 175 rfl (qm_gk (qm_gk (qm_gk g6556 (by decide) (Or.inl (by decide))) (by decide) (Or.inl (by decide))) (by decide) (Or.inl (by decide))) rfl ?_
                                refine qr_iand 176 rfl rfl ?_
                                refine qy_andl (by omega) (fun v6590 hv6590 => ?_)
                                refine qr_istore _ 178 rfl (by decide) rfl rfl ?_
                                refine qr_goto 76 rfl rfl ?_
                                exact ih6563 _ u6427 v6575 v6590 (by omega) (qm_gk (qm_gk (qm_gk (qm_gk g6548 (by decide) (Or.inl (by decide))) (by decide) (Or.inl (by decide))) (by decide) (Or.inl (by decide))) (by decide) (Or.inl (by decide))) (qm_gk (qm_gk (qm_gk (qm_gk g6549 (by decide) (Or.inl (by decide))) (by decide) (Or.inl (by decide))) (by decide) (Or.inl (by decide))) (by decide) (Or.inl (by decide))) (qm_gk (qm_gk (qm_gk (qm_gk g6550 (by decide) (Or.inl (by decide))) (by decide) (Or.inr rfl)) (by decide) (Or.inl (by decide))) (by decide) (Or.inl (by decide))) (qm_gk (qm_gk (qm_ge _ _ _) (by decide) (Or.inr rfl)) (by decide) (Or.inl (by decide))) (qm_gk (qm_ge _ _ _) (by decide) (Or.inl (by decide))) (qm_gk (qm_gk (qm_gk (qm_gk g6555 (by decide) (Or.inl (by decide))) (by decide) (Or.inl (by decide))) (by decide) (Or.inl (by decide))) (by decide) (Or.inl (by decide))) (qm_gk (qm_gk (qm_gk (qm_gk g6556 (by decide) (Or.inl (by decide))) (by decide) (Or.inl (by decide))) (by decide) (Or.inl (by decide))) (by decide) (Or.inr rfl)) (qm_ge _ _ _) (by omega) (by omega) (by omega)
                              · skip
                                refine qr_iconst 166 rfl rfl ?_
                                refine qr_goto 176 rfl rfl ?_
                                refine qr_istore _ 178 rfl (by decide) rfl rfl ?_
                                refine qr_goto 76 rfl rfl ?_
                                exact ih6563 _ u6427 v6575 (-1) (by omega) (qm_gk (qm_gk (qm_gk (qm_gk g6548 (by decide) (Or.inl (by decide))) (by decide) (Or.inl (by decide))) (by decide) (Or.inl (by decide))) (by decide) (Or.inl (by decide))) (qm_gk (qm_gk (qm_gk (qm_gk g6549 (by decide) (Or.inl (by decide))) (by decide) (Or.inl (by decide))) (by decide) (Or.inl (by decide))) (by decide) (Or.inl (by decide))) (qm_gk (qm_gk (qm_gk (qm_gk g6550 (by decide) (Or.inl (by decide))) (by decide) (Or.inr rfl)) (by decide) (Or.inl (by decide))) (by decide) (Or.inl (by decide))) (qm_gk (qm_gk (qm_ge _ _ _) (by decide) (Or.inr rfl)) (by decide) (Or.inl (by decide))) (qm_gk (qm_ge _ _ _) (by decide) (Or.inl (by decide))) (qm_gk (qm_gk (qm_gk (qm_gk g6555 (by decide) (Or.inl (by decide))) (by decide) (Or.inl (by decide))) (by decide) (Or.inl (by decide))) (by decide) (Or.inl (by decide))) (qm_gk (qm_gk (qm_gk (qm_gk g6556 (by decide) (Or.inl (by decide))) (by decide) (Or.inl (by decide))) (by decide) (Or.inl (by decide))) (by decide) (Or.inr rfl)) (qm_ge _ _ _) (by omega) (by omega) (by decide)
                      · skip
                        refine qr_goto 160 rfl rfl ?_
                        refine qr_iload 162 rfl g6557 rfl ?_
                        refine qr_if_ne 169 165 rfl rfl rfl (qrg hf6561 (by decide) (by decide)) (fun h6591 => ?_) (fun h6591 => ?_)
                        · skip
                          refine qr_iload 171 rfl g6557 rfl ?_
                          refine qr_iconst 172 rfl rfl ?_
                          refine qr_isub 173 rfl rfl ?_
                          refine qr_iload 175 rfl g6556 rfl ?_
                          refine qr_iand 176 rfl rfl ?_
                          refine qy_andl (by omega) (fun v6592 hv6592 => ?_)
                          refine qr_istore _ 178 rfl (by decide) rfl rfl ?_
                          refine qr_goto 76 rfl rfl ?_
                          exact ih6563 _ u6552 u6554 v6592 (by omega) (qm_gk g6548 (by decide) (Or.inl (by decide))) (qm_gk g6549 (by decide) (Or.inl (by decide))) (qm_gk g6550 (by decide) (Or.inl (by decide))) (qm_gk g6551 (by decide) (Or.inl (by decide))) (qm_gk g6553 (by decide) (Or.inl (by decide))) (qm_gk g6555 (by decide) (Or.inl (by decide))) (qm_gk g6556 (by decide) (Or.inr rfl)) (qm_ge _ _ _) hf6559 hf6560 (by omega)
                        · skip
                          refine qr_iconst 166 rfl rfl ?_
                          refine qr_goto 176 rfl rfl ?_
                          refine qr_istore _ 178 rfl (by decide) rfl rfl ?_
                          refine qr_goto 76 rfl rfl ?_
                          exact ih6563 _ u6552 u6554 (-1) (by omega) (qm_gk g6548 (by decide) (Or.inl (by decide))) (qm_gk g6549 (by decide) (Or.inl (by decide))) (qm_gk g6550 (by decide) (Or.inl (by decide))) (qm_gk g6551 (by decide) (Or.inl (by decide))) (qm_gk g6553 (by decide) (Or.inl (by decide))) (qm_gk g6555 (by decide) (Or.inl (by decide))) (qm_gk g6556 (by decide) (Or.inr rfl)) (qm_ge _ _ _) hf6559 hf6560 (by decide)
              exact hL6562 ((v6437 + 1 + 1 : Int)).toNat _ u6423 u6425 v6437 (by omega) (qm_gk (qm_gk g6419 (by decide) (Or.inl (by decide))) (by decide) (Or.inl (by decide))) (qm_gk (qm_gk g6420 (by decide) (Or.inl (by decide))) (by decide) (Or.inl (by decide))) (qm_gk (qm_gk g6421 (by decide) (Or.inl (by decide))) (by decide) (Or.inl (by decide))) (qm_gk (qm_gk g6422 (by decide) (Or.inl (by decide))) (by decide) (Or.inl (by decide))) (qm_gk (qm_gk g6424 (by decide) (Or.inl (by decide))) (by decide) (Or.inl (by decide))) (qm_gk (qm_gk g6426 (by decide) (Or.inr rfl)) (by decide) (Or.inl (by decide))) (qm_gk (qm_ge _ _ _) (by decide) (Or.inr rfl)) (qm_ge _ _ _) hf6428 hf6429 (by omega)
        exact hL6431 ((4096 - 0 + 1 : Int)).toNat _ 0 0 0 (by omega) rfl rfl rfl rfl rfl rfl (by decide) (by decide) (by decide)
      · skip
        refine qr_ldc2 (-1) 31 rfl (by decide) rfl ?_
        refine qr_retL rfl rfl (by decide) (by decide) ?_
        exact ⟨_, _, rfl, hI12, hF14, (-1), rfl, (by decide)⟩

set_option maxHeartbeats 4000000 in
set_option maxRecDepth 20000 in
/-- OneRoofModel.barAny -/
theorem sf_240_86 {L : Nat} {xs : Nat → Int} {vb : Bool} {d : Nat} {σ α : Nat → Nat → Int} {κ : Nat → Option Nat} {ρ : Nat} {x1 : Int} (hI : qI σ α κ ρ) (r1 : 0 ≤ x1 ∧ x1 ≤ 23999999) (p0 : 1 ≤ σ 86 6) (p1 : σ 86 43 ≤ 12) : qm_T (qe L xs vb) (d + 48) 240 [.ref 86, .int (qz x1)] (qw σ α κ ρ) (fun r w' => ∃ σ' α', w' = qw σ' α' κ ρ ∧ qI σ' α' κ ρ ∧ qFr [(86, 15), (86, 23), (86, 30), (86, 35), (86, 36), (86, 37), (86, 38), (86, 39), (86, 41)] [96, 109] σ α σ' α' ∧ ∃ v : Int, r = some (.int (qz v)) ∧ (0 ≤ v ∧ v ≤ 1)) := by
  refine qr_start (d := d + 47) qv_e240 (Nat.le_of_ble_eq_true rfl) ?_
  show qr_W (qe L xs vb) (d + 47) qx_e240 _ (0, [(0, .ref 86), (1, .int (qz x1))], [], _, 0, 0)
  have hF0 := qFr_rf [(86, 15), (86, 23), (86, 30), (86, 35), (86, 36), (86, 37), (86, 38), (86, 39), (86, 41)] [96, 109] σ α
  have hz86_6 : 0 ≤ σ 86 6 ∧ σ 86 6 ≤ 32 := hI.1 86 6
  have hz86_43 : 0 ≤ σ 86 43 ∧ σ 86 43 ≤ 32 := hI.1 86 43
  refine qr_iconst 1 rfl rfl ?_
  refine qr_istore_n _ 2 rfl (by decide) rfl rfl ?_
  have hL1818 : ∀ (n : Nat) (ls : qm_L) (u1810 : Int) (σ1811 α1812 : Nat → Nat → Int), 12 - u1810 < (n : Int) → qm_get ls 0 = some (.ref 86) → qm_get ls 1 = some (.int (qz x1)) → qm_get ls 2 = some (.int (qz u1810)) → (0 ≤ u1810 ∧ u1810 ≤ 12) → qI σ1811 α1812 κ ρ → qFr [(86, 15), (86, 23), (86, 30), (86, 35), (86, 36), (86, 37), (86, 38), (86, 39), (86, 41)] [96, 109] σ α σ1811 α1812 → σ1811 86 6 = (σ 86 6) → σ1811 86 43 = (σ 86 43) → qr_W (qe L xs vb) (d + 47) qx_e240 (fun r w' => ∃ σ' α', w' = qw σ' α' κ ρ ∧ qI σ' α' κ ρ ∧ qFr [(86, 15), (86, 23), (86, 30), (86, 35), (86, 36), (86, 37), (86, 38), (86, 39), (86, 41)] [96, 109] σ α σ' α' ∧ ∃ v : Int, r = some (.int (qz v)) ∧ (0 ≤ v ∧ v ≤ 1)) (2, ls, [], qw σ1811 α1812 κ ρ, 0, 0) := by
    intro n
    induction n with
    | zero => intro ls u1810 σ1811 α1812 hm g1807 g1808 g1809 hf1817 hI1813 hF1814 hk1815 hk1816; exact False.elim (by omega)
    | succ n ih1819 =>
      intro ls u1810 σ1811 α1812 hm g1807 g1808 g1809 hf1817 hI1813 hF1814 hk1815 hk1816
      refine qr_iload_n 3 rfl g1809 rfl ?_
      refine qr_aload_n 4 rfl g1807 rfl ?_
      refine qr_get 7 rfl rfl rfl (by decide) rfl ?_
      refine qy_v (σ 86 43) ((hk1816).trans rfl) ?_
      refine qr_icmp_ge 51 10 rfl rfl rfl (qrg hf1817 (by decide) (by decide)) (qrg hz86_43 (by decide) (by decide)) (fun h1820 => ?_) (fun h1820 => ?_)
      · skip
        refine qr_iconst 52 rfl rfl ?_
        refine qr_retZ rfl rfl (Or.inl rfl) (by decide) (by decide) ?_
        exact ⟨_, _, rfl, hI1813, hF1814, 0, rfl, (by decide)⟩
      · skip
        refine qr_iconst 11 rfl rfl ?_
        refine qr_istore_n _ 12 rfl (by decide) rfl rfl ?_
        have hL2013 : ∀ (n : Nat) (ls : qm_L) (u2005 : Int) (σ2006 α2007 : Nat → Nat → Int), 11 - u2005 < (n : Int) → qm_get ls 0 = some (.ref 86) → qm_get ls 1 = some (.int (qz x1)) → qm_get ls 2 = some (.int (qz u1810)) → qm_get ls 3 = some (.int (qz u2005)) → (0 ≤ u2005 ∧ u2005 ≤ 11) → qI σ2006 α2007 κ ρ → qFr [(86, 15), (86, 23), (86, 30), (86, 35), (86, 36), (86, 37), (86, 38), (86, 39), (86, 41)] [96, 109] σ α σ2006 α2007 → σ2006 86 6 = (σ 86 6) → σ2006 86 43 = (σ 86 43) → qr_W (qe L xs vb) (d + 47) qx_e240 (fun r w' => ∃ σ' α', w' = qw σ' α' κ ρ ∧ qI σ' α' κ ρ ∧ qFr [(86, 15), (86, 23), (86, 30), (86, 35), (86, 36), (86, 37), (86, 38), (86, 39), (86, 41)] [96, 109] σ α σ' α' ∧ ∃ v : Int, r = some (.int (qz v)) ∧ (0 ≤ v ∧ v ≤ 1)) (12, ls, [], qw σ2006 α2007 κ ρ, 0, 0) := by
          intro n
          induction n with
          | zero => intro ls u2005 σ2006 α2007 hm g2001 g2002 g2003 g2004 hf2012 hI2008 hF2009 hk2010 hk2011; exact False.elim (by omega)
          | succ n ih2014 =>
            intro ls u2005 σ2006 α2007 hm g2001 g2002 g2003 g2004 hf2012 hI2008 hF2009 hk2010 hk2011
            refine qr_iload_n 13 rfl g2004 rfl ?_
            refine qr_iload_n 14 rfl g2003 rfl ?_
            refine qr_icmp_ge 45 17 rfl rfl rfl (qrg hf2012 (by decide) (by decide)) (qrg hf1817 (by decide) (by decide)) (fun h2015 => ?_) (fun h2015 => ?_)
            · skip
              refine qr_iinc _ 48 rfl g2003 (by decide) rfl rfl ?_
              refine qr_goto 2 rfl rfl ?_
              exact ih1819 _ (u1810 + 1) σ2006 α2007 (by omega) (qm_gk g2001 (by decide) (Or.inl (by decide))) (qm_gk g2002 (by decide) (Or.inr rfl)) (qm_ge _ _ _) (by omega) hI2008 hF2009 ((hk2010).trans rfl) ((hk2011).trans rfl)
            · skip
              refine qr_aload_n 18 rfl g2001 rfl ?_
              refine qr_aload_n 19 rfl g2001 rfl ?_
              refine qr_get 22 rfl rfl rfl (by decide) rfl ?_
              refine qr_iload_n 23 rfl g2004 rfl ?_
              refine qr_iaload 24 rfl rfl (qrgi hf2012 (by decide) (by decide)) (by decide) rfl ?_
              refine qr_topI (fun v2016 hv2016 => ?_)
              have hs2017 : 0 ≤ v2016 ∧ v2016 ≤ 31 := by rw [hv2016]; exact hI2008.2.1 110 _ (show _ < 32 from qrgt hf2012 (by decide) (by decide))
              refine qr_aload_n 25 rfl g2001 rfl ?_
              refine qr_get 28 rfl rfl rfl (by decide) rfl ?_
              refine qr_iload_n 29 rfl g2003 rfl ?_
              refine qr_iaload 30 rfl rfl (qrgi hf1817 (by decide) (by decide)) (by decide) rfl ?_
              refine qr_topI (fun v2018 hv2018 => ?_)
              have hs2019 : 0 ≤ v2018 ∧ v2018 ≤ 31 := by rw [hv2018]; exact hI2008.2.1 110 _ (show _ < 32 from qrgt hf1817 (by decide) (by decide))
              refine qr_iload_n 31 rfl g2002 rfl ?_
              have hs2020 : 0 ≤ σ2006 86 6 ∧ σ2006 86 6 ≤ 32 := hI2008.1 86 6
              have hs2021 : σ2006 86 6 = (σ 86 6) := (hk2010).trans rfl
              refine qr_callN 34 rfl rfl rfl (sf_232_86 (d := d + 0) hI2008 hs2017 hs2019 r1 (by omega)) ?_
              rintro _ _ ⟨σ2023, α2024, rfl, hI2025, hG2026, v2022, rfl, hv2022⟩
              have hF2027 : qFr [(86, 15), (86, 23), (86, 30), (86, 35), (86, 36), (86, 37), (86, 38), (86, 39), (86, 41)] [96, 109] σ α σ2023 α2024 := qFr_t hF2009 hG2026 (by decide) (by decide)
              show qr_W (qe L xs vb) (d + 47) qx_e240 _ (34, _, [.int (qz v2022)], qw σ2023 α2024 κ ρ, 0, 0)
              refine qr_if_eq 39 37 rfl rfl rfl (qrg hv2022 (by decide) (by decide)) (fun h2028 => ?_) (fun h2028 => ?_)
              · skip
                refine qr_iinc _ 42 rfl g2004 (by decide) rfl rfl ?_
                refine qr_goto 12 rfl rfl ?_
                exact ih2014 _ (u2005 + 1) σ2023 α2024 (by omega) (qm_gk g2001 (by decide) (Or.inl (by decide))) (qm_gk g2002 (by decide) (Or.inl (by decide))) (qm_gk g2003 (by decide) (Or.inr rfl)) (qm_ge _ _ _) (by omega) hI2025 hF2027 ((hG2026.1 86 6 (by decide)).trans ((hk2010).trans rfl)) ((hG2026.1 86 43 (by decide)).trans ((hk2011).trans rfl))
              · skip
                refine qr_iconst 38 rfl rfl ?_
                refine qr_retZ rfl rfl (Or.inr rfl) (by decide) (by decide) ?_
                exact ⟨_, _, rfl, hI2025, hF2027, 1, rfl, (by decide)⟩
        exact hL2013 ((11 - 0 + 1 : Int)).toNat _ 0 σ1811 α1812 (by omega) (qm_gk g1807 (by decide) (Or.inl (by decide))) (qm_gk g1808 (by decide) (Or.inl (by decide))) (qm_gk g1809 (by decide) (Or.inr rfl)) (qm_ge _ _ _) (by decide) hI1813 hF1814 ((hk1815).trans rfl) ((hk1816).trans rfl)
  exact hL1818 ((12 - 0 + 1 : Int)).toNat _ 0 σ α (by omega) rfl rfl rfl (by decide) hI hF0 (rfl) (rfl)

set_option maxHeartbeats 4000000 in
set_option maxRecDepth 20000 in
/-- OneRoofModel.buy -/
theorem sf_239_86 {L : Nat} {xs : Nat → Int} {vb : Bool} {d : Nat} {σ α : Nat → Nat → Int} {κ : Nat → Option Nat} {ρ : Nat} {x1 : Int} {x2 : Int} {x3 : Int} (hI : qI σ α κ ρ) (r1 : (-9223372036854775808) ≤ x1 ∧ x1 ≤ 9223372036854775807) (r2 : (-2147483648) ≤ x2 ∧ x2 ≤ 2147483647) (r3 : (-2147483648) ≤ x3 ∧ x3 ≤ 2147483647) : qm_T (qe L xs vb) (d + 49) 239 [.ref 86, .long (ql x1), .int (qz x2), .int (qz x3)] (qw σ α κ ρ) (fun r w' => ∃ σ' α', w' = qw σ' α' κ ρ ∧ qI σ' α' κ ρ ∧ qFr [(86, 15), (86, 22), (86, 23), (86, 30), (86, 35), (86, 36), (86, 37), (86, 38), (86, 39), (86, 41), (86, 43)] [96, 109, 110, 113] σ α σ' α' ∧ ∃ v : Int, r = some (.long (ql v)) ∧ ((-9223372036854775808) ≤ v ∧ v ≤ 9223372036854775807)) := by
  refine qr_start (d := d + 48) qv_e239 (Nat.le_of_ble_eq_true rfl) ?_
  show qr_W (qe L xs vb) (d + 48) qx_e239 _ (0, [(0, .ref 86), (1, .long (ql x1)), (3, .int (qz x2)), (4, .int (qz x3))], [], _, 0, 0)
  have hF0 := qFr_rf [(86, 15), (86, 22), (86, 23), (86, 30), (86, 35), (86, 36), (86, 37), (86, 38), (86, 39), (86, 41), (86, 43)] [96, 109, 110, 113] σ α
  have hz86_6 : 0 ≤ σ 86 6 ∧ σ 86 6 ≤ 32 := hI.1 86 6
  refine qr_iload_n 1 rfl rfl rfl ?_
  refine qr_callN 4 rfl rfl rfl (sf_230 (d := d + 45) hI r2) ?_
  rintro _ _ ⟨rfl, v1, rfl, hv1, hp2⟩
  show qr_W (qe L xs vb) (d + 48) qx_e239 _ (4, _, [.int (qz v1)], qw σ α κ ρ, 0, 0)
  refine qr_if_eq 28 7 rfl rfl rfl (qrg hv1 (by decide) (by decide)) (fun h3 => ?_) (fun h3 => ?_)
  · skip
    refine qr_ldc2 (-1) 31 rfl (by decide) rfl ?_
    refine qr_retL rfl rfl (by decide) (by decide) ?_
    exact ⟨_, _, rfl, hI, hF0, (-1), rfl, (by decide)⟩
  · skip
    refine qr_iload 9 rfl rfl rfl ?_
    refine qr_i2l 10 rfl r3 rfl ?_
    refine qr_lconst 11 rfl rfl ?_
    refine qy_vl 0 rfl ?_
    refine qr_lconst 12 rfl rfl ?_
    refine qy_vl 1 rfl ?_
    refine qr_callN 15 rfl rfl rfl (sf_176 (d := d + 47) hI (qrg r3 (by decide) (by decide)) (by decide) (by decide)) ?_
    rintro _ _ ⟨rfl, v4, rfl, hv4, hp5⟩
    show qr_W (qe L xs vb) (d + 48) qx_e239 _ (15, _, [.int (qz v4)], qw σ α κ ρ, 0, 0)
    refine qr_if_eq 28 18 rfl rfl rfl (qrg hv4 (by decide) (by decide)) (fun h6 => ?_) (fun h6 => ?_)
    · skip
      refine qr_ldc2 (-1) 31 rfl (by decide) rfl ?_
      refine qr_retL rfl rfl (by decide) (by decide) ?_
      exact ⟨_, _, rfl, hI, hF0, (-1), rfl, (by decide)⟩
    · skip
      refine qr_aload_n 19 rfl rfl rfl ?_
      refine qr_lload_n 20 rfl rfl rfl ?_
      refine qr_bipush 22 rfl (by decide) rfl ?_
      refine qr_callN 25 rfl rfl rfl (sf_234_86p (d := d + 46) hI r1 (by decide)) ?_
      have hs9 : 0 ≤ σ 86 6 ∧ σ 86 6 ≤ 32 := hI.1 86 6
      rintro _ _ ⟨σ10, α11, rfl, hI12, hG13, v7, rfl, hv7, hp8⟩
      have hF14 : qFr [(86, 15), (86, 22), (86, 23), (86, 30), (86, 35), (86, 36), (86, 37), (86, 38), (86, 39), (86, 41), (86, 43)] [96, 109, 110, 113] σ α σ10 α11 := qFr_t hF0 hG13 (by decide) (by decide)
      have hs15 : 0 ≤ σ10 86 43 ∧ σ10 86 43 ≤ 32 := hI12.1 86 43
      show qr_W (qe L xs vb) (d + 48) qx_e239 _ (25, _, [.int (qz v7)], qw σ10 α11 κ ρ, 0, 0)
      refine qr_if_ne 32 28 rfl rfl rfl (qrg hv7 (by decide) (by decide)) (fun h16 => ?_) (fun h16 => ?_)
      · skip
        refine qr_iconst 33 rfl rfl ?_
        refine qr_istore _ 35 rfl (by decide) rfl rfl ?_
        refine qr_iconst 36 rfl rfl ?_
        refine qr_istore _ 38 rfl (by decide) rfl rfl ?_
        have hL2173014 : ∀ (n : Nat) (ls : qm_L) (u2173005 u2173007 : Int) (α2173009 : Nat → Nat → Int), 40 - u2173007 < (n : Int) → qm_get ls 0 = some (.ref 86) → qm_get ls 3 = some (.int (qz x2)) → qm_get ls 4 = some (.int (qz x3)) → qm_get ls 5 = some (.int (qz u2173005)) → qm_get ls 6 = some (.int (qz u2173007)) → (0 ≤ u2173005 ∧ u2173005 ≤ 10) → (0 ≤ u2173007 ∧ u2173007 ≤ 40) → qI σ10 α2173009 κ ρ → qFr [(86, 15), (86, 22), (86, 23), (86, 30), (86, 35), (86, 36), (86, 37), (86, 38), (86, 39), (86, 41), (86, 43)] [96, 109, 110, 113] σ α σ10 α2173009 → qr_W (qe L xs vb) (d + 48) qx_e239 (fun r w' => ∃ σ' α', w' = qw σ' α' κ ρ ∧ qI σ' α' κ ρ ∧ qFr [(86, 15), (86, 22), (86, 23), (86, 30), (86, 35), (86, 36), (86, 37), (86, 38), (86, 39), (86, 41), (86, 43)] [96, 109, 110, 113] σ α σ' α' ∧ ∃ v : Int, r = some (.long (ql v)) ∧ ((-9223372036854775808) ≤ v ∧ v ≤ 9223372036854775807)) (38, ls, [], qw σ10 α2173009 κ ρ, 0, 0) := by
          intro n
          induction n with
          | zero => intro ls u2173005 u2173007 α2173009 hm g2173001 g2173002 g2173003 g2173004 g2173006 hf2173012 hf2173013 hI2173010 hF2173011; exact False.elim (by omega)
          | succ n ih2173015 =>
            intro ls u2173005 u2173007 α2173009 hm g2173001 g2173002 g2173003 g2173004 g2173006 hf2173012 hf2173013 hI2173010 hF2173011
            refine qr_iload 40 rfl g2173006 rfl ?_
            refine qr_aload_n 41 rfl g2173001 rfl ?_
            refine qr_get 44 rfl rfl rfl (by decide) rfl ?_
            have hs2173016 : 0 ≤ σ10 86 16 ∧ σ10 86 16 ≤ 40 := hI2173010.1 86 16
            have hJ2173059 : ∀ (ls : qm_L) (u2173053 : Int) (α2173055 : Nat → Nat → Int), qm_get ls 0 = some (.ref 86) → qm_get ls 3 = some (.int (qz x2)) → qm_get ls 4 = some (.int (qz x3)) → qm_get ls 5 = some (.int (qz u2173053)) → (0 ≤ u2173053 ∧ u2173053 ≤ 10) → qI σ10 α2173055 κ ρ → qFr [(86, 15), (86, 22), (86, 23), (86, 30), (86, 35), (86, 36), (86, 37), (86, 38), (86, 39), (86, 41), (86, 43)] [96, 109, 110, 113] σ α σ10 α2173055 → qr_W (qe L xs vb) (d + 48) qx_e239 (fun r w' => ∃ σ' α', w' = qw σ' α' κ ρ ∧ qI σ' α' κ ρ ∧ qFr [(86, 15), (86, 22), (86, 23), (86, 30), (86, 35), (86, 36), (86, 37), (86, 38), (86, 39), (86, 41), (86, 43)] [96, 109, 110, 113] σ α σ' α' ∧ ∃ v : Int, r = some (.long (ql v)) ∧ ((-9223372036854775808) ≤ v ∧ v ≤ 9223372036854775807)) (106, ls, [], qw σ10 α2173055 κ ρ, 0, 0) := by
              intro ls u2173053 α2173055 g2173049 g2173050 g2173051 g2173052 hf2173058 hI2173056 hF2173057
              refine qr_iconst 107 rfl rfl ?_
              refine qr_istore _ 109 rfl (by decide) rfl rfl ?_
              refine qr_iconst 110 rfl rfl ?_
              refine qr_istore _ 112 rfl (by decide) rfl rfl ?_
              refine qr_lconst 113 rfl rfl ?_
              refine qy_vl 0 rfl ?_
              refine qr_lstore _ 115 rfl (by decide) rfl rfl ?_
              refine qr_iconst 116 rfl rfl ?_
              refine qr_istore _ 118 rfl (by decide) rfl rfl ?_
              have hL2309651 : ∀ (n : Nat) (ls : qm_L) (u2309633 u2309635 u2309637 u2309639 : Int) (σ2309640 α2309641 : Nat → Nat → Int), 1024 - u2309639 < (n : Int) → qm_get ls 0 = some (.ref 86) → qm_get ls 3 = some (.int (qz x2)) → qm_get ls 4 = some (.int (qz x3)) → qm_get ls 5 = some (.int (qz u2173053)) → qm_get ls 6 = some (.int (qz u2309633)) → qm_get ls 7 = some (.int (qz u2309635)) → qm_get ls 8 = some (.long (ql u2309637)) → qm_get ls 10 = some (.int (qz u2309639)) → ((-1) ≤ u2309633 ∧ u2309633 ≤ 1023) → ((-2147483648) ≤ u2309635 ∧ u2309635 ≤ 2147483647) → ((-9223372036854775808) ≤ u2309637 ∧ u2309637 ≤ 9223372036854775807) → (0 ≤ u2309639 ∧ u2309639 ≤ 1024) → qI σ2309640 α2309641 κ ρ → qFr [(86, 15), (86, 22), (86, 23), (86, 30), (86, 35), (86, 36), (86, 37), (86, 38), (86, 39), (86, 41), (86, 43)] [96, 109, 110, 113] σ α σ2309640 α2309641 → σ2309640 86 6 = (σ 86 6) → σ2309640 86 16 = (σ10 86 16) → σ2309640 86 43 = (σ10 86 43) → qr_W (qe L xs vb) (d + 48) qx_e239 (fun r w' => ∃ σ' α', w' = qw σ' α' κ ρ ∧ qI σ' α' κ ρ ∧ qFr [(86, 15), (86, 22), (86, 23), (86, 30), (86, 35), (86, 36), (86, 37), (86, 38), (86, 39), (86, 41), (86, 43)] [96, 109, 110, 113] σ α σ' α' ∧ ∃ v : Int, r = some (.long (ql v)) ∧ ((-9223372036854775808) ≤ v ∧ v ≤ 9223372036854775807)) (118, ls, [], qw σ2309640 α2309641 κ ρ, 0, 0) := by
                intro n
                induction n with
                | zero => intro ls u2309633 u2309635 u2309637 u2309639 σ2309640 α2309641 hm g2309628 g2309629 g2309630 g2309631 g2309632 g2309634 g2309636 g2309638 hf2309647 hf2309648 hf2309649 hf2309650 hI2309642 hF2309643 hk2309644 hk2309645 hk2309646; exact False.elim (by omega)
                | succ n ih2309652 =>
                  intro ls u2309633 u2309635 u2309637 u2309639 σ2309640 α2309641 hm g2309628 g2309629 g2309630 g2309631 g2309632 g2309634 g2309636 g2309638 hf2309647 hf2309648 hf2309649 hf2309650 hI2309642 hF2309643 hk2309644 hk2309645 hk2309646
                  refine qr_iload 120 rfl g2309638 rfl ?_
                  refine qr_iconst 121 rfl rfl ?_
                  refine qr_iload 123 rfl g2309631 rfl ?_
                  refine qr_ishl 124 rfl rfl ?_
                  refine qy_shl1 (N := 10) (by omega) (fun v2309653 hv2309653 => ?_)
                  refine qr_icmp_ge 269 127 rfl rfl rfl (qrg hf2309650 (by decide) (by decide)) (by omega) (fun h2311381 => ?_) (fun h2311381 => ?_)
                  · skip
                    refine qr_aload_n 270 rfl g2309628 rfl ?_
                    refine qr_lconst 271 rfl rfl ?_
                    refine qy_vl 0 rfl ?_
                    refine qr_put 274 rfl (by decide) rfl (Nat.le_of_ble_eq_true rfl) (Nat.le_of_ble_eq_true rfl) (Or.inl rfl) (qr_fitL rfl _) rfl ?_
                    refine qy_wS (qw_s σ2309640 86 22 0) rfl (fun σ2311382 e2311383 => ?_)
                    have hI2311384 : qI σ2311382 α2309641 κ ρ := by rw [e2311383]; exact qI_s hI2309642 86 22 rfl (show (-9223372036854775808) ≤ 0 ∧ 0 ≤ 9223372036854775807 by omega)
                    have hF2311385 : qFr [(86, 15), (86, 22), (86, 23), (86, 30), (86, 35), (86, 36), (86, 37), (86, 38), (86, 39), (86, 41), (86, 43)] [96, 109, 110, 113] σ α σ2311382 α2309641 := by rw [e2311383]; exact qFr_s hF2309643 86 22 _ (by decide)
                    refine qr_iload 276 rfl g2309632 rfl ?_
                    refine qr_if_ge 285 279 rfl rfl rfl (qrg hf2309647 (by decide) (by decide)) (fun h2311386 => ?_) (fun h2311386 => ?_)
                    · skip
                      refine qr_iload 287 rfl g2309630 rfl ?_
                      refine qr_if_ne 296 290 rfl rfl rfl r3 (fun h2311387 => ?_) (fun h2311387 => ?_)
                      · skip
                        refine qr_lload 298 rfl g2309636 rfl ?_
                        refine qr_retL rfl rfl (by decide) (by decide) ?_
                        exact ⟨_, _, rfl, hI2311384, hF2311385, u2309637, rfl, hf2309649⟩
                      · skip
                        refine qr_iload 292 rfl g2309634 rfl ?_
                        refine qr_i2l 293 rfl hf2309648 rfl ?_
                        refine qr_goto 298 rfl rfl ?_
                        refine qr_retL rfl rfl (by decide) (by decide) ?_
                        exact ⟨_, _, rfl, hI2311384, hF2311385, u2309635, rfl, (qrg hf2309648 (by decide) (by decide))⟩
                    · skip
                      refine qr_ldc2 (-2) 282 rfl (by decide) rfl ?_
                      refine qr_goto 298 rfl rfl ?_
                      refine qr_retL rfl rfl (by decide) (by decide) ?_
                      exact ⟨_, _, rfl, hI2311384, hF2311385, (-2), rfl, (by decide)⟩
                  · skip
                    refine qr_iconst 128 rfl rfl ?_
                    refine qr_istore _ 130 rfl (by decide) rfl rfl ?_
                    refine qr_aload_n 131 rfl (qm_gk g2309628 (by decide) (Or.inl (by decide))) rfl ?_
                    refine qr_lconst 132 rfl rfl ?_
                    refine qy_vl 0 rfl ?_
                    refine qr_put 135 rfl (by decide) rfl (Nat.le_of_ble_eq_true rfl) (Nat.le_of_ble_eq_true rfl) (Or.inl rfl) (qr_fitL rfl _) rfl ?_
                    refine qy_wS (qw_s σ2309640 86 22 0) rfl (fun σ2311388 e2311389 => ?_)
                    have hI2311390 : qI σ2311388 α2309641 κ ρ := by rw [e2311389]; exact qI_s hI2309642 86 22 rfl (show (-9223372036854775808) ≤ 0 ∧ 0 ≤ 9223372036854775807 by omega)
                    have hF2311391 : qFr [(86, 15), (86, 22), (86, 23), (86, 30), (86, 35), (86, 36), (86, 37), (86, 38), (86, 39), (86, 41), (86, 43)] [96, 109, 110, 113] σ α σ2311388 α2309641 := by rw [e2311389]; exact qFr_s hF2309643 86 22 _ (by decide)
                    refine qr_iconst 136 rfl rfl ?_
                    refine qr_istore _ 138 rfl (by decide) rfl rfl ?_
                    have hL2312979 : ∀ (n : Nat) (ls : qm_L) (u2312967 u2312969 : Int) (σ2312970 : Nat → Nat → Int), 10 - u2312969 < (n : Int) → qm_get ls 0 = some (.ref 86) → qm_get ls 3 = some (.int (qz x2)) → qm_get ls 4 = some (.int (qz x3)) → qm_get ls 5 = some (.int (qz u2173053)) → qm_get ls 6 = some (.int (qz u2309633)) → qm_get ls 7 = some (.int (qz u2309635)) → qm_get ls 8 = some (.long (ql u2309637)) → qm_get ls 10 = some (.int (qz u2309639)) → qm_get ls 11 = some (.int (qz u2312967)) → qm_get ls 12 = some (.int (qz u2312969)) → ((-2147483648) ≤ u2312967 ∧ u2312967 ≤ 2147483647) → (0 ≤ u2312969 ∧ u2312969 ≤ 10) → qI σ2312970 α2309641 κ ρ → qFr [(86, 15), (86, 22), (86, 23), (86, 30), (86, 35), (86, 36), (86, 37), (86, 38), (86, 39), (86, 41), (86, 43)] [96, 109, 110, 113] σ α σ2312970 α2309641 → σ2312970 86 6 = (σ 86 6) → σ2312970 86 16 = (σ10 86 16) → σ2312970 86 43 = (σ10 86 43) → qr_W (qe L xs vb) (d + 48) qx_e239 (fun r w' => ∃ σ' α', w' = qw σ' α' κ ρ ∧ qI σ' α' κ ρ ∧ qFr [(86, 15), (86, 22), (86, 23), (86, 30), (86, 35), (86, 36), (86, 37), (86, 38), (86, 39), (86, 41), (86, 43)] [96, 109, 110, 113] σ α σ' α' ∧ ∃ v : Int, r = some (.long (ql v)) ∧ ((-9223372036854775808) ≤ v ∧ v ≤ 9223372036854775807)) (138, ls, [], qw σ2312970 α2309641 κ ρ, 0, 0) := by
                      intro n
                      induction n with
                      | zero => intro ls u2312967 u2312969 σ2312970 hm g2312958 g2312959 g2312960 g2312961 g2312962 g2312963 g2312964 g2312965 g2312966 g2312968 hf2312977 hf2312978 hI2312972 hF2312973 hk2312974 hk2312975 hk2312976; exact False.elim (by omega)
                      | succ n ih2312980 =>
                        intro ls u2312967 u2312969 σ2312970 hm g2312958 g2312959 g2312960 g2312961 g2312962 g2312963 g2312964 g2312965 g2312966 g2312968 hf2312977 hf2312978 hI2312972 hF2312973 hk2312974 hk2312975 hk2312976
                        refine qr_iload 140 rfl g2312968 rfl ?_
                        refine qr_iload 142 rfl g2312961 rfl ?_
                        refine qr_icmp_ge 197 145 rfl rfl rfl (qrg hf2312978 (by decide) (by decide)) (qrg hf2173058 (by decide) (by decide)) (fun h2313029 => ?_) (fun h2313029 => ?_)
                        · skip
                          refine qr_iload 199 rfl g2312962 rfl ?_
                          have hJ2313043 : ∀ (ls : qm_L) (u2313041 : Int), qm_get ls 0 = some (.ref 86) → qm_get ls 3 = some (.int (qz x2)) → qm_get ls 4 = some (.int (qz x3)) → qm_get ls 5 = some (.int (qz u2173053)) → qm_get ls 6 = some (.int (qz u2309633)) → qm_get ls 7 = some (.int (qz u2309635)) → qm_get ls 8 = some (.long (ql u2309637)) → qm_get ls 10 = some (.int (qz u2309639)) → qm_get ls 11 = some (.int (qz u2312967)) → (0 ≤ u2313041 ∧ u2313041 ≤ 1) → qr_W (qe L xs vb) (d + 48) qx_e239 (fun r w' => ∃ σ' α', w' = qw σ' α' κ ρ ∧ qI σ' α' κ ρ ∧ qFr [(86, 15), (86, 22), (86, 23), (86, 30), (86, 35), (86, 36), (86, 37), (86, 38), (86, 39), (86, 41), (86, 43)] [96, 109, 110, 113] σ α σ' α' ∧ ∃ v : Int, r = some (.long (ql v)) ∧ ((-9223372036854775808) ≤ v ∧ v ≤ 9223372036854775807)) (234, ls, [.int (qz u2313041)], qw σ2312970 α2309641 κ ρ, 0, 0) := by
                            intro ls u2313041 g2313032 g2313033 g2313034 g2313035 g2313036 g2313037 g2313038 g2313039 g2313040 hf2313042
                            refine qr_istore _ 236 rfl (by decide) rfl rfl ?_
                            refine qr_iload 238 rfl (qm_ge _ _ _) rfl ?_
                            have hJ2313076 : ∀ (ls : qm_L) (u2313060 u2313062 u2313064 : Int) (σ2313066 α2313067 : Nat → Nat → Int), qm_get ls 0 = some (.ref 86) → qm_get ls 3 = some (.int (qz x2)) → qm_get ls 4 = some (.int (qz x3)) → qm_get ls 5 = some (.int (qz u2173053)) → qm_get ls 6 = some (.int (qz u2313060)) → qm_get ls 7 = some (.int (qz u2313062)) → qm_get ls 8 = some (.long (ql u2313064)) → qm_get ls 10 = some (.int (qz u2309639)) → ((-1) ≤ u2313060 ∧ u2313060 ≤ 1023) → ((-2147483648) ≤ u2313062 ∧ u2313062 ≤ 2147483647) → ((-9223372036854775808) ≤ u2313064 ∧ u2313064 ≤ 9223372036854775807) → qI σ2313066 α2313067 κ ρ → qFr [(86, 15), (86, 22), (86, 23), (86, 30), (86, 35), (86, 36), (86, 37), (86, 38), (86, 39), (86, 41), (86, 43)] [96, 109, 110, 113] σ α σ2313066 α2313067 → σ2313066 86 6 = (σ 86 6) → σ2313066 86 16 = (σ10 86 16) → σ2313066 86 43 = (σ10 86 43) → qr_W (qe L xs vb) (d + 48) qx_e239 (fun r w' => ∃ σ' α', w' = qw σ' α' κ ρ ∧ qI σ' α' κ ρ ∧ qFr [(86, 15), (86, 22), (86, 23), (86, 30), (86, 35), (86, 36), (86, 37), (86, 38), (86, 39), (86, 41), (86, 43)] [96, 109, 110, 113] σ α σ' α' ∧ ∃ v : Int, r = some (.long (ql v)) ∧ ((-9223372036854775808) ≤ v ∧ v ≤ 9223372036854775807)) (263, ls, [], qw σ2313066 α2313067 κ ρ, 0, 0) := by
                              intro ls u2313060 u2313062 u2313064 σ2313066 α2313067 g2313055 g2313056 g2313057 g2313058 g2313059 g2313061 g2313063 g2313065 hf2313073 hf2313074 hf2313075 hI2313068 hF2313069 hk2313070 hk2313071 hk2313072
                              refine qr_iinc _ 266 rfl g2313065 (by decide) rfl rfl ?_
                              refine qr_goto 118 rfl rfl ?_
                              exact ih2309652 _ u2313060 u2313062 u2313064 (u2309639 + 1) σ2313066 α2313067 (by omega) (qm_gk g2313055 (by decide) (Or.inl (by decide))) (qm_gk g2313056 (by decide) (Or.inl (by decide))) (qm_gk g2313057 (by decide) (Or.inl (by decide))) (qm_gk g2313058 (by decide) (Or.inl (by decide))) (qm_gk g2313059 (by decide) (Or.inl (by decide))) (qm_gk g2313061 (by decide) (Or.inl (by decide))) (qm_gk g2313063 (by decide) (Or.inl (by decide))) (qm_ge _ _ _) hf2313073 hf2313074 hf2313075 (by omega) hI2313068 hF2313069 ((hk2313070).trans rfl) ((hk2313071).trans rfl) ((hk2313072).trans rfl)
                            refine qr_if_eq 263 241 rfl rfl rfl (qrg hf2313042 (by decide) (by decide)) (fun h2313077 => ?_) (fun h2313077 => ?_)
                            · skip
                              exact hJ2313076 _ u2309633 u2309635 u2309637 σ2312970 α2309641 (qm_gk g2313032 (by decide) (Or.inl (by decide))) (qm_gk g2313033 (by decide) (Or.inl (by decide))) (qm_gk g2313034 (by decide) (Or.inl (by decide))) (qm_gk g2313035 (by decide) (Or.inl (by decide))) (qm_gk g2313036 (by decide) (Or.inl (by decide))) (qm_gk g2313037 (by decide) (Or.inl (by decide))) (qm_gk g2313038 (by decide) (Or.inl (by decide))) (qm_gk g2313039 (by decide) (Or.inl (by decide))) hf2309647 hf2309648 hf2309649 hI2312972 hF2312973 ((hk2312974).trans rfl) ((hk2312975).trans rfl) ((hk2312976).trans rfl)
                            · skip
                              refine qr_aload_n 242 rfl (qm_gk g2313032 (by decide) (Or.inl (by decide))) rfl ?_
                              refine qr_iload_n 243 rfl (qm_gk g2313033 (by decide) (Or.inl (by decide))) rfl ?_
                              have hs2313078 : 0 ≤ σ2312970 86 43 ∧ σ2312970 86 43 ≤ 32 := hI2312972.1 86 43
                              have hs2313079 : σ2312970 86 43 = (σ10 86 43) := (hk2312976).trans rfl
                              have hs2313080 : 0 ≤ σ2312970 86 6 ∧ σ2312970 86 6 ≤ 32 := hI2312972.1 86 6
                              have hs2313081 : σ2312970 86 6 = (σ 86 6) := (hk2312974).trans rfl
                              refine qr_callN 246 rfl rfl rfl (sf_240_86 (d := d + 0) hI2312972 (by omega) (by omega) (by omega)) ?_
                              rintro _ _ ⟨σ2313083, α2313084, rfl, hI2313085, hG2313086, v2313082, rfl, hv2313082⟩
                              have hF2313087 : qFr [(86, 15), (86, 22), (86, 23), (86, 30), (86, 35), (86, 36), (86, 37), (86, 38), (86, 39), (86, 41), (86, 43)] [96, 109, 110, 113] σ α σ2313083 α2313084 := qFr_t hF2312973 hG2313086 (by decide) (by decide)
                              show qr_W (qe L xs vb) (d + 48) qx_e239 _ (246, _, [.int (qz v2313082)], qw σ2313083 α2313084 κ ρ, 0, 0)
                              refine qr_if_ne 263 249 rfl rfl rfl (qrg hv2313082 (by decide) (by decide)) (fun h2313088 => ?_) (fun h2313088 => ?_)
                              · skip
                                exact hJ2313076 _ u2309633 u2309635 u2309637 σ2313083 α2313084 (qm_gk g2313032 (by decide) (Or.inl (by decide))) (qm_gk g2313033 (by decide) (Or.inl (by decide))) (qm_gk g2313034 (by decide) (Or.inl (by decide))) (qm_gk g2313035 (by decide) (Or.inl (by decide))) (qm_gk g2313036 (by decide) (Or.inl (by decide))) (qm_gk g2313037 (by decide) (Or.inl (by decide))) (qm_gk g2313038 (by decide) (Or.inl (by decide))) (qm_gk g2313039 (by decide) (Or.inl (by decide))) hf2309647 hf2309648 hf2309649 hI2313085 hF2313087 ((hG2313086.1 86 6 (by decide)).trans ((hk2312974).trans rfl)) ((hG2313086.1 86 16 (by decide)).trans ((hk2312975).trans rfl)) ((hG2313086.1 86 43 (by decide)).trans ((hk2312976).trans rfl))
                              · skip
                                refine qr_iload 251 rfl (qm_gk g2313039 (by decide) (Or.inl (by decide))) rfl ?_
                                refine qr_istore _ 253 rfl (by decide) rfl rfl ?_
                                refine qr_iload 255 rfl (qm_gk (qm_gk g2313040 (by decide) (Or.inr rfl)) (by decide) (Or.inl (by decide))) rfl ?_
                                refine qr_istore _ 257 rfl (by decide) rfl rfl ?_
                                refine qr_aload_n 258 rfl (qm_gk (qm_gk (qm_gk g2313032 (by decide) (Or.inl (by decide))) (by decide) (Or.inl (by decide))) (by decide) (Or.inl (by decide))) rfl ?_
                                refine qr_get 261 rfl rfl rfl (by decide) rfl ?_
                                have hs2313089 : (-9223372036854775808) ≤ σ2313083 86 22 ∧ σ2313083 86 22 ≤ 9223372036854775807 := hI2313085.1 86 22
                                refine qr_lstore _ 263 rfl (by decide) rfl rfl ?_
                                exact hJ2313076 _ u2309639 u2312967 (σ2313083 86 22) σ2313083 α2313084 (qm_gk2 (qm_gk (qm_gk (qm_gk g2313032 (by decide) (Or.inl (by decide))) (by decide) (Or.inl (by decide))) (by decide) (Or.inl (by decide))) (by decide) (by decide) (Or.inl (by decide))) (qm_gk2 (qm_gk (qm_gk (qm_gk g2313033 (by decide) (Or.inl (by decide))) (by decide) (Or.inl (by decide))) (by decide) (Or.inl (by decide))) (by decide) (by decide) (Or.inl (by decide))) (qm_gk2 (qm_gk (qm_gk (qm_gk g2313034 (by decide) (Or.inl (by decide))) (by decide) (Or.inl (by decide))) (by decide) (Or.inl (by decide))) (by decide) (by decide) (Or.inl (by decide))) (qm_gk2 (qm_gk (qm_gk (qm_gk g2313035 (by decide) (Or.inl (by decide))) (by decide) (Or.inr rfl)) (by decide) (Or.inl (by decide))) (by decide) (by decide) (Or.inl (by decide))) (qm_gk2 (qm_gk (qm_ge _ _ _) (by decide) (Or.inr rfl)) (by decide) (by decide) (Or.inl (by decide))) (qm_gk2 (qm_ge _ _ _) (by decide) (by decide) (Or.inr rfl)) (qm_ge2 _ _ _) (qm_gk2 (qm_gk (qm_gk (qm_gk g2313039 (by decide) (Or.inl (by decide))) (by decide) (Or.inl (by decide))) (by decide) (Or.inl (by decide))) (by decide) (by decide) (Or.inl (by decide))) (by omega) hf2312977 hs2313089 hI2313085 hF2313087 ((hG2313086.1 86 6 (by decide)).trans ((hk2312974).trans rfl)) ((hG2313086.1 86 16 (by decide)).trans ((hk2312975).trans rfl)) ((hG2313086.1 86 43 (by decide)).trans ((hk2312976).trans rfl))
                          refine qr_if_lt 229 202 rfl rfl rfl (qrg hf2309647 (by decide) (by decide)) (fun h2313090 => ?_) (fun h2313090 => ?_)
                          · skip
                            refine qr_iconst 230 rfl rfl ?_
                            refine qr_goto 234 rfl rfl ?_
                            exact hJ2313043 _ 1 g2312958 g2312959 g2312960 g2312961 g2312962 g2312963 g2312964 g2312965 g2312966 (by decide)
                          · skip
                            refine qr_iload 204 rfl g2312966 rfl ?_
                            refine qr_iload 206 rfl g2312963 rfl ?_
                            refine qr_icmp_lt 229 209 rfl rfl rfl hf2312977 hf2309648 (fun h2313091 => ?_) (fun h2313091 => ?_)
                            · skip
                              refine qr_iconst 230 rfl rfl ?_
                              refine qr_goto 234 rfl rfl ?_
                              exact hJ2313043 _ 1 g2312958 g2312959 g2312960 g2312961 g2312962 g2312963 g2312964 g2312965 g2312966 (by decide)
                            · skip
                              refine qr_iload 211 rfl g2312966 rfl ?_
                              refine qr_iload 213 rfl g2312963 rfl ?_
                              refine qr_icmp_ne 233 216 rfl rfl rfl hf2312977 hf2309648 (fun h2313092 => ?_) (fun h2313092 => ?_)
                              · skip
                                refine qr_iconst 234 rfl rfl ?_
                                exact hJ2313043 _ 0 g2312958 g2312959 g2312960 g2312961 g2312962 g2312963 g2312964 g2312965 g2312966 (by decide)
                              · skip
                                refine qr_iload 218 rfl g2312965 rfl ?_
                                refine qr_callN 221 rfl rfl rfl (sf_236 (d := d + 47) hI2312972 (qrg hf2309650 (by decide) (by decide))) ?_
                                rintro _ _ ⟨rfl, v2313093, rfl, hv2313093⟩
                                show qr_W (qe L xs vb) (d + 48) qx_e239 _ (221, _, [.int (qz v2313093)], qw σ2312970 α2309641 κ ρ, 0, 0)
                                refine qr_iload 223 rfl g2312962 rfl ?_
                                refine qr_callN 226 rfl rfl rfl (sf_236 (d := d + 47) hI2312972 (qrg hf2309647 (by decide) (by decide))) ?_
                                rintro _ _ ⟨rfl, v2313094, rfl, hv2313094⟩
                                show qr_W (qe L xs vb) (d + 48) qx_e239 _ (226, _, [.int (qz v2313094), .int (qz v2313093)], qw σ2312970 α2309641 κ ρ, 0, 0)
                                refine qr_icmp_ge 233 229 rfl rfl rfl hv2313093 hv2313094 (fun h2313095 => ?_) (fun h2313095 => ?_)
                                · skip
                                  refine qr_iconst 234 rfl rfl ?_
                                  exact hJ2313043 _ 0 g2312958 g2312959 g2312960 g2312961 g2312962 g2312963 g2312964 g2312965 g2312966 (by decide)
                                · skip
                                  refine qr_iconst 230 rfl rfl ?_
                                  refine qr_goto 234 rfl rfl ?_
                                  exact hJ2313043 _ 1 g2312958 g2312959 g2312960 g2312961 g2312962 g2312963 g2312964 g2312965 g2312966 (by decide)
                        · skip
                          refine qr_iload 147 rfl g2312965 rfl ?_
                          refine qr_iload 149 rfl g2312968 rfl ?_
                          refine qr_ishr 150 rfl rfl ?_
                          refine qy_can (fun v2313096 hv2313096 => ?_)
                          refine qr_iconst 151 rfl rfl ?_
                          refine qr_iand 152 rfl rfl ?_
                          refine qy_andr (by omega) (fun v2313097 hv2313097 => ?_)
                          refine qr_iconst 153 rfl rfl ?_
                          have hJ2313131 : ∀ (ls : qm_L) (u2313121 : Int) (σ2313123 : Nat → Nat → Int), qm_get ls 0 = some (.ref 86) → qm_get ls 3 = some (.int (qz x2)) → qm_get ls 4 = some (.int (qz x3)) → qm_get ls 5 = some (.int (qz u2173053)) → qm_get ls 6 = some (.int (qz u2309633)) → qm_get ls 7 = some (.int (qz u2309635)) → qm_get ls 8 = some (.long (ql u2309637)) → qm_get ls 10 = some (.int (qz u2309639)) → qm_get ls 11 = some (.int (qz u2313121)) → qm_get ls 12 = some (.int (qz u2312969)) → ((-2147483648) ≤ u2313121 ∧ u2313121 ≤ 2147483647) → qI σ2313123 α2309641 κ ρ → qFr [(86, 15), (86, 22), (86, 23), (86, 30), (86, 35), (86, 36), (86, 37), (86, 38), (86, 39), (86, 41), (86, 43)] [96, 109, 110, 113] σ α σ2313123 α2309641 → σ2313123 86 6 = (σ 86 6) → σ2313123 86 16 = (σ10 86 16) → σ2313123 86 43 = (σ10 86 43) → qr_W (qe L xs vb) (d + 48) qx_e239 (fun r w' => ∃ σ' α', w' = qw σ' α' κ ρ ∧ qI σ' α' κ ρ ∧ qFr [(86, 15), (86, 22), (86, 23), (86, 30), (86, 35), (86, 36), (86, 37), (86, 38), (86, 39), (86, 41), (86, 43)] [96, 109, 110, 113] σ α σ' α' ∧ ∃ v : Int, r = some (.long (ql v)) ∧ ((-9223372036854775808) ≤ v ∧ v ≤ 9223372036854775807)) (191, ls, [], qw σ2313123 α2309641 κ ρ, 0, 0) := by
                            intro ls u2313121 σ2313123 g2313112 g2313113 g2313114 g2313115 g2313116 g2313117 g2313118 g2313119 g2313120 g2313122 hf2313130 hI2313125 hF2313126 hk2313127 hk2313128 hk2313129
                            refine qr_iinc _ 194 rfl g2313122 (by decide) rfl rfl ?_
                            refine qr_goto 138 rfl rfl ?_
                            exact ih2312980 _ u2313121 (u2312969 + 1) σ2313123 (by omega) (qm_gk g2313112 (by decide) (Or.inl (by decide))) (qm_gk g2313113 (by decide) (Or.inl (by decide))) (qm_gk g2313114 (by decide) (Or.inl (by decide))) (qm_gk g2313115 (by decide) (Or.inl (by decide))) (qm_gk g2313116 (by decide) (Or.inl (by decide))) (qm_gk g2313117 (by decide) (Or.inl (by decide))) (qm_gk g2313118 (by decide) (Or.inl (by decide))) (qm_gk g2313119 (by decide) (Or.inl (by decide))) (qm_gk g2313120 (by decide) (Or.inr rfl)) (qm_ge _ _ _) hf2313130 (by omega) hI2313125 hF2313126 ((hk2313127).trans rfl) ((hk2313128).trans rfl) ((hk2313129).trans rfl)
                          refine qr_icmp_ne 191 156 rfl rfl rfl (by omega) (by decide) (fun h2313132 => ?_) (fun h2313132 => ?_)
                          · skip
                            exact hJ2313131 _ u2312967 σ2312970 g2312958 g2312959 g2312960 g2312961 g2312962 g2312963 g2312964 g2312965 g2312966 g2312968 hf2312977 hI2312972 hF2312973 ((hk2312974).trans rfl) ((hk2312975).trans rfl) ((hk2312976).trans rfl)
                          · skip
                            refine qr_iload 158 rfl g2312966 rfl ?_
                            refine qr_aload_n 159 rfl g2312958 rfl ?_
                            refine qr_get 162 rfl rfl rfl (by decide) rfl ?_
                            refine qr_aload_n 163 rfl g2312958 rfl ?_
                            refine qr_get 166 rfl rfl rfl (by decide) rfl ?_
                            refine qr_iload 168 rfl g2312968 rfl ?_
                            refine qr_iaload 169 rfl rfl (by omega) (by decide) rfl ?_
                            refine qr_topI (fun v2313133 hv2313133 => ?_)
                            have hs2313134 : 0 ≤ v2313133 ∧ v2313133 ≤ 39 := by rw [hv2313133]; exact hI2312972.2.1 113 _ (show _ < 10 by omega)
                            refine qr_iaload 170 rfl rfl (qrgi hs2313134 (by decide) (by decide)) (by decide) rfl ?_
                            refine qr_topI (fun v2313135 hv2313135 => ?_)
                            have hs2313136 : (-2147483648) ≤ v2313135 ∧ v2313135 ≤ 2147483647 := by rw [hv2313135]; exact hI2312972.2.1 101 _ (show _ < 40 from qrgt hs2313134 (by decide) (by decide))
                            refine qr_iadd 171 rfl rfl ?_
                            refine qy_can (fun v2313137 hv2313137 => ?_)
                            refine qr_istore _ 173 rfl (by decide) rfl rfl ?_
                            refine qr_aload_n 174 rfl (qm_gk g2312958 (by decide) (Or.inl (by decide))) rfl ?_
                            refine qr_dup 175 rfl rfl rfl ?_
                            refine qr_get 178 rfl rfl rfl (by decide) rfl ?_
                            have hs2313138 : (-9223372036854775808) ≤ σ2312970 86 22 ∧ σ2312970 86 22 ≤ 9223372036854775807 := hI2312972.1 86 22
                            refine qr_lconst 179 rfl rfl ?_
                            refine qy_vl 1 rfl ?_
                            refine qr_aload_n 180 rfl (qm_gk g2312958 (by decide) (Or.inl (by decide))) rfl ?_
                            refine qr_get 183 rfl rfl rfl (by decide) rfl ?_
                            refine qr_iload 185 rfl (qm_gk g2312968 (by decide) (Or.inl (by decide))) rfl ?_
                            refine qr_iaload 186 rfl rfl (by omega) (by decide) rfl ?_
                            refine qr_topI (fun v2313139 hv2313139 => ?_)
                            have hs2313140 : 0 ≤ v2313139 ∧ v2313139 ≤ 39 := by rw [hv2313139]; exact hI2312972.2.1 113 _ (show _ < 10 by omega)
                            refine qr_lshl 187 rfl rfl ?_
                            refine qy_canl (fun v2313141 hv2313141 => ?_)
                            refine qr_lor 188 rfl rfl ?_
                            refine qy_canl (fun v2313142 hv2313142 => ?_)
                            refine qr_put 191 rfl (by decide) rfl (Nat.le_of_ble_eq_true rfl) (Nat.le_of_ble_eq_true rfl) (Or.inl rfl) (qr_fitL rfl _) rfl ?_
                            refine qy_wS (qw_s σ2312970 86 22 v2313142) rfl (fun σ2313143 e2313144 => ?_)
                            have hI2313145 : qI σ2313143 α2309641 κ ρ := by rw [e2313144]; exact qI_s hI2312972 86 22 rfl (show (-9223372036854775808) ≤ v2313142 ∧ v2313142 ≤ 9223372036854775807 by omega)
                            have hF2313146 : qFr [(86, 15), (86, 22), (86, 23), (86, 30), (86, 35), (86, 36), (86, 37), (86, 38), (86, 39), (86, 41), (86, 43)] [96, 109, 110, 113] σ α σ2313143 α2309641 := by rw [e2313144]; exact qFr_s hF2312973 86 22 _ (by decide)
                            exact hJ2313131 _ v2313137 σ2313143 (qm_gk g2312958 (by decide) (Or.inl (by decide))) (qm_gk g2312959 (by decide) (Or.inl (by decide))) (qm_gk g2312960 (by decide) (Or.inl (by decide))) (qm_gk g2312961 (by decide) (Or.inl (by decide))) (qm_gk g2312962 (by decide) (Or.inl (by decide))) (qm_gk g2312963 (by decide) (Or.inl (by decide))) (qm_gk g2312964 (by decide) (Or.inl (by decide))) (qm_gk g2312965 (by decide) (Or.inr rfl)) (qm_ge _ _ _) (qm_gk g2312968 (by decide) (Or.inl (by decide))) hv2313137 hI2313145 hF2313146 ((congrFun (congrFun e2313144 86) 6).trans ((hk2312974).trans rfl)) ((congrFun (congrFun e2313144 86) 16).trans ((hk2312975).trans rfl)) ((congrFun (congrFun e2313144 86) 43).trans ((hk2312976).trans rfl))
                    exact hL2312979 ((10 - 0 + 1 : Int)).toNat _ 0 0 σ2311388 (by omega) (qm_gk (qm_gk g2309628 (by decide) (Or.inl (by decide))) (by decide) (Or.inl (by decide))) (qm_gk (qm_gk g2309629 (by decide) (Or.inl (by decide))) (by decide) (Or.inl (by decide))) (qm_gk (qm_gk g2309630 (by decide) (Or.inl (by decide))) (by decide) (Or.inl (by decide))) (qm_gk (qm_gk g2309631 (by decide) (Or.inl (by decide))) (by decide) (Or.inl (by decide))) (qm_gk (qm_gk g2309632 (by decide) (Or.inl (by decide))) (by decide) (Or.inl (by decide))) (qm_gk (qm_gk g2309634 (by decide) (Or.inl (by decide))) (by decide) (Or.inl (by decide))) (qm_gk (qm_gk g2309636 (by decide) (Or.inl (by decide))) (by decide) (Or.inl (by decide))) (qm_gk (qm_gk g2309638 (by decide) (Or.inr rfl)) (by decide) (Or.inl (by decide))) (qm_gk (qm_ge _ _ _) (by decide) (Or.inr rfl)) (qm_ge _ _ _) (by decide) (by decide) hI2311390 hF2311391 ((congrFun (congrFun e2311389 86) 6).trans ((hk2309644).trans rfl)) ((congrFun (congrFun e2311389 86) 16).trans ((hk2309645).trans rfl)) ((congrFun (congrFun e2311389 86) 43).trans ((hk2309646).trans rfl))
              exact hL2309651 ((1024 - 0 + 1 : Int)).toNat _ (-1) 0 0 0 σ10 α2173055 (by omega) (qm_gk (qm_gk2 (qm_gk (qm_gk g2173049 (by decide) (Or.inl (by decide))) (by decide) (Or.inl (by decide))) (by decide) (by decide) (Or.inl (by decide))) (by decide) (Or.inl (by decide))) (qm_gk (qm_gk2 (qm_gk (qm_gk g2173050 (by decide) (Or.inl (by decide))) (by decide) (Or.inl (by decide))) (by decide) (by decide) (Or.inl (by decide))) (by decide) (Or.inl (by decide))) (qm_gk (qm_gk2 (qm_gk (qm_gk g2173051 (by decide) (Or.inl (by decide))) (by decide) (Or.inl (by decide))) (by decide) (by decide) (Or.inl (by decide))) (by decide) (Or.inl (by decide))) (qm_gk (qm_gk2 (qm_gk (qm_gk g2173052 (by decide) (Or.inr rfl)) (by decide) (Or.inl (by decide))) (by decide) (by decide) (Or.inl (by decide))) (by decide) (Or.inl (by decide))) (qm_gk (qm_gk2 (qm_gk (qm_ge _ _ _) (by decide) (Or.inr rfl)) (by decide) (by decide) (Or.inl (by decide))) (by decide) (Or.inl (by decide))) (qm_gk (qm_gk2 (qm_ge _ _ _) (by decide) (by decide) (Or.inr rfl)) (by decide) (Or.inl (by decide))) (qm_gk (qm_ge2 _ _ _) (by decide) (Or.inl (by decide))) (qm_ge _ _ _) (by decide) (by decide) (by decide) (by decide) hI2173056 hF2173057 ((hG13.1 86 6 (by decide)).trans rfl) (rfl) (rfl)
            refine qr_icmp_ge 106 47 rfl rfl rfl (qrg hf2173013 (by decide) (by decide)) (qrg hs2173016 (by decide) (by decide)) (fun h2313147 => ?_) (fun h2313147 => ?_)
            · skip
              exact hJ2173059 _ u2173005 α2173009 g2173001 g2173002 g2173003 g2173004 hf2173012 hI2173010 hF2173011
            · skip
              refine qr_iload 49 rfl g2173004 rfl ?_
              refine qr_bipush 51 rfl (by decide) rfl ?_
              refine qr_icmp_ge 106 54 rfl rfl rfl (qrg hf2173012 (by decide) (by decide)) (by decide) (fun h2313148 => ?_) (fun h2313148 => ?_)
              · skip
                exact hJ2173059 _ u2173005 α2173009 g2173001 g2173002 g2173003 g2173004 hf2173012 hI2173010 hF2173011
              · skip
                refine qr_aload_n 55 rfl g2173001 rfl ?_
                refine qr_get 58 rfl rfl rfl (by decide) rfl ?_
                refine qr_bipush 60 rfl (by decide) rfl ?_
                refine qr_iload 62 rfl g2173006 rfl ?_
                refine qr_iadd 63 rfl rfl ?_
                refine qr_iaload 64 rfl rfl (by omega) (by decide) rfl ?_
                refine qr_topI (fun v2313149 hv2313149 => ?_)
                have hs2313150 : (-2147483648) ≤ v2313149 ∧ v2313149 ≤ 2147483647 := by rw [hv2313149]; exact hI2173010.2.1 87 _ (show _ < 252 by omega)
                refine qr_sipush 67 rfl (by decide) rfl ?_
                have hJ2313172 : ∀ (ls : qm_L) (u2313165 : Int) (α2313168 : Nat → Nat → Int), qm_get ls 0 = some (.ref 86) → qm_get ls 3 = some (.int (qz x2)) → qm_get ls 4 = some (.int (qz x3)) → qm_get ls 5 = some (.int (qz u2313165)) → qm_get ls 6 = some (.int (qz u2173007)) → (0 ≤ u2313165 ∧ u2313165 ≤ 10) → qI σ10 α2313168 κ ρ → qFr [(86, 15), (86, 22), (86, 23), (86, 30), (86, 35), (86, 36), (86, 37), (86, 38), (86, 39), (86, 41), (86, 43)] [96, 109, 110, 113] σ α σ10 α2313168 → qr_W (qe L xs vb) (d + 48) qx_e239 (fun r w' => ∃ σ' α', w' = qw σ' α' κ ρ ∧ qI σ' α' κ ρ ∧ qFr [(86, 15), (86, 22), (86, 23), (86, 30), (86, 35), (86, 36), (86, 37), (86, 38), (86, 39), (86, 41), (86, 43)] [96, 109, 110, 113] σ α σ' α' ∧ ∃ v : Int, r = some (.long (ql v)) ∧ ((-9223372036854775808) ≤ v ∧ v ≤ 9223372036854775807)) (100, ls, [], qw σ10 α2313168 κ ρ, 0, 0) := by
                  intro ls u2313165 α2313168 g2313161 g2313162 g2313163 g2313164 g2313166 hf2313171 hI2313169 hF2313170
                  refine qr_iinc _ 103 rfl g2313166 (by decide) rfl rfl ?_
                  refine qr_goto 38 rfl rfl ?_
                  exact ih2173015 _ u2313165 (u2173007 + 1) α2313168 (by omega) (qm_gk g2313161 (by decide) (Or.inl (by decide))) (qm_gk g2313162 (by decide) (Or.inl (by decide))) (qm_gk g2313163 (by decide) (Or.inl (by decide))) (qm_gk g2313164 (by decide) (Or.inr rfl)) (qm_ge _ _ _) hf2313171 (by omega) hI2313169 hF2313170
                refine qr_icmp_eq 88 70 rfl rfl rfl hs2313150 (by decide) (fun h2313173 => ?_) (fun h2313173 => ?_)
                · skip
                  refine qr_aload_n 89 rfl g2173001 rfl ?_
                  refine qr_get 92 rfl rfl rfl (by decide) rfl ?_
                  refine qr_iload 94 rfl g2173004 rfl ?_
                  refine qr_iload 96 rfl g2173006 rfl ?_
                  refine qr_iastore 97 rfl (by decide) rfl (by omega) (by decide) rfl ?_
                  refine qy_wA (qw_r α2173009 113 (qzu (α2173009 113) (u2173005 : Int).toNat u2173007)) rfl (fun α2313174 e2313175 => ?_)
                  have hI2313176 : qI σ10 α2313174 κ ρ := by rw [e2313175]; exact qI_r hI2173010 113 _ rfl (show 0 ≤ u2173007 ∧ u2173007 ≤ 39 by omega)
                  have hF2313177 : qFr [(86, 15), (86, 22), (86, 23), (86, 30), (86, 35), (86, 36), (86, 37), (86, 38), (86, 39), (86, 41), (86, 43)] [96, 109, 110, 113] σ α σ10 α2313174 := by rw [e2313175]; exact qFr_r hF2173011 113 _ (by decide)
                  refine qr_iinc _ 100 rfl g2173004 (by decide) rfl rfl ?_
                  exact hJ2313172 _ (u2173005 + 1) α2313174 (qm_gk g2173001 (by decide) (Or.inl (by decide))) (qm_gk g2173002 (by decide) (Or.inl (by decide))) (qm_gk g2173003 (by decide) (Or.inr rfl)) (qm_ge _ _ _) (qm_gk g2173006 (by decide) (Or.inl (by decide))) (by omega) hI2313176 hF2313177
                · skip
                  refine qr_aload_n 71 rfl g2173001 rfl ?_
                  refine qr_get 74 rfl rfl rfl (by decide) rfl ?_
                  refine qr_bipush 76 rfl (by decide) rfl ?_
                  refine qr_iload 78 rfl g2173006 rfl ?_
                  refine qr_iadd 79 rfl rfl ?_
                  refine qr_iaload 80 rfl rfl (by omega) (by decide) rfl ?_
                  refine qr_topI (fun v2313178 hv2313178 => ?_)
                  have hs2313179 : (-2147483648) ≤ v2313178 ∧ v2313178 ≤ 2147483647 := by rw [hv2313178]; exact hI2173010.2.1 87 _ (show _ < 252 by omega)
                  refine qr_iload_n 81 rfl g2173002 rfl ?_
                  refine qr_sipush 84 rfl (by decide) rfl ?_
                  refine qr_idiv 85 rfl (by omega) (by decide) rfl ?_
                  refine qr_icmp_le 100 88 rfl rfl rfl hs2313179 (by omega) (fun h2313180 => ?_) (fun h2313180 => ?_)
                  · skip
                    exact hJ2313172 _ u2173005 α2173009 g2173001 g2173002 g2173003 g2173004 g2173006 hf2173012 hI2173010 hF2173011
                  · skip
                    refine qr_aload_n 89 rfl g2173001 rfl ?_
                    refine qr_get 92 rfl rfl rfl (by decide) rfl ?_
                    refine qr_iload 94 rfl g2173004 rfl ?_
                    refine qr_iload 96 rfl g2173006 rfl ?_
                    refine qr_iastore 97 rfl (by decide) rfl (by omega) (by decide) rfl ?_
                    refine qy_wA (qw_r α2173009 113 (qzu (α2173009 113) (u2173005 : Int).toNat u2173007)) rfl (fun α2313181 e2313182 => ?_)
                    have hI2313183 : qI σ10 α2313181 κ ρ := by rw [e2313182]; exact qI_r hI2173010 113 _ rfl (show 0 ≤ u2173007 ∧ u2173007 ≤ 39 by omega)
                    have hF2313184 : qFr [(86, 15), (86, 22), (86, 23), (86, 30), (86, 35), (86, 36), (86, 37), (86, 38), (86, 39), (86, 41), (86, 43)] [96, 109, 110, 113] σ α σ10 α2313181 := by rw [e2313182]; exact qFr_r hF2173011 113 _ (by decide)
                    refine qr_iinc _ 100 rfl g2173004 (by decide) rfl rfl ?_
                    exact hJ2313172 _ (u2173005 + 1) α2313181 (qm_gk g2173001 (by decide) (Or.inl (by decide))) (qm_gk g2173002 (by decide) (Or.inl (by decide))) (qm_gk g2173003 (by decide) (Or.inr rfl)) (qm_ge _ _ _) (qm_gk g2173006 (by decide) (Or.inl (by decide))) (by omega) hI2313183 hF2313184
        exact hL2173014 ((40 - 0 + 1 : Int)).toNat _ 0 0 α11 (by omega) rfl rfl rfl rfl rfl (by decide) (by decide) hI12 hF14
      · skip
        refine qr_ldc2 (-1) 31 rfl (by decide) rfl ?_
        refine qr_retL rfl rfl (by decide) (by decide) ?_
        exact ⟨_, _, rfl, hI12, hF14, (-1), rfl, (by decide)⟩

set_option maxHeartbeats 4000000 in
set_option maxRecDepth 20000 in
/-- OneRoofModel.meets -/
theorem sf_244_86 {L : Nat} {xs : Nat → Int} {vb : Bool} {d : Nat} {σ α : Nat → Nat → Int} {κ : Nat → Option Nat} {ρ : Nat} {x1 : Int} {x2 : Int} {x3 : Int} (hI : qI σ α κ ρ) (r1 : 0 ≤ x1 ∧ x1 ≤ 5) (r2 : (-2147483648) ≤ x2 ∧ x2 ≤ 2147483647) (r3 : (-2147483648) ≤ x3 ∧ x3 ≤ 2147483647) (p0 : 1 ≤ σ 86 6) (p1 : σ 86 43 ≤ 6) : qm_T (qe L xs vb) (d + 6) 244 [.ref 86, .int (qz x1), .int (qz x2), .int (qz x3)] (qw σ α κ ρ) (fun r w' => ∃ σ' α', w' = qw σ' α' κ ρ ∧ qI σ' α' κ ρ ∧ qFr [(86, 15), (86, 23), (86, 30)] [96] σ α σ' α' ∧ ∃ v : Int, r = some (.int (qz v)) ∧ (0 ≤ v ∧ v ≤ 1)) := by
  refine qr_start (d := d + 5) qv_e244 (Nat.le_of_ble_eq_true rfl) ?_
  show qr_W (qe L xs vb) (d + 5) qx_e244 _ (0, [(0, .ref 86), (1, .int (qz x1)), (2, .int (qz x2)), (3, .int (qz x3))], [], _, 0, 0)
  have hF0 := qFr_rf [(86, 15), (86, 23), (86, 30)] [96] σ α
  have hz86_6 : 0 ≤ σ 86 6 ∧ σ 86 6 ≤ 32 := hI.1 86 6
  have hz86_43 : 0 ≤ σ 86 43 ∧ σ 86 43 ≤ 32 := hI.1 86 43
  refine qr_aload_n 1 rfl rfl rfl ?_
  refine qr_get 4 rfl rfl rfl (by decide) rfl ?_
  refine qr_aload_n 5 rfl rfl rfl ?_
  refine qr_get 8 rfl rfl rfl (by decide) rfl ?_
  refine qr_iload_n 9 rfl rfl rfl ?_
  refine qr_iaload 10 rfl rfl (qrgi r1 (by decide) (by decide)) (by decide) rfl ?_
  refine qr_topI (fun v1 hv1 => ?_)
  have hs2 : 0 ≤ v1 ∧ v1 ≤ 5 := by rw [hv1]; exact hI.2.1 114 _ (show _ < 6 from qrgt r1 (by decide) (by decide))
  refine qr_iaload 11 rfl rfl (qrgi hs2 (by decide) (by decide)) (by decide) rfl ?_
  refine qr_topI (fun v3 hv3 => ?_)
  have hs4 : 0 ≤ v3 ∧ v3 ≤ 31 := by rw [hv3]; exact hI.2.1 110 _ (show _ < 32 from qrgt hs2 (by decide) (by decide))
  refine qr_istore _ 13 rfl (by decide) rfl rfl ?_
  refine qr_iload_n 14 rfl rfl rfl ?_
  refine qr_iload_n 15 rfl rfl rfl ?_
  refine qr_iload_n 16 rfl rfl rfl ?_
  refine qr_bipush 18 rfl (by decide) rfl ?_
  refine qr_idivW 19 rfl (by omega) rfl ?_
  refine qy_can (fun v5 hv5 => ?_)
  refine qr_imul 20 rfl rfl ?_
  refine qy_can (fun v6 hv6 => ?_)
  refine qr_iadd 21 rfl rfl ?_
  refine qy_can (fun v7 hv7 => ?_)
  refine qr_istore _ 23 rfl (by decide) rfl rfl ?_
  refine qr_iconst 24 rfl rfl ?_
  refine qr_istore _ 26 rfl (by decide) rfl rfl ?_
  have hL435 : ∀ (n : Nat) (ls : qm_L) (u427 : Int) (σ428 α429 : Nat → Nat → Int), 5 - u427 < (n : Int) → qm_get ls 0 = some (.ref 86) → qm_get ls 1 = some (.int (qz x1)) → qm_get ls 3 = some (.int (qz x3)) → qm_get ls 4 = some (.int (qz v3)) → qm_get ls 5 = some (.int (qz v7)) → qm_get ls 6 = some (.int (qz u427)) → (0 ≤ u427 ∧ u427 ≤ 5) → qI σ428 α429 κ ρ → qFr [(86, 15), (86, 23), (86, 30)] [96] σ α σ428 α429 → σ428 86 6 = (σ 86 6) → σ428 86 43 = (σ 86 43) → qr_W (qe L xs vb) (d + 5) qx_e244 (fun r w' => ∃ σ' α', w' = qw σ' α' κ ρ ∧ qI σ' α' κ ρ ∧ qFr [(86, 15), (86, 23), (86, 30)] [96] σ α σ' α' ∧ ∃ v : Int, r = some (.int (qz v)) ∧ (0 ≤ v ∧ v ≤ 1)) (26, ls, [], qw σ428 α429 κ ρ, 0, 0) := by
    intro n
    induction n with
    | zero => intro ls u427 σ428 α429 hm g421 g422 g423 g424 g425 g426 hf434 hI430 hF431 hk432 hk433; exact False.elim (by omega)
    | succ n ih436 =>
      intro ls u427 σ428 α429 hm g421 g422 g423 g424 g425 g426 hf434 hI430 hF431 hk432 hk433
      refine qr_iload 28 rfl g426 rfl ?_
      refine qr_iload_n 29 rfl g422 rfl ?_
      refine qr_icmp_ge 127 32 rfl rfl rfl (qrg hf434 (by decide) (by decide)) (qrg r1 (by decide) (by decide)) (fun h437 => ?_) (fun h437 => ?_)
      · skip
        refine qr_iconst 128 rfl rfl ?_
        refine qr_retZ rfl rfl (Or.inl rfl) (by decide) (by decide) ?_
        exact ⟨_, _, rfl, hI430, hF431, 0, rfl, (by decide)⟩
      · skip
        refine qr_aload_n 33 rfl g421 rfl ?_
        refine qr_get 36 rfl rfl rfl (by decide) rfl ?_
        refine qr_aload_n 37 rfl g421 rfl ?_
        refine qr_get 40 rfl rfl rfl (by decide) rfl ?_
        refine qr_iload 42 rfl g426 rfl ?_
        refine qr_iaload 43 rfl rfl (qrgi hf434 (by decide) (by decide)) (by decide) rfl ?_
        refine qr_topI (fun v438 hv438 => ?_)
        have hs439 : 0 ≤ v438 ∧ v438 ≤ 5 := by rw [hv438]; exact hI430.2.1 114 _ (show _ < 6 from qrgt hf434 (by decide) (by decide))
        refine qr_iaload 44 rfl rfl (qrgi hs439 (by decide) (by decide)) (by decide) rfl ?_
        refine qr_topI (fun v440 hv440 => ?_)
        have hs441 : 0 ≤ v440 ∧ v440 ≤ 31 := by rw [hv440]; exact hI430.2.1 110 _ (show _ < 32 from qrgt hs439 (by decide) (by decide))
        refine qr_istore _ 46 rfl (by decide) rfl rfl ?_
        refine qr_aload_n 47 rfl (qm_gk g421 (by decide) (Or.inl (by decide))) rfl ?_
        refine qr_get 50 rfl rfl rfl (by decide) rfl ?_
        refine qr_iload 52 rfl (qm_gk g424 (by decide) (Or.inl (by decide))) rfl ?_
        refine qr_iaload 53 rfl rfl (qrgi hs4 (by decide) (by decide)) (by decide) rfl ?_
        refine qr_topI (fun v442 hv442 => ?_)
        have hs443 : (-2147483648) ≤ v442 ∧ v442 ≤ 2147483647 := by rw [hv442]; exact hI430.2.1 93 _ (show _ < 32 from qrgt hs4 (by decide) (by decide))
        refine qr_aload_n 54 rfl (qm_gk g421 (by decide) (Or.inl (by decide))) rfl ?_
        refine qr_get 57 rfl rfl rfl (by decide) rfl ?_
        refine qr_iload 59 rfl (qm_ge _ _ _) rfl ?_
        refine qr_iaload 60 rfl rfl (qrgi hs441 (by decide) (by decide)) (by decide) rfl ?_
        refine qr_topI (fun v444 hv444 => ?_)
        have hs445 : (-2147483648) ≤ v444 ∧ v444 ≤ 2147483647 := by rw [hv444]; exact hI430.2.1 93 _ (show _ < 32 from qrgt hs441 (by decide) (by decide))
        have hJ476 : ∀ (ls : qm_L) (u468 : Int) (σ469 α470 : Nat → Nat → Int), qm_get ls 0 = some (.ref 86) → qm_get ls 1 = some (.int (qz x1)) → qm_get ls 3 = some (.int (qz x3)) → qm_get ls 4 = some (.int (qz v3)) → qm_get ls 5 = some (.int (qz v7)) → qm_get ls 6 = some (.int (qz u427)) → (0 ≤ u468 ∧ u468 ≤ 1) → qI σ469 α470 κ ρ → qFr [(86, 15), (86, 23), (86, 30)] [96] σ α σ469 α470 → σ469 86 6 = (σ 86 6) → σ469 86 43 = (σ 86 43) → qr_W (qe L xs vb) (d + 5) qx_e244 (fun r w' => ∃ σ' α', w' = qw σ' α' κ ρ ∧ qI σ' α' κ ρ ∧ qFr [(86, 15), (86, 23), (86, 30)] [96] σ α σ' α' ∧ ∃ v : Int, r = some (.int (qz v)) ∧ (0 ≤ v ∧ v ≤ 1)) (112, ls, [.int (qz u468)], qw σ469 α470 κ ρ, 0, 0) := by
          intro ls u468 σ469 α470 g462 g463 g464 g465 g466 g467 hf475 hI471 hF472 hk473 hk474
          refine qr_istore _ 114 rfl (by decide) rfl rfl ?_
          refine qr_iload 116 rfl (qm_ge _ _ _) rfl ?_
          refine qr_if_eq 121 119 rfl rfl rfl (qrg hf475 (by decide) (by decide)) (fun h477 => ?_) (fun h477 => ?_)
          · skip
            refine qr_iinc _ 124 rfl (qm_gk g467 (by decide) (Or.inl (by decide))) (by decide) rfl rfl ?_
            refine qr_goto 26 rfl rfl ?_
            exact ih436 _ (u427 + 1) σ469 α470 (by omega) (qm_gk (qm_gk g462 (by decide) (Or.inl (by decide))) (by decide) (Or.inl (by decide))) (qm_gk (qm_gk g463 (by decide) (Or.inl (by decide))) (by decide) (Or.inl (by decide))) (qm_gk (qm_gk g464 (by decide) (Or.inl (by decide))) (by decide) (Or.inl (by decide))) (qm_gk (qm_gk g465 (by decide) (Or.inl (by decide))) (by decide) (Or.inl (by decide))) (qm_gk (qm_gk g466 (by decide) (Or.inl (by decide))) (by decide) (Or.inr rfl)) (qm_ge _ _ _) (by omega) hI471 hF472 ((hk473).trans rfl) ((hk474).trans rfl)
          · skip
            refine qr_iconst 120 rfl rfl ?_
            refine qr_retZ rfl rfl (Or.inr rfl) (by decide) (by decide) ?_
            exact ⟨_, _, rfl, hI471, hF472, 1, rfl, (by decide)⟩
        refine qr_icmp_ne 111 63 rfl rfl rfl hs443 hs445 (fun h478 => ?_) (fun h478 => ?_)
        · skip
          refine qr_iconst 112 rfl rfl ?_
          exact hJ476 _ 0 σ428 α429 (qm_gk g421 (by decide) (Or.inl (by decide))) (qm_gk g422 (by decide) (Or.inl (by decide))) (qm_gk g423 (by decide) (Or.inl (by decide))) (qm_gk g424 (by decide) (Or.inl (by decide))) (qm_gk g425 (by decide) (Or.inl (by decide))) (qm_gk g426 (by decide) (Or.inr rfl)) (by decide) hI430 hF431 ((hk432).trans rfl) ((hk433).trans rfl)
        · skip
          refine qr_iload_n 64 rfl (qm_gk g422 (by decide) (Or.inl (by decide))) rfl ?_
          refine qr_iload 66 rfl (qm_gk g426 (by decide) (Or.inr rfl)) rfl ?_
          refine qr_isub 67 rfl rfl ?_
          refine qr_iload_n 68 rfl (qm_gk g423 (by decide) (Or.inl (by decide))) rfl ?_
          refine qr_bipush 70 rfl (by decide) rfl ?_
          refine qr_idivW 71 rfl (by omega) rfl ?_
          refine qy_can (fun v479 hv479 => ?_)
          refine qr_imul 72 rfl rfl ?_
          refine qy_can (fun v480 hv480 => ?_)
          refine qr_iload_n 73 rfl (qm_gk g423 (by decide) (Or.inl (by decide))) rfl ?_
          refine qr_bipush 75 rfl (by decide) rfl ?_
          refine qr_iremW 76 rfl (by omega) rfl ?_
          refine qy_can (fun v481 hv481 => ?_)
          refine qr_icmp_gt 111 79 rfl rfl rfl hv480 hv481 (fun h482 => ?_) (fun h482 => ?_)
          · skip
            refine qr_iconst 112 rfl rfl ?_
            exact hJ476 _ 0 σ428 α429 (qm_gk g421 (by decide) (Or.inl (by decide))) (qm_gk g422 (by decide) (Or.inl (by decide))) (qm_gk g423 (by decide) (Or.inl (by decide))) (qm_gk g424 (by decide) (Or.inl (by decide))) (qm_gk g425 (by decide) (Or.inl (by decide))) (qm_gk g426 (by decide) (Or.inr rfl)) (by decide) hI430 hF431 ((hk432).trans rfl) ((hk433).trans rfl)
          · skip
            refine qr_aload_n 80 rfl (qm_gk g421 (by decide) (Or.inl (by decide))) rfl ?_
            refine qr_iload 82 rfl (qm_gk g424 (by decide) (Or.inl (by decide))) rfl ?_
            refine qr_iload 84 rfl (qm_ge _ _ _) rfl ?_
            refine qr_iload 86 rfl (qm_gk g425 (by decide) (Or.inl (by decide))) rfl ?_
            refine qr_callN 89 rfl rfl rfl (sf_195_86 (d := d + 0) hI430 hs4 hs441 hv7) ?_
            rintro _ _ ⟨σ484, α485, rfl, hI486, hG487, v483, rfl, hv483⟩
            have hF488 : qFr [(86, 15), (86, 23), (86, 30)] [96] σ α σ484 α485 := qFr_t hF431 hG487 (by decide) (by decide)
            show qr_W (qe L xs vb) (d + 5) qx_e244 _ (89, _, [.int (qz v483)], qw σ484 α485 κ ρ, 0, 0)
            refine qr_bipush 91 rfl (by decide) rfl ?_
            refine qr_icmp_eq 111 94 rfl rfl rfl hv483 (by decide) (fun h489 => ?_) (fun h489 => ?_)
            · skip
              refine qr_iconst 112 rfl rfl ?_
              exact hJ476 _ 0 σ484 α485 (qm_gk g421 (by decide) (Or.inl (by decide))) (qm_gk g422 (by decide) (Or.inl (by decide))) (qm_gk g423 (by decide) (Or.inl (by decide))) (qm_gk g424 (by decide) (Or.inl (by decide))) (qm_gk g425 (by decide) (Or.inl (by decide))) (qm_gk g426 (by decide) (Or.inr rfl)) (by decide) hI486 hF488 ((hG487.1 86 6 (by decide)).trans ((hk432).trans rfl)) ((hG487.1 86 43 (by decide)).trans ((hk433).trans rfl))
            · skip
              refine qr_aload_n 95 rfl (qm_gk g421 (by decide) (Or.inl (by decide))) rfl ?_
              refine qr_iload 97 rfl (qm_gk g424 (by decide) (Or.inl (by decide))) rfl ?_
              refine qr_iload 99 rfl (qm_ge _ _ _) rfl ?_
              refine qr_iload 101 rfl (qm_gk g425 (by decide) (Or.inl (by decide))) rfl ?_
              have hs490 : 0 ≤ σ484 86 6 ∧ σ484 86 6 ≤ 32 := hI486.1 86 6
              have hs491 : σ484 86 6 = (σ 86 6) := (hG487.1 86 6 (by decide)).trans ((hk432).trans rfl)
              refine qr_callN 104 rfl rfl rfl (sf_209_86 (d := d + 1) hI486 hs4 hs441 hv7 (by omega)) ?_
              rintro _ _ ⟨σ493, rfl, hI494, hG495, v492, rfl, hv492⟩
              have hF496 : qFr [(86, 15), (86, 23), (86, 30)] [96] σ α σ493 α485 := qFr_t hF488 hG495 (by decide) (by decide)
              show qr_W (qe L xs vb) (d + 5) qx_e244 _ (104, _, [.int (qz v492)], qw σ493 α485 κ ρ, 0, 0)
              refine qr_if_ne 111 107 rfl rfl rfl hv492 (fun h497 => ?_) (fun h497 => ?_)
              · skip
                refine qr_iconst 112 rfl rfl ?_
                exact hJ476 _ 0 σ493 α485 (qm_gk g421 (by decide) (Or.inl (by decide))) (qm_gk g422 (by decide) (Or.inl (by decide))) (qm_gk g423 (by decide) (Or.inl (by decide))) (qm_gk g424 (by decide) (Or.inl (by decide))) (qm_gk g425 (by decide) (Or.inl (by decide))) (qm_gk g426 (by decide) (Or.inr rfl)) (by decide) hI494 hF496 ((hG495.1 86 6 (by decide)).trans ((hG487.1 86 6 (by decide)).trans ((hk432).trans rfl))) ((hG495.1 86 43 (by decide)).trans ((hG487.1 86 43 (by decide)).trans ((hk433).trans rfl)))
              · skip
                refine qr_iconst 108 rfl rfl ?_
                refine qr_goto 112 rfl rfl ?_
                exact hJ476 _ 1 σ493 α485 (qm_gk g421 (by decide) (Or.inl (by decide))) (qm_gk g422 (by decide) (Or.inl (by decide))) (qm_gk g423 (by decide) (Or.inl (by decide))) (qm_gk g424 (by decide) (Or.inl (by decide))) (qm_gk g425 (by decide) (Or.inl (by decide))) (qm_gk g426 (by decide) (Or.inr rfl)) (by decide) hI494 hF496 ((hG495.1 86 6 (by decide)).trans ((hG487.1 86 6 (by decide)).trans ((hk432).trans rfl))) ((hG495.1 86 43 (by decide)).trans ((hG487.1 86 43 (by decide)).trans ((hk433).trans rfl)))
  exact hL435 ((5 - 0 + 1 : Int)).toNat _ 0 σ α (by omega) rfl rfl rfl rfl rfl rfl (by decide) hI hF0 (rfl) (rfl)

set_option maxHeartbeats 4000000 in
set_option maxRecDepth 20000 in
/-- OneRoofModel.orders -/
theorem sf_243_86t6 {L : Nat} {xs : Nat → Int} {vb : Bool} {d : Nat} {σ α : Nat → Nat → Int} {κ : Nat → Option Nat} {ρ : Nat} {x2 : Int} {x3 : Int} {x4 : Int} (hI : qI σ α κ ρ) (r2 : (-2147483648) ≤ x2 ∧ x2 ≤ 2147483647) (r3 : (-2147483648) ≤ x3 ∧ x3 ≤ 2147483647) (r4 : 100 ≤ x4 ∧ x4 ≤ 2499) (p0 : 1 ≤ σ 86 6) (p1 : σ 86 43 ≤ 6) (p2 : 6 ≤ σ 86 43) : qm_T (qe L xs vb) (d + 1) 243 [.ref 86, .int (qz 6), .int (qz x2), .int (qz x3), .int (qz x4)] (qw σ α κ ρ) (fun r w' => ∃ σ' α', w' = qw σ' α' κ ρ ∧ qI σ' α' κ ρ ∧ qFr [(86, 15), (86, 23), (86, 30)] [96, 114] σ α σ' α' ∧ ∃ v : Int, r = some (.int (qz v)) ∧ (0 ≤ v ∧ v ≤ 1)) := by
  refine qr_start (d := d + 0) qv_e243 (Nat.le_of_ble_eq_true rfl) ?_
  show qr_W (qe L xs vb) (d + 0) qx_e243 _ (0, [(0, .ref 86), (1, .int (qz 6)), (2, .int (qz x2)), (3, .int (qz x3)), (4, .int (qz x4))], [], _, 0, 0)
  have hF0 := qFr_rf [(86, 15), (86, 23), (86, 30)] [96, 114] σ α
  have hz86_6 : 0 ≤ σ 86 6 ∧ σ 86 6 ≤ 32 := hI.1 86 6
  have hz86_43 : 0 ≤ σ 86 43 ∧ σ 86 43 ≤ 32 := hI.1 86 43
  refine qr_iload_n 1 rfl rfl rfl ?_
  refine qr_aload_n 2 rfl rfl rfl ?_
  refine qr_get 5 rfl rfl rfl (by decide) rfl ?_
  refine qr_icmp_ne 10 8 rfl rfl rfl (by decide) (qrg hz86_43 (by decide) (by decide)) (fun h => False.elim (by omega)) (fun h1 => ?_)
  refine qr_iconst 9 rfl rfl ?_
  refine qr_retZ rfl rfl (Or.inr rfl) (by decide) (by decide) ?_
  exact ⟨_, _, rfl, hI, hF0, 1, rfl, (by decide)⟩

set_option maxHeartbeats 4000000 in
set_option maxRecDepth 20000 in
/-- OneRoofModel.orders -/
theorem sf_243_86t5 {L : Nat} {xs : Nat → Int} {vb : Bool} {d : Nat} {σ α : Nat → Nat → Int} {κ : Nat → Option Nat} {ρ : Nat} {x2 : Int} {x3 : Int} {x4 : Int} (hI : qI σ α κ ρ) (r2 : (-2147483648) ≤ x2 ∧ x2 ≤ 2147483647) (r3 : (-2147483648) ≤ x3 ∧ x3 ≤ 2147483647) (r4 : 100 ≤ x4 ∧ x4 ≤ 2499) (p0 : 1 ≤ σ 86 6) (p1 : σ 86 43 ≤ 6) (p2 : 5 ≤ σ 86 43) : qm_T (qe L xs vb) (d + 7) 243 [.ref 86, .int (qz 5), .int (qz x2), .int (qz x3), .int (qz x4)] (qw σ α κ ρ) (fun r w' => ∃ σ' α', w' = qw σ' α' κ ρ ∧ qI σ' α' κ ρ ∧ qFr [(86, 15), (86, 23), (86, 30)] [96, 114] σ α σ' α' ∧ ∃ v : Int, r = some (.int (qz v)) ∧ (0 ≤ v ∧ v ≤ 1)) := by
  refine qr_start (d := d + 6) qv_e243 (Nat.le_of_ble_eq_true rfl) ?_
  show qr_W (qe L xs vb) (d + 6) qx_e243 _ (0, [(0, .ref 86), (1, .int (qz 5)), (2, .int (qz x2)), (3, .int (qz x3)), (4, .int (qz x4))], [], _, 0, 0)
  have hF0 := qFr_rf [(86, 15), (86, 23), (86, 30)] [96, 114] σ α
  have hz86_6 : 0 ≤ σ 86 6 ∧ σ 86 6 ≤ 32 := hI.1 86 6
  have hz86_43 : 0 ≤ σ 86 43 ∧ σ 86 43 ≤ 32 := hI.1 86 43
  refine qr_iload_n 1 rfl rfl rfl ?_
  refine qr_aload_n 2 rfl rfl rfl ?_
  refine qr_get 5 rfl rfl rfl (by decide) rfl ?_
  refine qr_icmp_ne 10 8 rfl rfl rfl (by decide) (qrg hz86_43 (by decide) (by decide)) (fun h1 => ?_) (fun h1 => ?_)
  · skip
    refine qr_iconst 11 rfl rfl ?_
    refine qr_istore _ 13 rfl (by decide) rfl rfl ?_
    have hL288 : ∀ (n : Nat) (ls : qm_L) (u280 : Int) (σ281 α282 : Nat → Nat → Int), 6 - u280 < (n : Int) → qm_get ls 0 = some (.ref 86) → qm_get ls 1 = some (.int (qz 5)) → qm_get ls 2 = some (.int (qz x2)) → qm_get ls 3 = some (.int (qz x3)) → qm_get ls 4 = some (.int (qz x4)) → qm_get ls 5 = some (.int (qz u280)) → (0 ≤ u280 ∧ u280 ≤ 6) → qI σ281 α282 κ ρ → qFr [(86, 15), (86, 23), (86, 30)] [96, 114] σ α σ281 α282 → σ281 86 6 = (σ 86 6) → σ281 86 43 = (σ 86 43) → qr_W (qe L xs vb) (d + 6) qx_e243 (fun r w' => ∃ σ' α', w' = qw σ' α' κ ρ ∧ qI σ' α' κ ρ ∧ qFr [(86, 15), (86, 23), (86, 30)] [96, 114] σ α σ' α' ∧ ∃ v : Int, r = some (.int (qz v)) ∧ (0 ≤ v ∧ v ≤ 1)) (13, ls, [], qw σ281 α282 κ ρ, 0, 0) := by
      intro n
      induction n with
      | zero => intro ls u280 σ281 α282 hm g274 g275 g276 g277 g278 g279 hf287 hI283 hF284 hk285 hk286; exact False.elim (by omega)
      | succ n ih289 =>
        intro ls u280 σ281 α282 hm g274 g275 g276 g277 g278 g279 hf287 hI283 hF284 hk285 hk286
        refine qr_iload 15 rfl g279 rfl ?_
        refine qr_aload_n 16 rfl g274 rfl ?_
        refine qr_get 19 rfl rfl rfl (by decide) rfl ?_
        refine qy_v (σ 86 43) ((hk286).trans rfl) ?_
        refine qr_icmp_ge 81 22 rfl rfl rfl (qrg hf287 (by decide) (by decide)) (qrg hz86_43 (by decide) (by decide)) (fun h290 => ?_) (fun h290 => ?_)
        · skip
          refine qr_iconst 82 rfl rfl ?_
          refine qr_retZ rfl rfl (Or.inl rfl) (by decide) (by decide) ?_
          exact ⟨_, _, rfl, hI283, hF284, 0, rfl, (by decide)⟩
        · skip
          refine qr_iload_n 23 rfl g276 rfl ?_
          refine qr_iload 25 rfl g279 rfl ?_
          refine qr_ishr 26 rfl rfl ?_
          refine qy_can (fun v291 hv291 => ?_)
          refine qr_iconst 27 rfl rfl ?_
          refine qr_iand 28 rfl rfl ?_
          refine qy_andr (by omega) (fun v292 hv292 => ?_)
          refine qr_iconst 29 rfl rfl ?_
          refine qr_icmp_ne 35 32 rfl rfl rfl (by omega) (by decide) (fun h293 => ?_) (fun h293 => ?_)
          · skip
            refine qr_aload_n 36 rfl g274 rfl ?_
            refine qr_get 39 rfl rfl rfl (by decide) rfl ?_
            refine qr_iload_n 40 rfl g275 rfl ?_
            refine qr_iload 42 rfl g279 rfl ?_
            refine qr_iastore 43 rfl (by decide) rfl (by decide) (by decide) rfl ?_
            refine qy_wA (qw_r α282 114 (qzu (α282 114) (5 : Int).toNat u280)) rfl (fun α294 e295 => ?_)
            have hI296 : qI σ281 α294 κ ρ := by rw [e295]; exact qI_r hI283 114 _ rfl (show 0 ≤ u280 ∧ u280 ≤ 5 by omega)
            have hF297 : qFr [(86, 15), (86, 23), (86, 30)] [96, 114] σ α σ281 α294 := by rw [e295]; exact qFr_r hF284 114 _ (by decide)
            refine qr_aload_n 44 rfl g274 rfl ?_
            refine qr_iload_n 45 rfl g275 rfl ?_
            refine qr_iload_n 46 rfl g277 rfl ?_
            refine qr_iload 48 rfl g278 rfl ?_
            have hs298 : 0 ≤ σ281 86 43 ∧ σ281 86 43 ≤ 32 := hI296.1 86 43
            have hs299 : σ281 86 43 = (σ 86 43) := (hk286).trans rfl
            have hs300 : 0 ≤ σ281 86 6 ∧ σ281 86 6 ≤ 32 := hI296.1 86 6
            have hs301 : σ281 86 6 = (σ 86 6) := (hk285).trans rfl
            refine qr_callN 51 rfl rfl rfl (sf_244_86 (d := d + 0) hI296 (by decide) r3 (qrg r4 (by decide) (by decide)) (by omega) (by omega)) ?_
            rintro _ _ ⟨σ303, α304, rfl, hI305, hG306, v302, rfl, hv302⟩
            have hF307 : qFr [(86, 15), (86, 23), (86, 30)] [96, 114] σ α σ303 α304 := qFr_t hF297 hG306 (by decide) (by decide)
            show qr_W (qe L xs vb) (d + 6) qx_e243 _ (51, _, [.int (qz v302)], qw σ303 α304 κ ρ, 0, 0)
            refine qr_if_ne 75 54 rfl rfl rfl (qrg hv302 (by decide) (by decide)) (fun h308 => ?_) (fun h308 => ?_)
            · skip
              refine qr_iinc _ 78 rfl g279 (by decide) rfl rfl ?_
              refine qr_goto 13 rfl rfl ?_
              exact ih289 _ (u280 + 1) σ303 α304 (by omega) (qm_gk g274 (by decide) (Or.inl (by decide))) (qm_gk g275 (by decide) (Or.inl (by decide))) (qm_gk g276 (by decide) (Or.inl (by decide))) (qm_gk g277 (by decide) (Or.inl (by decide))) (qm_gk g278 (by decide) (Or.inr rfl)) (qm_ge _ _ _) (by omega) hI305 hF307 ((hG306.1 86 6 (by decide)).trans ((hk285).trans rfl)) ((hG306.1 86 43 (by decide)).trans ((hk286).trans rfl))
            · skip
              refine qr_aload_n 55 rfl g274 rfl ?_
              refine qr_iload_n 56 rfl g275 rfl ?_
              refine qr_iconst 57 rfl rfl ?_
              refine qr_iadd 58 rfl rfl ?_
              refine qy_v 6 rfl ?_
              refine qr_iload_n 59 rfl g276 rfl ?_
              refine qr_iconst 60 rfl rfl ?_
              refine qr_iload 62 rfl g279 rfl ?_
              refine qr_ishl 63 rfl rfl ?_
              refine qy_shl1 (N := 5) (by omega) (fun v309 hv309 => ?_)
              refine qr_ior 64 rfl rfl ?_
              refine qy_can (fun v310 hv310 => ?_)
              refine qr_iload_n 65 rfl g277 rfl ?_
              refine qr_iload 67 rfl g278 rfl ?_
              have hs311 : 0 ≤ σ303 86 43 ∧ σ303 86 43 ≤ 32 := hI305.1 86 43
              have hs312 : σ303 86 43 = (σ 86 43) := (hG306.1 86 43 (by decide)).trans ((hk286).trans rfl)
              have hs313 : 0 ≤ σ303 86 6 ∧ σ303 86 6 ≤ 32 := hI305.1 86 6
              have hs314 : σ303 86 6 = (σ 86 6) := (hG306.1 86 6 (by decide)).trans ((hk285).trans rfl)
              refine qr_callN 70 rfl rfl rfl (sf_243_86t6 (d := d + 5) hI305 hv310 r3 r4 (by omega) (by omega) (by omega)) ?_
              rintro _ _ ⟨σ316, α317, rfl, hI318, hG319, v315, rfl, hv315⟩
              have hF320 : qFr [(86, 15), (86, 23), (86, 30)] [96, 114] σ α σ316 α317 := qFr_t hF307 hG319 (by decide) (by decide)
              show qr_W (qe L xs vb) (d + 6) qx_e243 _ (70, _, [.int (qz v315)], qw σ316 α317 κ ρ, 0, 0)
              refine qr_if_eq 75 73 rfl rfl rfl (qrg hv315 (by decide) (by decide)) (fun h321 => ?_) (fun h321 => ?_)
              · skip
                refine qr_iinc _ 78 rfl g279 (by decide) rfl rfl ?_
                refine qr_goto 13 rfl rfl ?_
                exact ih289 _ (u280 + 1) σ316 α317 (by omega) (qm_gk g274 (by decide) (Or.inl (by decide))) (qm_gk g275 (by decide) (Or.inl (by decide))) (qm_gk g276 (by decide) (Or.inl (by decide))) (qm_gk g277 (by decide) (Or.inl (by decide))) (qm_gk g278 (by decide) (Or.inr rfl)) (qm_ge _ _ _) (by omega) hI318 hF320 ((hG319.1 86 6 (by decide)).trans ((hG306.1 86 6 (by decide)).trans ((hk285).trans rfl))) ((hG319.1 86 43 (by decide)).trans ((hG306.1 86 43 (by decide)).trans ((hk286).trans rfl)))
              · skip
                refine qr_iconst 74 rfl rfl ?_
                refine qr_retZ rfl rfl (Or.inr rfl) (by decide) (by decide) ?_
                exact ⟨_, _, rfl, hI318, hF320, 1, rfl, (by decide)⟩
          · skip
            refine qr_goto 75 rfl rfl ?_
            refine qr_iinc _ 78 rfl g279 (by decide) rfl rfl ?_
            refine qr_goto 13 rfl rfl ?_
            exact ih289 _ (u280 + 1) σ281 α282 (by omega) (qm_gk g274 (by decide) (Or.inl (by decide))) (qm_gk g275 (by decide) (Or.inl (by decide))) (qm_gk g276 (by decide) (Or.inl (by decide))) (qm_gk g277 (by decide) (Or.inl (by decide))) (qm_gk g278 (by decide) (Or.inr rfl)) (qm_ge _ _ _) (by omega) hI283 hF284 ((hk285).trans rfl) ((hk286).trans rfl)
    exact hL288 ((6 - 0 + 1 : Int)).toNat _ 0 σ α (by omega) rfl rfl rfl rfl rfl rfl (by decide) hI hF0 (rfl) (rfl)
  · skip
    refine qr_iconst 9 rfl rfl ?_
    refine qr_retZ rfl rfl (Or.inr rfl) (by decide) (by decide) ?_
    exact ⟨_, _, rfl, hI, hF0, 1, rfl, (by decide)⟩

set_option maxHeartbeats 4000000 in
set_option maxRecDepth 20000 in
/-- OneRoofModel.orders -/
theorem sf_243_86t4 {L : Nat} {xs : Nat → Int} {vb : Bool} {d : Nat} {σ α : Nat → Nat → Int} {κ : Nat → Option Nat} {ρ : Nat} {x2 : Int} {x3 : Int} {x4 : Int} (hI : qI σ α κ ρ) (r2 : (-2147483648) ≤ x2 ∧ x2 ≤ 2147483647) (r3 : (-2147483648) ≤ x3 ∧ x3 ≤ 2147483647) (r4 : 100 ≤ x4 ∧ x4 ≤ 2499) (p0 : 1 ≤ σ 86 6) (p1 : σ 86 43 ≤ 6) (p2 : 4 ≤ σ 86 43) : qm_T (qe L xs vb) (d + 8) 243 [.ref 86, .int (qz 4), .int (qz x2), .int (qz x3), .int (qz x4)] (qw σ α κ ρ) (fun r w' => ∃ σ' α', w' = qw σ' α' κ ρ ∧ qI σ' α' κ ρ ∧ qFr [(86, 15), (86, 23), (86, 30)] [96, 114] σ α σ' α' ∧ ∃ v : Int, r = some (.int (qz v)) ∧ (0 ≤ v ∧ v ≤ 1)) := by
  refine qr_start (d := d + 7) qv_e243 (Nat.le_of_ble_eq_true rfl) ?_
  show qr_W (qe L xs vb) (d + 7) qx_e243 _ (0, [(0, .ref 86), (1, .int (qz 4)), (2, .int (qz x2)), (3, .int (qz x3)), (4, .int (qz x4))], [], _, 0, 0)
  have hF0 := qFr_rf [(86, 15), (86, 23), (86, 30)] [96, 114] σ α
  have hz86_6 : 0 ≤ σ 86 6 ∧ σ 86 6 ≤ 32 := hI.1 86 6
  have hz86_43 : 0 ≤ σ 86 43 ∧ σ 86 43 ≤ 32 := hI.1 86 43
  refine qr_iload_n 1 rfl rfl rfl ?_
  refine qr_aload_n 2 rfl rfl rfl ?_
  refine qr_get 5 rfl rfl rfl (by decide) rfl ?_
  refine qr_icmp_ne 10 8 rfl rfl rfl (by decide) (qrg hz86_43 (by decide) (by decide)) (fun h1 => ?_) (fun h1 => ?_)
  · skip
    refine qr_iconst 11 rfl rfl ?_
    refine qr_istore _ 13 rfl (by decide) rfl rfl ?_
    have hL288 : ∀ (n : Nat) (ls : qm_L) (u280 : Int) (σ281 α282 : Nat → Nat → Int), 6 - u280 < (n : Int) → qm_get ls 0 = some (.ref 86) → qm_get ls 1 = some (.int (qz 4)) → qm_get ls 2 = some (.int (qz x2)) → qm_get ls 3 = some (.int (qz x3)) → qm_get ls 4 = some (.int (qz x4)) → qm_get ls 5 = some (.int (qz u280)) → (0 ≤ u280 ∧ u280 ≤ 6) → qI σ281 α282 κ ρ → qFr [(86, 15), (86, 23), (86, 30)] [96, 114] σ α σ281 α282 → σ281 86 6 = (σ 86 6) → σ281 86 43 = (σ 86 43) → qr_W (qe L xs vb) (d + 7) qx_e243 (fun r w' => ∃ σ' α', w' = qw σ' α' κ ρ ∧ qI σ' α' κ ρ ∧ qFr [(86, 15), (86, 23), (86, 30)] [96, 114] σ α σ' α' ∧ ∃ v : Int, r = some (.int (qz v)) ∧ (0 ≤ v ∧ v ≤ 1)) (13, ls, [], qw σ281 α282 κ ρ, 0, 0) := by
      intro n
      induction n with
      | zero => intro ls u280 σ281 α282 hm g274 g275 g276 g277 g278 g279 hf287 hI283 hF284 hk285 hk286; exact False.elim (by omega)
      | succ n ih289 =>
        intro ls u280 σ281 α282 hm g274 g275 g276 g277 g278 g279 hf287 hI283 hF284 hk285 hk286
        refine qr_iload 15 rfl g279 rfl ?_
        refine qr_aload_n 16 rfl g274 rfl ?_
        refine qr_get 19 rfl rfl rfl (by decide) rfl ?_
        refine qy_v (σ 86 43) ((hk286).trans rfl) ?_
        refine qr_icmp_ge 81 22 rfl rfl rfl (qrg hf287 (by decide) (by decide)) (qrg hz86_43 (by decide) (by decide)) (fun h290 => ?_) (fun h290 => ?_)
        · skip
          refine qr_iconst 82 rfl rfl ?_
          refine qr_retZ rfl rfl (Or.inl rfl) (by decide) (by decide) ?_
          exact ⟨_, _, rfl, hI283, hF284, 0, rfl, (by decide)⟩
        · skip
          refine qr_iload_n 23 rfl g276 rfl ?_
          refine qr_iload 25 rfl g279 rfl ?_
          refine qr_ishr 26 rfl rfl ?_
          refine qy_can (fun v291 hv291 => ?_)
          refine qr_iconst 27 rfl rfl ?_
          refine qr_iand 28 rfl rfl ?_
          refine qy_andr (by omega) (fun v292 hv292 => ?_)
          refine qr_iconst 29 rfl rfl ?_
          refine qr_icmp_ne 35 32 rfl rfl rfl (by omega) (by decide) (fun h293 => ?_) (fun h293 => ?_)
          · skip
            refine qr_aload_n 36 rfl g274 rfl ?_
            refine qr_get 39 rfl rfl rfl (by decide) rfl ?_
            refine qr_iload_n 40 rfl g275 rfl ?_
            refine qr_iload 42 rfl g279 rfl ?_
            refine qr_iastore 43 rfl (by decide) rfl (by decide) (by decide) rfl ?_
            refine qy_wA (qw_r α282 114 (qzu (α282 114) (4 : Int).toNat u280)) rfl (fun α294 e295 => ?_)
            have hI296 : qI σ281 α294 κ ρ := by rw [e295]; exact qI_r hI283 114 _ rfl (show 0 ≤ u280 ∧ u280 ≤ 5 by omega)
            have hF297 : qFr [(86, 15), (86, 23), (86, 30)] [96, 114] σ α σ281 α294 := by rw [e295]; exact qFr_r hF284 114 _ (by decide)
            refine qr_aload_n 44 rfl g274 rfl ?_
            refine qr_iload_n 45 rfl g275 rfl ?_
            refine qr_iload_n 46 rfl g277 rfl ?_
            refine qr_iload 48 rfl g278 rfl ?_
            have hs298 : 0 ≤ σ281 86 43 ∧ σ281 86 43 ≤ 32 := hI296.1 86 43
            have hs299 : σ281 86 43 = (σ 86 43) := (hk286).trans rfl
            have hs300 : 0 ≤ σ281 86 6 ∧ σ281 86 6 ≤ 32 := hI296.1 86 6
            have hs301 : σ281 86 6 = (σ 86 6) := (hk285).trans rfl
            refine qr_callN 51 rfl rfl rfl (sf_244_86 (d := d + 1) hI296 (by decide) r3 (qrg r4 (by decide) (by decide)) (by omega) (by omega)) ?_
            rintro _ _ ⟨σ303, α304, rfl, hI305, hG306, v302, rfl, hv302⟩
            have hF307 : qFr [(86, 15), (86, 23), (86, 30)] [96, 114] σ α σ303 α304 := qFr_t hF297 hG306 (by decide) (by decide)
            show qr_W (qe L xs vb) (d + 7) qx_e243 _ (51, _, [.int (qz v302)], qw σ303 α304 κ ρ, 0, 0)
            refine qr_if_ne 75 54 rfl rfl rfl (qrg hv302 (by decide) (by decide)) (fun h308 => ?_) (fun h308 => ?_)
            · skip
              refine qr_iinc _ 78 rfl g279 (by decide) rfl rfl ?_
              refine qr_goto 13 rfl rfl ?_
              exact ih289 _ (u280 + 1) σ303 α304 (by omega) (qm_gk g274 (by decide) (Or.inl (by decide))) (qm_gk g275 (by decide) (Or.inl (by decide))) (qm_gk g276 (by decide) (Or.inl (by decide))) (qm_gk g277 (by decide) (Or.inl (by decide))) (qm_gk g278 (by decide) (Or.inr rfl)) (qm_ge _ _ _) (by omega) hI305 hF307 ((hG306.1 86 6 (by decide)).trans ((hk285).trans rfl)) ((hG306.1 86 43 (by decide)).trans ((hk286).trans rfl))
            · skip
              refine qr_aload_n 55 rfl g274 rfl ?_
              refine qr_iload_n 56 rfl g275 rfl ?_
              refine qr_iconst 57 rfl rfl ?_
              refine qr_iadd 58 rfl rfl ?_
              refine qy_v 5 rfl ?_
              refine qr_iload_n 59 rfl g276 rfl ?_
              refine qr_iconst 60 rfl rfl ?_
              refine qr_iload 62 rfl g279 rfl ?_
              refine qr_ishl 63 rfl rfl ?_
              refine qy_shl1 (N := 5) (by omega) (fun v309 hv309 => ?_)
              refine qr_ior 64 rfl rfl ?_
              refine qy_can (fun v310 hv310 => ?_)
              refine qr_iload_n 65 rfl g277 rfl ?_
              refine qr_iload 67 rfl g278 rfl ?_
              have hs311 : 0 ≤ σ303 86 43 ∧ σ303 86 43 ≤ 32 := hI305.1 86 43
              have hs312 : σ303 86 43 = (σ 86 43) := (hG306.1 86 43 (by decide)).trans ((hk286).trans rfl)
              have hs313 : 0 ≤ σ303 86 6 ∧ σ303 86 6 ≤ 32 := hI305.1 86 6
              have hs314 : σ303 86 6 = (σ 86 6) := (hG306.1 86 6 (by decide)).trans ((hk285).trans rfl)
              refine qr_callN 70 rfl rfl rfl (sf_243_86t5 (d := d + 0) hI305 hv310 r3 r4 (by omega) (by omega) (by omega)) ?_
              rintro _ _ ⟨σ316, α317, rfl, hI318, hG319, v315, rfl, hv315⟩
              have hF320 : qFr [(86, 15), (86, 23), (86, 30)] [96, 114] σ α σ316 α317 := qFr_t hF307 hG319 (by decide) (by decide)
              show qr_W (qe L xs vb) (d + 7) qx_e243 _ (70, _, [.int (qz v315)], qw σ316 α317 κ ρ, 0, 0)
              refine qr_if_eq 75 73 rfl rfl rfl (qrg hv315 (by decide) (by decide)) (fun h321 => ?_) (fun h321 => ?_)
              · skip
                refine qr_iinc _ 78 rfl g279 (by decide) rfl rfl ?_
                refine qr_goto 13 rfl rfl ?_
                exact ih289 _ (u280 + 1) σ316 α317 (by omega) (qm_gk g274 (by decide) (Or.inl (by decide))) (qm_gk g275 (by decide) (Or.inl (by decide))) (qm_gk g276 (by decide) (Or.inl (by decide))) (qm_gk g277 (by decide) (Or.inl (by decide))) (qm_gk g278 (by decide) (Or.inr rfl)) (qm_ge _ _ _) (by omega) hI318 hF320 ((hG319.1 86 6 (by decide)).trans ((hG306.1 86 6 (by decide)).trans ((hk285).trans rfl))) ((hG319.1 86 43 (by decide)).trans ((hG306.1 86 43 (by decide)).trans ((hk286).trans rfl)))
              · skip
                refine qr_iconst 74 rfl rfl ?_
                refine qr_retZ rfl rfl (Or.inr rfl) (by decide) (by decide) ?_
                exact ⟨_, _, rfl, hI318, hF320, 1, rfl, (by decide)⟩
          · skip
            refine qr_goto 75 rfl rfl ?_
            refine qr_iinc _ 78 rfl g279 (by decide) rfl rfl ?_
            refine qr_goto 13 rfl rfl ?_
            exact ih289 _ (u280 + 1) σ281 α282 (by omega) (qm_gk g274 (by decide) (Or.inl (by decide))) (qm_gk g275 (by decide) (Or.inl (by decide))) (qm_gk g276 (by decide) (Or.inl (by decide))) (qm_gk g277 (by decide) (Or.inl (by decide))) (qm_gk g278 (by decide) (Or.inr rfl)) (qm_ge _ _ _) (by omega) hI283 hF284 ((hk285).trans rfl) ((hk286).trans rfl)
    exact hL288 ((6 - 0 + 1 : Int)).toNat _ 0 σ α (by omega) rfl rfl rfl rfl rfl rfl (by decide) hI hF0 (rfl) (rfl)
  · skip
    refine qr_iconst 9 rfl rfl ?_
    refine qr_retZ rfl rfl (Or.inr rfl) (by decide) (by decide) ?_
    exact ⟨_, _, rfl, hI, hF0, 1, rfl, (by decide)⟩

