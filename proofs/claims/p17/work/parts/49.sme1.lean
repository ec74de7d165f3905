set_option maxHeartbeats 4000000 in
set_option maxRecDepth 20000 in
/-- OneRoofModel.lists -/
theorem sf_233_86p {L : Nat} {xs : Nat → Int} {vb : Bool} {d : Nat} {σ α : Nat → Nat → Int} {κ : Nat → Option Nat} {ρ : Nat} {x1 : Int} {x2 : Int} (hI : qI σ α κ ρ) (r1 : (-9223372036854775808) ≤ x1 ∧ x1 ≤ 9223372036854775807) (r2 : 0 ≤ x2 ∧ x2 ≤ 12) : qm_T (qe L xs vb) (d + 2) 233 [.ref 86, .long (ql x1), .int (qz x2)] (qw σ α κ ρ) (fun r w' => ∃ σ' α', w' = qw σ' α' κ ρ ∧ qI σ' α' κ ρ ∧ qFr [(86, 43)] [110] σ α σ' α' ∧ ∃ v : Int, r = some (.int (qz v)) ∧ (0 ≤ v ∧ v ≤ 1) ∧ (v = 0 ∨ (v = 1 ∧ 1 ≤ σ' 86 43 ∧ σ' 86 43 ≤ x2 ∧ 1 ≤ σ 86 6))) := by
  refine qr_start (d := d + 1) qv_e233 (Nat.le_of_ble_eq_true rfl) ?_
  show qr_W (qe L xs vb) (d + 1) qx_e233 _ (0, [(0, .ref 86), (1, .long (ql x1)), (3, .int (qz x2))], [], _, 0, 0)
  have hF0 := qFr_rf [(86, 43)] [110] σ α
  have hz86_6 : 0 ≤ σ 86 6 ∧ σ 86 6 ≤ 32 := hI.1 86 6
  refine qr_aload_n 1 rfl rfl rfl ?_
  refine qr_iconst 2 rfl rfl ?_
  refine qr_put 5 rfl (by decide) rfl (Nat.le_of_ble_eq_true rfl) (Nat.le_of_ble_eq_true rfl) (Or.inl rfl) (qr_fitI rfl _) rfl ?_
  refine qy_wS (qw_s σ 86 43 0) rfl (fun σ1 e2 => ?_)
  have hI3 : qI σ1 α κ ρ := by rw [e2]; exact qI_s hI 86 43 rfl (show 0 ≤ 0 ∧ 0 ≤ 32 by omega)
  have hF4 : qFr [(86, 43)] [110] σ α σ1 α := by rw [e2]; exact qFr_s hF0 86 43 _ (by decide)
  refine qr_iconst 6 rfl rfl ?_
  refine qr_istore _ 8 rfl (by decide) rfl rfl ?_
  have hL423 : ∀ (n : Nat) (ls : qm_L) (u414 : Int) (σ415 α416 : Nat → Nat → Int), 32 - u414 < (n : Int) → qm_get ls 0 = some (.ref 86) → qm_get ls 1 = some (.long (ql x1)) → qm_get ls 3 = some (.int (qz x2)) → qm_get ls 4 = some (.int (qz u414)) → (0 ≤ u414 ∧ u414 ≤ 32) → qI σ415 α416 κ ρ → qFr [(86, 43)] [110] σ α σ415 α416 → σ415 86 6 = (σ 86 6) → σ415 86 43 ≤ u414 → (σ415 86 43 = 0 ∨ 1 ≤ σ 86 6) → qr_W (qe L xs vb) (d + 1) qx_e233 (fun r w' => ∃ σ' α', w' = qw σ' α' κ ρ ∧ qI σ' α' κ ρ ∧ qFr [(86, 43)] [110] σ α σ' α' ∧ ∃ v : Int, r = some (.int (qz v)) ∧ (0 ≤ v ∧ v ≤ 1) ∧ (v = 0 ∨ (v = 1 ∧ 1 ≤ σ' 86 43 ∧ σ' 86 43 ≤ x2 ∧ 1 ≤ σ 86 6))) (8, ls, [], qw σ415 α416 κ ρ, 0, 0) := by
    intro n
    induction n with
    | zero => intro ls u414 σ415 α416 hm g410 g411 g412 g413 hf420 hI417 hF418 hk419 hx421 hx422; exact False.elim (by omega)
    | succ n ih424 =>
      intro ls u414 σ415 α416 hm g410 g411 g412 g413 hf420 hI417 hF418 hk419 hx421 hx422
      refine qr_iload 10 rfl g413 rfl ?_
      refine qr_aload_n 11 rfl g410 rfl ?_
      refine qr_get 14 rfl rfl rfl (by decide) rfl ?_
      refine qy_v (σ 86 6) ((hk419).trans rfl) ?_
      refine qr_icmp_ge 70 17 rfl rfl rfl (by omega) (by omega) (fun h425 => ?_) (fun h425 => ?_)
      · skip
        refine qr_aload_n 71 rfl g410 rfl ?_
        refine qr_lload_n 72 rfl g411 rfl ?_
        refine qr_callN 75 rfl rfl rfl (sf_224_86 (d := d + 0) hI417 (by omega)) ?_
        rintro _ _ ⟨rfl, v426, rfl, hv426⟩
        show qr_W (qe L xs vb) (d + 1) qx_e233 _ (75, _, [.int (qz v426)], qw σ415 α416 κ ρ, 0, 0)
        refine qr_if_eq 96 78 rfl rfl rfl (by omega) (fun h427 => ?_) (fun h427 => ?_)
        · skip
          refine qr_iconst 97 rfl rfl ?_
          refine qr_retZ rfl rfl (by omega) (by decide) (by decide) ?_
          exact ⟨_, _, rfl, hI417, hF418, 0, rfl, by omega, by omega⟩
        · skip
          refine qr_aload_n 79 rfl g410 rfl ?_
          refine qr_get 82 rfl rfl rfl (by decide) rfl ?_
          have hs428 : 0 ≤ σ415 86 43 ∧ σ415 86 43 ≤ 32 := hI417.1 86 43
          refine qr_i2l 83 rfl (by omega) rfl ?_
          refine qr_lconst 84 rfl rfl ?_
          refine qy_vl 1 rfl ?_
          refine qr_iload_n 85 rfl g412 rfl ?_
          refine qr_i2l 86 rfl (by omega) rfl ?_
          refine qr_callN 89 rfl rfl rfl (sf_175 (d := d + 0) hI417 (by omega) (by omega) (by omega)) ?_
          rintro _ _ ⟨rfl, v429, rfl, hv429, hp430⟩
          show qr_W (qe L xs vb) (d + 1) qx_e233 _ (89, _, [.int (qz v429)], qw σ415 α416 κ ρ, 0, 0)
          refine qr_if_eq 96 92 rfl rfl rfl (by omega) (fun h431 => ?_) (fun h431 => ?_)
          · skip
            refine qr_iconst 97 rfl rfl ?_
            refine qr_retZ rfl rfl (by omega) (by decide) (by decide) ?_
            have hw432 : σ415 86 43 = (σ415 86 43) := rfl
            exact ⟨_, _, rfl, hI417, hF418, 0, rfl, by omega, by omega⟩
          · skip
            refine qr_iconst 93 rfl rfl ?_
            refine qr_goto 97 rfl rfl ?_
            refine qr_retZ rfl rfl (by omega) (by decide) (by decide) ?_
            have hw433 : σ415 86 43 = (σ415 86 43) := rfl
            exact ⟨_, _, rfl, hI417, hF418, 1, rfl, by omega, by omega⟩
      · skip
        refine qr_aload_n 18 rfl g410 rfl ?_
        refine qr_lload_n 19 rfl g411 rfl ?_
        refine qr_callN 22 rfl rfl rfl (sf_224_86 (d := d + 0) hI417 (by omega)) ?_
        rintro _ _ ⟨rfl, v434, rfl, hv434⟩
        show qr_W (qe L xs vb) (d + 1) qx_e233 _ (22, _, [.int (qz v434)], qw σ415 α416 κ ρ, 0, 0)
        refine qr_if_eq 70 25 rfl rfl rfl (by omega) (fun h435 => ?_) (fun h435 => ?_)
        · skip
          refine qr_aload_n 71 rfl g410 rfl ?_
          refine qr_lload_n 72 rfl g411 rfl ?_
          refine qr_callN 75 rfl rfl rfl (sf_224_86 (d := d + 0) hI417 (by omega)) ?_
          rintro _ _ ⟨rfl, v436, rfl, hv436⟩
          show qr_W (qe L xs vb) (d + 1) qx_e233 _ (75, _, [.int (qz v436)], qw σ415 α416 κ ρ, 0, 0)
          refine qr_if_eq 96 78 rfl rfl rfl (by omega) (fun h437 => ?_) (fun h437 => ?_)
          · skip
            refine qr_iconst 97 rfl rfl ?_
            refine qr_retZ rfl rfl (by omega) (by decide) (by decide) ?_
            exact ⟨_, _, rfl, hI417, hF418, 0, rfl, by omega, by omega⟩
          · skip
            refine qr_aload_n 79 rfl g410 rfl ?_
            refine qr_get 82 rfl rfl rfl (by decide) rfl ?_
            have hs438 : 0 ≤ σ415 86 43 ∧ σ415 86 43 ≤ 32 := hI417.1 86 43
            refine qr_i2l 83 rfl (by omega) rfl ?_
            refine qr_lconst 84 rfl rfl ?_
            refine qy_vl 1 rfl ?_
            refine qr_iload_n 85 rfl g412 rfl ?_
            refine qr_i2l 86 rfl (by omega) rfl ?_
            refine qr_callN 89 rfl rfl rfl (sf_175 (d := d + 0) hI417 (by omega) (by omega) (by omega)) ?_
            rintro _ _ ⟨rfl, v439, rfl, hv439, hp440⟩
            show qr_W (qe L xs vb) (d + 1) qx_e233 _ (89, _, [.int (qz v439)], qw σ415 α416 κ ρ, 0, 0)
            refine qr_if_eq 96 92 rfl rfl rfl (by omega) (fun h441 => ?_) (fun h441 => ?_)
            · skip
              refine qr_iconst 97 rfl rfl ?_
              refine qr_retZ rfl rfl (by omega) (by decide) (by decide) ?_
              have hw442 : σ415 86 43 = (σ415 86 43) := rfl
              exact ⟨_, _, rfl, hI417, hF418, 0, rfl, by omega, by omega⟩
            · skip
              refine qr_iconst 93 rfl rfl ?_
              refine qr_goto 97 rfl rfl ?_
              refine qr_retZ rfl rfl (by omega) (by decide) (by decide) ?_
              have hw443 : σ415 86 43 = (σ415 86 43) := rfl
              exact ⟨_, _, rfl, hI417, hF418, 1, rfl, by omega, by omega⟩
        · skip
          refine qr_lload_n 26 rfl g411 rfl ?_
          refine qr_aload_n 27 rfl g410 rfl ?_
          refine qr_get 30 rfl rfl rfl (by decide) rfl ?_
          have hs444 : (-9223372036854775808) ≤ σ415 86 10 ∧ σ415 86 10 ≤ 9223372036854775807 := hI417.1 86 10
          refine qr_ldc2 (-1) 33 rfl (by decide) rfl ?_
          refine qr_lxor 34 rfl rfl ?_
          refine qy_canl (fun v445 hv445 => ?_)
          refine qr_land 35 rfl rfl ?_
          refine qy_canl (fun v446 hv446 => ?_)
          refine qr_iload 37 rfl g413 rfl ?_
          refine qr_callN 40 rfl rfl rfl (sf_225 (d := d + 0) hI417 (by omega) (by omega)) ?_
          rintro _ _ ⟨rfl, v447, rfl, hv447⟩
          show qr_W (qe L xs vb) (d + 1) qx_e233 _ (40, _, [.int (qz v447)], qw σ415 α416 κ ρ, 0, 0)
          refine qr_if_eq 64 43 rfl rfl rfl (by omega) (fun h448 => ?_) (fun h448 => ?_)
          · skip
            refine qr_iinc _ 67 rfl g413 (by decide) rfl rfl ?_
            refine qr_goto 8 rfl rfl ?_
            exact ih424 _ (u414 + 1) σ415 α416 (by omega) (qm_gk g410 (by decide) (Or.inl (by decide))) (qm_gk g411 (by decide) (Or.inl (by decide))) (qm_gk g412 (by decide) (Or.inr rfl)) (qm_ge _ _ _) (by omega) hI417 hF418 ((hk419).trans rfl) (by omega) (by omega)
          · skip
            refine qr_aload_n 44 rfl g410 rfl ?_
            refine qr_get 47 rfl rfl rfl (by decide) rfl ?_
            refine qr_aload_n 48 rfl g410 rfl ?_
            refine qr_get 51 rfl rfl rfl (by decide) rfl ?_
            have hs449 : 0 ≤ σ415 86 43 ∧ σ415 86 43 ≤ 32 := hI417.1 86 43
            refine qr_iload 53 rfl g413 rfl ?_
            refine qr_iastore 54 rfl (by decide) rfl (by omega) (by decide) rfl ?_
            refine qy_wA (qw_r α416 110 (qzu (α416 110) ((σ415 86 43) : Int).toNat u414)) rfl (fun α450 e451 => ?_)
            have hI452 : qI σ415 α450 κ ρ := by rw [e451]; exact qI_r hI417 110 _ rfl (show 0 ≤ u414 ∧ u414 ≤ 31 by omega)
            have hF453 : qFr [(86, 43)] [110] σ α σ415 α450 := by rw [e451]; exact qFr_r hF418 110 _ (by decide)
            refine qr_aload_n 55 rfl g410 rfl ?_
            refine qr_dup 56 rfl rfl rfl ?_
            refine qr_get 59 rfl rfl rfl (by decide) rfl ?_
            refine qr_iconst 60 rfl rfl ?_
            refine qr_iadd 61 rfl rfl ?_
            refine qr_put 64 rfl (by decide) rfl (Nat.le_of_ble_eq_true rfl) (Nat.le_of_ble_eq_true rfl) (Or.inl rfl) (qr_fitI rfl _) rfl ?_
            refine qy_wS (qw_s σ415 86 43 ((σ415 86 43) + 1)) rfl (fun σ454 e455 => ?_)
            have hI456 : qI σ454 α450 κ ρ := by rw [e455]; exact qI_s hI452 86 43 rfl (show 0 ≤ ((σ415 86 43) + 1) ∧ ((σ415 86 43) + 1) ≤ 32 by omega)
            have hF457 : qFr [(86, 43)] [110] σ α σ454 α450 := by rw [e455]; exact qFr_s hF453 86 43 _ (by decide)
            refine qr_iinc _ 67 rfl g413 (by decide) rfl rfl ?_
            refine qr_goto 8 rfl rfl ?_
            exact ih424 _ (u414 + 1) σ454 α450 (by omega) (qm_gk g410 (by decide) (Or.inl (by decide))) (qm_gk g411 (by decide) (Or.inl (by decide))) (qm_gk g412 (by decide) (Or.inr rfl)) (qm_ge _ _ _) (by omega) hI456 hF457 ((congrFun (congrFun e455 86) 6).trans ((hk419).trans rfl)) (by have hw : σ454 86 43 = ((σ415 86 43) + 1) := (congrFun (congrFun e455 86) 43).trans rfl; omega) (by have hw : σ454 86 43 = ((σ415 86 43) + 1) := (congrFun (congrFun e455 86) 43).trans rfl; omega)
  exact hL423 ((32 - 0 + 1 : Int)).toNat _ 0 σ1 α (by omega) rfl rfl rfl rfl (by omega) hI3 hF4 ((congrFun (congrFun e2 86) 6).trans rfl) (by have hw : σ1 86 43 = 0 := (congrFun (congrFun e2 86) 43).trans rfl; omega) (by have hw : σ1 86 43 = 0 := (congrFun (congrFun e2 86) 43).trans rfl; omega)

set_option maxHeartbeats 4000000 in
set_option maxRecDepth 20000 in
/-- OneRoofModel.findSets -/
theorem sf_234_86 {L : Nat} {xs : Nat → Int} {vb : Bool} {d : Nat} {σ α : Nat → Nat → Int} {κ : Nat → Option Nat} {ρ : Nat} {x1 : Int} (hI : qI σ α κ ρ) (r1 : 0 ≤ x1 ∧ x1 ≤ 23999999) (p0 : 1 ≤ σ 86 6) (p1 : σ 86 43 ≤ 12) : qm_T (qe L xs vb) (d + 48) 234 [.ref 86, .int (qz x1)] (qw σ α κ ρ) (fun r w' => ∃ σ' α', w' = qw σ' α' κ ρ ∧ qI σ' α' κ ρ ∧ qFr [(86, 15), (86, 23), (86, 30), (86, 35), (86, 36), (86, 37), (86, 38), (86, 39), (86, 41)] [96, 109, 111, 112] σ α σ' α' ∧ r = none) := by
  refine qr_start (d := d + 47) qv_e234 (Nat.le_of_ble_eq_true rfl) ?_
  show qr_W (qe L xs vb) (d + 47) qx_e234 _ (0, [(0, .ref 86), (1, .int (qz x1))], [], _, 0, 0)
  have hF0 := qFr_rf [(86, 15), (86, 23), (86, 30), (86, 35), (86, 36), (86, 37), (86, 38), (86, 39), (86, 41)] [96, 109, 111, 112] σ α
  have hz86_6 : 0 ≤ σ 86 6 ∧ σ 86 6 ≤ 32 := hI.1 86 6
  have hz86_43 : 0 ≤ σ 86 43 ∧ σ 86 43 ≤ 32 := hI.1 86 43
  refine qr_iconst 1 rfl rfl ?_
  refine qr_istore_n _ 2 rfl (by decide) rfl rfl ?_
  have hL2465294 : ∀ (n : Nat) (ls : qm_L) (u2465288 : Int) (α2465290 : Nat → Nat → Int), 12 - u2465288 < (n : Int) → qm_get ls 0 = some (.ref 86) → qm_get ls 1 = some (.int (qz x1)) → qm_get ls 2 = some (.int (qz u2465288)) → (0 ≤ u2465288 ∧ u2465288 ≤ 12) → qI σ α2465290 κ ρ → qFr [(86, 15), (86, 23), (86, 30), (86, 35), (86, 36), (86, 37), (86, 38), (86, 39), (86, 41)] [96, 109, 111, 112] σ α σ α2465290 → qr_W (qe L xs vb) (d + 47) qx_e234 (fun r w' => ∃ σ' α', w' = qw σ' α' κ ρ ∧ qI σ' α' κ ρ ∧ qFr [(86, 15), (86, 23), (86, 30), (86, 35), (86, 36), (86, 37), (86, 38), (86, 39), (86, 41)] [96, 109, 111, 112] σ α σ' α' ∧ r = none) (2, ls, [], qw σ α2465290 κ ρ, 0, 0) := by
    intro n
    induction n with
    | zero => intro ls u2465288 α2465290 hm g2465285 g2465286 g2465287 hf2465293 hI2465291 hF2465292; exact False.elim (by omega)
    | succ n ih2465295 =>
      intro ls u2465288 α2465290 hm g2465285 g2465286 g2465287 hf2465293 hI2465291 hF2465292
      refine qr_iload_n 3 rfl g2465287 rfl ?_
      refine qr_aload_n 4 rfl g2465285 rfl ?_
      refine qr_get 7 rfl rfl rfl (by decide) rfl ?_
      refine qr_icmp_ge 23 10 rfl rfl rfl (by omega) (by omega) (fun h2465300 => ?_) (fun h2465300 => ?_)
      · skip
        refine qr_iconst 24 rfl rfl ?_
        refine qr_istore_n _ 25 rfl (by decide) rfl rfl ?_
        have hL2817112 : ∀ (n : Nat) (ls : qm_L) (u2817104 : Int) (σ2817105 α2817106 : Nat → Nat → Int), 12 - u2817104 < (n : Int) → qm_get ls 0 = some (.ref 86) → qm_get ls 1 = some (.int (qz x1)) → qm_get ls 2 = some (.int (qz u2817104)) → (0 ≤ u2817104 ∧ u2817104 ≤ 12) → qI σ2817105 α2817106 κ ρ → qFr [(86, 15), (86, 23), (86, 30), (86, 35), (86, 36), (86, 37), (86, 38), (86, 39), (86, 41)] [96, 109, 111, 112] σ α σ2817105 α2817106 → σ2817105 86 6 = (σ 86 6) → σ2817105 86 43 = (σ 86 43) → qr_W (qe L xs vb) (d + 47) qx_e234 (fun r w' => ∃ σ' α', w' = qw σ' α' κ ρ ∧ qI σ' α' κ ρ ∧ qFr [(86, 15), (86, 23), (86, 30), (86, 35), (86, 36), (86, 37), (86, 38), (86, 39), (86, 41)] [96, 109, 111, 112] σ α σ' α' ∧ r = none) (25, ls, [], qw σ2817105 α2817106 κ ρ, 0, 0) := by
          intro n
          induction n with
          | zero => intro ls u2817104 σ2817105 α2817106 hm g2817101 g2817102 g2817103 hf2817111 hI2817107 hF2817108 hk2817109 hk2817110; exact False.elim (by omega)
          | succ n ih2817113 =>
            intro ls u2817104 σ2817105 α2817106 hm g2817101 g2817102 g2817103 hf2817111 hI2817107 hF2817108 hk2817109 hk2817110
            refine qr_iload_n 26 rfl g2817103 rfl ?_
            refine qr_aload_n 27 rfl g2817101 rfl ?_
            refine qr_get 30 rfl rfl rfl (by decide) rfl ?_
            refine qy_v (σ 86 43) ((hk2817110).trans rfl) ?_
            refine qr_icmp_ge 96 33 rfl rfl rfl (by omega) (by omega) (fun h2818280 => ?_) (fun h2818280 => ?_)
            · skip
              refine qr_iconst 97 rfl rfl ?_
              refine qr_istore_n _ 98 rfl (by decide) rfl rfl ?_
              have hL2869427 : ∀ (n : Nat) (ls : qm_L) (u2869421 : Int) (α2869423 : Nat → Nat → Int), 4096 - u2869421 < (n : Int) → qm_get ls 0 = some (.ref 86) → qm_get ls 2 = some (.int (qz u2869421)) → (0 ≤ u2869421 ∧ u2869421 ≤ 4096) → qI σ2817105 α2869423 κ ρ → qFr [(86, 15), (86, 23), (86, 30), (86, 35), (86, 36), (86, 37), (86, 38), (86, 39), (86, 41)] [96, 109, 111, 112] σ α σ2817105 α2869423 → qr_W (qe L xs vb) (d + 47) qx_e234 (fun r w' => ∃ σ' α', w' = qw σ' α' κ ρ ∧ qI σ' α' κ ρ ∧ qFr [(86, 15), (86, 23), (86, 30), (86, 35), (86, 36), (86, 37), (86, 38), (86, 39), (86, 41)] [96, 109, 111, 112] σ α σ' α' ∧ r = none) (98, ls, [], qw σ2817105 α2869423 κ ρ, 0, 0) := by
                intro n
                induction n with
                | zero => intro ls u2869421 α2869423 hm g2869419 g2869420 hf2869426 hI2869424 hF2869425; exact False.elim (by omega)
                | succ n ih2869428 =>
                  intro ls u2869421 α2869423 hm g2869419 g2869420 hf2869426 hI2869424 hF2869425
                  refine qr_iload_n 99 rfl g2869420 rfl ?_
                  refine qr_iconst 100 rfl rfl ?_
                  refine qr_aload_n 101 rfl g2869419 rfl ?_
                  refine qr_get 104 rfl rfl rfl (by decide) rfl ?_
                  refine qy_v (σ 86 43) ((hk2817110).trans rfl) ?_
                  refine qr_ishl 105 rfl rfl ?_
                  refine qy_shl1 (N := 12) (by omega) (fun v2869429 hv2869429 => ?_)
                  refine qr_icmp_ge 186 108 rfl rfl rfl (by omega) (by omega) (fun h2869430 => ?_) (fun h2869430 => ?_)
                  · skip
                    refine qr_retV rfl rfl (by decide) (by decide) ?_
                    exact ⟨_, _, rfl, hI2869424, hF2869425, rfl⟩
                  · skip
                    refine qr_iconst 109 rfl rfl ?_
                    refine qr_istore_n _ 110 rfl (by decide) rfl rfl ?_
                    refine qr_iconst 111 rfl rfl ?_
                    refine qr_istore _ 113 rfl (by decide) rfl rfl ?_
                    have hL2870461 : ∀ (n : Nat) (ls : qm_L) (u2870456 u2870458 : Int), 12 - u2870458 < (n : Int) → qm_get ls 0 = some (.ref 86) → qm_get ls 2 = some (.int (qz u2869421)) → qm_get ls 3 = some (.int (qz u2870456)) → qm_get ls 4 = some (.int (qz u2870458)) → ((-2147483648) ≤ u2870456 ∧ u2870456 ≤ 2147483647) → (0 ≤ u2870458 ∧ u2870458 ≤ 12) → qr_W (qe L xs vb) (d + 47) qx_e234 (fun r w' => ∃ σ' α', w' = qw σ' α' κ ρ ∧ qI σ' α' κ ρ ∧ qFr [(86, 15), (86, 23), (86, 30), (86, 35), (86, 36), (86, 37), (86, 38), (86, 39), (86, 41)] [96, 109, 111, 112] σ α σ' α' ∧ r = none) (113, ls, [], qw σ2817105 α2869423 κ ρ, 0, 0) := by
                      intro n
                      induction n with
                      | zero => intro ls u2870456 u2870458 hm g2870453 g2870454 g2870455 g2870457 hf2870459 hf2870460; exact False.elim (by omega)
                      | succ n ih2870462 =>
                        intro ls u2870456 u2870458 hm g2870453 g2870454 g2870455 g2870457 hf2870459 hf2870460
                        refine qr_iload 115 rfl g2870457 rfl ?_
                        refine qr_aload_n 116 rfl g2870453 rfl ?_
                        refine qr_get 119 rfl rfl rfl (by decide) rfl ?_
                        refine qy_v (σ 86 43) ((hk2817110).trans rfl) ?_
                        have hJ2870509 : ∀ (ls : qm_L) (u2870507 : Int), qm_get ls 0 = some (.ref 86) → qm_get ls 2 = some (.int (qz u2869421)) → qm_get ls 3 = some (.int (qz u2870507)) → ((-2147483648) ≤ u2870507 ∧ u2870507 ≤ 2147483647) → qr_W (qe L xs vb) (d + 47) qx_e234 (fun r w' => ∃ σ' α', w' = qw σ' α' κ ρ ∧ qI σ' α' κ ρ ∧ qFr [(86, 15), (86, 23), (86, 30), (86, 35), (86, 36), (86, 37), (86, 38), (86, 39), (86, 41)] [96, 109, 111, 112] σ α σ' α' ∧ r = none) (173, ls, [], qw σ2817105 α2869423 κ ρ, 0, 0) := by
                          intro ls u2870507 g2870504 g2870505 g2870506 hf2870508
                          refine qr_aload_n 174 rfl g2870504 rfl ?_
                          refine qr_get 177 rfl rfl rfl (by decide) rfl ?_
                          refine qr_iload_n 178 rfl g2870505 rfl ?_
                          refine qr_iload_n 179 rfl g2870506 rfl ?_
                          refine qr_iastore 180 rfl (by decide) rfl (by omega) (by decide) rfl ?_
                          refine qy_wA (qw_r α2869423 112 (qzu (α2869423 112) (u2869421 : Int).toNat u2870507)) rfl (fun α2870510 e2870511 => ?_)
                          have hI2870512 : qI σ2817105 α2870510 κ ρ := by rw [e2870511]; exact qI_r hI2869424 112 _ rfl (show (-2147483648) ≤ u2870507 ∧ u2870507 ≤ 2147483647 by omega)
                          have hF2870513 : qFr [(86, 15), (86, 23), (86, 30), (86, 35), (86, 36), (86, 37), (86, 38), (86, 39), (86, 41)] [96, 109, 111, 112] σ α σ2817105 α2870510 := by rw [e2870511]; exact qFr_r hF2869425 112 _ (by decide)
                          refine qr_iinc _ 183 rfl g2870505 (by decide) rfl rfl ?_
                          refine qr_goto 98 rfl rfl ?_
                          exact ih2869428 _ (u2869421 + 1) α2870510 (by omega) (qm_gk g2870504 (by decide) (Or.inl (by decide))) (qm_ge _ _ _) (by omega) hI2870512 hF2870513
                        refine qr_icmp_ge 173 122 rfl rfl rfl (by omega) (by omega) (fun h2870514 => ?_) (fun h2870514 => ?_)
                        · skip
                          exact hJ2870509 _ u2870456 g2870453 g2870454 g2870455 (by omega)
                        · skip
                          refine qr_iload_n 123 rfl g2870455 rfl ?_
                          refine qr_if_lt 173 126 rfl rfl rfl (by omega) (fun h2870515 => ?_) (fun h2870515 => ?_)
                          · skip
                            exact hJ2870509 _ u2870456 g2870453 g2870454 g2870455 (by omega)
                          · skip
                            refine qr_iload_n 127 rfl g2870454 rfl ?_
                            refine qr_iload 129 rfl g2870457 rfl ?_
                            refine qr_ishr 130 rfl rfl ?_
                            refine qy_can (fun v2870516 hv2870516 => ?_)
                            refine qr_iconst 131 rfl rfl ?_
                            refine qr_iand 132 rfl rfl ?_
                            refine qy_andr (by omega) (fun v2870517 hv2870517 => ?_)
                            refine qr_iconst 133 rfl rfl ?_
                            have hJ2870541 : ∀ (ls : qm_L) (u2870538 : Int), qm_get ls 0 = some (.ref 86) → qm_get ls 2 = some (.int (qz u2869421)) → qm_get ls 3 = some (.int (qz u2870538)) → qm_get ls 4 = some (.int (qz u2870458)) → ((-2147483648) ≤ u2870538 ∧ u2870538 ≤ 2147483647) → qr_W (qe L xs vb) (d + 47) qx_e234 (fun r w' => ∃ σ' α', w' = qw σ' α' κ ρ ∧ qI σ' α' κ ρ ∧ qFr [(86, 15), (86, 23), (86, 30), (86, 35), (86, 36), (86, 37), (86, 38), (86, 39), (86, 41)] [96, 109, 111, 112] σ α σ' α' ∧ r = none) (167, ls, [], qw σ2817105 α2869423 κ ρ, 0, 0) := by
                              intro ls u2870538 g2870535 g2870536 g2870537 g2870539 hf2870540
                              refine qr_iinc _ 170 rfl g2870539 (by decide) rfl rfl ?_
                              refine qr_goto 113 rfl rfl ?_
                              exact ih2870462 _ u2870538 (u2870458 + 1) (by omega) (qm_gk g2870535 (by decide) (Or.inl (by decide))) (qm_gk g2870536 (by decide) (Or.inl (by decide))) (qm_gk g2870537 (by decide) (Or.inr rfl)) (qm_ge _ _ _) (by omega) (by omega)
                            refine qr_icmp_ne 167 136 rfl rfl rfl (by omega) (by omega) (fun h2870542 => ?_) (fun h2870542 => ?_)
                            · skip
                              exact hJ2870541 _ u2870456 g2870453 g2870454 g2870455 g2870457 (by omega)
                            · skip
                              refine qr_aload_n 137 rfl g2870453 rfl ?_
                              refine qr_get 140 rfl rfl rfl (by decide) rfl ?_
                              refine qr_iload 142 rfl g2870457 rfl ?_
                              refine qr_iaload 143 rfl rfl (by omega) (by decide) rfl ?_
                              refine qr_topI (fun v2870543 hv2870543 => ?_)
                              have hs2870544 : (-2147483648) ≤ v2870543 ∧ v2870543 ≤ 2147483647 := by rw [hv2870543]; exact hI2869424.2.1 111 _ (show _ < 12 by omega)
                              refine qr_iload_n 144 rfl g2870454 rfl ?_
                              refine qr_iand 145 rfl rfl ?_
                              refine qy_andr (by omega) (fun v2870545 hv2870545 => ?_)
                              have hJ2870556 : ∀ (ls : qm_L) (u2870554 : Int), qm_get ls 0 = some (.ref 86) → qm_get ls 2 = some (.int (qz u2869421)) → qm_get ls 4 = some (.int (qz u2870458)) → ((-2147483648) ≤ u2870554 ∧ u2870554 ≤ 2147483647) → qr_W (qe L xs vb) (d + 47) qx_e234 (fun r w' => ∃ σ' α', w' = qw σ' α' κ ρ ∧ qI σ' α' κ ρ ∧ qFr [(86, 15), (86, 23), (86, 30), (86, 35), (86, 36), (86, 37), (86, 38), (86, 39), (86, 41)] [96, 109, 111, 112] σ α σ' α' ∧ r = none) (166, ls, [.int (qz u2870554)], qw σ2817105 α2869423 κ ρ, 0, 0) := by
                                intro ls u2870554 g2870551 g2870552 g2870553 hf2870555
                                refine qr_istore_n _ 167 rfl (by decide) rfl rfl ?_
                                exact hJ2870541 _ u2870554 (qm_gk g2870551 (by decide) (Or.inl (by decide))) (qm_gk g2870552 (by decide) (Or.inr rfl)) (qm_ge _ _ _) (qm_gk g2870553 (by decide) (Or.inl (by decide))) (by omega)
                              refine qr_if_eq 152 148 rfl rfl rfl (by omega) (fun h2870557 => ?_) (fun h2870557 => ?_)
                              · skip
                                refine qr_iload_n 153 rfl g2870455 rfl ?_
                                refine qr_aload_n 154 rfl g2870453 rfl ?_
                                refine qr_get 157 rfl rfl rfl (by decide) rfl ?_
                                refine qr_aload_n 158 rfl g2870453 rfl ?_
                                refine qr_get 161 rfl rfl rfl (by decide) rfl ?_
                                refine qr_iload 163 rfl g2870457 rfl ?_
                                refine qr_iaload 164 rfl rfl (by omega) (by decide) rfl ?_
                                refine qr_topI (fun v2870558 hv2870558 => ?_)
                                have hs2870559 : 0 ≤ v2870558 ∧ v2870558 ≤ 31 := by rw [hv2870558]; exact hI2869424.2.1 110 _ (show _ < 32 by omega)
                                refine qr_iaload 165 rfl rfl (by omega) (by decide) rfl ?_
                                refine qr_topI (fun v2870560 hv2870560 => ?_)
                                have hs2870561 : (-2147483648) ≤ v2870560 ∧ v2870560 ≤ 2147483647 := by rw [hv2870560]; exact hI2869424.2.1 92 _ (show _ < 32 by omega)
                                refine qr_iadd 166 rfl rfl ?_
                                refine qy_can (fun v2870562 hv2870562 => ?_)
                                exact hJ2870556 _ v2870562 g2870453 g2870454 g2870457 (by omega)
                              · skip
                                refine qr_iconst 149 rfl rfl ?_
                                refine qr_goto 166 rfl rfl ?_
                                exact hJ2870556 _ (-1) g2870453 g2870454 g2870457 (by omega)
                    exact hL2870461 ((12 - 0 + 1 : Int)).toNat _ 0 0 (by omega) (qm_gk (qm_gk g2869419 (by decide) (Or.inl (by decide))) (by decide) (Or.inl (by decide))) (qm_gk (qm_gk g2869420 (by decide) (Or.inr rfl)) (by decide) (Or.inl (by decide))) (qm_gk (qm_ge _ _ _) (by decide) (Or.inr rfl)) (qm_ge _ _ _) (by omega) (by omega)
              exact hL2869427 ((4096 - 0 + 1 : Int)).toNat _ 0 α2817106 (by omega) (qm_gk g2817101 (by decide) (Or.inl (by decide))) (qm_ge _ _ _) (by omega) hI2817107 hF2817108
            · skip
              refine qr_iconst 34 rfl rfl ?_
              refine qr_istore_n _ 35 rfl (by decide) rfl rfl ?_
              have hL2871635 : ∀ (n : Nat) (ls : qm_L) (u2871627 : Int) (σ2871628 α2871629 : Nat → Nat → Int), 11 - u2871627 < (n : Int) → qm_get ls 0 = some (.ref 86) → qm_get ls 1 = some (.int (qz x1)) → qm_get ls 2 = some (.int (qz u2817104)) → qm_get ls 3 = some (.int (qz u2871627)) → (0 ≤ u2871627 ∧ u2871627 ≤ 11) → qI σ2871628 α2871629 κ ρ → qFr [(86, 15), (86, 23), (86, 30), (86, 35), (86, 36), (86, 37), (86, 38), (86, 39), (86, 41)] [96, 109, 111, 112] σ α σ2871628 α2871629 → σ2871628 86 6 = (σ 86 6) → σ2871628 86 43 = (σ 86 43) → qr_W (qe L xs vb) (d + 47) qx_e234 (fun r w' => ∃ σ' α', w' = qw σ' α' κ ρ ∧ qI σ' α' κ ρ ∧ qFr [(86, 15), (86, 23), (86, 30), (86, 35), (86, 36), (86, 37), (86, 38), (86, 39), (86, 41)] [96, 109, 111, 112] σ α σ' α' ∧ r = none) (35, ls, [], qw σ2871628 α2871629 κ ρ, 0, 0) := by
                intro n
                induction n with
                | zero => intro ls u2871627 σ2871628 α2871629 hm g2871623 g2871624 g2871625 g2871626 hf2871634 hI2871630 hF2871631 hk2871632 hk2871633; exact False.elim (by omega)
                | succ n ih2871636 =>
                  intro ls u2871627 σ2871628 α2871629 hm g2871623 g2871624 g2871625 g2871626 hf2871634 hI2871630 hF2871631 hk2871632 hk2871633
                  refine qr_iload_n 36 rfl g2871626 rfl ?_
                  refine qr_iload_n 37 rfl g2871625 rfl ?_
                  refine qr_icmp_ge 90 40 rfl rfl rfl (by omega) (by omega) (fun h2871687 => ?_) (fun h2871687 => ?_)
                  · skip
                    refine qr_iinc _ 93 rfl g2871625 (by decide) rfl rfl ?_
                    refine qr_goto 25 rfl rfl ?_
                    exact ih2817113 _ (u2817104 + 1) σ2871628 α2871629 (by omega) (qm_gk g2871623 (by decide) (Or.inl (by decide))) (qm_gk g2871624 (by decide) (Or.inr rfl)) (qm_ge _ _ _) (by omega) hI2871630 hF2871631 ((hk2871632).trans rfl) ((hk2871633).trans rfl)
                  · skip
                    refine qr_aload_n 41 rfl g2871623 rfl ?_
                    refine qr_aload_n 42 rfl g2871623 rfl ?_
                    refine qr_get 45 rfl rfl rfl (by decide) rfl ?_
                    refine qr_iload_n 46 rfl g2871626 rfl ?_
                    refine qr_iaload 47 rfl rfl (by omega) (by decide) rfl ?_
                    refine qr_topI (fun v2871688 hv2871688 => ?_)
                    have hs2871689 : 0 ≤ v2871688 ∧ v2871688 ≤ 31 := by rw [hv2871688]; exact hI2871630.2.1 110 _ (show _ < 32 by omega)
                    refine qr_aload_n 48 rfl g2871623 rfl ?_
                    refine qr_get 51 rfl rfl rfl (by decide) rfl ?_
                    refine qr_iload_n 52 rfl g2871625 rfl ?_
                    refine qr_iaload 53 rfl rfl (by omega) (by decide) rfl ?_
                    refine qr_topI (fun v2871690 hv2871690 => ?_)
                    have hs2871691 : 0 ≤ v2871690 ∧ v2871690 ≤ 31 := by rw [hv2871690]; exact hI2871630.2.1 110 _ (show _ < 32 by omega)
                    refine qr_iload_n 54 rfl g2871624 rfl ?_
                    refine qr_callN 57 rfl rfl rfl (sf_231_86 (d := d + 0) hI2871630 (by omega) (by omega) (by omega) (by omega)) ?_
                    rintro _ _ ⟨σ2871693, α2871694, rfl, hI2871695, hG2871696, v2871692, rfl, hv2871692⟩
                    have hF2871697 : qFr [(86, 15), (86, 23), (86, 30), (86, 35), (86, 36), (86, 37), (86, 38), (86, 39), (86, 41)] [96, 109, 111, 112] σ α σ2871693 α2871694 := qFr_t hF2871631 hG2871696 (by decide) (by decide)
                    show qr_W (qe L xs vb) (d + 47) qx_e234 _ (57, _, [.int (qz v2871692)], qw σ2871693 α2871694 κ ρ, 0, 0)
                    have hJ2871722 : ∀ (ls : qm_L) (α2871719 : Nat → Nat → Int), qm_get ls 0 = some (.ref 86) → qm_get ls 1 = some (.int (qz x1)) → qm_get ls 2 = some (.int (qz u2817104)) → qm_get ls 3 = some (.int (qz u2871627)) → qI σ2871693 α2871719 κ ρ → qFr [(86, 15), (86, 23), (86, 30), (86, 35), (86, 36), (86, 37), (86, 38), (86, 39), (86, 41)] [96, 109, 111, 112] σ α σ2871693 α2871719 → qr_W (qe L xs vb) (d + 47) qx_e234 (fun r w' => ∃ σ' α', w' = qw σ' α' κ ρ ∧ qI σ' α' κ ρ ∧ qFr [(86, 15), (86, 23), (86, 30), (86, 35), (86, 36), (86, 37), (86, 38), (86, 39), (86, 41)] [96, 109, 111, 112] σ α σ' α' ∧ r = none) (84, ls, [], qw σ2871693 α2871719 κ ρ, 0, 0) := by
                      intro ls α2871719 g2871714 g2871715 g2871716 g2871717 hI2871720 hF2871721
                      refine qr_iinc _ 87 rfl g2871717 (by decide) rfl rfl ?_
                      refine qr_goto 35 rfl rfl ?_
                      exact ih2871636 _ (u2871627 + 1) σ2871693 α2871719 (by omega) (qm_gk g2871714 (by decide) (Or.inl (by decide))) (qm_gk g2871715 (by decide) (Or.inl (by decide))) (qm_gk g2871716 (by decide) (Or.inr rfl)) (qm_ge _ _ _) (by omega) hI2871720 hF2871721 ((hG2871696.1 86 6 (by decide)).trans ((hk2871632).trans rfl)) ((hG2871696.1 86 43 (by decide)).trans ((hk2871633).trans rfl))
                    refine qr_if_eq 84 60 rfl rfl rfl (by omega) (fun h2871723 => ?_) (fun h2871723 => ?_)
                    · skip
                      exact hJ2871722 _ α2871694 g2871623 g2871624 g2871625 g2871626 hI2871695 hF2871697
                    · skip
                      refine qr_aload_n 61 rfl g2871623 rfl ?_
                      refine qr_get 64 rfl rfl rfl (by decide) rfl ?_
                      refine qr_iload_n 65 rfl g2871625 rfl ?_
                      refine qr_dup2 66 rfl rfl rfl rfl ?_
                      refine qr_iaload 67 rfl rfl (by omega) (by decide) rfl ?_
                      refine qr_topI (fun v2871724 hv2871724 => ?_)
                      have hs2871725 : (-2147483648) ≤ v2871724 ∧ v2871724 ≤ 2147483647 := by rw [hv2871724]; exact hI2871695.2.1 111 _ (show _ < 12 by omega)
                      refine qr_iconst 68 rfl rfl ?_
                      refine qr_iload_n 69 rfl g2871626 rfl ?_
                      refine qr_ishl 70 rfl rfl ?_
                      refine qy_shl1 (N := 10) (by omega) (fun v2871726 hv2871726 => ?_)
                      refine qr_ior 71 rfl rfl ?_
                      refine qy_can (fun v2871727 hv2871727 => ?_)
                      refine qr_iastore 72 rfl (by decide) rfl (by omega) (by decide) rfl ?_
                      refine qy_wA (qw_r α2871694 111 (qzu (α2871694 111) (u2817104 : Int).toNat v2871727)) rfl (fun α2871728 e2871729 => ?_)
                      have hI2871730 : qI σ2871693 α2871728 κ ρ := by rw [e2871729]; exact qI_r hI2871695 111 _ rfl (show (-2147483648) ≤ v2871727 ∧ v2871727 ≤ 2147483647 by omega)
                      have hF2871731 : qFr [(86, 15), (86, 23), (86, 30), (86, 35), (86, 36), (86, 37), (86, 38), (86, 39), (86, 41)] [96, 109, 111, 112] σ α σ2871693 α2871728 := by rw [e2871729]; exact qFr_r hF2871697 111 _ (by decide)
                      refine qr_aload_n 73 rfl g2871623 rfl ?_
                      refine qr_get 76 rfl rfl rfl (by decide) rfl ?_
                      refine qr_iload_n 77 rfl g2871626 rfl ?_
                      refine qr_dup2 78 rfl rfl rfl rfl ?_
                      refine qr_iaload 79 rfl rfl (by omega) (by decide) rfl ?_
                      refine qr_topI (fun v2871732 hv2871732 => ?_)
                      have hs2871733 : (-2147483648) ≤ v2871732 ∧ v2871732 ≤ 2147483647 := by rw [hv2871732]; exact hI2871730.2.1 111 _ (show _ < 12 by omega)
                      refine qr_iconst 80 rfl rfl ?_
                      refine qr_iload_n 81 rfl g2871625 rfl ?_
                      refine qr_ishl 82 rfl rfl ?_
                      refine qy_shl1 (N := 11) (by omega) (fun v2871734 hv2871734 => ?_)
                      refine qr_ior 83 rfl rfl ?_
                      refine qy_can (fun v2871735 hv2871735 => ?_)
                      refine qr_iastore 84 rfl (by decide) rfl (by omega) (by decide) rfl ?_
                      refine qy_wA (qw_r α2871728 111 (qzu (α2871728 111) (u2871627 : Int).toNat v2871735)) rfl (fun α2871736 e2871737 => ?_)
                      have hI2871738 : qI σ2871693 α2871736 κ ρ := by rw [e2871737]; exact qI_r hI2871730 111 _ rfl (show (-2147483648) ≤ v2871735 ∧ v2871735 ≤ 2147483647 by omega)
                      have hF2871739 : qFr [(86, 15), (86, 23), (86, 30), (86, 35), (86, 36), (86, 37), (86, 38), (86, 39), (86, 41)] [96, 109, 111, 112] σ α σ2871693 α2871736 := by rw [e2871737]; exact qFr_r hF2871731 111 _ (by decide)
                      exact hJ2871722 _ α2871736 g2871623 g2871624 g2871625 g2871626 hI2871738 hF2871739
              exact hL2871635 ((11 - 0 + 1 : Int)).toNat _ 0 σ2817105 α2817106 (by omega) (qm_gk g2817101 (by decide) (Or.inl (by decide))) (qm_gk g2817102 (by decide) (Or.inl (by decide))) (qm_gk g2817103 (by decide) (Or.inr rfl)) (qm_ge _ _ _) (by omega) hI2817107 hF2817108 ((hk2817109).trans rfl) ((hk2817110).trans rfl)
        exact hL2817112 ((12 - 0 + 1 : Int)).toNat _ 0 σ α2465290 (by omega) (qm_gk g2465285 (by decide) (Or.inl (by decide))) (qm_gk g2465286 (by decide) (Or.inr rfl)) (qm_ge _ _ _) (by omega) hI2465291 hF2465292 (rfl) (rfl)
      · skip
        refine qr_aload_n 11 rfl g2465285 rfl ?_
        refine qr_get 14 rfl rfl rfl (by decide) rfl ?_
        refine qr_iload_n 15 rfl g2465287 rfl ?_
        refine qr_iconst 16 rfl rfl ?_
        refine qr_iastore 17 rfl (by decide) rfl (by omega) (by decide) rfl ?_
        refine qy_wA (qw_r α2465290 111 (qzu (α2465290 111) (u2465288 : Int).toNat 0)) rfl (fun α2871740 e2871741 => ?_)
        have hI2871742 : qI σ α2871740 κ ρ := by rw [e2871741]; exact qI_r hI2465291 111 _ rfl (show (-2147483648) ≤ 0 ∧ 0 ≤ 2147483647 by omega)
        have hF2871743 : qFr [(86, 15), (86, 23), (86, 30), (86, 35), (86, 36), (86, 37), (86, 38), (86, 39), (86, 41)] [96, 109, 111, 112] σ α σ α2871740 := by rw [e2871741]; exact qFr_r hF2465292 111 _ (by decide)
        refine qr_iinc _ 20 rfl g2465287 (by decide) rfl rfl ?_
        refine qr_goto 2 rfl rfl ?_
        exact ih2465295 _ (u2465288 + 1) α2871740 (by omega) (qm_gk g2465285 (by decide) (Or.inl (by decide))) (qm_gk g2465286 (by decide) (Or.inr rfl)) (qm_ge _ _ _) (by omega) hI2871742 hF2871743
  exact hL2465294 ((12 - 0 + 1 : Int)).toNat _ 0 α (by omega) rfl rfl rfl (by omega) hI hF0

set_option maxHeartbeats 4000000 in
set_option maxRecDepth 20000 in
/-- OneRoofModel.most -/
theorem sf_232_86 {L : Nat} {xs : Nat → Int} {vb : Bool} {d : Nat} {σ α : Nat → Nat → Int} {κ : Nat → Option Nat} {ρ : Nat} {x1 : Int} {x2 : Int} {x3 : Int} (hI : qI σ α κ ρ) (r1 : (-9223372036854775808) ≤ x1 ∧ x1 ≤ 9223372036854775807) (r2 : (-9223372036854775808) ≤ x2 ∧ x2 ≤ 9223372036854775807) (r3 : (-2147483648) ≤ x3 ∧ x3 ≤ 2147483647) : qm_T (qe L xs vb) (d + 49) 232 [.ref 86, .long (ql x1), .long (ql x2), .int (qz x3)] (qw σ α κ ρ) (fun r w' => ∃ σ' α', w' = qw σ' α' κ ρ ∧ qI σ' α' κ ρ ∧ qFr [(86, 15), (86, 23), (86, 30), (86, 35), (86, 36), (86, 37), (86, 38), (86, 39), (86, 41), (86, 43)] [96, 109, 110, 111, 112] σ α σ' α' ∧ ∃ v : Int, r = some (.long (ql v)) ∧ ((-9223372036854775808) ≤ v ∧ v ≤ 9223372036854775807)) := by
  refine qr_start (d := d + 48) qv_e232 (Nat.le_of_ble_eq_true rfl) ?_
  show qr_W (qe L xs vb) (d + 48) qx_e232 _ (0, [(0, .ref 86), (1, .long (ql x1)), (3, .long (ql x2)), (5, .int (qz x3))], [], _, 0, 0)
  have hF0 := qFr_rf [(86, 15), (86, 23), (86, 30), (86, 35), (86, 36), (86, 37), (86, 38), (86, 39), (86, 41), (86, 43)] [96, 109, 110, 111, 112] σ α
  refine qr_iload 2 rfl rfl rfl ?_
  refine qr_callN 5 rfl rfl rfl (sf_229 (d := d + 45) hI (by omega)) ?_
  rintro _ _ ⟨rfl, v1, rfl, hv1, hp2⟩
  show qr_W (qe L xs vb) (d + 48) qx_e232 _ (5, _, [.int (qz v1)], qw σ α κ ρ, 0, 0)
  refine qr_if_eq 38 8 rfl rfl rfl (by omega) (fun h3 => ?_) (fun h3 => ?_)
  · skip
    refine qr_ldc2 (-1) 41 rfl (by decide) rfl ?_
    refine qr_retL rfl rfl (by decide) (by decide) ?_
    exact ⟨_, _, rfl, hI, hF0, (-1), rfl, by omega⟩
  · skip
    refine qr_aload_n 9 rfl rfl rfl ?_
    refine qr_lload_n 10 rfl rfl rfl ?_
    refine qr_callN 13 rfl rfl rfl (sf_224_86 (d := d + 47) hI (by omega)) ?_
    rintro _ _ ⟨rfl, v4, rfl, hv4⟩
    show qr_W (qe L xs vb) (d + 48) qx_e232 _ (13, _, [.int (qz v4)], qw σ α κ ρ, 0, 0)
    refine qr_if_eq 38 16 rfl rfl rfl (by omega) (fun h5 => ?_) (fun h5 => ?_)
    · skip
      refine qr_ldc2 (-1) 41 rfl (by decide) rfl ?_
      refine qr_retL rfl rfl (by decide) (by decide) ?_
      exact ⟨_, _, rfl, hI, hF0, (-1), rfl, by omega⟩
    · skip
      refine qr_lload_n 17 rfl rfl rfl ?_
      refine qr_lload_n 18 rfl rfl rfl ?_
      refine qr_ldc2 (-1) 21 rfl (by decide) rfl ?_
      refine qr_lxor 22 rfl rfl ?_
      refine qy_canl (fun v6 hv6 => ?_)
      refine qr_land 23 rfl rfl ?_
      refine qy_canl (fun v7 hv7 => ?_)
      refine qr_lconst 24 rfl rfl ?_
      refine qy_vl 0 rfl ?_
      refine qr_lc_ne 38 28 rfl rfl rfl rfl (by omega) (by omega) (fun h8 => ?_) (fun h8 => ?_)
      · skip
        refine qr_ldc2 (-1) 41 rfl (by decide) rfl ?_
        refine qr_retL rfl rfl (by decide) (by decide) ?_
        exact ⟨_, _, rfl, hI, hF0, (-1), rfl, by omega⟩
      · skip
        refine qr_aload_n 29 rfl rfl rfl ?_
        refine qr_lload_n 30 rfl rfl rfl ?_
        refine qr_bipush 32 rfl (by decide) rfl ?_
        refine qr_callN 35 rfl rfl rfl (sf_233_86p (d := d + 46) hI (by omega) (by omega)) ?_
        have hs11 : 0 ≤ σ 86 6 ∧ σ 86 6 ≤ 32 := hI.1 86 6
        rintro _ _ ⟨σ12, α13, rfl, hI14, hG15, v9, rfl, hv9, hp10⟩
        have hF16 : qFr [(86, 15), (86, 23), (86, 30), (86, 35), (86, 36), (86, 37), (86, 38), (86, 39), (86, 41), (86, 43)] [96, 109, 110, 111, 112] σ α σ12 α13 := qFr_t hF0 hG15 (by decide) (by decide)
        have hs17 : 0 ≤ σ12 86 43 ∧ σ12 86 43 ≤ 32 := hI14.1 86 43
        show qr_W (qe L xs vb) (d + 48) qx_e232 _ (35, _, [.int (qz v9)], qw σ12 α13 κ ρ, 0, 0)
        refine qr_if_ne 42 38 rfl rfl rfl (by omega) (fun h18 => ?_) (fun h18 => ?_)
        · skip
          refine qr_aload_n 43 rfl rfl rfl ?_
          refine qr_iload 45 rfl rfl rfl ?_
          refine qr_callN 48 rfl rfl rfl (sf_234_86 (d := d + 0) hI14 (by omega) (by omega) (by omega)) ?_
          rintro _ _ ⟨σ19, α20, rfl, hI21, hG22, rfl⟩
          have hF23 : qFr [(86, 15), (86, 23), (86, 30), (86, 35), (86, 36), (86, 37), (86, 38), (86, 39), (86, 41), (86, 43)] [96, 109, 110, 111, 112] σ α σ19 α20 := qFr_t hF16 hG22 (by decide) (by decide)
          show qr_W (qe L xs vb) (d + 48) qx_e232 _ (48, _, [], qw σ19 α20 κ ρ, 0, 0)
          refine qr_iconst 49 rfl rfl ?_
          refine qr_istore _ 51 rfl (by decide) rfl rfl ?_
          refine qr_iconst 52 rfl rfl ?_
          refine qr_istore _ 54 rfl (by decide) rfl rfl ?_
          have hL78181 : ∀ (n : Nat) (ls : qm_L) (u78176 u78178 : Int), 32 - u78178 < (n : Int) → qm_get ls 0 = some (.ref 86) → qm_get ls 3 = some (.long (ql x2)) → qm_get ls 6 = some (.int (qz u78176)) → qm_get ls 7 = some (.int (qz u78178)) → ((-2147483648) ≤ u78176 ∧ u78176 ≤ 2147483647) → (0 ≤ u78178 ∧ u78178 ≤ 32) → qr_W (qe L xs vb) (d + 48) qx_e232 (fun r w' => ∃ σ' α', w' = qw σ' α' κ ρ ∧ qI σ' α' κ ρ ∧ qFr [(86, 15), (86, 23), (86, 30), (86, 35), (86, 36), (86, 37), (86, 38), (86, 39), (86, 41), (86, 43)] [96, 109, 110, 111, 112] σ α σ' α' ∧ ∃ v : Int, r = some (.long (ql v)) ∧ ((-9223372036854775808) ≤ v ∧ v ≤ 9223372036854775807)) (54, ls, [], qw σ19 α20 κ ρ, 0, 0) := by
            intro n
            induction n with
            | zero => intro ls u78176 u78178 hm g78173 g78174 g78175 g78177 hf78179 hf78180; exact False.elim (by omega)
            | succ n ih78182 =>
              intro ls u78176 u78178 hm g78173 g78174 g78175 g78177 hf78179 hf78180
              refine qr_iload 56 rfl g78177 rfl ?_
              refine qr_aload_n 57 rfl g78173 rfl ?_
              refine qr_get 60 rfl rfl rfl (by decide) rfl ?_
              refine qy_v (σ12 86 43) ((hG22.1 86 43 (by decide)).trans rfl) ?_
              refine qr_icmp_ge 96 63 rfl rfl rfl (by omega) (by omega) (fun h78193 => ?_) (fun h78193 => ?_)
              · skip
                refine qr_iconst 97 rfl rfl ?_
                refine qr_istore _ 99 rfl (by decide) rfl rfl ?_
                refine qr_iconst 100 rfl rfl ?_
                refine qr_istore _ 102 rfl (by decide) rfl rfl ?_
                have hL85285 : ∀ (n : Nat) (ls : qm_L) (u85280 u85282 : Int), 0 - 0 < (n : Int) → qm_get ls 0 = some (.ref 86) → qm_get ls 6 = some (.int (qz u78176)) → qm_get ls 7 = some (.int (qz u85280)) → qm_get ls 8 = some (.int (qz u85282)) → ((-1) ≤ u85280 ∧ u85280 ≤ 2147483647) → (0 ≤ u85282 ∧ u85282 ≤ 2147483647) → qr_W (qe L xs vb) (d + 48) qx_e232 (fun r w' => ∃ σ' α', w' = qw σ' α' κ ρ ∧ qI σ' α' κ ρ ∧ qFr [(86, 15), (86, 23), (86, 30), (86, 35), (86, 36), (86, 37), (86, 38), (86, 39), (86, 41), (86, 43)] [96, 109, 110, 111, 112] σ α σ' α' ∧ ∃ v : Int, r = some (.long (ql v)) ∧ ((-9223372036854775808) ≤ v ∧ v ≤ 9223372036854775807)) (102, ls, [], qw σ19 α20 κ ρ, 0, 0) := by
                  intro n
                  induction n with
                  | zero => intro ls u85280 u85282 hm g85277 g85278 g85279 g85281 hf85283 hf85284; exact False.elim (by omega)
                  | succ n ih85286 =>
                    intro ls u85280 u85282 hm g85277 g85278 g85279 g85281 hf85283 hf85284
                    refine qr_iload 104 rfl g85281 rfl ?_
                    refine qr_iconst 105 rfl rfl ?_
                    refine qr_aload_n 106 rfl g85277 rfl ?_
                    refine qr_get 109 rfl rfl rfl (by decide) rfl ?_
                    refine qy_v (σ12 86 43) ((hG22.1 86 43 (by decide)).trans rfl) ?_
                    refine qr_ishl 110 rfl rfl ?_
                    refine qy_can (fun v85287 hv85287 => ?_)
                    refine qr_icmp_ge 215 113 rfl rfl rfl (by omega) (by omega) (fun h85357 => ?_) (fun h85357 => ?_)
                    · skip
                      refine qr_iload 217 rfl g85279 rfl ?_
                      refine qr_if_ge 226 220 rfl rfl rfl (by omega) (fun h85358 => ?_) (fun h85358 => ?_)
                      · skip
                        refine qr_aload_n 227 rfl g85277 rfl ?_
                        refine qr_iload 229 rfl g85279 rfl ?_
                        refine qr_callN 232 rfl rfl rfl (sf_236_86 (d := d + 47) hI21 (by omega)) ?_
                        rintro _ _ ⟨rfl, v85359, rfl, hv85359⟩
                        show qr_W (qe L xs vb) (d + 48) qx_e232 _ (232, _, [.long (ql v85359)], qw σ19 α20 κ ρ, 0, 0)
                        refine qr_retL rfl rfl (by decide) (by decide) ?_
                        exact ⟨_, _, rfl, hI21, hF23, v85359, rfl, by omega⟩
                      · skip
                        refine qr_ldc2 (-2) 223 rfl (by decide) rfl ?_
                        refine qr_goto 232 rfl rfl ?_
                        refine qr_retL rfl rfl (by decide) (by decide) ?_
                        exact ⟨_, _, rfl, hI21, hF23, (-2), rfl, by omega⟩
                    · skip
                      refine qr_aload_n 114 rfl g85277 rfl ?_
                      refine qr_get 117 rfl rfl rfl (by decide) rfl ?_
                      refine qr_iload 119 rfl g85281 rfl ?_
                      refine qr_iaload 120 rfl rfl (by omega) (by decide) rfl ?_
                      refine qr_topI (fun v85360 hv85360 => ?_)
                      have hs85361 : (-2147483648) ≤ v85360 ∧ v85360 ≤ 2147483647 := by rw [hv85360]; exact hI21.2.1 112 _ (show _ < 4096 by omega)
                      have hJ85399 : ∀ (ls : qm_L) (u85396 : Int), qm_get ls 0 = some (.ref 86) → qm_get ls 6 = some (.int (qz u78176)) → qm_get ls 7 = some (.int (qz u85396)) → qm_get ls 8 = some (.int (qz u85282)) → ((-1) ≤ u85396 ∧ u85396 ≤ 2147483647) → qr_W (qe L xs vb) (d + 48) qx_e232 (fun r w' => ∃ σ' α', w' = qw σ' α' κ ρ ∧ qI σ' α' κ ρ ∧ qFr [(86, 15), (86, 23), (86, 30), (86, 35), (86, 36), (86, 37), (86, 38), (86, 39), (86, 41), (86, 43)] [96, 109, 110, 111, 112] σ α σ' α' ∧ ∃ v : Int, r = some (.long (ql v)) ∧ ((-9223372036854775808) ≤ v ∧ v ≤ 9223372036854775807)) (209, ls, [], qw σ19 α20 κ ρ, 0, 0) := by
                        intro ls u85396 g85393 g85394 g85395 g85397 hf85398
                        refine qr_iinc _ 212 rfl g85397 (by decide) rfl rfl ?_
                        refine qr_goto 102 rfl rfl ?_
                        exact ih85286 _ u85396 (u85282 + 1) (by omega) (qm_gk g85393 (by decide) (Or.inl (by decide))) (qm_gk g85394 (by decide) (Or.inl (by decide))) (qm_gk g85395 (by decide) (Or.inr rfl)) (qm_ge _ _ _) (by omega) (by omega)
                      refine qr_if_lt 209 123 rfl rfl rfl (by omega) (fun h85400 => ?_) (fun h85400 => ?_)
                      · skip
                        exact hJ85399 _ u85280 g85277 g85278 g85279 g85281 (by omega)
                      · skip
                        refine qr_iload 125 rfl g85278 rfl ?_
                        refine qr_iload 127 rfl g85281 rfl ?_
                        refine qr_iconst 128 rfl rfl ?_
                        refine qr_ixor 129 rfl rfl ?_
                        refine qy_can (fun v85401 hv85401 => ?_)
                        refine qr_iand 130 rfl rfl ?_
                        refine qy_can (fun v85402 hv85402 => ?_)
                        refine qr_if_eq 136 133 rfl rfl rfl (by omega) (fun h85403 => ?_) (fun h85403 => ?_)
                        · skip
                          refine qr_iload 138 rfl g85279 rfl ?_
                          have hJ85420 : ∀ (ls : qm_L) (u85418 : Int), qm_get ls 0 = some (.ref 86) → qm_get ls 6 = some (.int (qz u78176)) → qm_get ls 7 = some (.int (qz u85280)) → qm_get ls 8 = some (.int (qz u85282)) → (0 ≤ u85418 ∧ u85418 ≤ 1) → qr_W (qe L xs vb) (d + 48) qx_e232 (fun r w' => ∃ σ' α', w' = qw σ' α' κ ρ ∧ qI σ' α' κ ρ ∧ qFr [(86, 15), (86, 23), (86, 30), (86, 35), (86, 36), (86, 37), (86, 38), (86, 39), (86, 41), (86, 43)] [96, 109, 110, 111, 112] σ α σ' α' ∧ ∃ v : Int, r = some (.long (ql v)) ∧ ((-9223372036854775808) ≤ v ∧ v ≤ 9223372036854775807)) (193, ls, [.int (qz u85418)], qw σ19 α20 κ ρ, 0, 0) := by
                            intro ls u85418 g85414 g85415 g85416 g85417 hf85419
                            refine qr_istore _ 195 rfl (by decide) rfl rfl ?_
                            refine qr_iload 197 rfl (qm_ge _ _ _) rfl ?_
                            have hJ85426 : ∀ (ls : qm_L) (u85424 : Int), qm_get ls 0 = some (.ref 86) → qm_get ls 6 = some (.int (qz u78176)) → qm_get ls 8 = some (.int (qz u85282)) → ((-1) ≤ u85424 ∧ u85424 ≤ 2147483647) → qr_W (qe L xs vb) (d + 48) qx_e232 (fun r w' => ∃ σ' α', w' = qw σ' α' κ ρ ∧ qI σ' α' κ ρ ∧ qFr [(86, 15), (86, 23), (86, 30), (86, 35), (86, 36), (86, 37), (86, 38), (86, 39), (86, 41), (86, 43)] [96, 109, 110, 111, 112] σ α σ' α' ∧ ∃ v : Int, r = some (.long (ql v)) ∧ ((-9223372036854775808) ≤ v ∧ v ≤ 9223372036854775807)) (207, ls, [.int (qz u85424)], qw σ19 α20 κ ρ, 0, 0) := by
                              intro ls u85424 g85421 g85422 g85423 hf85425
                              refine qr_istore _ 209 rfl (by decide) rfl rfl ?_
                              exact hJ85399 _ u85424 (qm_gk g85421 (by decide) (Or.inl (by decide))) (qm_gk g85422 (by decide) (Or.inr rfl)) (qm_ge _ _ _) (qm_gk g85423 (by decide) (Or.inl (by decide))) (by omega)
                            refine qr_if_eq 205 200 rfl rfl rfl (by omega) (fun h85427 => ?_) (fun h85427 => ?_)
                            · skip
                              refine qr_iload 207 rfl (qm_gk g85416 (by decide) (Or.inl (by decide))) rfl ?_
                              exact hJ85426 _ u85280 (qm_gk g85414 (by decide) (Or.inl (by decide))) (qm_gk g85415 (by decide) (Or.inl (by decide))) (qm_gk g85417 (by decide) (Or.inr rfl)) (by omega)
                            · skip
                              refine qr_iload 202 rfl (qm_gk g85417 (by decide) (Or.inr rfl)) rfl ?_
                              refine qr_goto 207 rfl rfl ?_
                              exact hJ85426 _ u85282 (qm_gk g85414 (by decide) (Or.inl (by decide))) (qm_gk g85415 (by decide) (Or.inl (by decide))) (qm_gk g85417 (by decide) (Or.inr rfl)) (by omega)
                          refine qr_if_lt 188 141 rfl rfl rfl (by omega) (fun h85428 => ?_) (fun h85428 => ?_)
                          · skip
                            refine qr_iconst 189 rfl rfl ?_
                            refine qr_goto 193 rfl rfl ?_
                            exact hJ85420 _ 1 g85277 g85278 g85279 g85281 (by omega)
                          · skip
                            refine qr_aload_n 142 rfl g85277 rfl ?_
                            refine qr_get 145 rfl rfl rfl (by decide) rfl ?_
                            refine qr_iload 147 rfl g85281 rfl ?_
                            refine qr_iaload 148 rfl rfl (by omega) (by decide) rfl ?_
                            refine qr_topI (fun v85429 hv85429 => ?_)
                            have hs85430 : (-2147483648) ≤ v85429 ∧ v85429 ≤ 2147483647 := by rw [hv85429]; exact hI21.2.1 112 _ (show _ < 4096 by omega)
                            refine qr_aload_n 149 rfl g85277 rfl ?_
                            refine qr_get 152 rfl rfl rfl (by decide) rfl ?_
                            refine qr_iload 154 rfl g85279 rfl ?_
                            refine qr_iaload 155 rfl rfl (by omega) (by decide) rfl ?_
                            refine qr_topI (fun v85431 hv85431 => ?_)
                            have hs85432 : (-2147483648) ≤ v85431 ∧ v85431 ≤ 2147483647 := by rw [hv85431]; exact hI21.2.1 112 _ (show _ < 4096 by omega)
                            refine qr_icmp_gt 188 158 rfl rfl rfl (by omega) (by omega) (fun h85433 => ?_) (fun h85433 => ?_)
                            · skip
                              refine qr_iconst 189 rfl rfl ?_
                              refine qr_goto 193 rfl rfl ?_
                              exact hJ85420 _ 1 g85277 g85278 g85279 g85281 (by omega)
                            · skip
                              refine qr_aload_n 159 rfl g85277 rfl ?_
                              refine qr_get 162 rfl rfl rfl (by decide) rfl ?_
                              refine qr_iload 164 rfl g85281 rfl ?_
                              refine qr_iaload 165 rfl rfl (by omega) (by decide) rfl ?_
                              refine qr_topI (fun v85434 hv85434 => ?_)
                              have hs85435 : (-2147483648) ≤ v85434 ∧ v85434 ≤ 2147483647 := by rw [hv85434]; exact hI21.2.1 112 _ (show _ < 4096 by omega)
                              refine qr_aload_n 166 rfl g85277 rfl ?_
                              refine qr_get 169 rfl rfl rfl (by decide) rfl ?_
                              refine qr_iload 171 rfl g85279 rfl ?_
                              refine qr_iaload 172 rfl rfl (by omega) (by decide) rfl ?_
                              refine qr_topI (fun v85436 hv85436 => ?_)
                              have hs85437 : (-2147483648) ≤ v85436 ∧ v85436 ≤ 2147483647 := by rw [hv85436]; exact hI21.2.1 112 _ (show _ < 4096 by omega)
                              refine qr_icmp_ne 192 175 rfl rfl rfl (by omega) (by omega) (fun h85438 => ?_) (fun h85438 => ?_)
                              · skip
                                refine qr_iconst 193 rfl rfl ?_
                                exact hJ85420 _ 0 g85277 g85278 g85279 g85281 (by omega)
                              · skip
                                refine qr_iload 177 rfl g85281 rfl ?_
                                refine qr_callN 180 rfl rfl rfl (sf_235 (d := d + 47) hI21 (by omega)) ?_
                                rintro _ _ ⟨rfl, v85439, rfl, hv85439⟩
                                show qr_W (qe L xs vb) (d + 48) qx_e232 _ (180, _, [.int (qz v85439)], qw σ19 α20 κ ρ, 0, 0)
                                refine qr_iload 182 rfl g85279 rfl ?_
                                refine qr_callN 185 rfl rfl rfl (sf_235 (d := d + 47) hI21 (by omega)) ?_
                                rintro _ _ ⟨rfl, v85440, rfl, hv85440⟩
                                show qr_W (qe L xs vb) (d + 48) qx_e232 _ (185, _, [.int (qz v85440), .int (qz v85439)], qw σ19 α20 κ ρ, 0, 0)
                                refine qr_icmp_le 192 188 rfl rfl rfl (by omega) (by omega) (fun h85441 => ?_) (fun h85441 => ?_)
                                · skip
                                  refine qr_iconst 193 rfl rfl ?_
                                  exact hJ85420 _ 0 g85277 g85278 g85279 g85281 (by omega)
                                · skip
                                  refine qr_iconst 189 rfl rfl ?_
                                  refine qr_goto 193 rfl rfl ?_
                                  exact hJ85420 _ 1 g85277 g85278 g85279 g85281 (by omega)
                        · skip
                          refine qr_goto 209 rfl rfl ?_
                          exact hJ85399 _ u85280 g85277 g85278 g85279 g85281 (by omega)
                exact hL85285 ((0 - 0 + 1 : Int)).toNat _ (-1) 0 (by omega) (qm_gk (qm_gk g78173 (by decide) (Or.inl (by decide))) (by decide) (Or.inl (by decide))) (qm_gk (qm_gk g78175 (by decide) (Or.inr rfl)) (by decide) (Or.inl (by decide))) (qm_gk (qm_ge _ _ _) (by decide) (Or.inr rfl)) (qm_ge _ _ _) (by omega) (by omega)
              · skip
                refine qr_iload 65 rfl g78175 rfl ?_
                refine qr_lload_n 66 rfl g78174 rfl ?_
                refine qr_aload_n 67 rfl g78173 rfl ?_
                refine qr_get 70 rfl rfl rfl (by decide) rfl ?_
                refine qr_iload 72 rfl g78177 rfl ?_
                refine qr_iaload 73 rfl rfl (by omega) (by decide) rfl ?_
                refine qr_topI (fun v85442 hv85442 => ?_)
                have hs85443 : 0 ≤ v85442 ∧ v85442 ≤ 31 := by rw [hv85442]; exact hI21.2.1 110 _ (show _ < 32 by omega)
                refine qr_callN 76 rfl rfl rfl (sf_225 (d := d + 47) hI21 (by omega) (by omega)) ?_
                rintro _ _ ⟨rfl, v85444, rfl, hv85444⟩
                show qr_W (qe L xs vb) (d + 48) qx_e232 _ (76, _, [.int (qz v85444), .int (qz u78176)], qw σ19 α20 κ ρ, 0, 0)
                have hJ85451 : ∀ (ls : qm_L) (u85449 : Int), qm_get ls 0 = some (.ref 86) → qm_get ls 3 = some (.long (ql x2)) → qm_get ls 7 = some (.int (qz u78178)) → ((-2147483648) ≤ u85449 ∧ u85449 ≤ 2147483647) → qr_W (qe L xs vb) (d + 48) qx_e232 (fun r w' => ∃ σ' α', w' = qw σ' α' κ ρ ∧ qI σ' α' κ ρ ∧ qFr [(86, 15), (86, 23), (86, 30), (86, 35), (86, 36), (86, 37), (86, 38), (86, 39), (86, 41), (86, 43)] [96, 109, 110, 111, 112] σ α σ' α' ∧ ∃ v : Int, r = some (.long (ql v)) ∧ ((-9223372036854775808) ≤ v ∧ v ≤ 9223372036854775807)) (87, ls, [.int (qz u85449), .int (qz u78176)], qw σ19 α20 κ ρ, 0, 0) := by
                  intro ls u85449 g85446 g85447 g85448 hf85450
                  refine qr_ior 88 rfl rfl ?_
                  refine qy_can (fun v85452 hv85452 => ?_)
                  refine qr_istore _ 90 rfl (by decide) rfl rfl ?_
                  refine qr_iinc _ 93 rfl (qm_gk g85448 (by decide) (Or.inl (by decide))) (by decide) rfl rfl ?_
                  refine qr_goto 54 rfl rfl ?_
                  exact ih78182 _ v85452 (u78178 + 1) (by omega) (qm_gk (qm_gk g85446 (by decide) (Or.inl (by decide))) (by decide) (Or.inl (by decide))) (qm_gk (qm_gk g85447 (by decide) (Or.inl (by decide))) (by decide) (Or.inl (by decide))) (qm_gk (qm_ge _ _ _) (by decide) (Or.inr rfl)) (qm_ge _ _ _) (by omega) (by omega)
                refine qr_if_eq 86 79 rfl rfl rfl (by omega) (fun h85453 => ?_) (fun h85453 => ?_)
                · skip
                  refine qr_iconst 87 rfl rfl ?_
                  exact hJ85451 _ 0 g78173 g78174 g78177 (by omega)
                · skip
                  refine qr_iconst 80 rfl rfl ?_
                  refine qr_iload 82 rfl g78177 rfl ?_
                  refine qr_ishl 83 rfl rfl ?_
                  refine qy_can (fun v85454 hv85454 => ?_)
                  refine qr_goto 87 rfl rfl ?_
                  exact hJ85451 _ v85454 g78173 g78174 g78177 (by omega)
          exact hL78181 ((32 - 0 + 1 : Int)).toNat _ 0 0 (by omega) rfl rfl rfl rfl (by omega) (by omega)
        · skip
          refine qr_ldc2 (-1) 41 rfl (by decide) rfl ?_
          refine qr_retL rfl rfl (by decide) (by decide) ?_
          exact ⟨_, _, rfl, hI14, hF16, (-1), rfl, by omega⟩

set_option maxHeartbeats 4000000 in
set_option maxRecDepth 20000 in
/-- OneRoofModel.rooms -/
theorem sf_237_86 {L : Nat} {xs : Nat → Int} {vb : Bool} {d : Nat} {σ α : Nat → Nat → Int} {κ : Nat → Option Nat} {ρ : Nat} {x1 : Int} {x2 : Int} {x3 : Int} (hI : qI σ α κ ρ) (r1 : (-9223372036854775808) ≤ x1 ∧ x1 ≤ 9223372036854775807) (r2 : (-2147483648) ≤ x2 ∧ x2 ≤ 2147483647) (r3 : (-2147483648) ≤ x3 ∧ x3 ≤ 2147483647) : qm_T (qe L xs vb) (d + 49) 237 [.ref 86, .long (ql x1), .int (qz x2), .int (qz x3)] (qw σ α κ ρ) (fun r w' => ∃ σ' α', w' = qw σ' α' κ ρ ∧ qI σ' α' κ ρ ∧ qFr [(86, 15), (86, 23), (86, 30), (86, 35), (86, 36), (86, 37), (86, 38), (86, 39), (86, 41), (86, 43)] [96, 109, 110, 111, 112] σ α σ' α' ∧ ∃ v : Int, r = some (.long (ql v)) ∧ ((-9223372036854775808) ≤ v ∧ v ≤ 9223372036854775807)) := by
  refine qr_start (d := d + 48) qv_e237 (Nat.le_of_ble_eq_true rfl) ?_
  show qr_W (qe L xs vb) (d + 48) qx_e237 _ (0, [(0, .ref 86), (1, .long (ql x1)), (3, .int (qz x2)), (4, .int (qz x3))], [], _, 0, 0)
  have hF0 := qFr_rf [(86, 15), (86, 23), (86, 30), (86, 35), (86, 36), (86, 37), (86, 38), (86, 39), (86, 41), (86, 43)] [96, 109, 110, 111, 112] σ α
  refine qr_iload_n 1 rfl rfl rfl ?_
  refine qr_callN 4 rfl rfl rfl (sf_229 (d := d + 45) hI (by omega)) ?_
  rintro _ _ ⟨rfl, v1, rfl, hv1, hp2⟩
  show qr_W (qe L xs vb) (d + 48) qx_e237 _ (4, _, [.int (qz v1)], qw σ α κ ρ, 0, 0)
  refine qr_if_eq 28 7 rfl rfl rfl (by omega) (fun h3 => ?_) (fun h3 => ?_)
  · skip
    refine qr_ldc2 (-1) 31 rfl (by decide) rfl ?_
    refine qr_retL rfl rfl (by decide) (by decide) ?_
    exact ⟨_, _, rfl, hI, hF0, (-1), rfl, by omega⟩
  · skip
    refine qr_iload 9 rfl rfl rfl ?_
    refine qr_i2l 10 rfl (by omega) rfl ?_
    refine qr_lconst 11 rfl rfl ?_
    refine qy_vl 0 rfl ?_
    refine qr_lconst 12 rfl rfl ?_
    refine qy_vl 1 rfl ?_
    refine qr_callN 15 rfl rfl rfl (sf_175 (d := d + 47) hI (by omega) (by omega) (by omega)) ?_
    rintro _ _ ⟨rfl, v4, rfl, hv4, hp5⟩
    show qr_W (qe L xs vb) (d + 48) qx_e237 _ (15, _, [.int (qz v4)], qw σ α κ ρ, 0, 0)
    refine qr_if_eq 28 18 rfl rfl rfl (by omega) (fun h6 => ?_) (fun h6 => ?_)
    · skip
      refine qr_ldc2 (-1) 31 rfl (by decide) rfl ?_
      refine qr_retL rfl rfl (by decide) (by decide) ?_
      exact ⟨_, _, rfl, hI, hF0, (-1), rfl, by omega⟩
    · skip
      refine qr_aload_n 19 rfl rfl rfl ?_
      refine qr_lload_n 20 rfl rfl rfl ?_
      refine qr_bipush 22 rfl (by decide) rfl ?_
      refine qr_callN 25 rfl rfl rfl (sf_233_86p (d := d + 46) hI (by omega) (by omega)) ?_
      have hs9 : 0 ≤ σ 86 6 ∧ σ 86 6 ≤ 32 := hI.1 86 6
      rintro _ _ ⟨σ10, α11, rfl, hI12, hG13, v7, rfl, hv7, hp8⟩
      have hF14 : qFr [(86, 15), (86, 23), (86, 30), (86, 35), (86, 36), (86, 37), (86, 38), (86, 39), (86, 41), (86, 43)] [96, 109, 110, 111, 112] σ α σ10 α11 := qFr_t hF0 hG13 (by decide) (by decide)
      have hs15 : 0 ≤ σ10 86 43 ∧ σ10 86 43 ≤ 32 := hI12.1 86 43
      show qr_W (qe L xs vb) (d + 48) qx_e237 _ (25, _, [.int (qz v7)], qw σ10 α11 κ ρ, 0, 0)
      refine qr_if_ne 32 28 rfl rfl rfl (by omega) (fun h16 => ?_) (fun h16 => ?_)
      · skip
        refine qr_aload_n 33 rfl rfl rfl ?_
        refine qr_iload_n 34 rfl rfl rfl ?_
        refine qr_callN 37 rfl rfl rfl (sf_234_86 (d := d + 0) hI12 (by omega) (by omega) (by omega)) ?_
        rintro _ _ ⟨σ17, α18, rfl, hI19, hG20, rfl⟩
        have hF21 : qFr [(86, 15), (86, 23), (86, 30), (86, 35), (86, 36), (86, 37), (86, 38), (86, 39), (86, 41), (86, 43)] [96, 109, 110, 111, 112] σ α σ17 α18 := qFr_t hF14 hG20 (by decide) (by decide)
        show qr_W (qe L xs vb) (d + 48) qx_e237 _ (37, _, [], qw σ17 α18 κ ρ, 0, 0)
        refine qr_iconst 38 rfl rfl ?_
        refine qr_aload_n 39 rfl rfl rfl ?_
        refine qr_get 42 rfl rfl rfl (by decide) rfl ?_
        refine qy_v (σ10 86 43) ((hG20.1 86 43 (by decide)).trans rfl) ?_
        refine qr_ishl 43 rfl rfl ?_
        refine qy_can (fun v22 hv22 => ?_)
        refine qr_iconst 44 rfl rfl ?_
        refine qr_isub 45 rfl rfl ?_
        refine qy_can (fun v23 hv23 => ?_)
        refine qr_istore _ 47 rfl (by decide) rfl rfl ?_
        refine qr_iconst 48 rfl rfl ?_
        refine qr_istore _ 50 rfl (by decide) rfl rfl ?_
        refine qr_iconst 51 rfl rfl ?_
        refine qr_istore _ 53 rfl (by decide) rfl rfl ?_
        refine qr_iconst 54 rfl rfl ?_
        refine qr_istore _ 56 rfl (by decide) rfl rfl ?_
        have hL56599 : ∀ (n : Nat) (ls : qm_L) (u56591 u56593 u56595 : Int), 0 - 0 < (n : Int) → qm_get ls 0 = some (.ref 86) → qm_get ls 4 = some (.int (qz x3)) → qm_get ls 5 = some (.int (qz v23)) → qm_get ls 6 = some (.int (qz u56591)) → qm_get ls 7 = some (.int (qz u56593)) → qm_get ls 8 = some (.int (qz u56595)) → ((-2147483648) ≤ u56591 ∧ u56591 ≤ 2147483647) → (0 ≤ u56593 ∧ u56593 ≤ 2147483647) → ((-2147483648) ≤ u56595 ∧ u56595 ≤ 2147483647) → qr_W (qe L xs vb) (d + 48) qx_e237 (fun r w' => ∃ σ' α', w' = qw σ' α' κ ρ ∧ qI σ' α' κ ρ ∧ qFr [(86, 15), (86, 23), (86, 30), (86, 35), (86, 36), (86, 37), (86, 38), (86, 39), (86, 41), (86, 43)] [96, 109, 110, 111, 112] σ α σ' α' ∧ ∃ v : Int, r = some (.long (ql v)) ∧ ((-9223372036854775808) ≤ v ∧ v ≤ 9223372036854775807)) (56, ls, [], qw σ17 α18 κ ρ, 0, 0) := by
          intro n
          induction n with
          | zero => intro ls u56591 u56593 u56595 hm g56587 g56588 g56589 g56590 g56592 g56594 hf56596 hf56597 hf56598; exact False.elim (by omega)
          | succ n ih56600 =>
            intro ls u56591 u56593 u56595 hm g56587 g56588 g56589 g56590 g56592 g56594 hf56596 hf56597 hf56598
            refine qr_iload 58 rfl g56594 rfl ?_
            refine qr_iload 60 rfl g56589 rfl ?_
            refine qr_icmp_gt 187 63 rfl rfl rfl (by omega) (by omega) (fun h57078 => ?_) (fun h57078 => ?_)
            · skip
              refine qr_iload 189 rfl g56588 rfl ?_
              refine qr_if_ne 198 192 rfl rfl rfl (by omega) (fun h57079 => ?_) (fun h57079 => ?_)
              · skip
                refine qr_aload_n 199 rfl g56587 rfl ?_
                refine qr_iload 201 rfl g56590 rfl ?_
                refine qr_callN 204 rfl rfl rfl (sf_236_86 (d := d + 47) hI19 (by omega)) ?_
                rintro _ _ ⟨rfl, v57080, rfl, hv57080⟩
                show qr_W (qe L xs vb) (d + 48) qx_e237 _ (204, _, [.long (ql v57080)], qw σ17 α18 κ ρ, 0, 0)
                refine qr_retL rfl rfl (by decide) (by decide) ?_
                exact ⟨_, _, rfl, hI19, hF21, v57080, rfl, by omega⟩
              · skip
                refine qr_iload 194 rfl g56592 rfl ?_
                refine qr_i2l 195 rfl (by omega) rfl ?_
                refine qr_goto 204 rfl rfl ?_
                refine qr_retL rfl rfl (by decide) (by decide) ?_
                exact ⟨_, _, rfl, hI19, hF21, u56593, rfl, by omega⟩
            · skip
              refine qr_iload 65 rfl g56589 rfl ?_
              refine qr_iload 67 rfl g56594 rfl ?_
              refine qr_iconst 68 rfl rfl ?_
              refine qr_ixor 69 rfl rfl ?_
              refine qy_can (fun v57081 hv57081 => ?_)
              refine qr_iand 70 rfl rfl ?_
              refine qy_can (fun v57082 hv57082 => ?_)
              refine qr_istore _ 72 rfl (by decide) rfl rfl ?_
              refine qr_iload 74 rfl (qm_ge _ _ _) rfl ?_
              refine qr_istore _ 76 rfl (by decide) rfl rfl ?_
              have hL57477 : ∀ (n : Nat) (ls : qm_L) (u57467 u57469 u57473 : Int), u57473 + 1 < (n : Int) → qm_get ls 0 = some (.ref 86) → qm_get ls 4 = some (.int (qz x3)) → qm_get ls 5 = some (.int (qz v23)) → qm_get ls 6 = some (.int (qz u57467)) → qm_get ls 7 = some (.int (qz u57469)) → qm_get ls 8 = some (.int (qz u56595)) → qm_get ls 9 = some (.int (qz v57082)) → qm_get ls 10 = some (.int (qz u57473)) → ((-2147483648) ≤ u57467 ∧ u57467 ≤ 2147483647) → (0 ≤ u57469 ∧ u57469 ≤ 2147483647) → ((-2147483648) ≤ u57473 ∧ u57473 ≤ 2147483647) → qr_W (qe L xs vb) (d + 48) qx_e237 (fun r w' => ∃ σ' α', w' = qw σ' α' κ ρ ∧ qI σ' α' κ ρ ∧ qFr [(86, 15), (86, 23), (86, 30), (86, 35), (86, 36), (86, 37), (86, 38), (86, 39), (86, 41), (86, 43)] [96, 109, 110, 111, 112] σ α σ' α' ∧ ∃ v : Int, r = some (.long (ql v)) ∧ ((-9223372036854775808) ≤ v ∧ v ≤ 9223372036854775807)) (76, ls, [], qw σ17 α18 κ ρ, 0, 0) := by
                intro n
                induction n with
                | zero => intro ls u57467 u57469 u57473 hm g57463 g57464 g57465 g57466 g57468 g57470 g57471 g57472 hf57474 hf57475 hf57476; exact False.elim (by omega)
                | succ n ih57478 =>
                  intro ls u57467 u57469 u57473 hm g57463 g57464 g57465 g57466 g57468 g57470 g57471 g57472 hf57474 hf57475 hf57476
                  refine qr_aload_n 77 rfl g57463 rfl ?_
                  refine qr_get 80 rfl rfl rfl (by decide) rfl ?_
                  refine qr_iload 82 rfl g57470 rfl ?_
                  refine qr_iaload 83 rfl rfl (by omega) (by decide) rfl ?_
                  refine qr_topI (fun v57479 hv57479 => ?_)
                  have hs57480 : (-2147483648) ≤ v57479 ∧ v57479 ≤ 2147483647 := by rw [hv57479]; exact hI19.2.1 112 _ (show _ < 4096 by omega)
                  have hJ57531 : ∀ (ls : qm_L) (u57525 u57527 : Int), qm_get ls 0 = some (.ref 86) → qm_get ls 4 = some (.int (qz x3)) → qm_get ls 5 = some (.int (qz v23)) → qm_get ls 6 = some (.int (qz u57525)) → qm_get ls 7 = some (.int (qz u57527)) → qm_get ls 8 = some (.int (qz u56595)) → ((-2147483648) ≤ u57525 ∧ u57525 ≤ 2147483647) → (0 ≤ u57527 ∧ u57527 ≤ 2147483647) → qr_W (qe L xs vb) (d + 48) qx_e237 (fun r w' => ∃ σ' α', w' = qw σ' α' κ ρ ∧ qI σ' α' κ ρ ∧ qFr [(86, 15), (86, 23), (86, 30), (86, 35), (86, 36), (86, 37), (86, 38), (86, 39), (86, 41), (86, 43)] [96, 109, 110, 111, 112] σ α σ' α' ∧ ∃ v : Int, r = some (.long (ql v)) ∧ ((-9223372036854775808) ≤ v ∧ v ≤ 9223372036854775807)) (181, ls, [], qw σ17 α18 κ ρ, 0, 0) := by
                    intro ls u57525 u57527 g57521 g57522 g57523 g57524 g57526 g57528 hf57529 hf57530
                    refine qy_iincC 184 rfl g57528 (by decide) rfl (fun v57532 hv57532 => ?_)
                    refine qr_goto 56 rfl rfl ?_
                    exact ih56600 _ u57525 u57527 v57532 (by omega) (qm_gk g57521 (by decide) (Or.inl (by decide))) (qm_gk g57522 (by decide) (Or.inl (by decide))) (qm_gk g57523 (by decide) (Or.inl (by decide))) (qm_gk g57524 (by decide) (Or.inl (by decide))) (qm_gk g57526 (by decide) (Or.inr rfl)) (qm_ge _ _ _) (by omega) (by omega) (by omega)
                  refine qr_if_lt 181 86 rfl rfl rfl (by omega) (fun h57533 => ?_) (fun h57533 => ?_)
                  · skip
                    exact hJ57531 _ u57467 u57469 g57463 g57464 g57465 g57466 g57468 g57470 (by omega) (by omega)
                  · skip
                    refine qr_iload 88 rfl g57472 rfl ?_
                    refine qr_if_lt 181 91 rfl rfl rfl (by omega) (fun h57534 => ?_) (fun h57534 => ?_)
                    · skip
                      exact hJ57531 _ u57467 u57469 g57463 g57464 g57465 g57466 g57468 g57470 (by omega) (by omega)
                    · skip
                      refine qr_aload_n 92 rfl g57463 rfl ?_
                      refine qr_get 95 rfl rfl rfl (by decide) rfl ?_
                      refine qr_iload 97 rfl g57472 rfl ?_
                      refine qr_iaload 98 rfl rfl (by omega) (by decide) rfl ?_
                      refine qr_topI (fun v57535 hv57535 => ?_)
                      have hs57536 : (-2147483648) ≤ v57535 ∧ v57535 ≤ 2147483647 := by rw [hv57535]; exact hI19.2.1 112 _ (show _ < 4096 by omega)
                      have hJ57558 : ∀ (ls : qm_L) (u57550 u57552 : Int), qm_get ls 0 = some (.ref 86) → qm_get ls 4 = some (.int (qz x3)) → qm_get ls 5 = some (.int (qz v23)) → qm_get ls 6 = some (.int (qz u57550)) → qm_get ls 7 = some (.int (qz u57552)) → qm_get ls 8 = some (.int (qz u56595)) → qm_get ls 9 = some (.int (qz v57082)) → qm_get ls 10 = some (.int (qz u57473)) → ((-2147483648) ≤ u57550 ∧ u57550 ≤ 2147483647) → (0 ≤ u57552 ∧ u57552 ≤ 2147483647) → qr_W (qe L xs vb) (d + 48) qx_e237 (fun r w' => ∃ σ' α', w' = qw σ' α' κ ρ ∧ qI σ' α' κ ρ ∧ qFr [(86, 15), (86, 23), (86, 30), (86, 35), (86, 36), (86, 37), (86, 38), (86, 39), (86, 41), (86, 43)] [96, 109, 110, 111, 112] σ α σ' α' ∧ ∃ v : Int, r = some (.long (ql v)) ∧ ((-9223372036854775808) ≤ v ∧ v ≤ 9223372036854775807)) (160, ls, [], qw σ17 α18 κ ρ, 0, 0) := by
                        intro ls u57550 u57552 g57546 g57547 g57548 g57549 g57551 g57553 g57554 g57555 hf57556 hf57557
                        refine qr_iload 162 rfl g57555 rfl ?_
                        have hJ57569 : ∀ (ls : qm_L) (u57567 : Int), qm_get ls 0 = some (.ref 86) → qm_get ls 4 = some (.int (qz x3)) → qm_get ls 5 = some (.int (qz v23)) → qm_get ls 6 = some (.int (qz u57550)) → qm_get ls 7 = some (.int (qz u57552)) → qm_get ls 8 = some (.int (qz u56595)) → qm_get ls 9 = some (.int (qz v57082)) → ((-1) ≤ u57567 ∧ u57567 ≤ 2147483646) → qr_W (qe L xs vb) (d + 48) qx_e237 (fun r w' => ∃ σ' α', w' = qw σ' α' κ ρ ∧ qI σ' α' κ ρ ∧ qFr [(86, 15), (86, 23), (86, 30), (86, 35), (86, 36), (86, 37), (86, 38), (86, 39), (86, 41), (86, 43)] [96, 109, 110, 111, 112] σ α σ' α' ∧ ∃ v : Int, r = some (.long (ql v)) ∧ ((-9223372036854775808) ≤ v ∧ v ≤ 9223372036854775807)) (176, ls, [.int (qz u57567)], qw σ17 α18 κ ρ, 0, 0) := by
                          intro ls u57567 g57560 g57561 g57562 g57563 g57564 g57565 g57566 hf57568
                          refine qr_istore _ 178 rfl (by decide) rfl rfl ?_
                          refine qr_goto 76 rfl rfl ?_
                          exact ih57478 _ u57550 u57552 u57567 (by omega) (qm_gk g57560 (by decide) (Or.inl (by decide))) (qm_gk g57561 (by decide) (Or.inl (by decide))) (qm_gk g57562 (by decide) (Or.inl (by decide))) (qm_gk g57563 (by decide) (Or.inl (by decide))) (qm_gk g57564 (by decide) (Or.inl (by decide))) (qm_gk g57565 (by decide) (Or.inl (by decide))) (qm_gk g57566 (by decide) (Or.inr rfl)) (qm_ge _ _ _) (by omega) (by omega) (by omega)
                        refine qr_if_ne 169 165 rfl rfl rfl (by omega) (fun h57570 => ?_) (fun h57570 => ?_)
                        · skip
                          refine qr_iload 171 rfl g57555 rfl ?_
                          refine qr_iconst 172 rfl rfl ?_
                          refine qr_isub 173 rfl rfl ?_
                          refine qr_iload 175 rfl g57554 rfl ?_
                          refine qr_iand 176 rfl rfl ?_
                          refine qy_andl (by omega) (fun v57571 hv57571 => ?_)
                          exact hJ57569 _ v57571 g57546 g57547 g57548 g57549 g57551 g57553 g57554 (by omega)
                        · skip
                          refine qr_iconst 166 rfl rfl ?_
                          refine qr_goto 176 rfl rfl ?_
                          exact hJ57569 _ (-1) g57546 g57547 g57548 g57549 g57551 g57553 g57554 (by omega)
                      refine qr_if_ge 104 101 rfl rfl rfl (by omega) (fun h57572 => ?_) (fun h57572 => ?_)
                      · skip
                        refine qr_aload_n 105 rfl g57463 rfl ?_
                        refine qr_get 108 rfl rfl rfl (by decide) rfl ?_
                        refine qr_iload 110 rfl g57470 rfl ?_
                        refine qr_iaload 111 rfl rfl (by omega) (by decide) rfl ?_
                        refine qr_topI (fun v57573 hv57573 => ?_)
                        have hs57574 : (-2147483648) ≤ v57573 ∧ v57573 ≤ 2147483647 := by rw [hv57573]; exact hI19.2.1 112 _ (show _ < 4096 by omega)
                        refine qr_aload_n 112 rfl g57463 rfl ?_
                        refine qr_get 115 rfl rfl rfl (by decide) rfl ?_
                        refine qr_iload 117 rfl g57472 rfl ?_
                        refine qr_iaload 118 rfl rfl (by omega) (by decide) rfl ?_
                        refine qr_topI (fun v57575 hv57575 => ?_)
                        have hs57576 : (-2147483648) ≤ v57575 ∧ v57575 ≤ 2147483647 := by rw [hv57575]; exact hI19.2.1 112 _ (show _ < 4096 by omega)
                        refine qr_iadd 119 rfl rfl ?_
                        refine qy_can (fun v57577 hv57577 => ?_)
                        refine qr_istore _ 121 rfl (by decide) rfl rfl ?_
                        refine qr_iload 123 rfl (qm_ge _ _ _) rfl ?_
                        refine qr_iload 125 rfl (qm_gk g57468 (by decide) (Or.inl (by decide))) rfl ?_
                        refine qr_icmp_gt 152 128 rfl rfl rfl (by omega) (by omega) (fun h57578 => ?_) (fun h57578 => ?_)
                        · skip
                          refine qr_iload 154 rfl (qm_gk g57470 (by decide) (Or.inl (by decide))) rfl ?_
                          refine qr_istore _ 156 rfl (by decide) rfl rfl ?_
                          refine qr_iload 158 rfl (qm_gk (qm_ge _ _ _) (by decide) (Or.inl (by decide))) rfl ?_
                          refine qr_istore _ 160 rfl (by decide) rfl rfl ?_
                          exact hJ57558 _ u56595 v57577 (qm_gk (qm_gk (qm_gk g57463 (by decide) (Or.inl (by decide))) (by decide) (Or.inl (by decide))) (by decide) (Or.inl (by decide))) (qm_gk (qm_gk (qm_gk g57464 (by decide) (Or.inl (by decide))) (by decide) (Or.inl (by decide))) (by decide) (Or.inl (by decide))) (qm_gk (qm_gk (qm_gk g57465 (by decide) (Or.inl (by decide))) (by decide) (Or.inr rfl)) (by decide) (Or.inl (by decide))) (qm_gk (qm_ge _ _ _) (by decide) (Or.inr rfl)) (qm_ge _ _ _) (qm_gk (qm_gk (qm_gk g57470 (by decide) (Or.inl (by decide))) (by decide) (Or.inl (by decide))) (by decide) (Or.inl (by decide))) (qm_gk (qm_gk (qm_gk g57471 (by decide) (Or.inl (by decide))) (by decide) (Or.inl (by decide))) (by decide) (Or.inl (by decide))) (qm_gk (qm_gk (qm_gk g57472 (by decide) (Or.inr rfl)) (by decide) (Or.inl (by decide))) (by decide) (Or.inl (by decide))) (by omega) (by omega)
                        · skip
                          refine qr_iload 130 rfl (qm_ge _ _ _) rfl ?_
                          refine qr_iload 132 rfl (qm_gk g57468 (by decide) (Or.inl (by decide))) rfl ?_
                          refine qr_icmp_ne 160 135 rfl rfl rfl (by omega) (by omega) (fun h57579 => ?_) (fun h57579 => ?_)
                          · skip
                            exact hJ57558 _ u57467 u57469 (qm_gk g57463 (by decide) (Or.inl (by decide))) (qm_gk g57464 (by decide) (Or.inl (by decide))) (qm_gk g57465 (by decide) (Or.inl (by decide))) (qm_gk g57466 (by decide) (Or.inl (by decide))) (qm_gk g57468 (by decide) (Or.inl (by decide))) (qm_gk g57470 (by decide) (Or.inl (by decide))) (qm_gk g57471 (by decide) (Or.inl (by decide))) (qm_gk g57472 (by decide) (Or.inr rfl)) (by omega) (by omega)
                          · skip
                            refine qr_aload_n 136 rfl (qm_gk g57463 (by decide) (Or.inl (by decide))) rfl ?_
                            refine qr_get 139 rfl rfl rfl (by decide) rfl ?_
                            refine qr_iload 141 rfl (qm_gk g57470 (by decide) (Or.inl (by decide))) rfl ?_
                            refine qr_iaload 142 rfl rfl (by omega) (by decide) rfl ?_
                            refine qr_topI (fun v57580 hv57580 => ?_)
                            have hs57581 : (-2147483648) ≤ v57580 ∧ v57580 ≤ 2147483647 := by rw [hv57580]; exact hI19.2.1 112 _ (show _ < 4096 by omega)
                            refine qr_aload_n 143 rfl (qm_gk g57463 (by decide) (Or.inl (by decide))) rfl ?_
                            refine qr_get 146 rfl rfl rfl (by decide) rfl ?_
                            refine qr_iload 148 rfl (qm_gk g57466 (by decide) (Or.inl (by decide))) rfl ?_
                            refine qr_iaload 149 rfl rfl (by omega) (by decide) rfl ?_
                            refine qr_topI (fun v57582 hv57582 => ?_)
                            have hs57583 : (-2147483648) ≤ v57582 ∧ v57582 ≤ 2147483647 := by rw [hv57582]; exact hI19.2.1 112 _ (show _ < 4096 by omega)
                            refine qr_icmp_le 160 152 rfl rfl rfl (by omega) (by omega) (fun h57584 => ?_) (fun h57584 => ?_)
                            · skip
                              exact hJ57558 _ u57467 u57469 (qm_gk g57463 (by decide) (Or.inl (by decide))) (qm_gk g57464 (by decide) (Or.inl (by decide))) (qm_gk g57465 (by decide) (Or.inl (by decide))) (qm_gk g57466 (by decide) (Or.inl (by decide))) (qm_gk g57468 (by decide) (Or.inl (by decide))) (qm_gk g57470 (by decide) (Or.inl (by decide))) (qm_gk g57471 (by decide) (Or.inl (by decide))) (qm_gk g57472 (by decide) (Or.inr rfl)) (by omega) (by omega)
                            · skip
                              refine qr_iload 154 rfl (qm_gk g57470 (by decide) (Or.inl (by decide))) rfl ?_
                              refine qr_istore _ 156 rfl (by decide) rfl rfl ?_
                              refine qr_iload 158 rfl (qm_gk (qm_ge _ _ _) (by decide) (Or.inl (by decide))) rfl ?_
                              refine qr_istore _ 160 rfl (by decide) rfl rfl ?_
                              exact hJ57558 _ u56595 v57577 (qm_gk (qm_gk (qm_gk g57463 (by decide) (Or.inl (by decide))) (by decide) (Or.inl (by decide))) (by decide) (Or.inl (by decide))) (qm_gk (qm_gk (qm_gk g57464 (by decide) (Or.inl (by decide))) (by decide) (Or.inl (by decide))) (by decide) (Or.inl (by decide))) (qm_gk (qm_gk (qm_gk g57465 (by decide) (Or.inl (by decide))) (by decide) (Or.inr rfl)) (by decide) (Or.inl (by decide))) (qm_gk (qm_ge _ _ _) (by decide) (Or.inr rfl)) (qm_ge _ _ _) (qm_gk (qm_gk (qm_gk g57470 (by decide) (Or.inl (by decide))) (by decide) (Or.inl (by decide))) (by decide) (Or.inl (by decide))) (qm_gk (qm_gk (qm_gk g57471 (by decide) (Or.inl (by decide))) (by decide) (Or.inl (by decide))) (by decide) (Or.inl (by decide))) (qm_gk (qm_gk (qm_gk g57472 (by decide) (Or.inr rfl)) (by decide) (Or.inl (by decide))) (by decide) (Or.inl (by decide))) (by omega) (by omega)
                      · skip
                        refine qr_goto 160 rfl rfl ?_
                        exact hJ57558 _ u57467 u57469 g57463 g57464 g57465 g57466 g57468 g57470 g57471 g57472 (by omega) (by omega)
              exact hL57477 ((v57082 + 1 + 1 : Int)).toNat _ u56591 u56593 v57082 (by omega) (qm_gk (qm_gk g56587 (by decide) (Or.inl (by decide))) (by decide) (Or.inl (by decide))) (qm_gk (qm_gk g56588 (by decide) (Or.inl (by decide))) (by decide) (Or.inl (by decide))) (qm_gk (qm_gk g56589 (by decide) (Or.inl (by decide))) (by decide) (Or.inl (by decide))) (qm_gk (qm_gk g56590 (by decide) (Or.inl (by decide))) (by decide) (Or.inl (by decide))) (qm_gk (qm_gk g56592 (by decide) (Or.inl (by decide))) (by decide) (Or.inl (by decide))) (qm_gk (qm_gk g56594 (by decide) (Or.inr rfl)) (by decide) (Or.inl (by decide))) (qm_gk (qm_ge _ _ _) (by decide) (Or.inr rfl)) (qm_ge _ _ _) (by omega) (by omega) (by omega)
        exact hL56599 ((0 - 0 + 1 : Int)).toNat _ 0 0 0 (by omega) rfl rfl rfl rfl rfl rfl (by omega) (by omega) (by omega)
      · skip
        refine qr_ldc2 (-1) 31 rfl (by decide) rfl ?_
        refine qr_retL rfl rfl (by decide) (by decide) ?_
        exact ⟨_, _, rfl, hI12, hF14, (-1), rfl, by omega⟩

set_option maxHeartbeats 4000000 in
set_option maxRecDepth 20000 in
/-- OneRoofModel.barAny -/
theorem sf_239_86 {L : Nat} {xs : Nat → Int} {vb : Bool} {d : Nat} {σ α : Nat → Nat → Int} {κ : Nat → Option Nat} {ρ : Nat} {x1 : Int} (hI : qI σ α κ ρ) (r1 : 0 ≤ x1 ∧ x1 ≤ 23999999) (p0 : 1 ≤ σ 86 6) (p1 : σ 86 43 ≤ 12) : qm_T (qe L xs vb) (d + 48) 239 [.ref 86, .int (qz x1)] (qw σ α κ ρ) (fun r w' => ∃ σ' α', w' = qw σ' α' κ ρ ∧ qI σ' α' κ ρ ∧ qFr [(86, 15), (86, 23), (86, 30), (86, 35), (86, 36), (86, 37), (86, 38), (86, 39), (86, 41)] [96, 109] σ α σ' α' ∧ ∃ v : Int, r = some (.int (qz v)) ∧ (0 ≤ v ∧ v ≤ 1)) := by
  refine qr_start (d := d + 47) qv_e239 (Nat.le_of_ble_eq_true rfl) ?_
  show qr_W (qe L xs vb) (d + 47) qx_e239 _ (0, [(0, .ref 86), (1, .int (qz x1))], [], _, 0, 0)
  have hF0 := qFr_rf [(86, 15), (86, 23), (86, 30), (86, 35), (86, 36), (86, 37), (86, 38), (86, 39), (86, 41)] [96, 109] σ α
  have hz86_6 : 0 ≤ σ 86 6 ∧ σ 86 6 ≤ 32 := hI.1 86 6
  have hz86_43 : 0 ≤ σ 86 43 ∧ σ 86 43 ≤ 32 := hI.1 86 43
  refine qr_iconst 1 rfl rfl ?_
  refine qr_istore_n _ 2 rfl (by decide) rfl rfl ?_
  have hL1628 : ∀ (n : Nat) (ls : qm_L) (u1620 : Int) (σ1621 α1622 : Nat → Nat → Int), 12 - u1620 < (n : Int) → qm_get ls 0 = some (.ref 86) → qm_get ls 1 = some (.int (qz x1)) → qm_get ls 2 = some (.int (qz u1620)) → (0 ≤ u1620 ∧ u1620 ≤ 12) → qI σ1621 α1622 κ ρ → qFr [(86, 15), (86, 23), (86, 30), (86, 35), (86, 36), (86, 37), (86, 38), (86, 39), (86, 41)] [96, 109] σ α σ1621 α1622 → σ1621 86 6 = (σ 86 6) → σ1621 86 43 = (σ 86 43) → qr_W (qe L xs vb) (d + 47) qx_e239 (fun r w' => ∃ σ' α', w' = qw σ' α' κ ρ ∧ qI σ' α' κ ρ ∧ qFr [(86, 15), (86, 23), (86, 30), (86, 35), (86, 36), (86, 37), (86, 38), (86, 39), (86, 41)] [96, 109] σ α σ' α' ∧ ∃ v : Int, r = some (.int (qz v)) ∧ (0 ≤ v ∧ v ≤ 1)) (2, ls, [], qw σ1621 α1622 κ ρ, 0, 0) := by
    intro n
    induction n with
    | zero => intro ls u1620 σ1621 α1622 hm g1617 g1618 g1619 hf1627 hI1623 hF1624 hk1625 hk1626; exact False.elim (by omega)
    | succ n ih1629 =>
      intro ls u1620 σ1621 α1622 hm g1617 g1618 g1619 hf1627 hI1623 hF1624 hk1625 hk1626
      refine qr_iload_n 3 rfl g1619 rfl ?_
      refine qr_aload_n 4 rfl g1617 rfl ?_
      refine qr_get 7 rfl rfl rfl (by decide) rfl ?_
      refine qy_v (σ 86 43) ((hk1626).trans rfl) ?_
      refine qr_icmp_ge 51 10 rfl rfl rfl (by omega) (by omega) (fun h1630 => ?_) (fun h1630 => ?_)
      · skip
        refine qr_iconst 52 rfl rfl ?_
        refine qr_retZ rfl rfl (by omega) (by decide) (by decide) ?_
        exact ⟨_, _, rfl, hI1623, hF1624, 0, rfl, by omega⟩
      · skip
        refine qr_iconst 11 rfl rfl ?_
        refine qr_istore_n _ 12 rfl (by decide) rfl rfl ?_
        have hL1803 : ∀ (n : Nat) (ls : qm_L) (u1795 : Int) (σ1796 α1797 : Nat → Nat → Int), 11 - u1795 < (n : Int) → qm_get ls 0 = some (.ref 86) → qm_get ls 1 = some (.int (qz x1)) → qm_get ls 2 = some (.int (qz u1620)) → qm_get ls 3 = some (.int (qz u1795)) → (0 ≤ u1795 ∧ u1795 ≤ 11) → qI σ1796 α1797 κ ρ → qFr [(86, 15), (86, 23), (86, 30), (86, 35), (86, 36), (86, 37), (86, 38), (86, 39), (86, 41)] [96, 109] σ α σ1796 α1797 → σ1796 86 6 = (σ 86 6) → σ1796 86 43 = (σ 86 43) → qr_W (qe L xs vb) (d + 47) qx_e239 (fun r w' => ∃ σ' α', w' = qw σ' α' κ ρ ∧ qI σ' α' κ ρ ∧ qFr [(86, 15), (86, 23), (86, 30), (86, 35), (86, 36), (86, 37), (86, 38), (86, 39), (86, 41)] [96, 109] σ α σ' α' ∧ ∃ v : Int, r = some (.int (qz v)) ∧ (0 ≤ v ∧ v ≤ 1)) (12, ls, [], qw σ1796 α1797 κ ρ, 0, 0) := by
          intro n
          induction n with
          | zero => intro ls u1795 σ1796 α1797 hm g1791 g1792 g1793 g1794 hf1802 hI1798 hF1799 hk1800 hk1801; exact False.elim (by omega)
          | succ n ih1804 =>
            intro ls u1795 σ1796 α1797 hm g1791 g1792 g1793 g1794 hf1802 hI1798 hF1799 hk1800 hk1801
            refine qr_iload_n 13 rfl g1794 rfl ?_
            refine qr_iload_n 14 rfl g1793 rfl ?_
            refine qr_icmp_ge 45 17 rfl rfl rfl (by omega) (by omega) (fun h1805 => ?_) (fun h1805 => ?_)
            · skip
              refine qr_iinc _ 48 rfl g1793 (by decide) rfl rfl ?_
              refine qr_goto 2 rfl rfl ?_
              exact ih1629 _ (u1620 + 1) σ1796 α1797 (by omega) (qm_gk g1791 (by decide) (Or.inl (by decide))) (qm_gk g1792 (by decide) (Or.inr rfl)) (qm_ge _ _ _) (by omega) hI1798 hF1799 ((hk1800).trans rfl) ((hk1801).trans rfl)
            · skip
              refine qr_aload_n 18 rfl g1791 rfl ?_
              refine qr_aload_n 19 rfl g1791 rfl ?_
              refine qr_get 22 rfl rfl rfl (by decide) rfl ?_
              refine qr_iload_n 23 rfl g1794 rfl ?_
              refine qr_iaload 24 rfl rfl (by omega) (by decide) rfl ?_
              refine qr_topI (fun v1806 hv1806 => ?_)
              have hs1807 : 0 ≤ v1806 ∧ v1806 ≤ 31 := by rw [hv1806]; exact hI1798.2.1 110 _ (show _ < 32 by omega)
              refine qr_aload_n 25 rfl g1791 rfl ?_
              refine qr_get 28 rfl rfl rfl (by decide) rfl ?_
              refine qr_iload_n 29 rfl g1793 rfl ?_
              refine qr_iaload 30 rfl rfl (by omega) (by decide) rfl ?_
              refine qr_topI (fun v1808 hv1808 => ?_)
              have hs1809 : 0 ≤ v1808 ∧ v1808 ≤ 31 := by rw [hv1808]; exact hI1798.2.1 110 _ (show _ < 32 by omega)
              refine qr_iload_n 31 rfl g1792 rfl ?_
              refine qr_callN 34 rfl rfl rfl (sf_231_86 (d := d + 0) hI1798 (by omega) (by omega) (by omega) (by omega)) ?_
              rintro _ _ ⟨σ1811, α1812, rfl, hI1813, hG1814, v1810, rfl, hv1810⟩
              have hF1815 : qFr [(86, 15), (86, 23), (86, 30), (86, 35), (86, 36), (86, 37), (86, 38), (86, 39), (86, 41)] [96, 109] σ α σ1811 α1812 := qFr_t hF1799 hG1814 (by decide) (by decide)
              show qr_W (qe L xs vb) (d + 47) qx_e239 _ (34, _, [.int (qz v1810)], qw σ1811 α1812 κ ρ, 0, 0)
              refine qr_if_eq 39 37 rfl rfl rfl (by omega) (fun h1816 => ?_) (fun h1816 => ?_)
              · skip
                refine qr_iinc _ 42 rfl g1794 (by decide) rfl rfl ?_
                refine qr_goto 12 rfl rfl ?_
                exact ih1804 _ (u1795 + 1) σ1811 α1812 (by omega) (qm_gk g1791 (by decide) (Or.inl (by decide))) (qm_gk g1792 (by decide) (Or.inl (by decide))) (qm_gk g1793 (by decide) (Or.inr rfl)) (qm_ge _ _ _) (by omega) hI1813 hF1815 ((hG1814.1 86 6 (by decide)).trans ((hk1800).trans rfl)) ((hG1814.1 86 43 (by decide)).trans ((hk1801).trans rfl))
              · skip
                refine qr_iconst 38 rfl rfl ?_
                refine qr_retZ rfl rfl (by omega) (by decide) (by decide) ?_
                exact ⟨_, _, rfl, hI1813, hF1815, 1, rfl, by omega⟩
        exact hL1803 ((11 - 0 + 1 : Int)).toNat _ 0 σ1621 α1622 (by omega) (qm_gk g1617 (by decide) (Or.inl (by decide))) (qm_gk g1618 (by decide) (Or.inl (by decide))) (qm_gk g1619 (by decide) (Or.inr rfl)) (qm_ge _ _ _) (by omega) hI1623 hF1624 ((hk1625).trans rfl) ((hk1626).trans rfl)
  exact hL1628 ((12 - 0 + 1 : Int)).toNat _ 0 σ α (by omega) rfl rfl rfl (by omega) hI hF0 (rfl) (rfl)

set_option maxHeartbeats 4000000 in
set_option maxRecDepth 20000 in
/-- OneRoofModel.buy -/
theorem sf_238_86 {L : Nat} {xs : Nat → Int} {vb : Bool} {d : Nat} {σ α : Nat → Nat → Int} {κ : Nat → Option Nat} {ρ : Nat} {x1 : Int} {x2 : Int} {x3 : Int} (hI : qI σ α κ ρ) (r1 : (-9223372036854775808) ≤ x1 ∧ x1 ≤ 9223372036854775807) (r2 : (-2147483648) ≤ x2 ∧ x2 ≤ 2147483647) (r3 : (-2147483648) ≤ x3 ∧ x3 ≤ 2147483647) : qm_T (qe L xs vb) (d + 49) 238 [.ref 86, .long (ql x1), .int (qz x2), .int (qz x3)] (qw σ α κ ρ) (fun r w' => ∃ σ' α', w' = qw σ' α' κ ρ ∧ qI σ' α' κ ρ ∧ qFr [(86, 15), (86, 22), (86, 23), (86, 30), (86, 35), (86, 36), (86, 37), (86, 38), (86, 39), (86, 41), (86, 43)] [96, 109, 110, 113] σ α σ' α' ∧ ∃ v : Int, r = some (.long (ql v)) ∧ ((-9223372036854775808) ≤ v ∧ v ≤ 9223372036854775807)) := by
  refine qr_start (d := d + 48) qv_e238 (Nat.le_of_ble_eq_true rfl) ?_
  show qr_W (qe L xs vb) (d + 48) qx_e238 _ (0, [(0, .ref 86), (1, .long (ql x1)), (3, .int (qz x2)), (4, .int (qz x3))], [], _, 0, 0)
  have hF0 := qFr_rf [(86, 15), (86, 22), (86, 23), (86, 30), (86, 35), (86, 36), (86, 37), (86, 38), (86, 39), (86, 41), (86, 43)] [96, 109, 110, 113] σ α
  refine qr_iload_n 1 rfl rfl rfl ?_
  refine qr_callN 4 rfl rfl rfl (sf_229 (d := d + 45) hI (by omega)) ?_
  rintro _ _ ⟨rfl, v1, rfl, hv1, hp2⟩
  show qr_W (qe L xs vb) (d + 48) qx_e238 _ (4, _, [.int (qz v1)], qw σ α κ ρ, 0, 0)
  refine qr_if_eq 28 7 rfl rfl rfl (by omega) (fun h3 => ?_) (fun h3 => ?_)
  · skip
    refine qr_ldc2 (-1) 31 rfl (by decide) rfl ?_
    refine qr_retL rfl rfl (by decide) (by decide) ?_
    exact ⟨_, _, rfl, hI, hF0, (-1), rfl, by omega⟩
  · skip
    refine qr_iload 9 rfl rfl rfl ?_
    refine qr_i2l 10 rfl (by omega) rfl ?_
    refine qr_lconst 11 rfl rfl ?_
    refine qy_vl 0 rfl ?_
    refine qr_lconst 12 rfl rfl ?_
    refine qy_vl 1 rfl ?_
    refine qr_callN 15 rfl rfl rfl (sf_175 (d := d + 47) hI (by omega) (by omega) (by omega)) ?_
    rintro _ _ ⟨rfl, v4, rfl, hv4, hp5⟩
    show qr_W (qe L xs vb) (d + 48) qx_e238 _ (15, _, [.int (qz v4)], qw σ α κ ρ, 0, 0)
    refine qr_if_eq 28 18 rfl rfl rfl (by omega) (fun h6 => ?_) (fun h6 => ?_)
    · skip
      refine qr_ldc2 (-1) 31 rfl (by decide) rfl ?_
      refine qr_retL rfl rfl (by decide) (by decide) ?_
      exact ⟨_, _, rfl, hI, hF0, (-1), rfl, by omega⟩
    · skip
      refine qr_aload_n 19 rfl rfl rfl ?_
      refine qr_lload_n 20 rfl rfl rfl ?_
      refine qr_bipush 22 rfl (by decide) rfl ?_
      refine qr_callN 25 rfl rfl rfl (sf_233_86p (d := d + 46) hI (by omega) (by omega)) ?_
      have hs9 : 0 ≤ σ 86 6 ∧ σ 86 6 ≤ 32 := hI.1 86 6
      rintro _ _ ⟨σ10, α11, rfl, hI12, hG13, v7, rfl, hv7, hp8⟩
      have hF14 : qFr [(86, 15), (86, 22), (86, 23), (86, 30), (86, 35), (86, 36), (86, 37), (86, 38), (86, 39), (86, 41), (86, 43)] [96, 109, 110, 113] σ α σ10 α11 := qFr_t hF0 hG13 (by decide) (by decide)
      have hs15 : 0 ≤ σ10 86 43 ∧ σ10 86 43 ≤ 32 := hI12.1 86 43
      show qr_W (qe L xs vb) (d + 48) qx_e238 _ (25, _, [.int (qz v7)], qw σ10 α11 κ ρ, 0, 0)
      refine qr_if_ne 32 28 rfl rfl rfl (by omega) (fun h16 => ?_) (fun h16 => ?_)
      · skip
        refine qr_iconst 33 rfl rfl ?_
        refine qr_istore _ 35 rfl (by decide) rfl rfl ?_
        refine qr_iconst 36 rfl rfl ?_
        refine qr_istore _ 38 rfl (by decide) rfl rfl ?_
        have hL2007179 : ∀ (n : Nat) (ls : qm_L) (u2007170 u2007172 : Int) (α2007174 : Nat → Nat → Int), 40 - u2007172 < (n : Int) → qm_get ls 0 = some (.ref 86) → qm_get ls 3 = some (.int (qz x2)) → qm_get ls 4 = some (.int (qz x3)) → qm_get ls 5 = some (.int (qz u2007170)) → qm_get ls 6 = some (.int (qz u2007172)) → (0 ≤ u2007170 ∧ u2007170 ≤ 10) → (0 ≤ u2007172 ∧ u2007172 ≤ 40) → qI σ10 α2007174 κ ρ → qFr [(86, 15), (86, 22), (86, 23), (86, 30), (86, 35), (86, 36), (86, 37), (86, 38), (86, 39), (86, 41), (86, 43)] [96, 109, 110, 113] σ α σ10 α2007174 → qr_W (qe L xs vb) (d + 48) qx_e238 (fun r w' => ∃ σ' α', w' = qw σ' α' κ ρ ∧ qI σ' α' κ ρ ∧ qFr [(86, 15), (86, 22), (86, 23), (86, 30), (86, 35), (86, 36), (86, 37), (86, 38), (86, 39), (86, 41), (86, 43)] [96, 109, 110, 113] σ α σ' α' ∧ ∃ v : Int, r = some (.long (ql v)) ∧ ((-9223372036854775808) ≤ v ∧ v ≤ 9223372036854775807)) (38, ls, [], qw σ10 α2007174 κ ρ, 0, 0) := by
          intro n
          induction n with
          | zero => intro ls u2007170 u2007172 α2007174 hm g2007166 g2007167 g2007168 g2007169 g2007171 hf2007177 hf2007178 hI2007175 hF2007176; exact False.elim (by omega)
          | succ n ih2007180 =>
            intro ls u2007170 u2007172 α2007174 hm g2007166 g2007167 g2007168 g2007169 g2007171 hf2007177 hf2007178 hI2007175 hF2007176
            refine qr_iload 40 rfl g2007171 rfl ?_
            refine qr_aload_n 41 rfl g2007166 rfl ?_
            refine qr_get 44 rfl rfl rfl (by decide) rfl ?_
            have hs2007181 : 0 ≤ σ10 86 16 ∧ σ10 86 16 ≤ 40 := hI2007175.1 86 16
            have hJ2007224 : ∀ (ls : qm_L) (u2007218 : Int) (α2007220 : Nat → Nat → Int), qm_get ls 0 = some (.ref 86) → qm_get ls 3 = some (.int (qz x2)) → qm_get ls 4 = some (.int (qz x3)) → qm_get ls 5 = some (.int (qz u2007218)) → (0 ≤ u2007218 ∧ u2007218 ≤ 10) → qI σ10 α2007220 κ ρ → qFr [(86, 15), (86, 22), (86, 23), (86, 30), (86, 35), (86, 36), (86, 37), (86, 38), (86, 39), (86, 41), (86, 43)] [96, 109, 110, 113] σ α σ10 α2007220 → qr_W (qe L xs vb) (d + 48) qx_e238 (fun r w' => ∃ σ' α', w' = qw σ' α' κ ρ ∧ qI σ' α' κ ρ ∧ qFr [(86, 15), (86, 22), (86, 23), (86, 30), (86, 35), (86, 36), (86, 37), (86, 38), (86, 39), (86, 41), (86, 43)] [96, 109, 110, 113] σ α σ' α' ∧ ∃ v : Int, r = some (.long (ql v)) ∧ ((-9223372036854775808) ≤ v ∧ v ≤ 9223372036854775807)) (106, ls, [], qw σ10 α2007220 κ ρ, 0, 0) := by
              intro ls u2007218 α2007220 g2007214 g2007215 g2007216 g2007217 hf2007223 hI2007221 hF2007222
              refine qr_iconst 107 rfl rfl ?_
              refine qr_istore _ 109 rfl (by decide) rfl rfl ?_
              refine qr_iconst 110 rfl rfl ?_
              refine qr_istore _ 112 rfl (by decide) rfl rfl ?_
              refine qr_lconst 113 rfl rfl ?_
              refine qy_vl 0 rfl ?_
              refine qr_lstore _ 115 rfl (by decide) rfl rfl ?_
              refine qr_iconst 116 rfl rfl ?_
              refine qr_istore _ 118 rfl (by decide) rfl rfl ?_
              have hL2133402 : ∀ (n : Nat) (ls : qm_L) (u2133385 u2133387 u2133389 u2133391 : Int) (σ2133392 α2133393 : Nat → Nat → Int), 1024 - u2133391 < (n : Int) → qm_get ls 0 = some (.ref 86) → qm_get ls 3 = some (.int (qz x2)) → qm_get ls 4 = some (.int (qz x3)) → qm_get ls 5 = some (.int (qz u2007218)) → qm_get ls 6 = some (.int (qz u2133385)) → qm_get ls 7 = some (.int (qz u2133387)) → qm_get ls 8 = some (.long (ql u2133389)) → qm_get ls 10 = some (.int (qz u2133391)) → ((-1) ≤ u2133385 ∧ u2133385 ≤ 1023) → ((-2147483648) ≤ u2133387 ∧ u2133387 ≤ 2147483647) → ((-9223372036854775808) ≤ u2133389 ∧ u2133389 ≤ 9223372036854775807) → (0 ≤ u2133391 ∧ u2133391 ≤ 1024) → qI σ2133392 α2133393 κ ρ → qFr [(86, 15), (86, 22), (86, 23), (86, 30), (86, 35), (86, 36), (86, 37), (86, 38), (86, 39), (86, 41), (86, 43)] [96, 109, 110, 113] σ α σ2133392 α2133393 → σ2133392 86 16 = (σ10 86 16) → σ2133392 86 43 = (σ10 86 43) → qr_W (qe L xs vb) (d + 48) qx_e238 (fun r w' => ∃ σ' α', w' = qw σ' α' κ ρ ∧ qI σ' α' κ ρ ∧ qFr [(86, 15), (86, 22), (86, 23), (86, 30), (86, 35), (86, 36), (86, 37), (86, 38), (86, 39), (86, 41), (86, 43)] [96, 109, 110, 113] σ α σ' α' ∧ ∃ v : Int, r = some (.long (ql v)) ∧ ((-9223372036854775808) ≤ v ∧ v ≤ 9223372036854775807)) (118, ls, [], qw σ2133392 α2133393 κ ρ, 0, 0) := by
                intro n
                induction n with
                | zero => intro ls u2133385 u2133387 u2133389 u2133391 σ2133392 α2133393 hm g2133380 g2133381 g2133382 g2133383 g2133384 g2133386 g2133388 g2133390 hf2133398 hf2133399 hf2133400 hf2133401 hI2133394 hF2133395 hk2133396 hk2133397; exact False.elim (by omega)
                | succ n ih2133403 =>
                  intro ls u2133385 u2133387 u2133389 u2133391 σ2133392 α2133393 hm g2133380 g2133381 g2133382 g2133383 g2133384 g2133386 g2133388 g2133390 hf2133398 hf2133399 hf2133400 hf2133401 hI2133394 hF2133395 hk2133396 hk2133397
                  refine qr_iload 120 rfl g2133390 rfl ?_
                  refine qr_iconst 121 rfl rfl ?_
                  refine qr_iload 123 rfl g2133383 rfl ?_
                  refine qr_ishl 124 rfl rfl ?_
                  refine qy_shl1 (N := 10) (by omega) (fun v2133404 hv2133404 => ?_)
                  refine qr_icmp_ge 269 127 rfl rfl rfl (by omega) (by omega) (fun h2135000 => ?_) (fun h2135000 => ?_)
                  · skip
                    refine qr_aload_n 270 rfl g2133380 rfl ?_
                    refine qr_lconst 271 rfl rfl ?_
                    refine qy_vl 0 rfl ?_
                    refine qr_put 274 rfl (by decide) rfl (Nat.le_of_ble_eq_true rfl) (Nat.le_of_ble_eq_true rfl) (Or.inl rfl) (qr_fitL rfl _) rfl ?_
                    refine qy_wS (qw_s σ2133392 86 22 0) rfl (fun σ2135001 e2135002 => ?_)
                    have hI2135003 : qI σ2135001 α2133393 κ ρ := by rw [e2135002]; exact qI_s hI2133394 86 22 rfl (show (-9223372036854775808) ≤ 0 ∧ 0 ≤ 9223372036854775807 by omega)
                    have hF2135004 : qFr [(86, 15), (86, 22), (86, 23), (86, 30), (86, 35), (86, 36), (86, 37), (86, 38), (86, 39), (86, 41), (86, 43)] [96, 109, 110, 113] σ α σ2135001 α2133393 := by rw [e2135002]; exact qFr_s hF2133395 86 22 _ (by decide)
                    refine qr_iload 276 rfl g2133384 rfl ?_
                    refine qr_if_ge 285 279 rfl rfl rfl (by omega) (fun h2135005 => ?_) (fun h2135005 => ?_)
                    · skip
                      refine qr_iload 287 rfl g2133382 rfl ?_
                      refine qr_if_ne 296 290 rfl rfl rfl (by omega) (fun h2135006 => ?_) (fun h2135006 => ?_)
                      · skip
                        refine qr_lload 298 rfl g2133388 rfl ?_
                        refine qr_retL rfl rfl (by decide) (by decide) ?_
                        exact ⟨_, _, rfl, hI2135003, hF2135004, u2133389, rfl, by omega⟩
                      · skip
                        refine qr_iload 292 rfl g2133386 rfl ?_
                        refine qr_i2l 293 rfl (by omega) rfl ?_
                        refine qr_goto 298 rfl rfl ?_
                        refine qr_retL rfl rfl (by decide) (by decide) ?_
                        exact ⟨_, _, rfl, hI2135003, hF2135004, u2133387, rfl, by omega⟩
                    · skip
                      refine qr_ldc2 (-2) 282 rfl (by decide) rfl ?_
                      refine qr_goto 298 rfl rfl ?_
                      refine qr_retL rfl rfl (by decide) (by decide) ?_
                      exact ⟨_, _, rfl, hI2135003, hF2135004, (-2), rfl, by omega⟩
                  · skip
                    refine qr_iconst 128 rfl rfl ?_
                    refine qr_istore _ 130 rfl (by decide) rfl rfl ?_
                    refine qr_aload_n 131 rfl (qm_gk g2133380 (by decide) (Or.inl (by decide))) rfl ?_
                    refine qr_lconst 132 rfl rfl ?_
                    refine qy_vl 0 rfl ?_
                    refine qr_put 135 rfl (by decide) rfl (Nat.le_of_ble_eq_true rfl) (Nat.le_of_ble_eq_true rfl) (Or.inl rfl) (qr_fitL rfl _) rfl ?_
                    refine qy_wS (qw_s σ2133392 86 22 0) rfl (fun σ2135007 e2135008 => ?_)
                    have hI2135009 : qI σ2135007 α2133393 κ ρ := by rw [e2135008]; exact qI_s hI2133394 86 22 rfl (show (-9223372036854775808) ≤ 0 ∧ 0 ≤ 9223372036854775807 by omega)
                    have hF2135010 : qFr [(86, 15), (86, 22), (86, 23), (86, 30), (86, 35), (86, 36), (86, 37), (86, 38), (86, 39), (86, 41), (86, 43)] [96, 109, 110, 113] σ α σ2135007 α2133393 := by rw [e2135008]; exact qFr_s hF2133395 86 22 _ (by decide)
                    refine qr_iconst 136 rfl rfl ?_
                    refine qr_istore _ 138 rfl (by decide) rfl rfl ?_
                    have hL2136477 : ∀ (n : Nat) (ls : qm_L) (u2136466 u2136468 : Int) (σ2136469 : Nat → Nat → Int), 10 - u2136468 < (n : Int) → qm_get ls 0 = some (.ref 86) → qm_get ls 3 = some (.int (qz x2)) → qm_get ls 4 = some (.int (qz x3)) → qm_get ls 5 = some (.int (qz u2007218)) → qm_get ls 6 = some (.int (qz u2133385)) → qm_get ls 7 = some (.int (qz u2133387)) → qm_get ls 8 = some (.long (ql u2133389)) → qm_get ls 10 = some (.int (qz u2133391)) → qm_get ls 11 = some (.int (qz u2136466)) → qm_get ls 12 = some (.int (qz u2136468)) → ((-2147483648) ≤ u2136466 ∧ u2136466 ≤ 2147483647) → (0 ≤ u2136468 ∧ u2136468 ≤ 10) → qI σ2136469 α2133393 κ ρ → qFr [(86, 15), (86, 22), (86, 23), (86, 30), (86, 35), (86, 36), (86, 37), (86, 38), (86, 39), (86, 41), (86, 43)] [96, 109, 110, 113] σ α σ2136469 α2133393 → σ2136469 86 16 = (σ10 86 16) → σ2136469 86 43 = (σ10 86 43) → qr_W (qe L xs vb) (d + 48) qx_e238 (fun r w' => ∃ σ' α', w' = qw σ' α' κ ρ ∧ qI σ' α' κ ρ ∧ qFr [(86, 15), (86, 22), (86, 23), (86, 30), (86, 35), (86, 36), (86, 37), (86, 38), (86, 39), (86, 41), (86, 43)] [96, 109, 110, 113] σ α σ' α' ∧ ∃ v : Int, r = some (.long (ql v)) ∧ ((-9223372036854775808) ≤ v ∧ v ≤ 9223372036854775807)) (138, ls, [], qw σ2136469 α2133393 κ ρ, 0, 0) := by
                      intro n
                      induction n with
                      | zero => intro ls u2136466 u2136468 σ2136469 hm g2136457 g2136458 g2136459 g2136460 g2136461 g2136462 g2136463 g2136464 g2136465 g2136467 hf2136475 hf2136476 hI2136471 hF2136472 hk2136473 hk2136474; exact False.elim (by omega)
                      | succ n ih2136478 =>
                        intro ls u2136466 u2136468 σ2136469 hm g2136457 g2136458 g2136459 g2136460 g2136461 g2136462 g2136463 g2136464 g2136465 g2136467 hf2136475 hf2136476 hI2136471 hF2136472 hk2136473 hk2136474
                        refine qr_iload 140 rfl g2136467 rfl ?_
                        refine qr_iload 142 rfl g2136460 rfl ?_
                        refine qr_icmp_ge 197 145 rfl rfl rfl (by omega) (by omega) (fun h2136526 => ?_) (fun h2136526 => ?_)
                        · skip
                          refine qr_iload 199 rfl g2136461 rfl ?_
                          have hJ2136540 : ∀ (ls : qm_L) (u2136538 : Int), qm_get ls 0 = some (.ref 86) → qm_get ls 3 = some (.int (qz x2)) → qm_get ls 4 = some (.int (qz x3)) → qm_get ls 5 = some (.int (qz u2007218)) → qm_get ls 6 = some (.int (qz u2133385)) → qm_get ls 7 = some (.int (qz u2133387)) → qm_get ls 8 = some (.long (ql u2133389)) → qm_get ls 10 = some (.int (qz u2133391)) → qm_get ls 11 = some (.int (qz u2136466)) → (0 ≤ u2136538 ∧ u2136538 ≤ 1) → qr_W (qe L xs vb) (d + 48) qx_e238 (fun r w' => ∃ σ' α', w' = qw σ' α' κ ρ ∧ qI σ' α' κ ρ ∧ qFr [(86, 15), (86, 22), (86, 23), (86, 30), (86, 35), (86, 36), (86, 37), (86, 38), (86, 39), (86, 41), (86, 43)] [96, 109, 110, 113] σ α σ' α' ∧ ∃ v : Int, r = some (.long (ql v)) ∧ ((-9223372036854775808) ≤ v ∧ v ≤ 9223372036854775807)) (234, ls, [.int (qz u2136538)], qw σ2136469 α2133393 κ ρ, 0, 0) := by
                            intro ls u2136538 g2136529 g2136530 g2136531 g2136532 g2136533 g2136534 g2136535 g2136536 g2136537 hf2136539
                            refine qr_istore _ 236 rfl (by decide) rfl rfl ?_
                            refine qr_iload 238 rfl (qm_ge _ _ _) rfl ?_
                            have hJ2136568 : ∀ (ls : qm_L) (u2136553 u2136555 u2136557 : Int) (σ2136559 α2136560 : Nat → Nat → Int), qm_get ls 0 = some (.ref 86) → qm_get ls 3 = some (.int (qz x2)) → qm_get ls 4 = some (.int (qz x3)) → qm_get ls 5 = some (.int (qz u2007218)) → qm_get ls 6 = some (.int (qz u2136553)) → qm_get ls 7 = some (.int (qz u2136555)) → qm_get ls 8 = some (.long (ql u2136557)) → qm_get ls 10 = some (.int (qz u2133391)) → ((-1) ≤ u2136553 ∧ u2136553 ≤ 1023) → ((-2147483648) ≤ u2136555 ∧ u2136555 ≤ 2147483647) → ((-9223372036854775808) ≤ u2136557 ∧ u2136557 ≤ 9223372036854775807) → qI σ2136559 α2136560 κ ρ → qFr [(86, 15), (86, 22), (86, 23), (86, 30), (86, 35), (86, 36), (86, 37), (86, 38), (86, 39), (86, 41), (86, 43)] [96, 109, 110, 113] σ α σ2136559 α2136560 → σ2136559 86 16 = (σ10 86 16) → σ2136559 86 43 = (σ10 86 43) → qr_W (qe L xs vb) (d + 48) qx_e238 (fun r w' => ∃ σ' α', w' = qw σ' α' κ ρ ∧ qI σ' α' κ ρ ∧ qFr [(86, 15), (86, 22), (86, 23), (86, 30), (86, 35), (86, 36), (86, 37), (86, 38), (86, 39), (86, 41), (86, 43)] [96, 109, 110, 113] σ α σ' α' ∧ ∃ v : Int, r = some (.long (ql v)) ∧ ((-9223372036854775808) ≤ v ∧ v ≤ 9223372036854775807)) (263, ls, [], qw σ2136559 α2136560 κ ρ, 0, 0) := by
                              intro ls u2136553 u2136555 u2136557 σ2136559 α2136560 g2136548 g2136549 g2136550 g2136551 g2136552 g2136554 g2136556 g2136558 hf2136565 hf2136566 hf2136567 hI2136561 hF2136562 hk2136563 hk2136564
                              refine qr_iinc _ 266 rfl g2136558 (by decide) rfl rfl ?_
                              refine qr_goto 118 rfl rfl ?_
                              exact ih2133403 _ u2136553 u2136555 u2136557 (u2133391 + 1) σ2136559 α2136560 (by omega) (qm_gk g2136548 (by decide) (Or.inl (by decide))) (qm_gk g2136549 (by decide) (Or.inl (by decide))) (qm_gk g2136550 (by decide) (Or.inl (by decide))) (qm_gk g2136551 (by decide) (Or.inl (by decide))) (qm_gk g2136552 (by decide) (Or.inl (by decide))) (qm_gk g2136554 (by decide) (Or.inl (by decide))) (qm_gk g2136556 (by decide) (Or.inl (by decide))) (qm_ge _ _ _) (by omega) (by omega) (by omega) (by omega) hI2136561 hF2136562 ((hk2136563).trans rfl) ((hk2136564).trans rfl)
                            refine qr_if_eq 263 241 rfl rfl rfl (by omega) (fun h2136569 => ?_) (fun h2136569 => ?_)
                            · skip
                              exact hJ2136568 _ u2133385 u2133387 u2133389 σ2136469 α2133393 (qm_gk g2136529 (by decide) (Or.inl (by decide))) (qm_gk g2136530 (by decide) (Or.inl (by decide))) (qm_gk g2136531 (by decide) (Or.inl (by decide))) (qm_gk g2136532 (by decide) (Or.inl (by decide))) (qm_gk g2136533 (by decide) (Or.inl (by decide))) (qm_gk g2136534 (by decide) (Or.inl (by decide))) (qm_gk g2136535 (by decide) (Or.inl (by decide))) (qm_gk g2136536 (by decide) (Or.inl (by decide))) (by omega) (by omega) (by omega) hI2136471 hF2136472 ((hk2136473).trans rfl) ((hk2136474).trans rfl)
                            · skip
                              refine qr_aload_n 242 rfl (qm_gk g2136529 (by decide) (Or.inl (by decide))) rfl ?_
                              refine qr_iload_n 243 rfl (qm_gk g2136530 (by decide) (Or.inl (by decide))) rfl ?_
                              refine qr_callN 246 rfl rfl rfl (sf_239_86 (d := d + 0) hI2136471 (by omega) (by omega) (by omega)) ?_
                              rintro _ _ ⟨σ2136571, α2136572, rfl, hI2136573, hG2136574, v2136570, rfl, hv2136570⟩
                              have hF2136575 : qFr [(86, 15), (86, 22), (86, 23), (86, 30), (86, 35), (86, 36), (86, 37), (86, 38), (86, 39), (86, 41), (86, 43)] [96, 109, 110, 113] σ α σ2136571 α2136572 := qFr_t hF2136472 hG2136574 (by decide) (by decide)
                              show qr_W (qe L xs vb) (d + 48) qx_e238 _ (246, _, [.int (qz v2136570)], qw σ2136571 α2136572 κ ρ, 0, 0)
                              refine qr_if_ne 263 249 rfl rfl rfl (by omega) (fun h2136576 => ?_) (fun h2136576 => ?_)
                              · skip
                                exact hJ2136568 _ u2133385 u2133387 u2133389 σ2136571 α2136572 (qm_gk g2136529 (by decide) (Or.inl (by decide))) (qm_gk g2136530 (by decide) (Or.inl (by decide))) (qm_gk g2136531 (by decide) (Or.inl (by decide))) (qm_gk g2136532 (by decide) (Or.inl (by decide))) (qm_gk g2136533 (by decide) (Or.inl (by decide))) (qm_gk g2136534 (by decide) (Or.inl (by decide))) (qm_gk g2136535 (by decide) (Or.inl (by decide))) (qm_gk g2136536 (by decide) (Or.inl (by decide))) (by omega) (by omega) (by omega) hI2136573 hF2136575 ((hG2136574.1 86 16 (by decide)).trans ((hk2136473).trans rfl)) ((hG2136574.1 86 43 (by decide)).trans ((hk2136474).trans rfl))
                              · skip
                                refine qr_iload 251 rfl (qm_gk g2136536 (by decide) (Or.inl (by decide))) rfl ?_
                                refine qr_istore _ 253 rfl (by decide) rfl rfl ?_
                                refine qr_iload 255 rfl (qm_gk (qm_gk g2136537 (by decide) (Or.inr rfl)) (by decide) (Or.inl (by decide))) rfl ?_
                                refine qr_istore _ 257 rfl (by decide) rfl rfl ?_
                                refine qr_aload_n 258 rfl (qm_gk (qm_gk (qm_gk g2136529 (by decide) (Or.inl (by decide))) (by decide) (Or.inl (by decide))) (by decide) (Or.inl (by decide))) rfl ?_
                                refine qr_get 261 rfl rfl rfl (by decide) rfl ?_
                                have hs2136577 : (-9223372036854775808) ≤ σ2136571 86 22 ∧ σ2136571 86 22 ≤ 9223372036854775807 := hI2136573.1 86 22
                                refine qr_lstore _ 263 rfl (by decide) rfl rfl ?_
                                exact hJ2136568 _ u2133391 u2136466 (σ2136571 86 22) σ2136571 α2136572 (qm_gk2 (qm_gk (qm_gk (qm_gk g2136529 (by decide) (Or.inl (by decide))) (by decide) (Or.inl (by decide))) (by decide) (Or.inl (by decide))) (by decide) (by decide) (Or.inl (by decide))) (qm_gk2 (qm_gk (qm_gk (qm_gk g2136530 (by decide) (Or.inl (by decide))) (by decide) (Or.inl (by decide))) (by decide) (Or.inl (by decide))) (by decide) (by decide) (Or.inl (by decide))) (qm_gk2 (qm_gk (qm_gk (qm_gk g2136531 (by decide) (Or.inl (by decide))) (by decide) (Or.inl (by decide))) (by decide) (Or.inl (by decide))) (by decide) (by decide) (Or.inl (by decide))) (qm_gk2 (qm_gk (qm_gk (qm_gk g2136532 (by decide) (Or.inl (by decide))) (by decide) (Or.inr rfl)) (by decide) (Or.inl (by decide))) (by decide) (by decide) (Or.inl (by decide))) (qm_gk2 (qm_gk (qm_ge _ _ _) (by decide) (Or.inr rfl)) (by decide) (by decide) (Or.inl (by decide))) (qm_gk2 (qm_ge _ _ _) (by decide) (by decide) (Or.inr rfl)) (qm_ge2 _ _ _) (qm_gk2 (qm_gk (qm_gk (qm_gk g2136536 (by decide) (Or.inl (by decide))) (by decide) (Or.inl (by decide))) (by decide) (Or.inl (by decide))) (by decide) (by decide) (Or.inl (by decide))) (by omega) (by omega) (by omega) hI2136573 hF2136575 ((hG2136574.1 86 16 (by decide)).trans ((hk2136473).trans rfl)) ((hG2136574.1 86 43 (by decide)).trans ((hk2136474).trans rfl))
                          refine qr_if_lt 229 202 rfl rfl rfl (by omega) (fun h2136578 => ?_) (fun h2136578 => ?_)
                          · skip
                            refine qr_iconst 230 rfl rfl ?_
                            refine qr_goto 234 rfl rfl ?_
                            exact hJ2136540 _ 1 g2136457 g2136458 g2136459 g2136460 g2136461 g2136462 g2136463 g2136464 g2136465 (by omega)
                          · skip
                            refine qr_iload 204 rfl g2136465 rfl ?_
                            refine qr_iload 206 rfl g2136462 rfl ?_
                            refine qr_icmp_lt 229 209 rfl rfl rfl (by omega) (by omega) (fun h2136579 => ?_) (fun h2136579 => ?_)
                            · skip
                              refine qr_iconst 230 rfl rfl ?_
                              refine qr_goto 234 rfl rfl ?_
                              exact hJ2136540 _ 1 g2136457 g2136458 g2136459 g2136460 g2136461 g2136462 g2136463 g2136464 g2136465 (by omega)
                            · skip
                              refine qr_iload 211 rfl g2136465 rfl ?_
                              refine qr_iload 213 rfl g2136462 rfl ?_
                              refine qr_icmp_ne 233 216 rfl rfl rfl (by omega) (by omega) (fun h2136580 => ?_) (fun h2136580 => ?_)
                              · skip
                                refine qr_iconst 234 rfl rfl ?_
                                exact hJ2136540 _ 0 g2136457 g2136458 g2136459 g2136460 g2136461 g2136462 g2136463 g2136464 g2136465 (by omega)
                              · skip
                                refine qr_iload 218 rfl g2136464 rfl ?_
                                refine qr_callN 221 rfl rfl rfl (sf_235 (d := d + 47) hI2136471 (by omega)) ?_
                                rintro _ _ ⟨rfl, v2136581, rfl, hv2136581⟩
                                show qr_W (qe L xs vb) (d + 48) qx_e238 _ (221, _, [.int (qz v2136581)], qw σ2136469 α2133393 κ ρ, 0, 0)
                                refine qr_iload 223 rfl g2136461 rfl ?_
                                refine qr_callN 226 rfl rfl rfl (sf_235 (d := d + 47) hI2136471 (by omega)) ?_
                                rintro _ _ ⟨rfl, v2136582, rfl, hv2136582⟩
                                show qr_W (qe L xs vb) (d + 48) qx_e238 _ (226, _, [.int (qz v2136582), .int (qz v2136581)], qw σ2136469 α2133393 κ ρ, 0, 0)
                                refine qr_icmp_ge 233 229 rfl rfl rfl (by omega) (by omega) (fun h2136583 => ?_) (fun h2136583 => ?_)
                                · skip
                                  refine qr_iconst 234 rfl rfl ?_
                                  exact hJ2136540 _ 0 g2136457 g2136458 g2136459 g2136460 g2136461 g2136462 g2136463 g2136464 g2136465 (by omega)
                                · skip
                                  refine qr_iconst 230 rfl rfl ?_
                                  refine qr_goto 234 rfl rfl ?_
                                  exact hJ2136540 _ 1 g2136457 g2136458 g2136459 g2136460 g2136461 g2136462 g2136463 g2136464 g2136465 (by omega)
                        · skip
                          refine qr_iload 147 rfl g2136464 rfl ?_
                          refine qr_iload 149 rfl g2136467 rfl ?_
                          refine qr_ishr 150 rfl rfl ?_
                          refine qy_can (fun v2136584 hv2136584 => ?_)
                          refine qr_iconst 151 rfl rfl ?_
                          refine qr_iand 152 rfl rfl ?_
                          refine qy_andr (by omega) (fun v2136585 hv2136585 => ?_)
                          refine qr_iconst 153 rfl rfl ?_
                          have hJ2136618 : ∀ (ls : qm_L) (u2136609 : Int) (σ2136611 : Nat → Nat → Int), qm_get ls 0 = some (.ref 86) → qm_get ls 3 = some (.int (qz x2)) → qm_get ls 4 = some (.int (qz x3)) → qm_get ls 5 = some (.int (qz u2007218)) → qm_get ls 6 = some (.int (qz u2133385)) → qm_get ls 7 = some (.int (qz u2133387)) → qm_get ls 8 = some (.long (ql u2133389)) → qm_get ls 10 = some (.int (qz u2133391)) → qm_get ls 11 = some (.int (qz u2136609)) → qm_get ls 12 = some (.int (qz u2136468)) → ((-2147483648) ≤ u2136609 ∧ u2136609 ≤ 2147483647) → qI σ2136611 α2133393 κ ρ → qFr [(86, 15), (86, 22), (86, 23), (86, 30), (86, 35), (86, 36), (86, 37), (86, 38), (86, 39), (86, 41), (86, 43)] [96, 109, 110, 113] σ α σ2136611 α2133393 → σ2136611 86 16 = (σ10 86 16) → σ2136611 86 43 = (σ10 86 43) → qr_W (qe L xs vb) (d + 48) qx_e238 (fun r w' => ∃ σ' α', w' = qw σ' α' κ ρ ∧ qI σ' α' κ ρ ∧ qFr [(86, 15), (86, 22), (86, 23), (86, 30), (86, 35), (86, 36), (86, 37), (86, 38), (86, 39), (86, 41), (86, 43)] [96, 109, 110, 113] σ α σ' α' ∧ ∃ v : Int, r = some (.long (ql v)) ∧ ((-9223372036854775808) ≤ v ∧ v ≤ 9223372036854775807)) (191, ls, [], qw σ2136611 α2133393 κ ρ, 0, 0) := by
                            intro ls u2136609 σ2136611 g2136600 g2136601 g2136602 g2136603 g2136604 g2136605 g2136606 g2136607 g2136608 g2136610 hf2136617 hI2136613 hF2136614 hk2136615 hk2136616
                            refine qr_iinc _ 194 rfl g2136610 (by decide) rfl rfl ?_
                            refine qr_goto 138 rfl rfl ?_
                            exact ih2136478 _ u2136609 (u2136468 + 1) σ2136611 (by omega) (qm_gk g2136600 (by decide) (Or.inl (by decide))) (qm_gk g2136601 (by decide) (Or.inl (by decide))) (qm_gk g2136602 (by decide) (Or.inl (by decide))) (qm_gk g2136603 (by decide) (Or.inl (by decide))) (qm_gk g2136604 (by decide) (Or.inl (by decide))) (qm_gk g2136605 (by decide) (Or.inl (by decide))) (qm_gk g2136606 (by decide) (Or.inl (by decide))) (qm_gk g2136607 (by decide) (Or.inl (by decide))) (qm_gk g2136608 (by decide) (Or.inr rfl)) (qm_ge _ _ _) (by omega) (by omega) hI2136613 hF2136614 ((hk2136615).trans rfl) ((hk2136616).trans rfl)
                          refine qr_icmp_ne 191 156 rfl rfl rfl (by omega) (by omega) (fun h2136619 => ?_) (fun h2136619 => ?_)
                          · skip
                            exact hJ2136618 _ u2136466 σ2136469 g2136457 g2136458 g2136459 g2136460 g2136461 g2136462 g2136463 g2136464 g2136465 g2136467 (by omega) hI2136471 hF2136472 ((hk2136473).trans rfl) ((hk2136474).trans rfl)
                          · skip
                            refine qr_iload 158 rfl g2136465 rfl ?_
                            refine qr_aload_n 159 rfl g2136457 rfl ?_
                            refine qr_get 162 rfl rfl rfl (by decide) rfl ?_
                            refine qr_aload_n 163 rfl g2136457 rfl ?_
                            refine qr_get 166 rfl rfl rfl (by decide) rfl ?_
                            refine qr_iload 168 rfl g2136467 rfl ?_
                            refine qr_iaload 169 rfl rfl (by omega) (by decide) rfl ?_
                            refine qr_topI (fun v2136620 hv2136620 => ?_)
                            have hs2136621 : 0 ≤ v2136620 ∧ v2136620 ≤ 39 := by rw [hv2136620]; exact hI2136471.2.1 113 _ (show _ < 10 by omega)
                            refine qr_iaload 170 rfl rfl (by omega) (by decide) rfl ?_
                            refine qr_topI (fun v2136622 hv2136622 => ?_)
                            have hs2136623 : (-2147483648) ≤ v2136622 ∧ v2136622 ≤ 2147483647 := by rw [hv2136622]; exact hI2136471.2.1 101 _ (show _ < 40 by omega)
                            refine qr_iadd 171 rfl rfl ?_
                            refine qy_can (fun v2136624 hv2136624 => ?_)
                            refine qr_istore _ 173 rfl (by decide) rfl rfl ?_
                            refine qr_aload_n 174 rfl (qm_gk g2136457 (by decide) (Or.inl (by decide))) rfl ?_
                            refine qr_dup 175 rfl rfl rfl ?_
                            refine qr_get 178 rfl rfl rfl (by decide) rfl ?_
                            have hs2136625 : (-9223372036854775808) ≤ σ2136469 86 22 ∧ σ2136469 86 22 ≤ 9223372036854775807 := hI2136471.1 86 22
                            refine qr_lconst 179 rfl rfl ?_
                            refine qy_vl 1 rfl ?_
                            refine qr_aload_n 180 rfl (qm_gk g2136457 (by decide) (Or.inl (by decide))) rfl ?_
                            refine qr_get 183 rfl rfl rfl (by decide) rfl ?_
                            refine qr_iload 185 rfl (qm_gk g2136467 (by decide) (Or.inl (by decide))) rfl ?_
                            refine qr_iaload 186 rfl rfl (by omega) (by decide) rfl ?_
                            refine qr_topI (fun v2136626 hv2136626 => ?_)
                            have hs2136627 : 0 ≤ v2136626 ∧ v2136626 ≤ 39 := by rw [hv2136626]; exact hI2136471.2.1 113 _ (show _ < 10 by omega)
                            refine qr_lshl 187 rfl rfl ?_
                            refine qy_canl (fun v2136628 hv2136628 => ?_)
                            refine qr_lor 188 rfl rfl ?_
                            refine qy_canl (fun v2136629 hv2136629 => ?_)
                            refine qr_put 191 rfl (by decide) rfl (Nat.le_of_ble_eq_true rfl) (Nat.le_of_ble_eq_true rfl) (Or.inl rfl) (qr_fitL rfl _) rfl ?_
                            refine qy_wS (qw_s σ2136469 86 22 v2136629) rfl (fun σ2136630 e2136631 => ?_)
                            have hI2136632 : qI σ2136630 α2133393 κ ρ := by rw [e2136631]; exact qI_s hI2136471 86 22 rfl (show (-9223372036854775808) ≤ v2136629 ∧ v2136629 ≤ 9223372036854775807 by omega)
                            have hF2136633 : qFr [(86, 15), (86, 22), (86, 23), (86, 30), (86, 35), (86, 36), (86, 37), (86, 38), (86, 39), (86, 41), (86, 43)] [96, 109, 110, 113] σ α σ2136630 α2133393 := by rw [e2136631]; exact qFr_s hF2136472 86 22 _ (by decide)
                            exact hJ2136618 _ v2136624 σ2136630 (qm_gk g2136457 (by decide) (Or.inl (by decide))) (qm_gk g2136458 (by decide) (Or.inl (by decide))) (qm_gk g2136459 (by decide) (Or.inl (by decide))) (qm_gk g2136460 (by decide) (Or.inl (by decide))) (qm_gk g2136461 (by decide) (Or.inl (by decide))) (qm_gk g2136462 (by decide) (Or.inl (by decide))) (qm_gk g2136463 (by decide) (Or.inl (by decide))) (qm_gk g2136464 (by decide) (Or.inr rfl)) (qm_ge _ _ _) (qm_gk g2136467 (by decide) (Or.inl (by decide))) (by omega) hI2136632 hF2136633 ((congrFun (congrFun e2136631 86) 16).trans ((hk2136473).trans rfl)) ((congrFun (congrFun e2136631 86) 43).trans ((hk2136474).trans rfl))
                    exact hL2136477 ((10 - 0 + 1 : Int)).toNat _ 0 0 σ2135007 (by omega) (qm_gk (qm_gk g2133380 (by decide) (Or.inl (by decide))) (by decide) (Or.inl (by decide))) (qm_gk (qm_gk g2133381 (by decide) (Or.inl (by decide))) (by decide) (Or.inl (by decide))) (qm_gk (qm_gk g2133382 (by decide) (Or.inl (by decide))) (by decide) (Or.inl (by decide))) (qm_gk (qm_gk g2133383 (by decide) (Or.inl (by decide))) (by decide) (Or.inl (by decide))) (qm_gk (qm_gk g2133384 (by decide) (Or.inl (by decide))) (by decide) (Or.inl (by decide))) (qm_gk (qm_gk g2133386 (by decide) (Or.inl (by decide))) (by decide) (Or.inl (by decide))) (qm_gk (qm_gk g2133388 (by decide) (Or.inl (by decide))) (by decide) (Or.inl (by decide))) (qm_gk (qm_gk g2133390 (by decide) (Or.inr rfl)) (by decide) (Or.inl (by decide))) (qm_gk (qm_ge _ _ _) (by decide) (Or.inr rfl)) (qm_ge _ _ _) (by omega) (by omega) hI2135009 hF2135010 ((congrFun (congrFun e2135008 86) 16).trans ((hk2133396).trans rfl)) ((congrFun (congrFun e2135008 86) 43).trans ((hk2133397).trans rfl))
              exact hL2133402 ((1024 - 0 + 1 : Int)).toNat _ (-1) 0 0 0 σ10 α2007220 (by omega) (qm_gk (qm_gk2 (qm_gk (qm_gk g2007214 (by decide) (Or.inl (by decide))) (by decide) (Or.inl (by decide))) (by decide) (by decide) (Or.inl (by decide))) (by decide) (Or.inl (by decide))) (qm_gk (qm_gk2 (qm_gk (qm_gk g2007215 (by decide) (Or.inl (by decide))) (by decide) (Or.inl (by decide))) (by decide) (by decide) (Or.inl (by decide))) (by decide) (Or.inl (by decide))) (qm_gk (qm_gk2 (qm_gk (qm_gk g2007216 (by decide) (Or.inl (by decide))) (by decide) (Or.inl (by decide))) (by decide) (by decide) (Or.inl (by decide))) (by decide) (Or.inl (by decide))) (qm_gk (qm_gk2 (qm_gk (qm_gk g2007217 (by decide) (Or.inr rfl)) (by decide) (Or.inl (by decide))) (by decide) (by decide) (Or.inl (by decide))) (by decide) (Or.inl (by decide))) (qm_gk (qm_gk2 (qm_gk (qm_ge _ _ _) (by decide) (Or.inr rfl)) (by decide) (by decide) (Or.inl (by decide))) (by decide) (Or.inl (by decide))) (qm_gk (qm_gk2 (qm_ge _ _ _) (by decide) (by decide) (Or.inr rfl)) (by decide) (Or.inl (by decide))) (qm_gk (qm_ge2 _ _ _) (by decide) (Or.inl (by decide))) (qm_ge _ _ _) (by omega) (by omega) (by omega) (by omega) hI2007221 hF2007222 (rfl) (rfl)
            refine qr_icmp_ge 106 47 rfl rfl rfl (by omega) (by omega) (fun h2136634 => ?_) (fun h2136634 => ?_)
            · skip
              exact hJ2007224 _ u2007170 α2007174 g2007166 g2007167 g2007168 g2007169 (by omega) hI2007175 hF2007176
            · skip
              refine qr_iload 49 rfl g2007169 rfl ?_
              refine qr_bipush 51 rfl (by decide) rfl ?_
              refine qr_icmp_ge 106 54 rfl rfl rfl (by omega) (by omega) (fun h2136635 => ?_) (fun h2136635 => ?_)
              · skip
                exact hJ2007224 _ u2007170 α2007174 g2007166 g2007167 g2007168 g2007169 (by omega) hI2007175 hF2007176
              · skip
                refine qr_aload_n 55 rfl g2007166 rfl ?_
                refine qr_get 58 rfl rfl rfl (by decide) rfl ?_
                refine qr_bipush 60 rfl (by decide) rfl ?_
                refine qr_iload 62 rfl g2007171 rfl ?_
                refine qr_iadd 63 rfl rfl ?_
                refine qr_iaload 64 rfl rfl (by omega) (by decide) rfl ?_
                refine qr_topI (fun v2136636 hv2136636 => ?_)
                have hs2136637 : (-2147483648) ≤ v2136636 ∧ v2136636 ≤ 2147483647 := by rw [hv2136636]; exact hI2007175.2.1 87 _ (show _ < 252 by omega)
                refine qr_sipush 67 rfl (by decide) rfl ?_
                have hJ2136659 : ∀ (ls : qm_L) (u2136652 : Int) (α2136655 : Nat → Nat → Int), qm_get ls 0 = some (.ref 86) → qm_get ls 3 = some (.int (qz x2)) → qm_get ls 4 = some (.int (qz x3)) → qm_get ls 5 = some (.int (qz u2136652)) → qm_get ls 6 = some (.int (qz u2007172)) → (0 ≤ u2136652 ∧ u2136652 ≤ 10) → qI σ10 α2136655 κ ρ → qFr [(86, 15), (86, 22), (86, 23), (86, 30), (86, 35), (86, 36), (86, 37), (86, 38), (86, 39), (86, 41), (86, 43)] [96, 109, 110, 113] σ α σ10 α2136655 → qr_W (qe L xs vb) (d + 48) qx_e238 (fun r w' => ∃ σ' α', w' = qw σ' α' κ ρ ∧ qI σ' α' κ ρ ∧ qFr [(86, 15), (86, 22), (86, 23), (86, 30), (86, 35), (86, 36), (86, 37), (86, 38), (86, 39), (86, 41), (86, 43)] [96, 109, 110, 113] σ α σ' α' ∧ ∃ v : Int, r = some (.long (ql v)) ∧ ((-9223372036854775808) ≤ v ∧ v ≤ 9223372036854775807)) (100, ls, [], qw σ10 α2136655 κ ρ, 0, 0) := by
                  intro ls u2136652 α2136655 g2136648 g2136649 g2136650 g2136651 g2136653 hf2136658 hI2136656 hF2136657
                  refine qr_iinc _ 103 rfl g2136653 (by decide) rfl rfl ?_
                  refine qr_goto 38 rfl rfl ?_
                  exact ih2007180 _ u2136652 (u2007172 + 1) α2136655 (by omega) (qm_gk g2136648 (by decide) (Or.inl (by decide))) (qm_gk g2136649 (by decide) (Or.inl (by decide))) (qm_gk g2136650 (by decide) (Or.inl (by decide))) (qm_gk g2136651 (by decide) (Or.inr rfl)) (qm_ge _ _ _) (by omega) (by omega) hI2136656 hF2136657
                refine qr_icmp_eq 88 70 rfl rfl rfl (by omega) (by omega) (fun h2136660 => ?_) (fun h2136660 => ?_)
                · skip
                  refine qr_aload_n 89 rfl g2007166 rfl ?_
                  refine qr_get 92 rfl rfl rfl (by decide) rfl ?_
                  refine qr_iload 94 rfl g2007169 rfl ?_
                  refine qr_iload 96 rfl g2007171 rfl ?_
                  refine qr_iastore 97 rfl (by decide) rfl (by omega) (by decide) rfl ?_
                  refine qy_wA (qw_r α2007174 113 (qzu (α2007174 113) (u2007170 : Int).toNat u2007172)) rfl (fun α2136661 e2136662 => ?_)
                  have hI2136663 : qI σ10 α2136661 κ ρ := by rw [e2136662]; exact qI_r hI2007175 113 _ rfl (show 0 ≤ u2007172 ∧ u2007172 ≤ 39 by omega)
                  have hF2136664 : qFr [(86, 15), (86, 22), (86, 23), (86, 30), (86, 35), (86, 36), (86, 37), (86, 38), (86, 39), (86, 41), (86, 43)] [96, 109, 110, 113] σ α σ10 α2136661 := by rw [e2136662]; exact qFr_r hF2007176 113 _ (by decide)
                  refine qr_iinc _ 100 rfl g2007169 (by decide) rfl rfl ?_
                  exact hJ2136659 _ (u2007170 + 1) α2136661 (qm_gk g2007166 (by decide) (Or.inl (by decide))) (qm_gk g2007167 (by decide) (Or.inl (by decide))) (qm_gk g2007168 (by decide) (Or.inr rfl)) (qm_ge _ _ _) (qm_gk g2007171 (by decide) (Or.inl (by decide))) (by omega) hI2136663 hF2136664
                · skip
                  refine qr_aload_n 71 rfl g2007166 rfl ?_
                  refine qr_get 74 rfl rfl rfl (by decide) rfl ?_
                  refine qr_bipush 76 rfl (by decide) rfl ?_
                  refine qr_iload 78 rfl g2007171 rfl ?_
                  refine qr_iadd 79 rfl rfl ?_
                  refine qr_iaload 80 rfl rfl (by omega) (by decide) rfl ?_
                  refine qr_topI (fun v2136665 hv2136665 => ?_)
                  have hs2136666 : (-2147483648) ≤ v2136665 ∧ v2136665 ≤ 2147483647 := by rw [hv2136665]; exact hI2007175.2.1 87 _ (show _ < 252 by omega)
                  refine qr_iload_n 81 rfl g2007167 rfl ?_
                  refine qr_sipush 84 rfl (by decide) rfl ?_
                  refine qr_idiv 85 rfl (by omega) (by omega) rfl ?_
                  refine qr_icmp_le 100 88 rfl rfl rfl (by omega) (by omega) (fun h2136667 => ?_) (fun h2136667 => ?_)
                  · skip
                    exact hJ2136659 _ u2007170 α2007174 g2007166 g2007167 g2007168 g2007169 g2007171 (by omega) hI2007175 hF2007176
                  · skip
                    refine qr_aload_n 89 rfl g2007166 rfl ?_
                    refine qr_get 92 rfl rfl rfl (by decide) rfl ?_
                    refine qr_iload 94 rfl g2007169 rfl ?_
                    refine qr_iload 96 rfl g2007171 rfl ?_
                    refine qr_iastore 97 rfl (by decide) rfl (by omega) (by decide) rfl ?_
                    refine qy_wA (qw_r α2007174 113 (qzu (α2007174 113) (u2007170 : Int).toNat u2007172)) rfl (fun α2136668 e2136669 => ?_)
                    have hI2136670 : qI σ10 α2136668 κ ρ := by rw [e2136669]; exact qI_r hI2007175 113 _ rfl (show 0 ≤ u2007172 ∧ u2007172 ≤ 39 by omega)
                    have hF2136671 : qFr [(86, 15), (86, 22), (86, 23), (86, 30), (86, 35), (86, 36), (86, 37), (86, 38), (86, 39), (86, 41), (86, 43)] [96, 109, 110, 113] σ α σ10 α2136668 := by rw [e2136669]; exact qFr_r hF2007176 113 _ (by decide)
                    refine qr_iinc _ 100 rfl g2007169 (by decide) rfl rfl ?_
                    exact hJ2136659 _ (u2007170 + 1) α2136668 (qm_gk g2007166 (by decide) (Or.inl (by decide))) (qm_gk g2007167 (by decide) (Or.inl (by decide))) (qm_gk g2007168 (by decide) (Or.inr rfl)) (qm_ge _ _ _) (qm_gk g2007171 (by decide) (Or.inl (by decide))) (by omega) hI2136670 hF2136671
        exact hL2007179 ((40 - 0 + 1 : Int)).toNat _ 0 0 α11 (by omega) rfl rfl rfl rfl rfl (by omega) (by omega) hI12 hF14
      · skip
        refine qr_ldc2 (-1) 31 rfl (by decide) rfl ?_
        refine qr_retL rfl rfl (by decide) (by decide) ?_
        exact ⟨_, _, rfl, hI12, hF14, (-1), rfl, by omega⟩

set_option maxHeartbeats 4000000 in
set_option maxRecDepth 20000 in
/-- OneRoofModel.meets -/
theorem sf_243_86 {L : Nat} {xs : Nat → Int} {vb : Bool} {d : Nat} {σ α : Nat → Nat → Int} {κ : Nat → Option Nat} {ρ : Nat} {x1 : Int} {x2 : Int} {x3 : Int} (hI : qI σ α κ ρ) (r1 : 0 ≤ x1 ∧ x1 ≤ 5) (r2 : (-2147483648) ≤ x2 ∧ x2 ≤ 2147483647) (r3 : (-2147483648) ≤ x3 ∧ x3 ≤ 2147483647) (p0 : 1 ≤ σ 86 6) (p1 : σ 86 43 ≤ 6) : qm_T (qe L xs vb) (d + 6) 243 [.ref 86, .int (qz x1), .int (qz x2), .int (qz x3)] (qw σ α κ ρ) (fun r w' => ∃ σ' α', w' = qw σ' α' κ ρ ∧ qI σ' α' κ ρ ∧ qFr [(86, 15), (86, 23), (86, 30)] [96] σ α σ' α' ∧ ∃ v : Int, r = some (.int (qz v)) ∧ (0 ≤ v ∧ v ≤ 1)) := by
  refine qr_start (d := d + 5) qv_e243 (Nat.le_of_ble_eq_true rfl) ?_
  show qr_W (qe L xs vb) (d + 5) qx_e243 _ (0, [(0, .ref 86), (1, .int (qz x1)), (2, .int (qz x2)), (3, .int (qz x3))], [], _, 0, 0)
  have hF0 := qFr_rf [(86, 15), (86, 23), (86, 30)] [96] σ α
  have hz86_6 : 0 ≤ σ 86 6 ∧ σ 86 6 ≤ 32 := hI.1 86 6
  have hz86_43 : 0 ≤ σ 86 43 ∧ σ 86 43 ≤ 32 := hI.1 86 43
  refine qr_aload_n 1 rfl rfl rfl ?_
  refine qr_get 4 rfl rfl rfl (by decide) rfl ?_
  refine qr_aload_n 5 rfl rfl rfl ?_
  refine qr_get 8 rfl rfl rfl (by decide) rfl ?_
  refine qr_iload_n 9 rfl rfl rfl ?_
  refine qr_iaload 10 rfl rfl (by omega) (by decide) rfl ?_
  refine qr_topI (fun v1 hv1 => ?_)
  have hs2 : 0 ≤ v1 ∧ v1 ≤ 5 := by rw [hv1]; exact hI.2.1 114 _ (show _ < 6 by omega)
  refine qr_iaload 11 rfl rfl (by omega) (by decide) rfl ?_
  refine qr_topI (fun v3 hv3 => ?_)
  have hs4 : 0 ≤ v3 ∧ v3 ≤ 31 := by rw [hv3]; exact hI.2.1 110 _ (show _ < 32 by omega)
  refine qr_istore _ 13 rfl (by decide) rfl rfl ?_
  refine qr_iload_n 14 rfl rfl rfl ?_
  refine qr_iload_n 15 rfl rfl rfl ?_
  refine qr_iload_n 16 rfl rfl rfl ?_
  refine qr_bipush 18 rfl (by decide) rfl ?_
  refine qr_idivW 19 rfl (by omega) rfl ?_
  refine qy_can (fun v5 hv5 => ?_)
  refine qr_imul 20 rfl rfl ?_
  refine qy_can (fun v6 hv6 => ?_)
  refine qr_iadd 21 rfl rfl ?_
  refine qy_can (fun v7 hv7 => ?_)
  refine qr_istore _ 23 rfl (by decide) rfl rfl ?_
  refine qr_iconst 24 rfl rfl ?_
  refine qr_istore _ 26 rfl (by decide) rfl rfl ?_
  have hL407 : ∀ (n : Nat) (ls : qm_L) (u399 : Int) (σ400 α401 : Nat → Nat → Int), 5 - u399 < (n : Int) → qm_get ls 0 = some (.ref 86) → qm_get ls 1 = some (.int (qz x1)) → qm_get ls 3 = some (.int (qz x3)) → qm_get ls 4 = some (.int (qz v3)) → qm_get ls 5 = some (.int (qz v7)) → qm_get ls 6 = some (.int (qz u399)) → (0 ≤ u399 ∧ u399 ≤ 5) → qI σ400 α401 κ ρ → qFr [(86, 15), (86, 23), (86, 30)] [96] σ α σ400 α401 → σ400 86 6 = (σ 86 6) → σ400 86 43 = (σ 86 43) → qr_W (qe L xs vb) (d + 5) qx_e243 (fun r w' => ∃ σ' α', w' = qw σ' α' κ ρ ∧ qI σ' α' κ ρ ∧ qFr [(86, 15), (86, 23), (86, 30)] [96] σ α σ' α' ∧ ∃ v : Int, r = some (.int (qz v)) ∧ (0 ≤ v ∧ v ≤ 1)) (26, ls, [], qw σ400 α401 κ ρ, 0, 0) := by
    intro n
    induction n with
    | zero => intro ls u399 σ400 α401 hm g393 g394 g395 g396 g397 g398 hf406 hI402 hF403 hk404 hk405; exact False.elim (by omega)
    | succ n ih408 =>
      intro ls u399 σ400 α401 hm g393 g394 g395 g396 g397 g398 hf406 hI402 hF403 hk404 hk405
      refine qr_iload 28 rfl g398 rfl ?_
      refine qr_iload_n 29 rfl g394 rfl ?_
      refine qr_icmp_ge 127 32 rfl rfl rfl (by omega) (by omega) (fun h409 => ?_) (fun h409 => ?_)
      · skip
        refine qr_iconst 128 rfl rfl ?_
        refine qr_retZ rfl rfl (by omega) (by decide) (by decide) ?_
        exact ⟨_, _, rfl, hI402, hF403, 0, rfl, by omega⟩
      · skip
        refine qr_aload_n 33 rfl g393 rfl ?_
        refine qr_get 36 rfl rfl rfl (by decide) rfl ?_
        refine qr_aload_n 37 rfl g393 rfl ?_
        refine qr_get 40 rfl rfl rfl (by decide) rfl ?_
        refine qr_iload 42 rfl g398 rfl ?_
        refine qr_iaload 43 rfl rfl (by omega) (by decide) rfl ?_
        refine qr_topI (fun v410 hv410 => ?_)
        have hs411 : 0 ≤ v410 ∧ v410 ≤ 5 := by rw [hv410]; exact hI402.2.1 114 _ (show _ < 6 by omega)
        refine qr_iaload 44 rfl rfl (by omega) (by decide) rfl ?_
        refine qr_topI (fun v412 hv412 => ?_)
        have hs413 : 0 ≤ v412 ∧ v412 ≤ 31 := by rw [hv412]; exact hI402.2.1 110 _ (show _ < 32 by omega)
        refine qr_istore _ 46 rfl (by decide) rfl rfl ?_
        refine qr_aload_n 47 rfl (qm_gk g393 (by decide) (Or.inl (by decide))) rfl ?_
        refine qr_get 50 rfl rfl rfl (by decide) rfl ?_
        refine qr_iload 52 rfl (qm_gk g396 (by decide) (Or.inl (by decide))) rfl ?_
        refine qr_iaload 53 rfl rfl (by omega) (by decide) rfl ?_
        refine qr_topI (fun v414 hv414 => ?_)
        have hs415 : (-2147483648) ≤ v414 ∧ v414 ≤ 2147483647 := by rw [hv414]; exact hI402.2.1 93 _ (show _ < 32 by omega)
        refine qr_aload_n 54 rfl (qm_gk g393 (by decide) (Or.inl (by decide))) rfl ?_
        refine qr_get 57 rfl rfl rfl (by decide) rfl ?_
        refine qr_iload 59 rfl (qm_ge _ _ _) rfl ?_
        refine qr_iaload 60 rfl rfl (by omega) (by decide) rfl ?_
        refine qr_topI (fun v416 hv416 => ?_)
        have hs417 : (-2147483648) ≤ v416 ∧ v416 ≤ 2147483647 := by rw [hv416]; exact hI402.2.1 93 _ (show _ < 32 by omega)
        have hJ446 : ∀ (ls : qm_L) (u438 : Int) (σ439 α440 : Nat → Nat → Int), qm_get ls 0 = some (.ref 86) → qm_get ls 1 = some (.int (qz x1)) → qm_get ls 3 = some (.int (qz x3)) → qm_get ls 4 = some (.int (qz v3)) → qm_get ls 5 = some (.int (qz v7)) → qm_get ls 6 = some (.int (qz u399)) → (0 ≤ u438 ∧ u438 ≤ 1) → qI σ439 α440 κ ρ → qFr [(86, 15), (86, 23), (86, 30)] [96] σ α σ439 α440 → σ439 86 6 = (σ 86 6) → σ439 86 43 = (σ 86 43) → qr_W (qe L xs vb) (d + 5) qx_e243 (fun r w' => ∃ σ' α', w' = qw σ' α' κ ρ ∧ qI σ' α' κ ρ ∧ qFr [(86, 15), (86, 23), (86, 30)] [96] σ α σ' α' ∧ ∃ v : Int, r = some (.int (qz v)) ∧ (0 ≤ v ∧ v ≤ 1)) (112, ls, [.int (qz u438)], qw σ439 α440 κ ρ, 0, 0) := by
          intro ls u438 σ439 α440 g432 g433 g434 g435 g436 g437 hf445 hI441 hF442 hk443 hk444
          refine qr_istore _ 114 rfl (by decide) rfl rfl ?_
          refine qr_iload 116 rfl (qm_ge _ _ _) rfl ?_
          refine qr_if_eq 121 119 rfl rfl rfl (by omega) (fun h447 => ?_) (fun h447 => ?_)
          · skip
            refine qr_iinc _ 124 rfl (qm_gk g437 (by decide) (Or.inl (by decide))) (by decide) rfl rfl ?_
            refine qr_goto 26 rfl rfl ?_
            exact ih408 _ (u399 + 1) σ439 α440 (by omega) (qm_gk (qm_gk g432 (by decide) (Or.inl (by decide))) (by decide) (Or.inl (by decide))) (qm_gk (qm_gk g433 (by decide) (Or.inl (by decide))) (by decide) (Or.inl (by decide))) (qm_gk (qm_gk g434 (by decide) (Or.inl (by decide))) (by decide) (Or.inl (by decide))) (qm_gk (qm_gk g435 (by decide) (Or.inl (by decide))) (by decide) (Or.inl (by decide))) (qm_gk (qm_gk g436 (by decide) (Or.inl (by decide))) (by decide) (Or.inr rfl)) (qm_ge _ _ _) (by omega) hI441 hF442 ((hk443).trans rfl) ((hk444).trans rfl)
          · skip
            refine qr_iconst 120 rfl rfl ?_
            refine qr_retZ rfl rfl (by omega) (by decide) (by decide) ?_
            exact ⟨_, _, rfl, hI441, hF442, 1, rfl, by omega⟩
        refine qr_icmp_ne 111 63 rfl rfl rfl (by omega) (by omega) (fun h448 => ?_) (fun h448 => ?_)
        · skip
          refine qr_iconst 112 rfl rfl ?_
          exact hJ446 _ 0 σ400 α401 (qm_gk g393 (by decide) (Or.inl (by decide))) (qm_gk g394 (by decide) (Or.inl (by decide))) (qm_gk g395 (by decide) (Or.inl (by decide))) (qm_gk g396 (by decide) (Or.inl (by decide))) (qm_gk g397 (by decide) (Or.inl (by decide))) (qm_gk g398 (by decide) (Or.inr rfl)) (by omega) hI402 hF403 ((hk404).trans rfl) ((hk405).trans rfl)
        · skip
          refine qr_iload_n 64 rfl (qm_gk g394 (by decide) (Or.inl (by decide))) rfl ?_
          refine qr_iload 66 rfl (qm_gk g398 (by decide) (Or.inr rfl)) rfl ?_
          refine qr_isub 67 rfl rfl ?_
          refine qr_iload_n 68 rfl (qm_gk g395 (by decide) (Or.inl (by decide))) rfl ?_
          refine qr_bipush 70 rfl (by decide) rfl ?_
          refine qr_idivW 71 rfl (by omega) rfl ?_
          refine qy_can (fun v449 hv449 => ?_)
          refine qr_imul 72 rfl rfl ?_
          refine qy_can (fun v450 hv450 => ?_)
          refine qr_iload_n 73 rfl (qm_gk g395 (by decide) (Or.inl (by decide))) rfl ?_
          refine qr_bipush 75 rfl (by decide) rfl ?_
          refine qr_iremW 76 rfl (by omega) rfl ?_
          refine qy_can (fun v451 hv451 => ?_)
          refine qr_icmp_gt 111 79 rfl rfl rfl (by omega) (by omega) (fun h452 => ?_) (fun h452 => ?_)
          · skip
            refine qr_iconst 112 rfl rfl ?_
            exact hJ446 _ 0 σ400 α401 (qm_gk g393 (by decide) (Or.inl (by decide))) (qm_gk g394 (by decide) (Or.inl (by decide))) (qm_gk g395 (by decide) (Or.inl (by decide))) (qm_gk g396 (by decide) (Or.inl (by decide))) (qm_gk g397 (by decide) (Or.inl (by decide))) (qm_gk g398 (by decide) (Or.inr rfl)) (by omega) hI402 hF403 ((hk404).trans rfl) ((hk405).trans rfl)
          · skip
            refine qr_aload_n 80 rfl (qm_gk g393 (by decide) (Or.inl (by decide))) rfl ?_
            refine qr_iload 82 rfl (qm_gk g396 (by decide) (Or.inl (by decide))) rfl ?_
            refine qr_iload 84 rfl (qm_ge _ _ _) rfl ?_
            refine qr_iload 86 rfl (qm_gk g397 (by decide) (Or.inl (by decide))) rfl ?_
            refine qr_callN 89 rfl rfl rfl (sf_194_86 (d := d + 0) hI402 (by omega) (by omega) (by omega)) ?_
            rintro _ _ ⟨σ454, α455, rfl, hI456, hG457, v453, rfl, hv453⟩
            have hF458 : qFr [(86, 15), (86, 23), (86, 30)] [96] σ α σ454 α455 := qFr_t hF403 hG457 (by decide) (by decide)
            show qr_W (qe L xs vb) (d + 5) qx_e243 _ (89, _, [.int (qz v453)], qw σ454 α455 κ ρ, 0, 0)
            refine qr_bipush 91 rfl (by decide) rfl ?_
            refine qr_icmp_eq 111 94 rfl rfl rfl (by omega) (by omega) (fun h459 => ?_) (fun h459 => ?_)
            · skip
              refine qr_iconst 112 rfl rfl ?_
              exact hJ446 _ 0 σ454 α455 (qm_gk g393 (by decide) (Or.inl (by decide))) (qm_gk g394 (by decide) (Or.inl (by decide))) (qm_gk g395 (by decide) (Or.inl (by decide))) (qm_gk g396 (by decide) (Or.inl (by decide))) (qm_gk g397 (by decide) (Or.inl (by decide))) (qm_gk g398 (by decide) (Or.inr rfl)) (by omega) hI456 hF458 ((hG457.1 86 6 (by decide)).trans ((hk404).trans rfl)) ((hG457.1 86 43 (by decide)).trans ((hk405).trans rfl))
            · skip
              refine qr_aload_n 95 rfl (qm_gk g393 (by decide) (Or.inl (by decide))) rfl ?_
              refine qr_iload 97 rfl (qm_gk g396 (by decide) (Or.inl (by decide))) rfl ?_
              refine qr_iload 99 rfl (qm_ge _ _ _) rfl ?_
              refine qr_iload 101 rfl (qm_gk g397 (by decide) (Or.inl (by decide))) rfl ?_
              refine qr_callN 104 rfl rfl rfl (sf_208_86 (d := d + 1) hI456 (by omega) (by omega) (by omega) (by omega)) ?_
              rintro _ _ ⟨σ461, rfl, hI462, hG463, v460, rfl, hv460⟩
              have hF464 : qFr [(86, 15), (86, 23), (86, 30)] [96] σ α σ461 α455 := qFr_t hF458 hG463 (by decide) (by decide)
              show qr_W (qe L xs vb) (d + 5) qx_e243 _ (104, _, [.int (qz v460)], qw σ461 α455 κ ρ, 0, 0)
              refine qr_if_ne 111 107 rfl rfl rfl (by omega) (fun h465 => ?_) (fun h465 => ?_)
              · skip
                refine qr_iconst 112 rfl rfl ?_
                exact hJ446 _ 0 σ461 α455 (qm_gk g393 (by decide) (Or.inl (by decide))) (qm_gk g394 (by decide) (Or.inl (by decide))) (qm_gk g395 (by decide) (Or.inl (by decide))) (qm_gk g396 (by decide) (Or.inl (by decide))) (qm_gk g397 (by decide) (Or.inl (by decide))) (qm_gk g398 (by decide) (Or.inr rfl)) (by omega) hI462 hF464 ((hG463.1 86 6 (by decide)).trans ((hG457.1 86 6 (by decide)).trans ((hk404).trans rfl))) ((hG463.1 86 43 (by decide)).trans ((hG457.1 86 43 (by decide)).trans ((hk405).trans rfl)))
              · skip
                refine qr_iconst 108 rfl rfl ?_
                refine qr_goto 112 rfl rfl ?_
                exact hJ446 _ 1 σ461 α455 (qm_gk g393 (by decide) (Or.inl (by decide))) (qm_gk g394 (by decide) (Or.inl (by decide))) (qm_gk g395 (by decide) (Or.inl (by decide))) (qm_gk g396 (by decide) (Or.inl (by decide))) (qm_gk g397 (by decide) (Or.inl (by decide))) (qm_gk g398 (by decide) (Or.inr rfl)) (by omega) hI462 hF464 ((hG463.1 86 6 (by decide)).trans ((hG457.1 86 6 (by decide)).trans ((hk404).trans rfl))) ((hG463.1 86 43 (by decide)).trans ((hG457.1 86 43 (by decide)).trans ((hk405).trans rfl)))
  exact hL407 ((5 - 0 + 1 : Int)).toNat _ 0 σ α (by omega) rfl rfl rfl rfl rfl rfl (by omega) hI hF0 (rfl) (rfl)

set_option maxHeartbeats 4000000 in
set_option maxRecDepth 20000 in
/-- OneRoofModel.orders -/
theorem sf_242_86t6 {L : Nat} {xs : Nat → Int} {vb : Bool} {d : Nat} {σ α : Nat → Nat → Int} {κ : Nat → Option Nat} {ρ : Nat} {x2 : Int} {x3 : Int} {x4 : Int} (hI : qI σ α κ ρ) (r2 : (-2147483648) ≤ x2 ∧ x2 ≤ 2147483647) (r3 : (-2147483648) ≤ x3 ∧ x3 ≤ 2147483647) (r4 : 100 ≤ x4 ∧ x4 ≤ 2499) (p0 : 1 ≤ σ 86 6) (p1 : σ 86 43 ≤ 6) (p2 : 6 ≤ σ 86 43) : qm_T (qe L xs vb) (d + 1) 242 [.ref 86, .int (qz 6), .int (qz x2), .int (qz x3), .int (qz x4)] (qw σ α κ ρ) (fun r w' => ∃ σ' α', w' = qw σ' α' κ ρ ∧ qI σ' α' κ ρ ∧ qFr [(86, 15), (86, 23), (86, 30)] [96, 114] σ α σ' α' ∧ ∃ v : Int, r = some (.int (qz v)) ∧ (0 ≤ v ∧ v ≤ 1)) := by
  refine qr_start (d := d + 0) qv_e242 (Nat.le_of_ble_eq_true rfl) ?_
  show qr_W (qe L xs vb) (d + 0) qx_e242 _ (0, [(0, .ref 86), (1, .int (qz 6)), (2, .int (qz x2)), (3, .int (qz x3)), (4, .int (qz x4))], [], _, 0, 0)
  have hF0 := qFr_rf [(86, 15), (86, 23), (86, 30)] [96, 114] σ α
  have hz86_6 : 0 ≤ σ 86 6 ∧ σ 86 6 ≤ 32 := hI.1 86 6
  have hz86_43 : 0 ≤ σ 86 43 ∧ σ 86 43 ≤ 32 := hI.1 86 43
  refine qr_iload_n 1 rfl rfl rfl ?_
  refine qr_aload_n 2 rfl rfl rfl ?_
  refine qr_get 5 rfl rfl rfl (by decide) rfl ?_
  refine qr_icmp_ne 10 8 rfl rfl rfl (by omega) (by omega) (fun h => False.elim (by omega)) (fun h1 => ?_)
  refine qr_iconst 9 rfl rfl ?_
  refine qr_retZ rfl rfl (by omega) (by decide) (by decide) ?_
  exact ⟨_, _, rfl, hI, hF0, 1, rfl, by omega⟩

set_option maxHeartbeats 4000000 in
set_option maxRecDepth 20000 in
/-- OneRoofModel.orders -/
theorem sf_242_86t5 {L : Nat} {xs : Nat → Int} {vb : Bool} {d : Nat} {σ α : Nat → Nat → Int} {κ : Nat → Option Nat} {ρ : Nat} {x2 : Int} {x3 : Int} {x4 : Int} (hI : qI σ α κ ρ) (r2 : (-2147483648) ≤ x2 ∧ x2 ≤ 2147483647) (r3 : (-2147483648) ≤ x3 ∧ x3 ≤ 2147483647) (r4 : 100 ≤ x4 ∧ x4 ≤ 2499) (p0 : 1 ≤ σ 86 6) (p1 : σ 86 43 ≤ 6) (p2 : 5 ≤ σ 86 43) : qm_T (qe L xs vb) (d + 7) 242 [.ref 86, .int (qz 5), .int (qz x2), .int (qz x3), .int (qz x4)] (qw σ α κ ρ) (fun r w' => ∃ σ' α', w' = qw σ' α' κ ρ ∧ qI σ' α' κ ρ ∧ qFr [(86, 15), (86, 23), (86, 30)] [96, 114] σ α σ' α' ∧ ∃ v : Int, r = some (.int (qz v)) ∧ (0 ≤ v ∧ v ≤ 1)) := by
  refine qr_start (d := d + 6) qv_e242 (Nat.le_of_ble_eq_true rfl) ?_
  show qr_W (qe L xs vb) (d + 6) qx_e242 _ (0, [(0, .ref 86), (1, .int (qz 5)), (2, .int (qz x2)), (3, .int (qz x3)), (4, .int (qz x4))], [], _, 0, 0)
  have hF0 := qFr_rf [(86, 15), (86, 23), (86, 30)] [96, 114] σ α
  have hz86_6 : 0 ≤ σ 86 6 ∧ σ 86 6 ≤ 32 := hI.1 86 6
  have hz86_43 : 0 ≤ σ 86 43 ∧ σ 86 43 ≤ 32 := hI.1 86 43
  refine qr_iload_n 1 rfl rfl rfl ?_
  refine qr_aload_n 2 rfl rfl rfl ?_
  refine qr_get 5 rfl rfl rfl (by decide) rfl ?_
  refine qr_icmp_ne 10 8 rfl rfl rfl (by omega) (by omega) (fun h1 => ?_) (fun h1 => ?_)
  · skip
    refine qr_iconst 11 rfl rfl ?_
    refine qr_istore _ 13 rfl (by decide) rfl rfl ?_
    have hL224 : ∀ (n : Nat) (ls : qm_L) (u216 : Int) (σ217 α218 : Nat → Nat → Int), 6 - u216 < (n : Int) → qm_get ls 0 = some (.ref 86) → qm_get ls 1 = some (.int (qz 5)) → qm_get ls 2 = some (.int (qz x2)) → qm_get ls 3 = some (.int (qz x3)) → qm_get ls 4 = some (.int (qz x4)) → qm_get ls 5 = some (.int (qz u216)) → (0 ≤ u216 ∧ u216 ≤ 6) → qI σ217 α218 κ ρ → qFr [(86, 15), (86, 23), (86, 30)] [96, 114] σ α σ217 α218 → σ217 86 6 = (σ 86 6) → σ217 86 43 = (σ 86 43) → qr_W (qe L xs vb) (d + 6) qx_e242 (fun r w' => ∃ σ' α', w' = qw σ' α' κ ρ ∧ qI σ' α' κ ρ ∧ qFr [(86, 15), (86, 23), (86, 30)] [96, 114] σ α σ' α' ∧ ∃ v : Int, r = some (.int (qz v)) ∧ (0 ≤ v ∧ v ≤ 1)) (13, ls, [], qw σ217 α218 κ ρ, 0, 0) := by
      intro n
      induction n with
      | zero => intro ls u216 σ217 α218 hm g210 g211 g212 g213 g214 g215 hf223 hI219 hF220 hk221 hk222; exact False.elim (by omega)
      | succ n ih225 =>
        intro ls u216 σ217 α218 hm g210 g211 g212 g213 g214 g215 hf223 hI219 hF220 hk221 hk222
        refine qr_iload 15 rfl g215 rfl ?_
        refine qr_aload_n 16 rfl g210 rfl ?_
        refine qr_get 19 rfl rfl rfl (by decide) rfl ?_
        refine qy_v (σ 86 43) ((hk222).trans rfl) ?_
        refine qr_icmp_ge 81 22 rfl rfl rfl (by omega) (by omega) (fun h226 => ?_) (fun h226 => ?_)
        · skip
          refine qr_iconst 82 rfl rfl ?_
          refine qr_retZ rfl rfl (by omega) (by decide) (by decide) ?_
          exact ⟨_, _, rfl, hI219, hF220, 0, rfl, by omega⟩
        · skip
          refine qr_iload_n 23 rfl g212 rfl ?_
          refine qr_iload 25 rfl g215 rfl ?_
          refine qr_ishr 26 rfl rfl ?_
          refine qy_can (fun v227 hv227 => ?_)
          refine qr_iconst 27 rfl rfl ?_
          refine qr_iand 28 rfl rfl ?_
          refine qy_andr (by omega) (fun v228 hv228 => ?_)
          refine qr_iconst 29 rfl rfl ?_
          refine qr_icmp_ne 35 32 rfl rfl rfl (by omega) (by omega) (fun h229 => ?_) (fun h229 => ?_)
          · skip
            refine qr_aload_n 36 rfl g210 rfl ?_
            refine qr_get 39 rfl rfl rfl (by decide) rfl ?_
            refine qr_iload_n 40 rfl g211 rfl ?_
            refine qr_iload 42 rfl g215 rfl ?_
            refine qr_iastore 43 rfl (by decide) rfl (by omega) (by decide) rfl ?_
            refine qy_wA (qw_r α218 114 (qzu (α218 114) (5 : Int).toNat u216)) rfl (fun α230 e231 => ?_)
            have hI232 : qI σ217 α230 κ ρ := by rw [e231]; exact qI_r hI219 114 _ rfl (show 0 ≤ u216 ∧ u216 ≤ 5 by omega)
            have hF233 : qFr [(86, 15), (86, 23), (86, 30)] [96, 114] σ α σ217 α230 := by rw [e231]; exact qFr_r hF220 114 _ (by decide)
            refine qr_aload_n 44 rfl g210 rfl ?_
            refine qr_iload_n 45 rfl g211 rfl ?_
            refine qr_iload_n 46 rfl g213 rfl ?_
            refine qr_iload 48 rfl g214 rfl ?_
            refine qr_callN 51 rfl rfl rfl (sf_243_86 (d := d + 0) hI232 (by omega) (by omega) (by omega) (by omega) (by omega)) ?_
            rintro _ _ ⟨σ235, α236, rfl, hI237, hG238, v234, rfl, hv234⟩
            have hF239 : qFr [(86, 15), (86, 23), (86, 30)] [96, 114] σ α σ235 α236 := qFr_t hF233 hG238 (by decide) (by decide)
            show qr_W (qe L xs vb) (d + 6) qx_e242 _ (51, _, [.int (qz v234)], qw σ235 α236 κ ρ, 0, 0)
            refine qr_if_ne 75 54 rfl rfl rfl (by omega) (fun h240 => ?_) (fun h240 => ?_)
            · skip
              refine qr_iinc _ 78 rfl g215 (by decide) rfl rfl ?_
              refine qr_goto 13 rfl rfl ?_
              exact ih225 _ (u216 + 1) σ235 α236 (by omega) (qm_gk g210 (by decide) (Or.inl (by decide))) (qm_gk g211 (by decide) (Or.inl (by decide))) (qm_gk g212 (by decide) (Or.inl (by decide))) (qm_gk g213 (by decide) (Or.inl (by decide))) (qm_gk g214 (by decide) (Or.inr rfl)) (qm_ge _ _ _) (by omega) hI237 hF239 ((hG238.1 86 6 (by decide)).trans ((hk221).trans rfl)) ((hG238.1 86 43 (by decide)).trans ((hk222).trans rfl))
            · skip
              refine qr_aload_n 55 rfl g210 rfl ?_
              refine qr_iload_n 56 rfl g211 rfl ?_
              refine qr_iconst 57 rfl rfl ?_
              refine qr_iadd 58 rfl rfl ?_
              refine qy_v 6 rfl ?_
              refine qr_iload_n 59 rfl g212 rfl ?_
              refine qr_iconst 60 rfl rfl ?_
              refine qr_iload 62 rfl g215 rfl ?_
              refine qr_ishl 63 rfl rfl ?_
              refine qy_shl1 (N := 5) (by omega) (fun v241 hv241 => ?_)
              refine qr_ior 64 rfl rfl ?_
              refine qy_can (fun v242 hv242 => ?_)
              refine qr_iload_n 65 rfl g213 rfl ?_
              refine qr_iload 67 rfl g214 rfl ?_
              refine qr_callN 70 rfl rfl rfl (sf_242_86t6 (d := d + 5) hI237 (by omega) (by omega) (by omega) (by omega) (by omega) (by omega)) ?_
              rintro _ _ ⟨σ244, α245, rfl, hI246, hG247, v243, rfl, hv243⟩
              have hF248 : qFr [(86, 15), (86, 23), (86, 30)] [96, 114] σ α σ244 α245 := qFr_t hF239 hG247 (by decide) (by decide)
              show qr_W (qe L xs vb) (d + 6) qx_e242 _ (70, _, [.int (qz v243)], qw σ244 α245 κ ρ, 0, 0)
              refine qr_if_eq 75 73 rfl rfl rfl (by omega) (fun h249 => ?_) (fun h249 => ?_)
              · skip
                refine qr_iinc _ 78 rfl g215 (by decide) rfl rfl ?_
                refine qr_goto 13 rfl rfl ?_
                exact ih225 _ (u216 + 1) σ244 α245 (by omega) (qm_gk g210 (by decide) (Or.inl (by decide))) (qm_gk g211 (by decide) (Or.inl (by decide))) (qm_gk g212 (by decide) (Or.inl (by decide))) (qm_gk g213 (by decide) (Or.inl (by decide))) (qm_gk g214 (by decide) (Or.inr rfl)) (qm_ge _ _ _) (by omega) hI246 hF248 ((hG247.1 86 6 (by decide)).trans ((hG238.1 86 6 (by decide)).trans ((hk221).trans rfl))) ((hG247.1 86 43 (by decide)).trans ((hG238.1 86 43 (by decide)).trans ((hk222).trans rfl)))
              · skip
                refine qr_iconst 74 rfl rfl ?_
                refine qr_retZ rfl rfl (by omega) (by decide) (by decide) ?_
                exact ⟨_, _, rfl, hI246, hF248, 1, rfl, by omega⟩
          · skip
            refine qr_goto 75 rfl rfl ?_
            refine qr_iinc _ 78 rfl g215 (by decide) rfl rfl ?_
            refine qr_goto 13 rfl rfl ?_
            exact ih225 _ (u216 + 1) σ217 α218 (by omega) (qm_gk g210 (by decide) (Or.inl (by decide))) (qm_gk g211 (by decide) (Or.inl (by decide))) (qm_gk g212 (by decide) (Or.inl (by decide))) (qm_gk g213 (by decide) (Or.inl (by decide))) (qm_gk g214 (by decide) (Or.inr rfl)) (qm_ge _ _ _) (by omega) hI219 hF220 ((hk221).trans rfl) ((hk222).trans rfl)
    exact hL224 ((6 - 0 + 1 : Int)).toNat _ 0 σ α (by omega) rfl rfl rfl rfl rfl rfl (by omega) hI hF0 (rfl) (rfl)
  · skip
    refine qr_iconst 9 rfl rfl ?_
    refine qr_retZ rfl rfl (by omega) (by decide) (by decide) ?_
    exact ⟨_, _, rfl, hI, hF0, 1, rfl, by omega⟩

set_option maxHeartbeats 4000000 in
set_option maxRecDepth 20000 in
/-- OneRoofModel.orders -/
theorem sf_242_86t4 {L : Nat} {xs : Nat → Int} {vb : Bool} {d : Nat} {σ α : Nat → Nat → Int} {κ : Nat → Option Nat} {ρ : Nat} {x2 : Int} {x3 : Int} {x4 : Int} (hI : qI σ α κ ρ) (r2 : (-2147483648) ≤ x2 ∧ x2 ≤ 2147483647) (r3 : (-2147483648) ≤ x3 ∧ x3 ≤ 2147483647) (r4 : 100 ≤ x4 ∧ x4 ≤ 2499) (p0 : 1 ≤ σ 86 6) (p1 : σ 86 43 ≤ 6) (p2 : 4 ≤ σ 86 43) : qm_T (qe L xs vb) (d + 8) 242 [.ref 86, .int (qz 4), .int (qz x2), .int (qz x3), .int (qz x4)] (qw σ α κ ρ) (fun r w' => ∃ σ' α', w' = qw σ' α' κ ρ ∧ qI σ' α' κ ρ ∧ qFr [(86, 15), (86, 23), (86, 30)] [96, 114] σ α σ' α' ∧ ∃ v : Int, r = some (.int (qz v)) ∧ (0 ≤ v ∧ v ≤ 1)) := by
  refine qr_start (d := d + 7) qv_e242 (Nat.le_of_ble_eq_true rfl) ?_
  show qr_W (qe L xs vb) (d + 7) qx_e242 _ (0, [(0, .ref 86), (1, .int (qz 4)), (2, .int (qz x2)), (3, .int (qz x3)), (4, .int (qz x4))], [], _, 0, 0)
  have hF0 := qFr_rf [(86, 15), (86, 23), (86, 30)] [96, 114] σ α
  have hz86_6 : 0 ≤ σ 86 6 ∧ σ 86 6 ≤ 32 := hI.1 86 6
  have hz86_43 : 0 ≤ σ 86 43 ∧ σ 86 43 ≤ 32 := hI.1 86 43
  refine qr_iload_n 1 rfl rfl rfl ?_
  refine qr_aload_n 2 rfl rfl rfl ?_
  refine qr_get 5 rfl rfl rfl (by decide) rfl ?_
  refine qr_icmp_ne 10 8 rfl rfl rfl (by omega) (by omega) (fun h1 => ?_) (fun h1 => ?_)
  · skip
    refine qr_iconst 11 rfl rfl ?_
    refine qr_istore _ 13 rfl (by decide) rfl rfl ?_
    have hL224 : ∀ (n : Nat) (ls : qm_L) (u216 : Int) (σ217 α218 : Nat → Nat → Int), 6 - u216 < (n : Int) → qm_get ls 0 = some (.ref 86) → qm_get ls 1 = some (.int (qz 4)) → qm_get ls 2 = some (.int (qz x2)) → qm_get ls 3 = some (.int (qz x3)) → qm_get ls 4 = some (.int (qz x4)) → qm_get ls 5 = some (.int (qz u216)) → (0 ≤ u216 ∧ u216 ≤ 6) → qI σ217 α218 κ ρ → qFr [(86, 15), (86, 23), (86, 30)] [96, 114] σ α σ217 α218 → σ217 86 6 = (σ 86 6) → σ217 86 43 = (σ 86 43) → qr_W (qe L xs vb) (d + 7) qx_e242 (fun r w' => ∃ σ' α', w' = qw σ' α' κ ρ ∧ qI σ' α' κ ρ ∧ qFr [(86, 15), (86, 23), (86, 30)] [96, 114] σ α σ' α' ∧ ∃ v : Int, r = some (.int (qz v)) ∧ (0 ≤ v ∧ v ≤ 1)) (13, ls, [], qw σ217 α218 κ ρ, 0, 0) := by
      intro n
      induction n with
      | zero => intro ls u216 σ217 α218 hm g210 g211 g212 g213 g214 g215 hf223 hI219 hF220 hk221 hk222; exact False.elim (by omega)
      | succ n ih225 =>
        intro ls u216 σ217 α218 hm g210 g211 g212 g213 g214 g215 hf223 hI219 hF220 hk221 hk222
        refine qr_iload 15 rfl g215 rfl ?_
        refine qr_aload_n 16 rfl g210 rfl ?_
        refine qr_get 19 rfl rfl rfl (by decide) rfl ?_
        refine qy_v (σ 86 43) ((hk222).trans rfl) ?_
        refine qr_icmp_ge 81 22 rfl rfl rfl (by omega) (by omega) (fun h226 => ?_) (fun h226 => ?_)
        · skip
          refine qr_iconst 82 rfl rfl ?_
          refine qr_retZ rfl rfl (by omega) (by decide) (by decide) ?_
          exact ⟨_, _, rfl, hI219, hF220, 0, rfl, by omega⟩
        · skip
          refine qr_iload_n 23 rfl g212 rfl ?_
          refine qr_iload 25 rfl g215 rfl ?_
          refine qr_ishr 26 rfl rfl ?_
          refine qy_can (fun v227 hv227 => ?_)
          refine qr_iconst 27 rfl rfl ?_
          refine qr_iand 28 rfl rfl ?_
          refine qy_andr (by omega) (fun v228 hv228 => ?_)
          refine qr_iconst 29 rfl rfl ?_
          refine qr_icmp_ne 35 32 rfl rfl rfl (by omega) (by omega) (fun h229 => ?_) (fun h229 => ?_)
          · skip
            refine qr_aload_n 36 rfl g210 rfl ?_
            refine qr_get 39 rfl rfl rfl (by decide) rfl ?_
            refine qr_iload_n 40 rfl g211 rfl ?_
            refine qr_iload 42 rfl g215 rfl ?_
            refine qr_iastore 43 rfl (by decide) rfl (by omega) (by decide) rfl ?_
            refine qy_wA (qw_r α218 114 (qzu (α218 114) (4 : Int).toNat u216)) rfl (fun α230 e231 => ?_)
            have hI232 : qI σ217 α230 κ ρ := by rw [e231]; exact qI_r hI219 114 _ rfl (show 0 ≤ u216 ∧ u216 ≤ 5 by omega)
            have hF233 : qFr [(86, 15), (86, 23), (86, 30)] [96, 114] σ α σ217 α230 := by rw [e231]; exact qFr_r hF220 114 _ (by decide)
            refine qr_aload_n 44 rfl g210 rfl ?_
            refine qr_iload_n 45 rfl g211 rfl ?_
            refine qr_iload_n 46 rfl g213 rfl ?_
            refine qr_iload 48 rfl g214 rfl ?_
            refine qr_callN 51 rfl rfl rfl (sf_243_86 (d := d + 1) hI232 (by omega) (by omega) (by omega) (by omega) (by omega)) ?_
            rintro _ _ ⟨σ235, α236, rfl, hI237, hG238, v234, rfl, hv234⟩
            have hF239 : qFr [(86, 15), (86, 23), (86, 30)] [96, 114] σ α σ235 α236 := qFr_t hF233 hG238 (by decide) (by decide)
            show qr_W (qe L xs vb) (d + 7) qx_e242 _ (51, _, [.int (qz v234)], qw σ235 α236 κ ρ, 0, 0)
            refine qr_if_ne 75 54 rfl rfl rfl (by omega) (fun h240 => ?_) (fun h240 => ?_)
            · skip
              refine qr_iinc _ 78 rfl g215 (by decide) rfl rfl ?_
              refine qr_goto 13 rfl rfl ?_
              exact ih225 _ (u216 + 1) σ235 α236 (by omega) (qm_gk g210 (by decide) (Or.inl (by decide))) (qm_gk g211 (by decide) (Or.inl (by decide))) (qm_gk g212 (by decide) (Or.inl (by decide))) (qm_gk g213 (by decide) (Or.inl (by decide))) (qm_gk g214 (by decide) (Or.inr rfl)) (qm_ge _ _ _) (by omega) hI237 hF239 ((hG238.1 86 6 (by decide)).trans ((hk221).trans rfl)) ((hG238.1 86 43 (by decide)).trans ((hk222).trans rfl))
            · skip
              refine qr_aload_n 55 rfl g210 rfl ?_
              refine qr_iload_n 56 rfl g211 rfl ?_
              refine qr_iconst 57 rfl rfl ?_
              refine qr_iadd 58 rfl rfl ?_
              refine qy_v 5 rfl ?_
              refine qr_iload_n 59 rfl g212 rfl ?_
              refine qr_iconst 60 rfl rfl ?_
              refine qr_iload 62 rfl g215 rfl ?_
              refine qr_ishl 63 rfl rfl ?_
              refine qy_shl1 (N := 5) (by omega) (fun v241 hv241 => ?_)
              refine qr_ior 64 rfl rfl ?_
              refine qy_can (fun v242 hv242 => ?_)
              refine qr_iload_n 65 rfl g213 rfl ?_
              refine qr_iload 67 rfl g214 rfl ?_
              refine qr_callN 70 rfl rfl rfl (sf_242_86t5 (d := d + 0) hI237 (by omega) (by omega) (by omega) (by omega) (by omega) (by omega)) ?_
              rintro _ _ ⟨σ244, α245, rfl, hI246, hG247, v243, rfl, hv243⟩
              have hF248 : qFr [(86, 15), (86, 23), (86, 30)] [96, 114] σ α σ244 α245 := qFr_t hF239 hG247 (by decide) (by decide)
              show qr_W (qe L xs vb) (d + 7) qx_e242 _ (70, _, [.int (qz v243)], qw σ244 α245 κ ρ, 0, 0)
              refine qr_if_eq 75 73 rfl rfl rfl (by omega) (fun h249 => ?_) (fun h249 => ?_)
              · skip
                refine qr_iinc _ 78 rfl g215 (by decide) rfl rfl ?_
                refine qr_goto 13 rfl rfl ?_
                exact ih225 _ (u216 + 1) σ244 α245 (by omega) (qm_gk g210 (by decide) (Or.inl (by decide))) (qm_gk g211 (by decide) (Or.inl (by decide))) (qm_gk g212 (by decide) (Or.inl (by decide))) (qm_gk g213 (by decide) (Or.inl (by decide))) (qm_gk g214 (by decide) (Or.inr rfl)) (qm_ge _ _ _) (by omega) hI246 hF248 ((hG247.1 86 6 (by decide)).trans ((hG238.1 86 6 (by decide)).trans ((hk221).trans rfl))) ((hG247.1 86 43 (by decide)).trans ((hG238.1 86 43 (by decide)).trans ((hk222).trans rfl)))
              · skip
                refine qr_iconst 74 rfl rfl ?_
                refine qr_retZ rfl rfl (by omega) (by decide) (by decide) ?_
                exact ⟨_, _, rfl, hI246, hF248, 1, rfl, by omega⟩
          · skip
            refine qr_goto 75 rfl rfl ?_
            refine qr_iinc _ 78 rfl g215 (by decide) rfl rfl ?_
            refine qr_goto 13 rfl rfl ?_
            exact ih225 _ (u216 + 1) σ217 α218 (by omega) (qm_gk g210 (by decide) (Or.inl (by decide))) (qm_gk g211 (by decide) (Or.inl (by decide))) (qm_gk g212 (by decide) (Or.inl (by decide))) (qm_gk g213 (by decide) (Or.inl (by decide))) (qm_gk g214 (by decide) (Or.inr rfl)) (qm_ge _ _ _) (by omega) hI219 hF220 ((hk221).trans rfl) ((hk222).trans rfl)
    exact hL224 ((6 - 0 + 1 : Int)).toNat _ 0 σ α (by omega) rfl rfl rfl rfl rfl rfl (by omega) hI hF0 (rfl) (rfl)
  · skip
    refine qr_iconst 9 rfl rfl ?_
    refine qr_retZ rfl rfl (by omega) (by decide) (by decide) ?_
    exact ⟨_, _, rfl, hI, hF0, 1, rfl, by omega⟩

