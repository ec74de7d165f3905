set_option maxHeartbeats 4000000 in
set_option maxRecDepth 20000 in
/-- OneRoofModel.has -/
theorem sf_226x {L : Nat} {xs : Nat → Int} {vb : Bool} {d : Nat} {σ α : Nat → Nat → Int} {κ : Nat → Option Nat} {ρ : Nat} {x0 : Int} {x1 : Int} (hI : qI σ α κ ρ) (r0 : (-9223372036854775808) ≤ x0 ∧ x0 ≤ 9223372036854775807) (r1 : 0 ≤ x1 ∧ x1 ≤ 31) : qm_T (qe L xs vb) (d + 1) 226 [.long (ql x0), .int (qz x1)] (qw σ α κ ρ) (fun r w' => w' = qw σ α κ ρ ∧ ∃ v : Int, r = some (.int (qz v)) ∧ (0 ≤ v ∧ v ≤ 1) ∧ v = qbit x0 x1) := by
  refine qr_start (d := d + 0) qv_e226 (Nat.le_of_ble_eq_true rfl) ?_
  show qr_W (qe L xs vb) (d + 0) qx_e226 _ (0, [(0, .long (ql x0)), (2, .int (qz x1))], [], _, 0, 0)
  refine qr_lload_n 1 rfl rfl rfl ?_
  refine qr_iload_n 2 rfl rfl rfl ?_
  refine qr_lshr 3 rfl rfl ?_
  refine qy_canlE (fun v1 hv1 hev1 => ?_)
  refine qr_lconst 4 rfl rfl ?_
  refine qy_vl 1 rfl ?_
  refine qr_land 5 rfl rfl ?_
  refine qy_canlE (fun v2 hv2 hev2 => ?_)
  refine qr_lconst 6 rfl rfl ?_
  refine qy_vl 1 rfl ?_
  refine qr_lc_ne 14 10 rfl rfl rfl rfl (by omega) (by omega) (fun h3 => ?_) (fun h3 => ?_)
  · skip
    refine qr_iconst 15 rfl rfl ?_
    refine qr_retZ rfl rfl (by omega) (by decide) (by decide) ?_
    exact ⟨rfl, 0, rfl, by omega, (by have hq0 := qbit_inS (t := x0) (i := x1) (by omega) (by omega) hev1 hev2; omega)⟩
  · skip
    refine qr_iconst 11 rfl rfl ?_
    refine qr_goto 15 rfl rfl ?_
    refine qr_retZ rfl rfl (by omega) (by decide) (by decide) ?_
    exact ⟨rfl, 1, rfl, by omega, (by have hq0 := qbit_inS (t := x0) (i := x1) (by omega) (by omega) hev1 hev2; omega)⟩

set_option maxHeartbeats 4000000 in
set_option maxRecDepth 20000 in
/-- OneRoofModel.mustNow -/
theorem sf_227_86x {L : Nat} {xs : Nat → Int} {vb : Bool} {d : Nat} {σ α : Nat → Nat → Int} {κ : Nat → Option Nat} {ρ : Nat} {x1 : Int} {x2 : Int} {x3 : Int} {x4 : Int} {g : (Nat → Int) → Int} (hI : qI σ α κ ρ) (r1 : 0 ≤ x1 ∧ x1 ≤ 31) (r2 : 0 ≤ x2 ∧ x2 ≤ 31) (r3 : (-9223372036854775808) ≤ x3 ∧ x3 ≤ 9223372036854775807) (r4 : (-2147483648) ≤ x4 ∧ x4 ≤ 2147483647) (p0 : ¬ x1 = x2) (p1 : qPG σ α 0 g) (p2 : qZf σ α) (p3 : qZk σ α) (p4 : x1 < σ 86 6 ∧ x2 < σ 86 6) : qm_T (qe L xs vb) (d + 47) 227 [.ref 86, .int (qz x1), .int (qz x2), .long (ql x3), .int (qz x4)] (qw σ α κ ρ) (fun r w' => ∃ σ' α', w' = qw σ' α' κ ρ ∧ qI σ' α' κ ρ ∧ qFr [(86, 15), (86, 23), (86, 30), (86, 35), (86, 36), (86, 37), (86, 38), (86, 39)] [96, 109] σ α σ' α' ∧ ∃ v : Int, r = some (.int (qz v)) ∧ ((-2147483648) ≤ v ∧ v ≤ 2147483647) ∧ v = g (qNVr σ α (σ 86 29) (σ 86 10) x1 x2 (-1) x3 x4)) := by
  refine qr_start (d := d + 46) qv_e227 (Nat.le_of_ble_eq_true rfl) ?_
  show qr_W (qe L xs vb) (d + 46) qx_e227 _ (0, [(0, .ref 86), (1, .int (qz x1)), (2, .int (qz x2)), (3, .long (ql x3)), (5, .int (qz x4))], [], _, 0, 0)
  have hF0 := qFr_rf [(86, 15), (86, 23), (86, 30), (86, 35), (86, 36), (86, 37), (86, 38), (86, 39)] [96, 109] σ α
  have hz86_6 : 0 ≤ σ 86 6 ∧ σ 86 6 ≤ 32 := hI.1 86 6
  have hz86_10 : (-9223372036854775808) ≤ σ 86 10 ∧ σ 86 10 ≤ 9223372036854775807 := hI.1 86 10
  have hz86_11 : 0 ≤ σ 86 11 ∧ σ 86 11 ≤ 61 := hI.1 86 11
  have hz86_16 : 0 ≤ σ 86 16 ∧ σ 86 16 ≤ 40 := hI.1 86 16
  have hz86_22 : (-9223372036854775808) ≤ σ 86 22 ∧ σ 86 22 ≤ 9223372036854775807 := hI.1 86 22
  have hz86_24 : 0 ≤ σ 86 24 ∧ σ 86 24 ≤ 60 := hI.1 86 24
  have hz86_29 : (-9223372036854775808) ≤ σ 86 29 ∧ σ 86 29 ≤ 9223372036854775807 := hI.1 86 29
  have hz86_41 : 0 ≤ σ 86 41 ∧ σ 86 41 ≤ 1 := hI.1 86 41
  refine qr_aload_n 1 rfl rfl rfl ?_
  refine qr_iconst 2 rfl rfl ?_
  refine qr_iload_n 3 rfl rfl rfl ?_
  refine qr_iload_n 4 rfl rfl rfl ?_
  refine qr_iconst 5 rfl rfl ?_
  refine qr_lload_n 6 rfl rfl rfl ?_
  refine qr_iload 8 rfl rfl rfl ?_
  have hs1 : 0 ≤ σ 86 6 ∧ σ 86 6 ≤ 32 := hI.1 86 6
  refine qr_callN 11 rfl rfl rfl (sf_228_86x (d := d + 0) hI (by omega) (by omega) (by omega) (by omega) (by omega) (by omega) (by omega) (qPG_fr hF0 (by decide) (by decide) p1) (qZf_fr hF0 (by decide) (by decide) p2) (qZk_fr hF0 (by decide) (by decide) p3) (by omega)) ?_
  rintro _ _ ⟨σ4, α5, rfl, hI6, hG7, v2, rfl, hv2, hx3⟩
  have hF8 : qFr [(86, 15), (86, 23), (86, 30), (86, 35), (86, 36), (86, 37), (86, 38), (86, 39)] [96, 109] σ α σ4 α5 := qFr_t hF0 hG7 (by decide) (by decide)
  show qr_W (qe L xs vb) (d + 46) qx_e227 _ (11, _, [.int (qz v2)], qw σ4 α5 κ ρ, 0, 0)
  refine qr_retI rfl rfl (by decide) (by decide) ?_
  exact ⟨_, _, rfl, hI6, hF8, v2, rfl, by omega, hx3⟩

set_option maxHeartbeats 4000000 in
set_option maxRecDepth 20000 in
/-- OneRoofModel.mustHelp -/
theorem sf_249_86x {L : Nat} {xs : Nat → Int} {vb : Bool} {d : Nat} {σ α : Nat → Nat → Int} {κ : Nat → Option Nat} {ρ : Nat} {x1 : Int} {x2 : Int} {x3 : Int} {x4 : Int} {g : (Nat → Int) → Int} (hI : qI σ α κ ρ) (r1 : 0 ≤ x1 ∧ x1 ≤ 31) (r2 : 0 ≤ x2 ∧ x2 ≤ 31) (r3 : (-9223372036854775808) ≤ x3 ∧ x3 ≤ 9223372036854775807) (r4 : (-2147483648) ≤ x4 ∧ x4 ≤ 2147483647) (p0 : ¬ x1 = x2) (p1 : qPG σ α 1 g) (p2 : qZf σ α) (p3 : qZk σ α) (p4 : x1 < σ 86 6 ∧ x2 < σ 86 6) (p5 : ∀ i : Nat, (i : Int) < σ 86 50 → α 116 i < σ 86 6) : qm_T (qe L xs vb) (d + 47) 249 [.ref 86, .int (qz x1), .int (qz x2), .long (ql x3), .int (qz x4)] (qw σ α κ ρ) (fun r w' => ∃ σ' α', w' = qw σ' α' κ ρ ∧ qI σ' α' κ ρ ∧ qFr [(86, 15), (86, 23), (86, 30), (86, 35), (86, 36), (86, 37), (86, 38), (86, 39)] [96, 109] σ α σ' α' ∧ ∃ v : Int, r = some (.int (qz v)) ∧ (0 ≤ v ∧ v ≤ 1) ∧ ((v = 1 ∧ ∃ i : Nat, (i : Int) < σ 86 50 ∧ (fun i : Nat => α 115 i = x2 ∧ ¬ g (qNVr σ α (σ 86 29) (σ 86 10) x1 x2 (α 116 i) x3 x4) = 0) i) ∨ (v = 0 ∧ ∀ i : Nat, (i : Int) < σ 86 50 → ¬ (fun i : Nat => α 115 i = x2 ∧ ¬ g (qNVr σ α (σ 86 29) (σ 86 10) x1 x2 (α 116 i) x3 x4) = 0) i))) := by
  refine qr_start (d := d + 46) qv_e249 (Nat.le_of_ble_eq_true rfl) ?_
  show qr_W (qe L xs vb) (d + 46) qx_e249 _ (0, [(0, .ref 86), (1, .int (qz x1)), (2, .int (qz x2)), (3, .long (ql x3)), (5, .int (qz x4))], [], _, 0, 0)
  have hF0 := qFr_rf [(86, 15), (86, 23), (86, 30), (86, 35), (86, 36), (86, 37), (86, 38), (86, 39)] [96, 109] σ α
  have hz86_6 : 0 ≤ σ 86 6 ∧ σ 86 6 ≤ 32 := hI.1 86 6
  have hz86_50 : 0 ≤ σ 86 50 ∧ σ 86 50 ≤ 31 := hI.1 86 50
  have hz86_10 : (-9223372036854775808) ≤ σ 86 10 ∧ σ 86 10 ≤ 9223372036854775807 := hI.1 86 10
  have hz86_11 : 0 ≤ σ 86 11 ∧ σ 86 11 ≤ 61 := hI.1 86 11
  have hz86_16 : 0 ≤ σ 86 16 ∧ σ 86 16 ≤ 40 := hI.1 86 16
  have hz86_22 : (-9223372036854775808) ≤ σ 86 22 ∧ σ 86 22 ≤ 9223372036854775807 := hI.1 86 22
  have hz86_24 : 0 ≤ σ 86 24 ∧ σ 86 24 ≤ 60 := hI.1 86 24
  have hz86_29 : (-9223372036854775808) ≤ σ 86 29 ∧ σ 86 29 ≤ 9223372036854775807 := hI.1 86 29
  have hz86_41 : 0 ≤ σ 86 41 ∧ σ 86 41 ≤ 1 := hI.1 86 41
  refine qr_iconst 1 rfl rfl ?_
  refine qr_istore _ 3 rfl (by decide) rfl rfl ?_
  have hL417 : ∀ (n : Nat) (ls : qm_L) (u399 : Int) (σ400 α401 : Nat → Nat → Int), 31 - u399 < (n : Int) → qm_get ls 0 = some (.ref 86) → qm_get ls 1 = some (.int (qz x1)) → qm_get ls 2 = some (.int (qz x2)) → qm_get ls 3 = some (.long (ql x3)) → qm_get ls 5 = some (.int (qz x4)) → qm_get ls 6 = some (.int (qz u399)) → (0 ≤ u399 ∧ u399 ≤ 31) → qI σ400 α401 κ ρ → qFr [(86, 15), (86, 23), (86, 30), (86, 35), (86, 36), (86, 37), (86, 38), (86, 39)] [96, 109] σ α σ400 α401 → σ400 86 6 = (σ 86 6) → σ400 86 10 = (σ 86 10) → σ400 86 11 = (σ 86 11) → σ400 86 16 = (σ 86 16) → σ400 86 22 = (σ 86 22) → σ400 86 24 = (σ 86 24) → σ400 86 29 = (σ 86 29) → σ400 86 41 = (σ 86 41) → σ400 86 50 = (σ 86 50) → α401 115 = (α 115) → α401 116 = (α 116) → (∀ i : Nat, (i : Int) < u399 → ¬ (fun i : Nat => α 115 i = x2 ∧ ¬ g (qNVr σ α (σ 86 29) (σ 86 10) x1 x2 (α 116 i) x3 x4) = 0) i) → qr_W (qe L xs vb) (d + 46) qx_e249 (fun r w' => ∃ σ' α', w' = qw σ' α' κ ρ ∧ qI σ' α' κ ρ ∧ qFr [(86, 15), (86, 23), (86, 30), (86, 35), (86, 36), (86, 37), (86, 38), (86, 39)] [96, 109] σ α σ' α' ∧ ∃ v : Int, r = some (.int (qz v)) ∧ (0 ≤ v ∧ v ≤ 1) ∧ ((v = 1 ∧ ∃ i : Nat, (i : Int) < σ 86 50 ∧ (fun i : Nat => α 115 i = x2 ∧ ¬ g (qNVr σ α (σ 86 29) (σ 86 10) x1 x2 (α 116 i) x3 x4) = 0) i) ∨ (v = 0 ∧ ∀ i : Nat, (i : Int) < σ 86 50 → ¬ (fun i : Nat => α 115 i = x2 ∧ ¬ g (qNVr σ α (σ 86 29) (σ 86 10) x1 x2 (α 116 i) x3 x4) = 0) i))) (3, ls, [], qw σ400 α401 κ ρ, 0, 0) := by
    intro n
    induction n with
    | zero => intro ls u399 σ400 α401 hm g393 g394 g395 g396 g397 g398 hf415 hI402 hF403 hk404 hk405 hk406 hk407 hk408 hk409 hk410 hk411 hk412 hk413 hk414 hx416; exact False.elim (by omega)
    | succ n ih418 =>
      intro ls u399 σ400 α401 hm g393 g394 g395 g396 g397 g398 hf415 hI402 hF403 hk404 hk405 hk406 hk407 hk408 hk409 hk410 hk411 hk412 hk413 hk414 hx416
      refine qr_iload 5 rfl g398 rfl ?_
      refine qr_aload_n 6 rfl g393 rfl ?_
      refine qr_get 9 rfl rfl rfl (by decide) rfl ?_
      refine qy_v (σ 86 50) ((hk412).trans rfl) ?_
      refine qr_icmp_ge 51 12 rfl rfl rfl (by omega) (by omega) (fun h419 => ?_) (fun h419 => ?_)
      · skip
        refine qr_iconst 52 rfl rfl ?_
        refine qr_retZ rfl rfl (by omega) (by decide) (by decide) ?_
        exact ⟨_, _, rfl, hI402, hF403, 0, rfl, by omega, (Or.inr ⟨rfl, fun i hi => hx416 i (by omega)⟩)⟩
      · skip
        refine qr_aload_n 13 rfl g393 rfl ?_
        refine qr_get 16 rfl rfl rfl (by decide) rfl ?_
        refine qr_iload 18 rfl g398 rfl ?_
        refine qr_iaload 19 rfl rfl (by omega) (by decide) rfl ?_
        refine qr_topI (fun v420 hv420 => ?_)
        have hs421 : 0 ≤ v420 ∧ v420 ≤ 31 := by rw [hv420]; exact hI402.2.1 115 _ (show _ < 31 by omega)
        have hrv420 : v420 = (α 115) (u399 : Int).toNat := hv420.trans (congrFun hk413 _)
        refine qr_iload_n 20 rfl g395 rfl ?_
        refine qr_icmp_ne 45 23 rfl rfl rfl (by omega) (by omega) (fun h422 => ?_) (fun h422 => ?_)
        · skip
          refine qr_iinc _ 48 rfl g398 (by decide) rfl rfl ?_
          refine qr_goto 3 rfl rfl ?_
          exact ih418 _ (u399 + 1) σ400 α401 (by omega) (qm_gk g393 (by decide) (Or.inl (by decide))) (qm_gk g394 (by decide) (Or.inl (by decide))) (qm_gk g395 (by decide) (Or.inl (by decide))) (qm_gk g396 (by decide) (Or.inl (by decide))) (qm_gk g397 (by decide) (Or.inr rfl)) (qm_ge _ _ _) (by omega) hI402 hF403 ((hk404).trans rfl) ((hk405).trans rfl) ((hk406).trans rfl) ((hk407).trans rfl) ((hk408).trans rfl) ((hk409).trans rfl) ((hk410).trans rfl) ((hk411).trans rfl) ((hk412).trans rfl) hk413 hk414 (qfs_n (by omega) hx416 (fun hc => absurd hc.1 (by omega)))
        · skip
          refine qr_aload_n 24 rfl g393 rfl ?_
          refine qr_iconst 25 rfl rfl ?_
          refine qr_iload_n 26 rfl g394 rfl ?_
          refine qr_iload_n 27 rfl g395 rfl ?_
          refine qr_aload_n 28 rfl g393 rfl ?_
          refine qr_get 31 rfl rfl rfl (by decide) rfl ?_
          refine qr_iload 33 rfl g398 rfl ?_
          refine qr_iaload 34 rfl rfl (by omega) (by decide) rfl ?_
          refine qr_topI (fun v423 hv423 => ?_)
          have hs424 : 0 ≤ v423 ∧ v423 ≤ 31 := by rw [hv423]; exact hI402.2.1 116 _ (show _ < 31 by omega)
          have hrv423 : v423 = (α 116) (u399 : Int).toNat := hv423.trans (congrFun hk414 _)
          have hz := p5 (u399 : Int).toNat (by omega)
          rw [← hrv423] at hz
          refine qr_lload_n 35 rfl g396 rfl ?_
          refine qr_iload 37 rfl g397 rfl ?_
          have hs425 : 0 ≤ σ400 86 6 ∧ σ400 86 6 ≤ 32 := hI402.1 86 6
          have hs426 : σ400 86 6 = (σ 86 6) := (hk404).trans rfl
          refine qr_callN 40 rfl rfl rfl (sf_228_86x (d := d + 0) hI402 (by omega) (by omega) (by omega) (by omega) (by omega) (by omega) (by omega) (qPG_fr hF403 (by decide) (by decide) p1) (qZf_fr hF403 (by decide) (by decide) p2) (qZk_fr hF403 (by decide) (by decide) p3) (by omega)) ?_
          rintro _ _ ⟨σ429, α430, rfl, hI431, hG432, v427, rfl, hv427, hx428⟩
          have hF433 : qFr [(86, 15), (86, 23), (86, 30), (86, 35), (86, 36), (86, 37), (86, 38), (86, 39)] [96, 109] σ α σ429 α430 := qFr_t hF403 hG432 (by decide) (by decide)
          rw [hF403.1 86 10 (by decide), hF403.1 86 29 (by decide)] at hx428
          show qr_W (qe L xs vb) (d + 46) qx_e249 _ (40, _, [.int (qz v427)], qw σ429 α430 κ ρ, 0, 0)
          rw [qNVr_fr hF403 (by decide) (by decide)] at hx428
          refine qr_if_eq 45 43 rfl rfl rfl (by omega) (fun h434 => ?_) (fun h434 => ?_)
          · skip
            refine qr_iinc _ 48 rfl g398 (by decide) rfl rfl ?_
            refine qr_goto 3 rfl rfl ?_
            exact ih418 _ (u399 + 1) σ429 α430 (by omega) (qm_gk g393 (by decide) (Or.inl (by decide))) (qm_gk g394 (by decide) (Or.inl (by decide))) (qm_gk g395 (by decide) (Or.inl (by decide))) (qm_gk g396 (by decide) (Or.inl (by decide))) (qm_gk g397 (by decide) (Or.inr rfl)) (qm_ge _ _ _) (by omega) hI431 hF433 ((hG432.1 86 6 (by decide)).trans ((hk404).trans rfl)) ((hG432.1 86 10 (by decide)).trans ((hk405).trans rfl)) ((hG432.1 86 11 (by decide)).trans ((hk406).trans rfl)) ((hG432.1 86 16 (by decide)).trans ((hk407).trans rfl)) ((hG432.1 86 22 (by decide)).trans ((hk408).trans rfl)) ((hG432.1 86 24 (by decide)).trans ((hk409).trans rfl)) ((hG432.1 86 29 (by decide)).trans ((hk410).trans rfl)) ((hG432.1 86 41 (by decide)).trans ((hk411).trans rfl)) ((hG432.1 86 50 (by decide)).trans ((hk412).trans rfl)) ((hG432.2 115 (by decide)).trans hk413) ((hG432.2 116 (by decide)).trans hk414) (qfs_n (by omega) hx416 (fun hc => hc.2 (by rw [show α 116 (u399 : Int).toNat = v423 from hrv423.symm, ← hx428]; omega)))
          · skip
            refine qr_iconst 44 rfl rfl ?_
            refine qr_retZ rfl rfl (by omega) (by decide) (by decide) ?_
            exact ⟨_, _, rfl, hI431, hF433, 1, rfl, by omega, (Or.inl ⟨rfl, (u399 : Int).toNat, by omega, by omega, by rw [show α 116 (u399 : Int).toNat = v423 from hrv423.symm, ← hx428]; omega⟩)⟩
  exact hL417 ((31 - 0 + 1 : Int)).toNat _ 0 σ α (by omega) rfl rfl rfl rfl rfl rfl (by omega) hI hF0 (rfl) (rfl) (rfl) (rfl) (rfl) (rfl) (rfl) (rfl) (rfl) rfl rfl qfs_k

set_option maxHeartbeats 4000000 in
set_option maxRecDepth 20000 in
/-- OneRoofModel.nextBlow -/
theorem sf_248_86x {L : Nat} {xs : Nat → Int} {vb : Bool} {d : Nat} {σ α : Nat → Nat → Int} {κ : Nat → Option Nat} {ρ : Nat} {x1 : Int} {x2 : Int} {g0 g1 : (Nat → Int) → Int} (hI : qI σ α κ ρ) (r1 : (-9223372036854775808) ≤ x1 ∧ x1 ≤ 9223372036854775807) (r2 : (-2147483648) ≤ x2 ∧ x2 ≤ 2147483647) (p0 : qPG σ α 0 g0) (p1 : qPG σ α 1 g1) (p2 : qZf σ α) (p3 : qZk σ α) (p4 : ∀ i : Nat, (i : Int) < σ 86 50 → α 116 i < σ 86 6) : qm_T (qe L xs vb) (d + 48) 248 [.ref 86, .long (ql x1), .int (qz x2)] (qw σ α κ ρ) (fun r w' => ∃ σ' α', w' = qw σ' α' κ ρ ∧ qI σ' α' κ ρ ∧ qFr [(86, 15), (86, 23), (86, 30), (86, 35), (86, 36), (86, 37), (86, 38), (86, 39)] [96, 109] σ α σ' α' ∧ ∃ v : Int, r = some (.int (qz v)) ∧ ((-1) ≤ v ∧ v ≤ 3131) ∧ (v = -1 ∨ (0 ≤ v ∧ v / 100 ≤ 31 ∧ v % 100 ≤ 31)) ∧ ((0 ≤ v ∧ qFst (fun r t : Int => ¬ t = r ∧ qbit (ql_and x1 (ql_xor (σ 86 10) (-1))) r = 1 ∧ qbit (ql_and x1 (ql_xor (σ 86 10) (-1))) t = 1 ∧ ∃ i : Nat, (i : Int) < σ 86 50 ∧ (fun i : Nat => α 115 i = t ∧ ¬ g1 (qNVr σ α (σ 86 29) (σ 86 10) r t (α 116 i) x1 x2) = 0) i) (σ 86 6) v) ∨ (qFst (fun r t : Int => ¬ t = r ∧ qbit (ql_and x1 (ql_xor (σ 86 10) (-1))) r = 1 ∧ qbit (ql_and x1 (ql_xor (σ 86 10) (-1))) t = 1 ∧ ∃ i : Nat, (i : Int) < σ 86 50 ∧ (fun i : Nat => α 115 i = t ∧ ¬ g1 (qNVr σ α (σ 86 29) (σ 86 10) r t (α 116 i) x1 x2) = 0) i) (σ 86 6) (-1) ∧ qFst (fun p q : Int => ¬ q = p ∧ qbit (ql_and x1 (ql_xor (σ 86 10) (-1))) p = 1 ∧ qbit (ql_and x1 (ql_xor (σ 86 10) (-1))) q = 1 ∧ ¬ g0 (qNVr σ α (σ 86 29) (σ 86 10) p q (-1) x1 x2) = 0) (σ 86 6) v))) := by
  refine qr_start (d := d + 47) qv_e248 (Nat.le_of_ble_eq_true rfl) ?_
  show qr_W (qe L xs vb) (d + 47) qx_e248 _ (0, [(0, .ref 86), (1, .long (ql x1)), (3, .int (qz x2))], [], _, 0, 0)
  have hF0 := qFr_rf [(86, 15), (86, 23), (86, 30), (86, 35), (86, 36), (86, 37), (86, 38), (86, 39)] [96, 109] σ α
  have hz86_50 : 0 ≤ σ 86 50 ∧ σ 86 50 ≤ 31 := hI.1 86 50
  have hz86_6 : 0 ≤ σ 86 6 ∧ σ 86 6 ≤ 32 := hI.1 86 6
  have hz86_10 : (-9223372036854775808) ≤ σ 86 10 ∧ σ 86 10 ≤ 9223372036854775807 := hI.1 86 10
  have hz86_11 : 0 ≤ σ 86 11 ∧ σ 86 11 ≤ 61 := hI.1 86 11
  have hz86_16 : 0 ≤ σ 86 16 ∧ σ 86 16 ≤ 40 := hI.1 86 16
  have hz86_22 : (-9223372036854775808) ≤ σ 86 22 ∧ σ 86 22 ≤ 9223372036854775807 := hI.1 86 22
  have hz86_24 : 0 ≤ σ 86 24 ∧ σ 86 24 ≤ 60 := hI.1 86 24
  have hz86_29 : (-9223372036854775808) ≤ σ 86 29 ∧ σ 86 29 ≤ 9223372036854775807 := hI.1 86 29
  have hz86_41 : 0 ≤ σ 86 41 ∧ σ 86 41 ≤ 1 := hI.1 86 41
  refine qr_iconst 1 rfl rfl ?_
  refine qr_istore _ 3 rfl (by decide) rfl rfl ?_
  have hL81054 : ∀ (n : Nat) (ls : qm_L) (u81036 : Int) (σ81037 α81038 : Nat → Nat → Int), 32 - u81036 < (n : Int) → qm_get ls 0 = some (.ref 86) → qm_get ls 1 = some (.long (ql x1)) → qm_get ls 3 = some (.int (qz x2)) → qm_get ls 4 = some (.int (qz u81036)) → (0 ≤ u81036 ∧ u81036 ≤ 32) → qI σ81037 α81038 κ ρ → qFr [(86, 15), (86, 23), (86, 30), (86, 35), (86, 36), (86, 37), (86, 38), (86, 39)] [96, 109] σ α σ81037 α81038 → σ81037 86 6 = (σ 86 6) → σ81037 86 10 = (σ 86 10) → σ81037 86 11 = (σ 86 11) → σ81037 86 16 = (σ 86 16) → σ81037 86 22 = (σ 86 22) → σ81037 86 24 = (σ 86 24) → σ81037 86 29 = (σ 86 29) → σ81037 86 41 = (σ 86 41) → σ81037 86 50 = (σ 86 50) → α81038 115 = (α 115) → α81038 116 = (α 116) → (∀ a b : Int, 0 ≤ a → a < u81036 → 0 ≤ b → b < (σ 86 6) → ¬ (fun r t : Int => ¬ t = r ∧ qbit (ql_and x1 (ql_xor (σ 86 10) (-1))) r = 1 ∧ qbit (ql_and x1 (ql_xor (σ 86 10) (-1))) t = 1 ∧ ∃ i : Nat, (i : Int) < σ 86 50 ∧ (fun i : Nat => α 115 i = t ∧ ¬ g1 (qNVr σ α (σ 86 29) (σ 86 10) r t (α 116 i) x1 x2) = 0) i) a b) → qr_W (qe L xs vb) (d + 47) qx_e248 (fun r w' => ∃ σ' α', w' = qw σ' α' κ ρ ∧ qI σ' α' κ ρ ∧ qFr [(86, 15), (86, 23), (86, 30), (86, 35), (86, 36), (86, 37), (86, 38), (86, 39)] [96, 109] σ α σ' α' ∧ ∃ v : Int, r = some (.int (qz v)) ∧ ((-1) ≤ v ∧ v ≤ 3131) ∧ (v = -1 ∨ (0 ≤ v ∧ v / 100 ≤ 31 ∧ v % 100 ≤ 31)) ∧ ((0 ≤ v ∧ qFst (fun r t : Int => ¬ t = r ∧ qbit (ql_and x1 (ql_xor (σ 86 10) (-1))) r = 1 ∧ qbit (ql_and x1 (ql_xor (σ 86 10) (-1))) t = 1 ∧ ∃ i : Nat, (i : Int) < σ 86 50 ∧ (fun i : Nat => α 115 i = t ∧ ¬ g1 (qNVr σ α (σ 86 29) (σ 86 10) r t (α 116 i) x1 x2) = 0) i) (σ 86 6) v) ∨ (qFst (fun r t : Int => ¬ t = r ∧ qbit (ql_and x1 (ql_xor (σ 86 10) (-1))) r = 1 ∧ qbit (ql_and x1 (ql_xor (σ 86 10) (-1))) t = 1 ∧ ∃ i : Nat, (i : Int) < σ 86 50 ∧ (fun i : Nat => α 115 i = t ∧ ¬ g1 (qNVr σ α (σ 86 29) (σ 86 10) r t (α 116 i) x1 x2) = 0) i) (σ 86 6) (-1) ∧ qFst (fun p q : Int => ¬ q = p ∧ qbit (ql_and x1 (ql_xor (σ 86 10) (-1))) p = 1 ∧ qbit (ql_and x1 (ql_xor (σ 86 10) (-1))) q = 1 ∧ ¬ g0 (qNVr σ α (σ 86 29) (σ 86 10) p q (-1) x1 x2) = 0) (σ 86 6) v))) (3, ls, [], qw σ81037 α81038 κ ρ, 0, 0) := by
    intro n
    induction n with
    | zero => intro ls u81036 σ81037 α81038 hm g81032 g81033 g81034 g81035 hf81052 hI81039 hF81040 hk81041 hk81042 hk81043 hk81044 hk81045 hk81046 hk81047 hk81048 hk81049 hk81050 hk81051 hx81053; exact False.elim (by omega)
    | succ n ih81055 =>
      intro ls u81036 σ81037 α81038 hm g81032 g81033 g81034 g81035 hf81052 hI81039 hF81040 hk81041 hk81042 hk81043 hk81044 hk81045 hk81046 hk81047 hk81048 hk81049 hk81050 hk81051 hx81053
      refine qr_iload 5 rfl g81035 rfl ?_
      refine qr_aload_n 6 rfl g81032 rfl ?_
      refine qr_get 9 rfl rfl rfl (by decide) rfl ?_
      refine qy_v (σ 86 6) ((hk81041).trans rfl) ?_
      refine qr_icmp_ge 101 12 rfl rfl rfl (by omega) (by omega) (fun h81056 => ?_) (fun h81056 => ?_)
      · skip
        have hN81057 : qFst (fun r t : Int => ¬ t = r ∧ qbit (ql_and x1 (ql_xor (σ 86 10) (-1))) r = 1 ∧ qbit (ql_and x1 (ql_xor (σ 86 10) (-1))) t = 1 ∧ ∃ i : Nat, (i : Int) < σ 86 50 ∧ (fun i : Nat => α 115 i = t ∧ ¬ g1 (qNVr σ α (σ 86 29) (σ 86 10) r t (α 116 i) x1 x2) = 0) i) (σ 86 6) (-1) := qFst_no rfl (by omega) hx81053
        refine qr_iconst 102 rfl rfl ?_
        refine qr_istore _ 104 rfl (by decide) rfl rfl ?_
        have hL88972 : ∀ (n : Nat) (ls : qm_L) (u88954 : Int) (σ88955 α88956 : Nat → Nat → Int), 32 - u88954 < (n : Int) → qm_get ls 0 = some (.ref 86) → qm_get ls 1 = some (.long (ql x1)) → qm_get ls 3 = some (.int (qz x2)) → qm_get ls 4 = some (.int (qz u88954)) → (0 ≤ u88954 ∧ u88954 ≤ 32) → qI σ88955 α88956 κ ρ → qFr [(86, 15), (86, 23), (86, 30), (86, 35), (86, 36), (86, 37), (86, 38), (86, 39)] [96, 109] σ α σ88955 α88956 → σ88955 86 6 = (σ 86 6) → σ88955 86 10 = (σ 86 10) → σ88955 86 11 = (σ 86 11) → σ88955 86 16 = (σ 86 16) → σ88955 86 22 = (σ 86 22) → σ88955 86 24 = (σ 86 24) → σ88955 86 29 = (σ 86 29) → σ88955 86 41 = (σ 86 41) → σ88955 86 50 = (σ 86 50) → α88956 115 = (α 115) → α88956 116 = (α 116) → (∀ a b : Int, 0 ≤ a → a < u88954 → 0 ≤ b → b < (σ 86 6) → ¬ (fun p q : Int => ¬ q = p ∧ qbit (ql_and x1 (ql_xor (σ 86 10) (-1))) p = 1 ∧ qbit (ql_and x1 (ql_xor (σ 86 10) (-1))) q = 1 ∧ ¬ g0 (qNVr σ α (σ 86 29) (σ 86 10) p q (-1) x1 x2) = 0) a b) → qr_W (qe L xs vb) (d + 47) qx_e248 (fun r w' => ∃ σ' α', w' = qw σ' α' κ ρ ∧ qI σ' α' κ ρ ∧ qFr [(86, 15), (86, 23), (86, 30), (86, 35), (86, 36), (86, 37), (86, 38), (86, 39)] [96, 109] σ α σ' α' ∧ ∃ v : Int, r = some (.int (qz v)) ∧ ((-1) ≤ v ∧ v ≤ 3131) ∧ (v = -1 ∨ (0 ≤ v ∧ v / 100 ≤ 31 ∧ v % 100 ≤ 31)) ∧ ((0 ≤ v ∧ qFst (fun r t : Int => ¬ t = r ∧ qbit (ql_and x1 (ql_xor (σ 86 10) (-1))) r = 1 ∧ qbit (ql_and x1 (ql_xor (σ 86 10) (-1))) t = 1 ∧ ∃ i : Nat, (i : Int) < σ 86 50 ∧ (fun i : Nat => α 115 i = t ∧ ¬ g1 (qNVr σ α (σ 86 29) (σ 86 10) r t (α 116 i) x1 x2) = 0) i) (σ 86 6) v) ∨ (qFst (fun r t : Int => ¬ t = r ∧ qbit (ql_and x1 (ql_xor (σ 86 10) (-1))) r = 1 ∧ qbit (ql_and x1 (ql_xor (σ 86 10) (-1))) t = 1 ∧ ∃ i : Nat, (i : Int) < σ 86 50 ∧ (fun i : Nat => α 115 i = t ∧ ¬ g1 (qNVr σ α (σ 86 29) (σ 86 10) r t (α 116 i) x1 x2) = 0) i) (σ 86 6) (-1) ∧ qFst (fun p q : Int => ¬ q = p ∧ qbit (ql_and x1 (ql_xor (σ 86 10) (-1))) p = 1 ∧ qbit (ql_and x1 (ql_xor (σ 86 10) (-1))) q = 1 ∧ ¬ g0 (qNVr σ α (σ 86 29) (σ 86 10) p q (-1) x1 x2) = 0) (σ 86 6) v))) (104, ls, [], qw σ88955 α88956 κ ρ, 0, 0) := by
          intro n
          induction n with
          | zero => intro ls u88954 σ88955 α88956 hm g88950 g88951 g88952 g88953 hf88970 hI88957 hF88958 hk88959 hk88960 hk88961 hk88962 hk88963 hk88964 hk88965 hk88966 hk88967 hk88968 hk88969 hx88971; exact False.elim (by omega)
          | succ n ih88973 =>
            intro ls u88954 σ88955 α88956 hm g88950 g88951 g88952 g88953 hf88970 hI88957 hF88958 hk88959 hk88960 hk88961 hk88962 hk88963 hk88964 hk88965 hk88966 hk88967 hk88968 hk88969 hx88971
            refine qr_iload 106 rfl g88953 rfl ?_
            refine qr_aload_n 107 rfl g88950 rfl ?_
            refine qr_get 110 rfl rfl rfl (by decide) rfl ?_
            refine qy_v (σ 86 6) ((hk88959).trans rfl) ?_
            refine qr_icmp_ge 202 113 rfl rfl rfl (by omega) (by omega) (fun h88974 => ?_) (fun h88974 => ?_)
            · skip
              refine qr_iconst 203 rfl rfl ?_
              refine qr_retI rfl rfl (by decide) (by decide) ?_
              exact ⟨_, _, rfl, hI88957, hF88958, (-1), rfl, by omega, by omega, (Or.inr ⟨hN81057, qFst_no rfl (by omega) hx88971⟩)⟩
            · skip
              refine qr_iconst 114 rfl rfl ?_
              refine qr_istore _ 116 rfl (by decide) rfl rfl ?_
              have hL89479 : ∀ (n : Nat) (ls : qm_L) (u89460 : Int) (σ89461 α89462 : Nat → Nat → Int), 32 - u89460 < (n : Int) → qm_get ls 0 = some (.ref 86) → qm_get ls 1 = some (.long (ql x1)) → qm_get ls 3 = some (.int (qz x2)) → qm_get ls 4 = some (.int (qz u88954)) → qm_get ls 5 = some (.int (qz u89460)) → (0 ≤ u89460 ∧ u89460 ≤ 32) → qI σ89461 α89462 κ ρ → qFr [(86, 15), (86, 23), (86, 30), (86, 35), (86, 36), (86, 37), (86, 38), (86, 39)] [96, 109] σ α σ89461 α89462 → σ89461 86 6 = (σ 86 6) → σ89461 86 10 = (σ 86 10) → σ89461 86 11 = (σ 86 11) → σ89461 86 16 = (σ 86 16) → σ89461 86 22 = (σ 86 22) → σ89461 86 24 = (σ 86 24) → σ89461 86 29 = (σ 86 29) → σ89461 86 41 = (σ 86 41) → σ89461 86 50 = (σ 86 50) → α89462 115 = (α 115) → α89462 116 = (α 116) → (∀ a b : Int, 0 ≤ a → a < u88954 → 0 ≤ b → b < (σ 86 6) → ¬ (fun p q : Int => ¬ q = p ∧ qbit (ql_and x1 (ql_xor (σ 86 10) (-1))) p = 1 ∧ qbit (ql_and x1 (ql_xor (σ 86 10) (-1))) q = 1 ∧ ¬ g0 (qNVr σ α (σ 86 29) (σ 86 10) p q (-1) x1 x2) = 0) a b) → (∀ b : Int, 0 ≤ b → b < u89460 → ¬ (fun p q : Int => ¬ q = p ∧ qbit (ql_and x1 (ql_xor (σ 86 10) (-1))) p = 1 ∧ qbit (ql_and x1 (ql_xor (σ 86 10) (-1))) q = 1 ∧ ¬ g0 (qNVr σ α (σ 86 29) (σ 86 10) p q (-1) x1 x2) = 0) u88954 b) → qr_W (qe L xs vb) (d + 47) qx_e248 (fun r w' => ∃ σ' α', w' = qw σ' α' κ ρ ∧ qI σ' α' κ ρ ∧ qFr [(86, 15), (86, 23), (86, 30), (86, 35), (86, 36), (86, 37), (86, 38), (86, 39)] [96, 109] σ α σ' α' ∧ ∃ v : Int, r = some (.int (qz v)) ∧ ((-1) ≤ v ∧ v ≤ 3131) ∧ (v = -1 ∨ (0 ≤ v ∧ v / 100 ≤ 31 ∧ v % 100 ≤ 31)) ∧ ((0 ≤ v ∧ qFst (fun r t : Int => ¬ t = r ∧ qbit (ql_and x1 (ql_xor (σ 86 10) (-1))) r = 1 ∧ qbit (ql_and x1 (ql_xor (σ 86 10) (-1))) t = 1 ∧ ∃ i : Nat, (i : Int) < σ 86 50 ∧ (fun i : Nat => α 115 i = t ∧ ¬ g1 (qNVr σ α (σ 86 29) (σ 86 10) r t (α 116 i) x1 x2) = 0) i) (σ 86 6) v) ∨ (qFst (fun r t : Int => ¬ t = r ∧ qbit (ql_and x1 (ql_xor (σ 86 10) (-1))) r = 1 ∧ qbit (ql_and x1 (ql_xor (σ 86 10) (-1))) t = 1 ∧ ∃ i : Nat, (i : Int) < σ 86 50 ∧ (fun i : Nat => α 115 i = t ∧ ¬ g1 (qNVr σ α (σ 86 29) (σ 86 10) r t (α 116 i) x1 x2) = 0) i) (σ 86 6) (-1) ∧ qFst (fun p q : Int => ¬ q = p ∧ qbit (ql_and x1 (ql_xor (σ 86 10) (-1))) p = 1 ∧ qbit (ql_and x1 (ql_xor (σ 86 10) (-1))) q = 1 ∧ ¬ g0 (qNVr σ α (σ 86 29) (σ 86 10) p q (-1) x1 x2) = 0) (σ 86 6) v))) (116, ls, [], qw σ89461 α89462 κ ρ, 0, 0) := by
                intro n
                induction n with
                | zero => intro ls u89460 σ89461 α89462 hm g89455 g89456 g89457 g89458 g89459 hf89476 hI89463 hF89464 hk89465 hk89466 hk89467 hk89468 hk89469 hk89470 hk89471 hk89472 hk89473 hk89474 hk89475 hx89477 hx89478; exact False.elim (by omega)
                | succ n ih89480 =>
                  intro ls u89460 σ89461 α89462 hm g89455 g89456 g89457 g89458 g89459 hf89476 hI89463 hF89464 hk89465 hk89466 hk89467 hk89468 hk89469 hk89470 hk89471 hk89472 hk89473 hk89474 hk89475 hx89477 hx89478
                  refine qr_iload 118 rfl g89459 rfl ?_
                  refine qr_aload_n 119 rfl g89455 rfl ?_
                  refine qr_get 122 rfl rfl rfl (by decide) rfl ?_
                  refine qy_v (σ 86 6) ((hk89465).trans rfl) ?_
                  refine qr_icmp_ge 196 125 rfl rfl rfl (by omega) (by omega) (fun h89481 => ?_) (fun h89481 => ?_)
                  · skip
                    refine qr_iinc _ 199 rfl g89458 (by decide) rfl rfl ?_
                    refine qr_goto 104 rfl rfl ?_
                    exact ih88973 _ (u88954 + 1) σ89461 α89462 (by omega) (qm_gk g89455 (by decide) (Or.inl (by decide))) (qm_gk g89456 (by decide) (Or.inl (by decide))) (qm_gk g89457 (by decide) (Or.inr rfl)) (qm_ge _ _ _) (by omega) hI89463 hF89464 ((hk89465).trans rfl) ((hk89466).trans rfl) ((hk89467).trans rfl) ((hk89468).trans rfl) ((hk89469).trans rfl) ((hk89470).trans rfl) ((hk89471).trans rfl) ((hk89472).trans rfl) ((hk89473).trans rfl) hk89474 hk89475 (qfs_o hx88971 (fun b h1 h2 => hx89478 b h1 (by omega)))
                  · skip
                    refine qr_lload_n 126 rfl g89456 rfl ?_
                    refine qr_aload_n 127 rfl g89455 rfl ?_
                    refine qr_get 130 rfl rfl rfl (by decide) rfl ?_
                    refine qy_vl (σ 86 10) ((hk89466).trans rfl) ?_
                    refine qr_ldc2 (-1) 133 rfl (by decide) rfl ?_
                    refine qr_lxor 134 rfl rfl ?_
                    refine qy_canlE (fun v89482 hv89482 hev89482 => ?_)
                    refine qr_land 135 rfl rfl ?_
                    refine qy_canlE (fun v89483 hv89483 hev89483 => ?_)
                    refine qr_iload 137 rfl g89458 rfl ?_
                    refine qr_callN 140 rfl rfl rfl (sf_226x (d := d + 46) hI89463 (by omega) (by omega)) ?_
                    rintro _ _ ⟨rfl, v89484, rfl, hv89484, hp89485⟩
                    show qr_W (qe L xs vb) (d + 47) qx_e248 _ (140, _, [.int (qz v89484)], qw σ89461 α89462 κ ρ, 0, 0)
                    rw [ql_val hev89483 (by omega) (ql_and_r _ _), ql_val hev89482 (by omega) (ql_xor_r _ _)] at hp89485
                    refine qr_if_eq 196 143 rfl rfl rfl (by omega) (fun h89486 => ?_) (fun h89486 => ?_)
                    · skip
                      refine qr_iinc _ 199 rfl g89458 (by decide) rfl rfl ?_
                      refine qr_goto 104 rfl rfl ?_
                      exact ih88973 _ (u88954 + 1) σ89461 α89462 (by omega) (qm_gk g89455 (by decide) (Or.inl (by decide))) (qm_gk g89456 (by decide) (Or.inl (by decide))) (qm_gk g89457 (by decide) (Or.inr rfl)) (qm_ge _ _ _) (by omega) hI89463 hF89464 ((hk89465).trans rfl) ((hk89466).trans rfl) ((hk89467).trans rfl) ((hk89468).trans rfl) ((hk89469).trans rfl) ((hk89470).trans rfl) ((hk89471).trans rfl) ((hk89472).trans rfl) ((hk89473).trans rfl) hk89474 hk89475 (qfs_o hx88971 (fun b h1 h2 hc => absurd hc.2.1 (by omega)))
                    · skip
                      refine qr_iload 145 rfl g89459 rfl ?_
                      refine qr_iload 147 rfl g89458 rfl ?_
                      refine qr_icmp_eq 190 150 rfl rfl rfl (by omega) (by omega) (fun h89487 => ?_) (fun h89487 => ?_)
                      · skip
                        refine qr_iinc _ 193 rfl g89459 (by decide) rfl rfl ?_
                        refine qr_goto 116 rfl rfl ?_
                        exact ih89480 _ (u89460 + 1) σ89461 α89462 (by omega) (qm_gk g89455 (by decide) (Or.inl (by decide))) (qm_gk g89456 (by decide) (Or.inl (by decide))) (qm_gk g89457 (by decide) (Or.inl (by decide))) (qm_gk g89458 (by decide) (Or.inr rfl)) (qm_ge _ _ _) (by omega) hI89463 hF89464 ((hk89465).trans rfl) ((hk89466).trans rfl) ((hk89467).trans rfl) ((hk89468).trans rfl) ((hk89469).trans rfl) ((hk89470).trans rfl) ((hk89471).trans rfl) ((hk89472).trans rfl) ((hk89473).trans rfl) hk89474 hk89475 hx88971 (qfs_i hx89478 (fun hc => hc.1 (by omega)))
                      · skip
                        refine qr_lload_n 151 rfl g89456 rfl ?_
                        refine qr_aload_n 152 rfl g89455 rfl ?_
                        refine qr_get 155 rfl rfl rfl (by decide) rfl ?_
                        refine qy_vl (σ 86 10) ((hk89466).trans rfl) ?_
                        refine qr_ldc2 (-1) 158 rfl (by decide) rfl ?_
                        refine qr_lxor 159 rfl rfl ?_
                        refine qy_canlE (fun v89488 hv89488 hev89488 => ?_)
                        refine qr_land 160 rfl rfl ?_
                        refine qy_canlE (fun v89489 hv89489 hev89489 => ?_)
                        refine qr_iload 162 rfl g89459 rfl ?_
                        refine qr_callN 165 rfl rfl rfl (sf_226x (d := d + 46) hI89463 (by omega) (by omega)) ?_
                        rintro _ _ ⟨rfl, v89490, rfl, hv89490, hp89491⟩
                        show qr_W (qe L xs vb) (d + 47) qx_e248 _ (165, _, [.int (qz v89490)], qw σ89461 α89462 κ ρ, 0, 0)
                        rw [ql_val hev89489 (by omega) (ql_and_r _ _), ql_val hev89488 (by omega) (ql_xor_r _ _)] at hp89491
                        refine qr_if_eq 190 168 rfl rfl rfl (by omega) (fun h89492 => ?_) (fun h89492 => ?_)
                        · skip
                          refine qr_iinc _ 193 rfl g89459 (by decide) rfl rfl ?_
                          refine qr_goto 116 rfl rfl ?_
                          exact ih89480 _ (u89460 + 1) σ89461 α89462 (by omega) (qm_gk g89455 (by decide) (Or.inl (by decide))) (qm_gk g89456 (by decide) (Or.inl (by decide))) (qm_gk g89457 (by decide) (Or.inl (by decide))) (qm_gk g89458 (by decide) (Or.inr rfl)) (qm_ge _ _ _) (by omega) hI89463 hF89464 ((hk89465).trans rfl) ((hk89466).trans rfl) ((hk89467).trans rfl) ((hk89468).trans rfl) ((hk89469).trans rfl) ((hk89470).trans rfl) ((hk89471).trans rfl) ((hk89472).trans rfl) ((hk89473).trans rfl) hk89474 hk89475 hx88971 (qfs_i hx89478 (fun hc => absurd hc.2.2.1 (by omega)))
                        · skip
                          refine qr_aload_n 169 rfl g89455 rfl ?_
                          refine qr_iload 171 rfl g89458 rfl ?_
                          refine qr_iload 173 rfl g89459 rfl ?_
                          refine qr_lload_n 174 rfl g89456 rfl ?_
                          refine qr_iload_n 175 rfl g89457 rfl ?_
                          have hs89493 : 0 ≤ σ89461 86 6 ∧ σ89461 86 6 ≤ 32 := hI89463.1 86 6
                          have hs89494 : σ89461 86 6 = (σ 86 6) := (hk89465).trans rfl
                          refine qr_callN 178 rfl rfl rfl (sf_227_86x (d := d + 0) hI89463 (by omega) (by omega) (by omega) (by omega) (by omega) (qPG_fr hF89464 (by decide) (by decide) p0) (qZf_fr hF89464 (by decide) (by decide) p2) (qZk_fr hF89464 (by decide) (by decide) p3) (by omega)) ?_
                          rintro _ _ ⟨σ89497, α89498, rfl, hI89499, hG89500, v89495, rfl, hv89495, hx89496⟩
                          have hF89501 : qFr [(86, 15), (86, 23), (86, 30), (86, 35), (86, 36), (86, 37), (86, 38), (86, 39)] [96, 109] σ α σ89497 α89498 := qFr_t hF89464 hG89500 (by decide) (by decide)
                          rw [hF89464.1 86 10 (by decide), hF89464.1 86 29 (by decide)] at hx89496
                          show qr_W (qe L xs vb) (d + 47) qx_e248 _ (178, _, [.int (qz v89495)], qw σ89497 α89498 κ ρ, 0, 0)
                          rw [qNVr_fr hF89464 (by decide) (by decide)] at hx89496
                          refine qr_if_eq 190 181 rfl rfl rfl (by omega) (fun h89502 => ?_) (fun h89502 => ?_)
                          · skip
                            refine qr_iinc _ 193 rfl g89459 (by decide) rfl rfl ?_
                            refine qr_goto 116 rfl rfl ?_
                            exact ih89480 _ (u89460 + 1) σ89497 α89498 (by omega) (qm_gk g89455 (by decide) (Or.inl (by decide))) (qm_gk g89456 (by decide) (Or.inl (by decide))) (qm_gk g89457 (by decide) (Or.inl (by decide))) (qm_gk g89458 (by decide) (Or.inr rfl)) (qm_ge _ _ _) (by omega) hI89499 hF89501 ((hG89500.1 86 6 (by decide)).trans ((hk89465).trans rfl)) ((hG89500.1 86 10 (by decide)).trans ((hk89466).trans rfl)) ((hG89500.1 86 11 (by decide)).trans ((hk89467).trans rfl)) ((hG89500.1 86 16 (by decide)).trans ((hk89468).trans rfl)) ((hG89500.1 86 22 (by decide)).trans ((hk89469).trans rfl)) ((hG89500.1 86 24 (by decide)).trans ((hk89470).trans rfl)) ((hG89500.1 86 29 (by decide)).trans ((hk89471).trans rfl)) ((hG89500.1 86 41 (by decide)).trans ((hk89472).trans rfl)) ((hG89500.1 86 50 (by decide)).trans ((hk89473).trans rfl)) ((hG89500.2 115 (by decide)).trans hk89474) ((hG89500.2 116 (by decide)).trans hk89475) hx88971 (qfs_i hx89478 (fun hc => hc.2.2.2 (by rw [← hx89496]; omega)))
                          · skip
                            refine qr_bipush 183 rfl (by decide) rfl ?_
                            refine qr_iload 185 rfl g89458 rfl ?_
                            refine qr_imul 186 rfl rfl ?_
                            refine qr_iload 188 rfl g89459 rfl ?_
                            refine qr_iadd 189 rfl rfl ?_
                            refine qr_retI rfl rfl (by decide) (by decide) ?_
                            exact ⟨_, _, rfl, hI89499, hF89501, ((100 * u88954) + u89460), rfl, by omega, by omega, (Or.inr ⟨hN81057, qFst_hit (p := u88954) (q := u89460) (by omega) (by omega) (by omega) (by omega) ⟨by omega, by omega, by omega, by rw [← hx89496]; omega⟩ hx89477 hx89478⟩)⟩
              exact hL89479 ((32 - 0 + 1 : Int)).toNat _ 0 σ88955 α88956 (by omega) (qm_gk g88950 (by decide) (Or.inl (by decide))) (qm_gk g88951 (by decide) (Or.inl (by decide))) (qm_gk g88952 (by decide) (Or.inl (by decide))) (qm_gk g88953 (by decide) (Or.inr rfl)) (qm_ge _ _ _) (by omega) hI88957 hF88958 ((hk88959).trans rfl) ((hk88960).trans rfl) ((hk88961).trans rfl) ((hk88962).trans rfl) ((hk88963).trans rfl) ((hk88964).trans rfl) ((hk88965).trans rfl) ((hk88966).trans rfl) ((hk88967).trans rfl) hk88968 hk88969 hx88971 qfs_j
        exact hL88972 ((32 - 0 + 1 : Int)).toNat _ 0 σ81037 α81038 (by omega) (qm_gk g81032 (by decide) (Or.inl (by decide))) (qm_gk g81033 (by decide) (Or.inl (by decide))) (qm_gk g81034 (by decide) (Or.inr rfl)) (qm_ge _ _ _) (by omega) hI81039 hF81040 ((hk81041).trans rfl) ((hk81042).trans rfl) ((hk81043).trans rfl) ((hk81044).trans rfl) ((hk81045).trans rfl) ((hk81046).trans rfl) ((hk81047).trans rfl) ((hk81048).trans rfl) ((hk81049).trans rfl) hk81050 hk81051 qfs_0
      · skip
        refine qr_iconst 13 rfl rfl ?_
        refine qr_istore _ 15 rfl (by decide) rfl rfl ?_
        have hL90037 : ∀ (n : Nat) (ls : qm_L) (u90018 : Int) (σ90019 α90020 : Nat → Nat → Int), 32 - u90018 < (n : Int) → qm_get ls 0 = some (.ref 86) → qm_get ls 1 = some (.long (ql x1)) → qm_get ls 3 = some (.int (qz x2)) → qm_get ls 4 = some (.int (qz u81036)) → qm_get ls 5 = some (.int (qz u90018)) → (0 ≤ u90018 ∧ u90018 ≤ 32) → qI σ90019 α90020 κ ρ → qFr [(86, 15), (86, 23), (86, 30), (86, 35), (86, 36), (86, 37), (86, 38), (86, 39)] [96, 109] σ α σ90019 α90020 → σ90019 86 6 = (σ 86 6) → σ90019 86 10 = (σ 86 10) → σ90019 86 11 = (σ 86 11) → σ90019 86 16 = (σ 86 16) → σ90019 86 22 = (σ 86 22) → σ90019 86 24 = (σ 86 24) → σ90019 86 29 = (σ 86 29) → σ90019 86 41 = (σ 86 41) → σ90019 86 50 = (σ 86 50) → α90020 115 = (α 115) → α90020 116 = (α 116) → (∀ a b : Int, 0 ≤ a → a < u81036 → 0 ≤ b → b < (σ 86 6) → ¬ (fun r t : Int => ¬ t = r ∧ qbit (ql_and x1 (ql_xor (σ 86 10) (-1))) r = 1 ∧ qbit (ql_and x1 (ql_xor (σ 86 10) (-1))) t = 1 ∧ ∃ i : Nat, (i : Int) < σ 86 50 ∧ (fun i : Nat => α 115 i = t ∧ ¬ g1 (qNVr σ α (σ 86 29) (σ 86 10) r t (α 116 i) x1 x2) = 0) i) a b) → (∀ b : Int, 0 ≤ b → b < u90018 → ¬ (fun r t : Int => ¬ t = r ∧ qbit (ql_and x1 (ql_xor (σ 86 10) (-1))) r = 1 ∧ qbit (ql_and x1 (ql_xor (σ 86 10) (-1))) t = 1 ∧ ∃ i : Nat, (i : Int) < σ 86 50 ∧ (fun i : Nat => α 115 i = t ∧ ¬ g1 (qNVr σ α (σ 86 29) (σ 86 10) r t (α 116 i) x1 x2) = 0) i) u81036 b) → qr_W (qe L xs vb) (d + 47) qx_e248 (fun r w' => ∃ σ' α', w' = qw σ' α' κ ρ ∧ qI σ' α' κ ρ ∧ qFr [(86, 15), (86, 23), (86, 30), (86, 35), (86, 36), (86, 37), (86, 38), (86, 39)] [96, 109] σ α σ' α' ∧ ∃ v : Int, r = some (.int (qz v)) ∧ ((-1) ≤ v ∧ v ≤ 3131) ∧ (v = -1 ∨ (0 ≤ v ∧ v / 100 ≤ 31 ∧ v % 100 ≤ 31)) ∧ ((0 ≤ v ∧ qFst (fun r t : Int => ¬ t = r ∧ qbit (ql_and x1 (ql_xor (σ 86 10) (-1))) r = 1 ∧ qbit (ql_and x1 (ql_xor (σ 86 10) (-1))) t = 1 ∧ ∃ i : Nat, (i : Int) < σ 86 50 ∧ (fun i : Nat => α 115 i = t ∧ ¬ g1 (qNVr σ α (σ 86 29) (σ 86 10) r t (α 116 i) x1 x2) = 0) i) (σ 86 6) v) ∨ (qFst (fun r t : Int => ¬ t = r ∧ qbit (ql_and x1 (ql_xor (σ 86 10) (-1))) r = 1 ∧ qbit (ql_and x1 (ql_xor (σ 86 10) (-1))) t = 1 ∧ ∃ i : Nat, (i : Int) < σ 86 50 ∧ (fun i : Nat => α 115 i = t ∧ ¬ g1 (qNVr σ α (σ 86 29) (σ 86 10) r t (α 116 i) x1 x2) = 0) i) (σ 86 6) (-1) ∧ qFst (fun p q : Int => ¬ q = p ∧ qbit (ql_and x1 (ql_xor (σ 86 10) (-1))) p = 1 ∧ qbit (ql_and x1 (ql_xor (σ 86 10) (-1))) q = 1 ∧ ¬ g0 (qNVr σ α (σ 86 29) (σ 86 10) p q (-1) x1 x2) = 0) (σ 86 6) v))) (15, ls, [], qw σ90019 α90020 κ ρ, 0, 0) := by
          intro n
          induction n with
          | zero => intro ls u90018 σ90019 α90020 hm g90013 g90014 g90015 g90016 g90017 hf90034 hI90021 hF90022 hk90023 hk90024 hk90025 hk90026 hk90027 hk90028 hk90029 hk90030 hk90031 hk90032 hk90033 hx90035 hx90036; exact False.elim (by omega)
          | succ n ih90038 =>
            intro ls u90018 σ90019 α90020 hm g90013 g90014 g90015 g90016 g90017 hf90034 hI90021 hF90022 hk90023 hk90024 hk90025 hk90026 hk90027 hk90028 hk90029 hk90030 hk90031 hk90032 hk90033 hx90035 hx90036
            refine qr_iload 17 rfl g90017 rfl ?_
            refine qr_aload_n 18 rfl g90013 rfl ?_
            refine qr_get 21 rfl rfl rfl (by decide) rfl ?_
            refine qy_v (σ 86 6) ((hk90023).trans rfl) ?_
            refine qr_icmp_ge 95 24 rfl rfl rfl (by omega) (by omega) (fun h90039 => ?_) (fun h90039 => ?_)
            · skip
              refine qr_iinc _ 98 rfl g90016 (by decide) rfl rfl ?_
              refine qr_goto 3 rfl rfl ?_
              exact ih81055 _ (u81036 + 1) σ90019 α90020 (by omega) (qm_gk g90013 (by decide) (Or.inl (by decide))) (qm_gk g90014 (by decide) (Or.inl (by decide))) (qm_gk g90015 (by decide) (Or.inr rfl)) (qm_ge _ _ _) (by omega) hI90021 hF90022 ((hk90023).trans rfl) ((hk90024).trans rfl) ((hk90025).trans rfl) ((hk90026).trans rfl) ((hk90027).trans rfl) ((hk90028).trans rfl) ((hk90029).trans rfl) ((hk90030).trans rfl) ((hk90031).trans rfl) hk90032 hk90033 (qfs_o hx81053 (fun b h1 h2 => hx90036 b h1 (by omega)))
            · skip
              refine qr_lload_n 25 rfl g90014 rfl ?_
              refine qr_aload_n 26 rfl g90013 rfl ?_
              refine qr_get 29 rfl rfl rfl (by decide) rfl ?_
              refine qy_vl (σ 86 10) ((hk90024).trans rfl) ?_
              refine qr_ldc2 (-1) 32 rfl (by decide) rfl ?_
              refine qr_lxor 33 rfl rfl ?_
              refine qy_canlE (fun v90040 hv90040 hev90040 => ?_)
              refine qr_land 34 rfl rfl ?_
              refine qy_canlE (fun v90041 hv90041 hev90041 => ?_)
              refine qr_iload 36 rfl g90016 rfl ?_
              refine qr_callN 39 rfl rfl rfl (sf_226x (d := d + 46) hI90021 (by omega) (by omega)) ?_
              rintro _ _ ⟨rfl, v90042, rfl, hv90042, hp90043⟩
              show qr_W (qe L xs vb) (d + 47) qx_e248 _ (39, _, [.int (qz v90042)], qw σ90019 α90020 κ ρ, 0, 0)
              rw [ql_val hev90041 (by omega) (ql_and_r _ _), ql_val hev90040 (by omega) (ql_xor_r _ _)] at hp90043
              refine qr_if_eq 95 42 rfl rfl rfl (by omega) (fun h90044 => ?_) (fun h90044 => ?_)
              · skip
                refine qr_iinc _ 98 rfl g90016 (by decide) rfl rfl ?_
                refine qr_goto 3 rfl rfl ?_
                exact ih81055 _ (u81036 + 1) σ90019 α90020 (by omega) (qm_gk g90013 (by decide) (Or.inl (by decide))) (qm_gk g90014 (by decide) (Or.inl (by decide))) (qm_gk g90015 (by decide) (Or.inr rfl)) (qm_ge _ _ _) (by omega) hI90021 hF90022 ((hk90023).trans rfl) ((hk90024).trans rfl) ((hk90025).trans rfl) ((hk90026).trans rfl) ((hk90027).trans rfl) ((hk90028).trans rfl) ((hk90029).trans rfl) ((hk90030).trans rfl) ((hk90031).trans rfl) hk90032 hk90033 (qfs_o hx81053 (fun b h1 h2 hc => absurd hc.2.1 (by omega)))
              · skip
                refine qr_iload 44 rfl g90017 rfl ?_
                refine qr_iload 46 rfl g90016 rfl ?_
                refine qr_icmp_eq 89 49 rfl rfl rfl (by omega) (by omega) (fun h90045 => ?_) (fun h90045 => ?_)
                · skip
                  refine qr_iinc _ 92 rfl g90017 (by decide) rfl rfl ?_
                  refine qr_goto 15 rfl rfl ?_
                  exact ih90038 _ (u90018 + 1) σ90019 α90020 (by omega) (qm_gk g90013 (by decide) (Or.inl (by decide))) (qm_gk g90014 (by decide) (Or.inl (by decide))) (qm_gk g90015 (by decide) (Or.inl (by decide))) (qm_gk g90016 (by decide) (Or.inr rfl)) (qm_ge _ _ _) (by omega) hI90021 hF90022 ((hk90023).trans rfl) ((hk90024).trans rfl) ((hk90025).trans rfl) ((hk90026).trans rfl) ((hk90027).trans rfl) ((hk90028).trans rfl) ((hk90029).trans rfl) ((hk90030).trans rfl) ((hk90031).trans rfl) hk90032 hk90033 hx81053 (qfs_i hx90036 (fun hc => hc.1 (by omega)))
                · skip
                  refine qr_lload_n 50 rfl g90014 rfl ?_
                  refine qr_aload_n 51 rfl g90013 rfl ?_
                  refine qr_get 54 rfl rfl rfl (by decide) rfl ?_
                  refine qy_vl (σ 86 10) ((hk90024).trans rfl) ?_
                  refine qr_ldc2 (-1) 57 rfl (by decide) rfl ?_
                  refine qr_lxor 58 rfl rfl ?_
                  refine qy_canlE (fun v90046 hv90046 hev90046 => ?_)
                  refine qr_land 59 rfl rfl ?_
                  refine qy_canlE (fun v90047 hv90047 hev90047 => ?_)
                  refine qr_iload 61 rfl g90017 rfl ?_
                  refine qr_callN 64 rfl rfl rfl (sf_226x (d := d + 46) hI90021 (by omega) (by omega)) ?_
                  rintro _ _ ⟨rfl, v90048, rfl, hv90048, hp90049⟩
                  show qr_W (qe L xs vb) (d + 47) qx_e248 _ (64, _, [.int (qz v90048)], qw σ90019 α90020 κ ρ, 0, 0)
                  rw [ql_val hev90047 (by omega) (ql_and_r _ _), ql_val hev90046 (by omega) (ql_xor_r _ _)] at hp90049
                  refine qr_if_eq 89 67 rfl rfl rfl (by omega) (fun h90050 => ?_) (fun h90050 => ?_)
                  · skip
                    refine qr_iinc _ 92 rfl g90017 (by decide) rfl rfl ?_
                    refine qr_goto 15 rfl rfl ?_
                    exact ih90038 _ (u90018 + 1) σ90019 α90020 (by omega) (qm_gk g90013 (by decide) (Or.inl (by decide))) (qm_gk g90014 (by decide) (Or.inl (by decide))) (qm_gk g90015 (by decide) (Or.inl (by decide))) (qm_gk g90016 (by decide) (Or.inr rfl)) (qm_ge _ _ _) (by omega) hI90021 hF90022 ((hk90023).trans rfl) ((hk90024).trans rfl) ((hk90025).trans rfl) ((hk90026).trans rfl) ((hk90027).trans rfl) ((hk90028).trans rfl) ((hk90029).trans rfl) ((hk90030).trans rfl) ((hk90031).trans rfl) hk90032 hk90033 hx81053 (qfs_i hx90036 (fun hc => absurd hc.2.2.1 (by omega)))
                  · skip
                    refine qr_aload_n 68 rfl g90013 rfl ?_
                    refine qr_iload 70 rfl g90016 rfl ?_
                    refine qr_iload 72 rfl g90017 rfl ?_
                    refine qr_lload_n 73 rfl g90014 rfl ?_
                    refine qr_iload_n 74 rfl g90015 rfl ?_
                    have hs90051 : 0 ≤ σ90019 86 50 ∧ σ90019 86 50 ≤ 31 := hI90021.1 86 50
                    have hs90052 : σ90019 86 50 = (σ 86 50) := (hk90031).trans rfl
                    have hs90053 : 0 ≤ σ90019 86 6 ∧ σ90019 86 6 ≤ 32 := hI90021.1 86 6
                    have hs90054 : σ90019 86 6 = (σ 86 6) := (hk90023).trans rfl
                    refine qr_callN 77 rfl rfl rfl (sf_249_86x (d := d + 0) hI90021 (by omega) (by omega) (by omega) (by omega) (by omega) (qPG_fr hF90022 (by decide) (by decide) p1) (qZf_fr hF90022 (by decide) (by decide) p2) (qZk_fr hF90022 (by decide) (by decide) p3) (by omega) (by rw [hF90022.1 86 50 (by decide), hF90022.1 86 6 (by decide), hF90022.2 116 (by decide)]; exact p4)) ?_
                    rintro _ _ ⟨σ90057, α90058, rfl, hI90059, hG90060, v90055, rfl, hv90055, hx90056⟩
                    have hF90061 : qFr [(86, 15), (86, 23), (86, 30), (86, 35), (86, 36), (86, 37), (86, 38), (86, 39)] [96, 109] σ α σ90057 α90058 := qFr_t hF90022 hG90060 (by decide) (by decide)
                    rw [hF90022.2 115 (by decide), hF90022.2 116 (by decide), hF90022.1 86 10 (by decide), hF90022.1 86 29 (by decide), hF90022.1 86 50 (by decide)] at hx90056
                    show qr_W (qe L xs vb) (d + 47) qx_e248 _ (77, _, [.int (qz v90055)], qw σ90057 α90058 κ ρ, 0, 0)
                    simp only [qNVr_fr hF90022 (by decide) (by decide)] at hx90056
                    refine qr_if_eq 89 80 rfl rfl rfl (by omega) (fun h90062 => ?_) (fun h90062 => ?_)
                    · skip
                      refine qr_iinc _ 92 rfl g90017 (by decide) rfl rfl ?_
                      refine qr_goto 15 rfl rfl ?_
                      exact ih90038 _ (u90018 + 1) σ90057 α90058 (by omega) (qm_gk g90013 (by decide) (Or.inl (by decide))) (qm_gk g90014 (by decide) (Or.inl (by decide))) (qm_gk g90015 (by decide) (Or.inl (by decide))) (qm_gk g90016 (by decide) (Or.inr rfl)) (qm_ge _ _ _) (by omega) hI90059 hF90061 ((hG90060.1 86 6 (by decide)).trans ((hk90023).trans rfl)) ((hG90060.1 86 10 (by decide)).trans ((hk90024).trans rfl)) ((hG90060.1 86 11 (by decide)).trans ((hk90025).trans rfl)) ((hG90060.1 86 16 (by decide)).trans ((hk90026).trans rfl)) ((hG90060.1 86 22 (by decide)).trans ((hk90027).trans rfl)) ((hG90060.1 86 24 (by decide)).trans ((hk90028).trans rfl)) ((hG90060.1 86 29 (by decide)).trans ((hk90029).trans rfl)) ((hG90060.1 86 41 (by decide)).trans ((hk90030).trans rfl)) ((hG90060.1 86 50 (by decide)).trans ((hk90031).trans rfl)) ((hG90060.2 115 (by decide)).trans hk90032) ((hG90060.2 116 (by decide)).trans hk90033) hx81053 (qfs_i hx90036 (fun hc => by obtain ⟨_, _, _, i, hi, h1⟩ := hc; rcases hx90056 with hm | hm; (exact absurd hm.1 (by omega)); (exact hm.2 i hi h1)))
                    · skip
                      refine qr_bipush 82 rfl (by decide) rfl ?_
                      refine qr_iload 84 rfl g90016 rfl ?_
                      refine qr_imul 85 rfl rfl ?_
                      refine qr_iload 87 rfl g90017 rfl ?_
                      refine qr_iadd 88 rfl rfl ?_
                      refine qr_retI rfl rfl (by decide) (by decide) ?_
                      exact ⟨_, _, rfl, hI90059, hF90061, ((100 * u81036) + u90018), rfl, by omega, by omega, (Or.inl ⟨by omega, qFst_hit (p := u81036) (q := u90018) (by omega) (by omega) (by omega) (by omega) ⟨by omega, by omega, by omega, by rcases hx90056 with hm | hm; (exact hm.2); (exact absurd hm.1 (by omega))⟩ hx90035 hx90036⟩)⟩
        exact hL90037 ((32 - 0 + 1 : Int)).toNat _ 0 σ81037 α81038 (by omega) (qm_gk g81032 (by decide) (Or.inl (by decide))) (qm_gk g81033 (by decide) (Or.inl (by decide))) (qm_gk g81034 (by decide) (Or.inl (by decide))) (qm_gk g81035 (by decide) (Or.inr rfl)) (qm_ge _ _ _) (by omega) hI81039 hF81040 ((hk81041).trans rfl) ((hk81042).trans rfl) ((hk81043).trans rfl) ((hk81044).trans rfl) ((hk81045).trans rfl) ((hk81046).trans rfl) ((hk81047).trans rfl) ((hk81048).trans rfl) ((hk81049).trans rfl) hk81050 hk81051 hx81053 qfs_j
  exact hL81054 ((32 - 0 + 1 : Int)).toNat _ 0 σ α (by omega) rfl rfl rfl rfl (by omega) hI hF0 (rfl) (rfl) (rfl) (rfl) (rfl) (rfl) (rfl) (rfl) (rfl) rfl rfl qfs_0
