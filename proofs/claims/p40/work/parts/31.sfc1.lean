set_option maxHeartbeats 4000000 in
set_option maxRecDepth 20000 in
/-- OneRoof.isHour -/
theorem sf_62 {L : Nat} {xs : Nat → Int} {vb : Bool} {d : Nat} {σ α : Nat → Nat → Int} {κ : Nat → Option Nat} {ρ : Nat} {x0 : Int} (hI : qI σ α κ ρ) (r0 : (-2147483648) ≤ x0 ∧ x0 ≤ 2147483647) : qm_T (qe L xs vb) (d + 1) 62 [.int (qz x0)] (qw σ α κ ρ) (fun r w' => w' = qw σ α κ ρ ∧ ∃ v : Int, r = some (.int (qz v)) ∧ (0 ≤ v ∧ v ≤ 1) ∧ ((v = 1 ∧ 0 ≤ x0 ∧ x0 ≤ 2399) ∨ (v = 0 ∧ ¬ (0 ≤ x0 ∧ x0 ≤ 2399)))) := by
  refine qr_start (d := d + 0) qv_e62 (Nat.le_of_ble_eq_true rfl) ?_
  show qr_W (qe L xs vb) (d + 0) qx_e62 _ (0, [(0, .int (qz x0))], [], _, 0, 0)
  refine qr_iload_n 1 rfl rfl rfl ?_
  refine qr_if_lt 15 4 rfl rfl rfl r0 (fun h1 => ?_) (fun h1 => ?_)
  · skip
    refine qr_iconst 16 rfl rfl ?_
    refine qr_retZ rfl rfl (Or.inl rfl) (by decide) (by decide) ?_
    exact ⟨rfl, 0, rfl, (by decide), by omega⟩
  · skip
    refine qr_iload_n 5 rfl rfl rfl ?_
    refine qr_sipush 8 rfl (by decide) rfl ?_
    refine qr_icmp_gt 15 11 rfl rfl rfl r0 (by decide) (fun h2 => ?_) (fun h2 => ?_)
    · skip
      refine qr_iconst 16 rfl rfl ?_
      refine qr_retZ rfl rfl (Or.inl rfl) (by decide) (by decide) ?_
      exact ⟨rfl, 0, rfl, (by decide), by omega⟩
    · skip
      refine qr_iconst 12 rfl rfl ?_
      refine qr_goto 16 rfl rfl ?_
      refine qr_retZ rfl rfl (Or.inr rfl) (by decide) (by decide) ?_
      exact ⟨rfl, 1, rfl, (by decide), by omega⟩

set_option maxHeartbeats 4000000 in
set_option maxRecDepth 20000 in
/-- OneRoof.isBit -/
theorem sf_41 {L : Nat} {xs : Nat → Int} {vb : Bool} {d : Nat} {σ α : Nat → Nat → Int} {κ : Nat → Option Nat} {ρ : Nat} {x0 : Int} (hI : qI σ α κ ρ) (r0 : (-2147483648) ≤ x0 ∧ x0 ≤ 2147483647) : qm_T (qe L xs vb) (d + 1) 41 [.int (qz x0)] (qw σ α κ ρ) (fun r w' => w' = qw σ α κ ρ ∧ ∃ v : Int, r = some (.int (qz v)) ∧ (0 ≤ v ∧ v ≤ 1) ∧ ((v = 1 ∧ (x0 = 0 ∨ x0 = 1)) ∨ (v = 0 ∧ ¬ ((x0 = 0 ∨ x0 = 1))))) := by
  refine qr_start (d := d + 0) qv_e41 (Nat.le_of_ble_eq_true rfl) ?_
  show qr_W (qe L xs vb) (d + 0) qx_e41 _ (0, [(0, .int (qz x0))], [], _, 0, 0)
  refine qr_iload_n 1 rfl rfl rfl ?_
  refine qr_if_eq 9 4 rfl rfl rfl r0 (fun h1 => ?_) (fun h1 => ?_)
  · skip
    refine qr_iconst 10 rfl rfl ?_
    refine qr_goto 14 rfl rfl ?_
    refine qr_retZ rfl rfl (Or.inr rfl) (by decide) (by decide) ?_
    exact ⟨rfl, 1, rfl, (by decide), by omega⟩
  · skip
    refine qr_iload_n 5 rfl rfl rfl ?_
    refine qr_iconst 6 rfl rfl ?_
    refine qr_icmp_ne 13 9 rfl rfl rfl r0 (by decide) (fun h2 => ?_) (fun h2 => ?_)
    · skip
      refine qr_iconst 14 rfl rfl ?_
      refine qr_retZ rfl rfl (Or.inl rfl) (by decide) (by decide) ?_
      exact ⟨rfl, 0, rfl, (by decide), by omega⟩
    · skip
      refine qr_iconst 10 rfl rfl ?_
      refine qr_goto 14 rfl rfl ?_
      refine qr_retZ rfl rfl (Or.inr rfl) (by decide) (by decide) ?_
      exact ⟨rfl, 1, rfl, (by decide), by omega⟩

set_option maxHeartbeats 4000000 in
set_option maxRecDepth 20000 in
/-- OneRoof$Folk.has -/
theorem sf_40_17 {L : Nat} {xs : Nat → Int} {vb : Bool} {d : Nat} {σ α : Nat → Nat → Int} {κ : Nat → Option Nat} {ρ : Nat} {x1 : Int} (hI : qI σ α κ ρ) (r1 : (-2147483648) ≤ x1 ∧ x1 ≤ 2147483647) : qm_T (qe L xs vb) (d + 1) 40 [.ref 17, .int (qz x1)] (qw σ α κ ρ) (fun r w' => w' = qw σ α κ ρ ∧ ∃ v : Int, r = some (.int (qz v)) ∧ (0 ≤ v ∧ v ≤ 1) ∧ (σ 17 6 ≤ 32 ∧ ((v = 1 ∧ 0 ≤ x1 ∧ x1 < σ 17 6) ∨ (v = 0 ∧ ¬ (0 ≤ x1 ∧ x1 < σ 17 6))))) := by
  refine qr_start (d := d + 0) qv_e40 (Nat.le_of_ble_eq_true rfl) ?_
  show qr_W (qe L xs vb) (d + 0) qx_e40 _ (0, [(0, .ref 17), (1, .int (qz x1))], [], _, 0, 0)
  have hz17_6 : 0 ≤ σ 17 6 ∧ σ 17 6 ≤ 32 := hI.1 17 6
  refine qr_iload_n 1 rfl rfl rfl ?_
  refine qr_if_lt 16 4 rfl rfl rfl r1 (fun h1 => ?_) (fun h1 => ?_)
  · skip
    refine qr_iconst 17 rfl rfl ?_
    refine qr_retZ rfl rfl (Or.inl rfl) (by decide) (by decide) ?_
    exact ⟨rfl, 0, rfl, (by decide), by omega⟩
  · skip
    refine qr_iload_n 5 rfl rfl rfl ?_
    refine qr_aload_n 6 rfl rfl rfl ?_
    refine qr_get 9 rfl rfl rfl (by decide) rfl ?_
    refine qr_icmp_ge 16 12 rfl rfl rfl r1 (qrg hz17_6 (by decide) (by decide)) (fun h2 => ?_) (fun h2 => ?_)
    · skip
      refine qr_iconst 17 rfl rfl ?_
      refine qr_retZ rfl rfl (Or.inl rfl) (by decide) (by decide) ?_
      exact ⟨rfl, 0, rfl, (by decide), by omega⟩
    · skip
      refine qr_iconst 13 rfl rfl ?_
      refine qr_goto 17 rfl rfl ?_
      refine qr_retZ rfl rfl (Or.inr rfl) (by decide) (by decide) ?_
      exact ⟨rfl, 1, rfl, (by decide), by omega⟩

set_option maxHeartbeats 4000000 in
set_option maxRecDepth 20000 in
/-- OneRoof$Folk.isPair -/
theorem sf_61_17 {L : Nat} {xs : Nat → Int} {vb : Bool} {d : Nat} {σ α : Nat → Nat → Int} {κ : Nat → Option Nat} {ρ : Nat} {x1 : Int} (hI : qI σ α κ ρ) (r1 : (-2147483648) ≤ x1 ∧ x1 ≤ 2147483647) : qm_T (qe L xs vb) (d + 2) 61 [.ref 17, .int (qz x1)] (qw σ α κ ρ) (fun r w' => w' = qw σ α κ ρ ∧ ∃ v : Int, r = some (.int (qz v)) ∧ (0 ≤ v ∧ v ≤ 1) ∧ (σ 17 6 ≤ 32 ∧ ((v = 1 ∧ 0 ≤ x1 ∧ x1 / 100 < σ 17 6 ∧ x1 % 100 < σ 17 6 ∧ ¬ x1 / 100 = x1 % 100) ∨ (v = 0 ∧ ¬ (0 ≤ x1 ∧ x1 / 100 < σ 17 6 ∧ x1 % 100 < σ 17 6 ∧ ¬ x1 / 100 = x1 % 100))))) := by
  refine qr_start (d := d + 1) qv_e61 (Nat.le_of_ble_eq_true rfl) ?_
  show qr_W (qe L xs vb) (d + 1) qx_e61 _ (0, [(0, .ref 17), (1, .int (qz x1))], [], _, 0, 0)
  have hz17_6 : 0 ≤ σ 17 6 ∧ σ 17 6 ≤ 32 := hI.1 17 6
  refine qr_iload_n 1 rfl rfl rfl ?_
  refine qr_if_lt 41 4 rfl rfl rfl r1 (fun h1 => ?_) (fun h1 => ?_)
  · skip
    refine qr_iconst 42 rfl rfl ?_
    refine qr_retZ rfl rfl (Or.inl rfl) (by decide) (by decide) ?_
    exact ⟨rfl, 0, rfl, (by decide), by omega⟩
  · skip
    refine qr_aload_n 5 rfl rfl rfl ?_
    refine qr_iload_n 6 rfl rfl rfl ?_
    refine qr_bipush 8 rfl (by decide) rfl ?_
    refine qr_idiv 9 rfl (by omega) (by decide) rfl ?_
    refine qr_callN 12 rfl rfl rfl (sf_40_17 (d := d + 0) hI (by omega)) ?_
    have hs4 : 0 ≤ σ 17 6 ∧ σ 17 6 ≤ 32 := hI.1 17 6
    rintro _ _ ⟨rfl, v2, rfl, hv2, hp3⟩
    show qr_W (qe L xs vb) (d + 1) qx_e61 _ (12, _, [.int (qz v2)], qw σ α κ ρ, 0, 0)
    refine qr_if_eq 41 15 rfl rfl rfl (qrg hv2 (by decide) (by decide)) (fun h5 => ?_) (fun h5 => ?_)
    · skip
      refine qr_iconst 42 rfl rfl ?_
      refine qr_retZ rfl rfl (Or.inl rfl) (by decide) (by decide) ?_
      exact ⟨rfl, 0, rfl, (by decide), by omega⟩
    · skip
      refine qr_aload_n 16 rfl rfl rfl ?_
      refine qr_iload_n 17 rfl rfl rfl ?_
      refine qr_bipush 19 rfl (by decide) rfl ?_
      refine qr_irem 20 rfl (by omega) (by decide) rfl ?_
      refine qr_callN 23 rfl rfl rfl (sf_40_17 (d := d + 0) hI (by omega)) ?_
      have hs8 : 0 ≤ σ 17 6 ∧ σ 17 6 ≤ 32 := hI.1 17 6
      rintro _ _ ⟨rfl, v6, rfl, hv6, hp7⟩
      show qr_W (qe L xs vb) (d + 1) qx_e61 _ (23, _, [.int (qz v6)], qw σ α κ ρ, 0, 0)
      refine qr_if_eq 41 26 rfl rfl rfl (qrg hv6 (by decide) (by decide)) (fun h9 => ?_) (fun h9 => ?_)
      · skip
        refine qr_iconst 42 rfl rfl ?_
        refine qr_retZ rfl rfl (Or.inl rfl) (by decide) (by decide) ?_
        exact ⟨rfl, 0, rfl, (by decide), by omega⟩
      · skip
        refine qr_iload_n 27 rfl rfl rfl ?_
        refine qr_bipush 29 rfl (by decide) rfl ?_
        refine qr_idiv 30 rfl (by omega) (by decide) rfl ?_
        refine qr_iload_n 31 rfl rfl rfl ?_
        refine qr_bipush 33 rfl (by decide) rfl ?_
        refine qr_irem 34 rfl (by omega) (by decide) rfl ?_
        refine qr_icmp_eq 41 37 rfl rfl rfl (by omega) (by omega) (fun h10 => ?_) (fun h10 => ?_)
        · skip
          refine qr_iconst 42 rfl rfl ?_
          refine qr_retZ rfl rfl (Or.inl rfl) (by decide) (by decide) ?_
          exact ⟨rfl, 0, rfl, (by decide), by omega⟩
        · skip
          refine qr_iconst 38 rfl rfl ?_
          refine qr_goto 42 rfl rfl ?_
          refine qr_retZ rfl rfl (Or.inr rfl) (by decide) (by decide) ?_
          exact ⟨rfl, 1, rfl, (by decide), by omega⟩

set_option maxHeartbeats 4000000 in
set_option maxRecDepth 20000 in
/-- OneRoof$Folk.isSet -/
theorem sf_88_17 {L : Nat} {xs : Nat → Int} {vb : Bool} {d : Nat} {σ α : Nat → Nat → Int} {κ : Nat → Option Nat} {ρ : Nat} {x1 : Int} (hI : qI σ α κ ρ) (r1 : (-9223372036854775808) ≤ x1 ∧ x1 ≤ 9223372036854775807) : qm_T (qe L xs vb) (d + 1) 88 [.ref 17, .long (ql x1)] (qw σ α κ ρ) (fun r w' => w' = qw σ α κ ρ ∧ ∃ v : Int, r = some (.int (qz v)) ∧ (0 ≤ v ∧ v ≤ 1)) := by
  refine qr_start (d := d + 0) qv_e88 (Nat.le_of_ble_eq_true rfl) ?_
  show qr_W (qe L xs vb) (d + 0) qx_e88 _ (0, [(0, .ref 17), (1, .long (ql x1))], [], _, 0, 0)
  refine qr_lload_n 1 rfl rfl rfl ?_
  refine qr_lconst 2 rfl rfl ?_
  refine qy_vl 0 rfl ?_
  refine qr_lc_lt 21 6 rfl rfl rfl rfl r1 (by decide) (fun h1 => ?_) (fun h1 => ?_)
  · skip
    refine qr_iconst 22 rfl rfl ?_
    refine qr_retZ rfl rfl (Or.inl rfl) (by decide) (by decide) ?_
    exact ⟨rfl, 0, rfl, (by decide)⟩
  · skip
    refine qr_lload_n 7 rfl rfl rfl ?_
    refine qr_aload_n 8 rfl rfl rfl ?_
    refine qr_get 11 rfl rfl rfl (by decide) rfl ?_
    have hs2 : 0 ≤ σ 17 6 ∧ σ 17 6 ≤ 32 := hI.1 17 6
    refine qr_lushr 12 rfl rfl ?_
    refine qy_canl (fun v3 hv3 => ?_)
    refine qr_lconst 13 rfl rfl ?_
    refine qy_vl 0 rfl ?_
    refine qr_lc_ne 21 17 rfl rfl rfl rfl hv3 (by decide) (fun h4 => ?_) (fun h4 => ?_)
    · skip
      refine qr_iconst 22 rfl rfl ?_
      refine qr_retZ rfl rfl (Or.inl rfl) (by decide) (by decide) ?_
      exact ⟨rfl, 0, rfl, (by decide)⟩
    · skip
      refine qr_iconst 18 rfl rfl ?_
      refine qr_goto 22 rfl rfl ?_
      refine qr_retZ rfl rfl (Or.inr rfl) (by decide) (by decide) ?_
      exact ⟨rfl, 1, rfl, (by decide)⟩

set_option maxHeartbeats 4000000 in
set_option maxRecDepth 20000 in
/-- OneRoof.isSpan -/
theorem sf_70 {L : Nat} {xs : Nat → Int} {vb : Bool} {d : Nat} {σ α : Nat → Nat → Int} {κ : Nat → Option Nat} {ρ : Nat} {x0 : Int} (hI : qI σ α κ ρ) (r0 : (-2147483648) ≤ x0 ∧ x0 ≤ 2147483647) : qm_T (qe L xs vb) (d + 2) 70 [.int (qz x0)] (qw σ α κ ρ) (fun r w' => w' = qw σ α κ ρ ∧ ∃ v : Int, r = some (.int (qz v)) ∧ (0 ≤ v ∧ v ≤ 1) ∧ ((v = 1 ∧ 0 ≤ x0 ∧ x0 / 10000 ≤ x0 % 10000 ∧ x0 % 10000 ≤ 2399) ∨ (v = 0 ∧ ¬ (0 ≤ x0 ∧ x0 / 10000 ≤ x0 % 10000 ∧ x0 % 10000 ≤ 2399)))) := by
  refine qr_start (d := d + 1) qv_e70 (Nat.le_of_ble_eq_true rfl) ?_
  show qr_W (qe L xs vb) (d + 1) qx_e70 _ (0, [(0, .int (qz x0))], [], _, 0, 0)
  refine qr_iload_n 1 rfl rfl rfl ?_
  refine qr_if_lt 32 4 rfl rfl rfl r0 (fun h1 => ?_) (fun h1 => ?_)
  · skip
    refine qr_iconst 33 rfl rfl ?_
    refine qr_retZ rfl rfl (Or.inl rfl) (by decide) (by decide) ?_
    exact ⟨rfl, 0, rfl, (by decide), by omega⟩
  · skip
    refine qr_iload_n 5 rfl rfl rfl ?_
    refine qr_sipush 8 rfl (by decide) rfl ?_
    refine qr_idiv 9 rfl (by omega) (by decide) rfl ?_
    refine qr_iload_n 10 rfl rfl rfl ?_
    refine qr_sipush 13 rfl (by decide) rfl ?_
    refine qr_irem 14 rfl (by omega) (by decide) rfl ?_
    refine qr_icmp_gt 32 17 rfl rfl rfl (by omega) (by omega) (fun h2 => ?_) (fun h2 => ?_)
    · skip
      refine qr_iconst 33 rfl rfl ?_
      refine qr_retZ rfl rfl (Or.inl rfl) (by decide) (by decide) ?_
      exact ⟨rfl, 0, rfl, (by decide), by omega⟩
    · skip
      refine qr_iload_n 18 rfl rfl rfl ?_
      refine qr_sipush 21 rfl (by decide) rfl ?_
      refine qr_irem 22 rfl (by omega) (by decide) rfl ?_
      refine qr_callN 25 rfl rfl rfl (sf_62 (d := d + 0) hI (by omega)) ?_
      rintro _ _ ⟨rfl, v3, rfl, hv3, hp4⟩
      show qr_W (qe L xs vb) (d + 1) qx_e70 _ (25, _, [.int (qz v3)], qw σ α κ ρ, 0, 0)
      refine qr_if_eq 32 28 rfl rfl rfl (qrg hv3 (by decide) (by decide)) (fun h5 => ?_) (fun h5 => ?_)
      · skip
        refine qr_iconst 33 rfl rfl ?_
        refine qr_retZ rfl rfl (Or.inl rfl) (by decide) (by decide) ?_
        exact ⟨rfl, 0, rfl, (by decide), by omega⟩
      · skip
        refine qr_iconst 29 rfl rfl ?_
        refine qr_goto 33 rfl rfl ?_
        refine qr_retZ rfl rfl (Or.inr rfl) (by decide) (by decide) ?_
        exact ⟨rfl, 1, rfl, (by decide), by omega⟩

set_option maxHeartbeats 4000000 in
set_option maxRecDepth 20000 in
/-- OneRoof.isWindow -/
theorem sf_100 {L : Nat} {xs : Nat → Int} {vb : Bool} {d : Nat} {σ α : Nat → Nat → Int} {κ : Nat → Option Nat} {ρ : Nat} {x0 : Int} (hI : qI σ α κ ρ) (r0 : (-2147483648) ≤ x0 ∧ x0 ≤ 2147483647) : qm_T (qe L xs vb) (d + 3) 100 [.int (qz x0)] (qw σ α κ ρ) (fun r w' => w' = qw σ α κ ρ ∧ ∃ v : Int, r = some (.int (qz v)) ∧ (0 ≤ v ∧ v ≤ 1) ∧ ((v = 1 ∧ 0 ≤ x0 ∧ x0 / 10000 ≤ x0 % 10000 ∧ x0 % 10000 ≤ 2399 ∧ x0 % 10000 - x0 / 10000 < 48) ∨ (v = 0 ∧ ¬ (0 ≤ x0 ∧ x0 / 10000 ≤ x0 % 10000 ∧ x0 % 10000 ≤ 2399 ∧ x0 % 10000 - x0 / 10000 < 48)))) := by
  refine qr_start (d := d + 2) qv_e100 (Nat.le_of_ble_eq_true rfl) ?_
  show qr_W (qe L xs vb) (d + 2) qx_e100 _ (0, [(0, .int (qz x0))], [], _, 0, 0)
  refine qr_iload_n 1 rfl rfl rfl ?_
  refine qr_callN 4 rfl rfl rfl (sf_70 (d := d + 0) hI r0) ?_
  rintro _ _ ⟨rfl, v1, rfl, hv1, hp2⟩
  show qr_W (qe L xs vb) (d + 2) qx_e100 _ (4, _, [.int (qz v1)], qw σ α κ ρ, 0, 0)
  refine qr_if_eq 27 7 rfl rfl rfl (qrg hv1 (by decide) (by decide)) (fun h3 => ?_) (fun h3 => ?_)
  · skip
    refine qr_iconst 28 rfl rfl ?_
    refine qr_retZ rfl rfl (Or.inl rfl) (by decide) (by decide) ?_
    exact ⟨rfl, 0, rfl, (by decide), by omega⟩
  · skip
    refine qr_iload_n 8 rfl rfl rfl ?_
    refine qr_sipush 11 rfl (by decide) rfl ?_
    refine qr_irem 12 rfl (by omega) (by decide) rfl ?_
    refine qr_iload_n 13 rfl rfl rfl ?_
    refine qr_sipush 16 rfl (by decide) rfl ?_
    refine qr_idiv 17 rfl (by omega) (by decide) rfl ?_
    refine qr_isub 18 rfl rfl ?_
    refine qr_bipush 20 rfl (by decide) rfl ?_
    refine qr_icmp_ge 27 23 rfl rfl rfl (by omega) (by decide) (fun h4 => ?_) (fun h4 => ?_)
    · skip
      refine qr_iconst 28 rfl rfl ?_
      refine qr_retZ rfl rfl (Or.inl rfl) (by decide) (by decide) ?_
      exact ⟨rfl, 0, rfl, (by decide), by omega⟩
    · skip
      refine qr_iconst 24 rfl rfl ?_
      refine qr_goto 28 rfl rfl ?_
      refine qr_retZ rfl rfl (Or.inr rfl) (by decide) (by decide) ?_
      exact ⟨rfl, 1, rfl, (by decide), by omega⟩

set_option maxHeartbeats 4000000 in
set_option maxRecDepth 20000 in
/-- OneRoof.isIn -/
theorem sf_50 {L : Nat} {xs : Nat → Int} {vb : Bool} {d : Nat} {σ α : Nat → Nat → Int} {κ : Nat → Option Nat} {ρ : Nat} {x0 : Int} {x1 : Int} (hI : qI σ α κ ρ) (r0 : (-9223372036854775808) ≤ x0 ∧ x0 ≤ 9223372036854775807) (r1 : (-2147483648) ≤ x1 ∧ x1 ≤ 2147483647) : qm_T (qe L xs vb) (d + 1) 50 [.long (ql x0), .int (qz x1)] (qw σ α κ ρ) (fun r w' => w' = qw σ α κ ρ ∧ ∃ v : Int, r = some (.int (qz v)) ∧ (0 ≤ v ∧ v ≤ 1)) := by
  refine qr_start (d := d + 0) qv_e50 (Nat.le_of_ble_eq_true rfl) ?_
  show qr_W (qe L xs vb) (d + 0) qx_e50 _ (0, [(0, .long (ql x0)), (2, .int (qz x1))], [], _, 0, 0)
  refine qr_lload_n 1 rfl rfl rfl ?_
  refine qr_iload_n 2 rfl rfl rfl ?_
  refine qr_lushr 3 rfl rfl ?_
  refine qy_canl (fun v1 hv1 => ?_)
  refine qr_lconst 4 rfl rfl ?_
  refine qy_vl 1 rfl ?_
  refine qr_land 5 rfl rfl ?_
  refine qy_canl (fun v2 hv2 => ?_)
  refine qr_lconst 6 rfl rfl ?_
  refine qy_vl 0 rfl ?_
  refine qr_lc_eq 14 10 rfl rfl rfl rfl hv2 (by decide) (fun h3 => ?_) (fun h3 => ?_)
  · skip
    refine qr_iconst 15 rfl rfl ?_
    refine qr_retZ rfl rfl (Or.inl rfl) (by decide) (by decide) ?_
    exact ⟨rfl, 0, rfl, (by decide)⟩
  · skip
    refine qr_iconst 11 rfl rfl ?_
    refine qr_goto 15 rfl rfl ?_
    refine qr_retZ rfl rfl (Or.inr rfl) (by decide) (by decide) ?_
    exact ⟨rfl, 1, rfl, (by decide)⟩

set_option maxHeartbeats 4000000 in
set_option maxRecDepth 20000 in
/-- OneRoof$Folk.haveOneLord -/
theorem sf_96_17 {L : Nat} {xs : Nat → Int} {vb : Bool} {d : Nat} {σ α : Nat → Nat → Int} {κ : Nat → Option Nat} {ρ : Nat} {x1 : Int} {x2 : Int} (hI : qI σ α κ ρ) (r1 : 0 ≤ x1 ∧ x1 ≤ 31) (r2 : 0 ≤ x2 ∧ x2 ≤ 31) : qm_T (qe L xs vb) (d + 1) 96 [.ref 17, .int (qz x1), .int (qz x2)] (qw σ α κ ρ) (fun r w' => w' = qw σ α κ ρ ∧ ∃ v : Int, r = some (.int (qz v)) ∧ (0 ≤ v ∧ v ≤ 1)) := by
  refine qr_start (d := d + 0) qv_e96 (Nat.le_of_ble_eq_true rfl) ?_
  show qr_W (qe L xs vb) (d + 0) qx_e96 _ (0, [(0, .ref 17), (1, .int (qz x1)), (2, .int (qz x2))], [], _, 0, 0)
  refine qr_aload_n 1 rfl rfl rfl ?_
  refine qr_get 4 rfl rfl rfl (by decide) rfl ?_
  refine qr_iload_n 5 rfl rfl rfl ?_
  refine qr_iaload 6 rfl rfl (qrgi r1 (by decide) (by decide)) (by decide) rfl ?_
  refine qr_topI (fun v1 hv1 => ?_)
  have hs2 : (-1) ≤ v1 ∧ v1 ≤ 31 := by rw [hv1]; exact hI.2.1 18 _ (show _ < 32 from qrgt r1 (by decide) (by decide))
  refine qr_if_lt 28 9 rfl rfl rfl (qrg hs2 (by decide) (by decide)) (fun h3 => ?_) (fun h3 => ?_)
  · skip
    refine qr_iconst 29 rfl rfl ?_
    refine qr_retZ rfl rfl (Or.inl rfl) (by decide) (by decide) ?_
    exact ⟨rfl, 0, rfl, (by decide)⟩
  · skip
    refine qr_aload_n 10 rfl rfl rfl ?_
    refine qr_get 13 rfl rfl rfl (by decide) rfl ?_
    refine qr_iload_n 14 rfl rfl rfl ?_
    refine qr_iaload 15 rfl rfl (qrgi r1 (by decide) (by decide)) (by decide) rfl ?_
    refine qr_topI (fun v4 hv4 => ?_)
    have hs5 : (-1) ≤ v4 ∧ v4 ≤ 31 := by rw [hv4]; exact hI.2.1 18 _ (show _ < 32 from qrgt r1 (by decide) (by decide))
    refine qr_aload_n 16 rfl rfl rfl ?_
    refine qr_get 19 rfl rfl rfl (by decide) rfl ?_
    refine qr_iload_n 20 rfl rfl rfl ?_
    refine qr_iaload 21 rfl rfl (qrgi r2 (by decide) (by decide)) (by decide) rfl ?_
    refine qr_topI (fun v6 hv6 => ?_)
    have hs7 : (-1) ≤ v6 ∧ v6 ≤ 31 := by rw [hv6]; exact hI.2.1 18 _ (show _ < 32 from qrgt r2 (by decide) (by decide))
    refine qr_icmp_ne 28 24 rfl rfl rfl (qrg hs5 (by decide) (by decide)) (qrg hs7 (by decide) (by decide)) (fun h8 => ?_) (fun h8 => ?_)
    · skip
      refine qr_iconst 29 rfl rfl ?_
      refine qr_retZ rfl rfl (Or.inl rfl) (by decide) (by decide) ?_
      exact ⟨rfl, 0, rfl, (by decide)⟩
    · skip
      refine qr_iconst 25 rfl rfl ?_
      refine qr_goto 29 rfl rfl ?_
      refine qr_retZ rfl rfl (Or.inr rfl) (by decide) (by decide) ?_
      exact ⟨rfl, 1, rfl, (by decide)⟩

set_option maxHeartbeats 4000000 in
set_option maxRecDepth 20000 in
/-- OneRoof$Folk.sharingLord -/
theorem sf_95_17 {L : Nat} {xs : Nat → Int} {vb : Bool} {d : Nat} {σ α : Nat → Nat → Int} {κ : Nat → Option Nat} {ρ : Nat} {x1 : Int} {x2 : Int} (hI : qI σ α κ ρ) (r1 : 0 ≤ x1 ∧ x1 ≤ 31) (r2 : (-9223372036854775808) ≤ x2 ∧ x2 ≤ 9223372036854775807) : qm_T (qe L xs vb) (d + 2) 95 [.ref 17, .int (qz x1), .long (ql x2)] (qw σ α κ ρ) (fun r w' => w' = qw σ α κ ρ ∧ ∃ v : Int, r = some (.int (qz v)) ∧ ((-2147483648) ≤ v ∧ v ≤ 2147483647)) := by
  refine qr_start (d := d + 1) qv_e95 (Nat.le_of_ble_eq_true rfl) ?_
  show qr_W (qe L xs vb) (d + 1) qx_e95 _ (0, [(0, .ref 17), (1, .int (qz x1)), (2, .long (ql x2))], [], _, 0, 0)
  refine qr_iconst 1 rfl rfl ?_
  refine qr_istore _ 3 rfl (by decide) rfl rfl ?_
  refine qr_iconst 4 rfl rfl ?_
  refine qr_istore _ 6 rfl (by decide) rfl rfl ?_
  have hL730 : ∀ (n : Nat) (ls : qm_L) (u725 u727 : Int), 32 - u727 < (n : Int) → qm_get ls 0 = some (.ref 17) → qm_get ls 1 = some (.int (qz x1)) → qm_get ls 2 = some (.long (ql x2)) → qm_get ls 4 = some (.int (qz u725)) → qm_get ls 5 = some (.int (qz u727)) → ((-2147483648) ≤ u725 ∧ u725 ≤ 2147483647) → (0 ≤ u727 ∧ u727 ≤ 32) → qr_W (qe L xs vb) (d + 1) qx_e95 (fun r w' => w' = qw σ α κ ρ ∧ ∃ v : Int, r = some (.int (qz v)) ∧ ((-2147483648) ≤ v ∧ v ≤ 2147483647)) (6, ls, [], qw σ α κ ρ, 0, 0) := by
    intro n
    induction n with
    | zero => intro ls u725 u727 hm g721 g722 g723 g724 g726 hf728 hf729; exact False.elim (by omega)
    | succ n ih731 =>
      intro ls u725 u727 hm g721 g722 g723 g724 g726 hf728 hf729
      refine qr_iload 8 rfl g726 rfl ?_
      refine qr_aload_n 9 rfl g721 rfl ?_
      refine qr_get 12 rfl rfl rfl (by decide) rfl ?_
      have hs732 : 0 ≤ σ 17 6 ∧ σ 17 6 ≤ 32 := hI.1 17 6
      refine qr_icmp_ge 49 15 rfl rfl rfl (qrg hf729 (by decide) (by decide)) (qrg hs732 (by decide) (by decide)) (fun h733 => ?_) (fun h733 => ?_)
      · skip
        refine qr_iload 51 rfl g724 rfl ?_
        refine qr_retI rfl rfl (by decide) (by decide) ?_
        exact ⟨rfl, u725, rfl, hf728⟩
      · skip
        refine qr_lload_n 16 rfl g723 rfl ?_
        refine qr_iload 18 rfl g726 rfl ?_
        refine qr_callN 21 rfl rfl rfl (sf_50 (d := d + 0) hI r2 (qrg hf729 (by decide) (by decide))) ?_
        rintro _ _ ⟨rfl, v734, rfl, hv734⟩
        show qr_W (qe L xs vb) (d + 1) qx_e95 _ (21, _, [.int (qz v734)], qw σ α κ ρ, 0, 0)
        have hJ745 : ∀ (ls : qm_L) (u742 : Int), qm_get ls 0 = some (.ref 17) → qm_get ls 1 = some (.int (qz x1)) → qm_get ls 2 = some (.long (ql x2)) → qm_get ls 4 = some (.int (qz u742)) → qm_get ls 5 = some (.int (qz u727)) → ((-2147483648) ≤ u742 ∧ u742 ≤ 2147483647) → qr_W (qe L xs vb) (d + 1) qx_e95 (fun r w' => w' = qw σ α κ ρ ∧ ∃ v : Int, r = some (.int (qz v)) ∧ ((-2147483648) ≤ v ∧ v ≤ 2147483647)) (43, ls, [], qw σ α κ ρ, 0, 0) := by
          intro ls u742 g738 g739 g740 g741 g743 hf744
          refine qr_iinc _ 46 rfl g743 (by decide) rfl rfl ?_
          refine qr_goto 6 rfl rfl ?_
          exact ih731 _ u742 (u727 + 1) (by omega) (qm_gk g738 (by decide) (Or.inl (by decide))) (qm_gk g739 (by decide) (Or.inl (by decide))) (qm_gk g740 (by decide) (Or.inl (by decide))) (qm_gk g741 (by decide) (Or.inr rfl)) (qm_ge _ _ _) hf744 (by omega)
        refine qr_if_eq 43 24 rfl rfl rfl (qrg hv734 (by decide) (by decide)) (fun h746 => ?_) (fun h746 => ?_)
        · skip
          exact hJ745 _ u725 g721 g722 g723 g724 g726 hf728
        · skip
          refine qr_iload 26 rfl g726 rfl ?_
          refine qr_iload_n 27 rfl g722 rfl ?_
          refine qr_icmp_eq 40 30 rfl rfl rfl (qrg hf729 (by decide) (by decide)) (qrg r1 (by decide) (by decide)) (fun h747 => ?_) (fun h747 => ?_)
          · skip
            refine qy_iincC 43 rfl g724 (by decide) rfl (fun v748 hv748 => ?_)
            exact hJ745 _ v748 (qm_gk g721 (by decide) (Or.inl (by decide))) (qm_gk g722 (by decide) (Or.inl (by decide))) (qm_gk g723 (by decide) (Or.inl (by decide))) (qm_ge _ _ _) (qm_gk g726 (by decide) (Or.inl (by decide))) (by omega)
          · skip
            refine qr_aload_n 31 rfl g721 rfl ?_
            refine qr_iload 33 rfl g726 rfl ?_
            refine qr_iload_n 34 rfl g722 rfl ?_
            refine qr_callN 37 rfl rfl rfl (sf_96_17 (d := d + 0) hI (by omega) r1) ?_
            rintro _ _ ⟨rfl, v749, rfl, hv749⟩
            show qr_W (qe L xs vb) (d + 1) qx_e95 _ (37, _, [.int (qz v749)], qw σ α κ ρ, 0, 0)
            refine qr_if_eq 43 40 rfl rfl rfl (qrg hv749 (by decide) (by decide)) (fun h750 => ?_) (fun h750 => ?_)
            · skip
              exact hJ745 _ u725 g721 g722 g723 g724 g726 hf728
            · skip
              refine qy_iincC 43 rfl g724 (by decide) rfl (fun v751 hv751 => ?_)
              exact hJ745 _ v751 (qm_gk g721 (by decide) (Or.inl (by decide))) (qm_gk g722 (by decide) (Or.inl (by decide))) (qm_gk g723 (by decide) (Or.inl (by decide))) (qm_ge _ _ _) (qm_gk g726 (by decide) (Or.inl (by decide))) (by omega)
  exact hL730 ((32 - 0 + 1 : Int)).toNat _ 0 0 (by omega) rfl rfl rfl rfl rfl (by decide) (by decide)

set_option maxHeartbeats 4000000 in
set_option maxRecDepth 20000 in
/-- OneRoof$Kinship.apart -/
theorem sf_57_23 {L : Nat} {xs : Nat → Int} {vb : Bool} {d : Nat} {σ α : Nat → Nat → Int} {κ : Nat → Option Nat} {ρ : Nat} {x1 : Int} {x2 : Int} (hI : qI σ α κ ρ) (r1 : 0 ≤ x1 ∧ x1 ≤ 31) (r2 : 0 ≤ x2 ∧ x2 ≤ 31) : qm_T (qe L xs vb) (d + 1) 57 [.ref 23, .int (qz x1), .int (qz x2)] (qw σ α κ ρ) (fun r w' => w' = qw σ α κ ρ ∧ ∃ v : Int, r = some (.int (qz v)) ∧ (0 ≤ v ∧ v ≤ 99)) := by
  refine qr_start (d := d + 0) qv_e57 (Nat.le_of_ble_eq_true rfl) ?_
  show qr_W (qe L xs vb) (d + 0) qx_e57 _ (0, [(0, .ref 23), (1, .int (qz x1)), (2, .int (qz x2))], [], _, 0, 0)
  refine qr_aload_n 1 rfl rfl rfl ?_
  refine qr_get 4 rfl rfl rfl (by decide) rfl ?_
  refine qr_iload_n 5 rfl rfl rfl ?_
  refine qr_bipush 7 rfl (by decide) rfl ?_
  refine qr_imul 8 rfl rfl ?_
  refine qr_iload_n 9 rfl rfl rfl ?_
  refine qr_iadd 10 rfl rfl ?_
  refine qr_iaload 11 rfl rfl (by omega) (by decide) rfl ?_
  refine qr_topI (fun v1 hv1 => ?_)
  have hs2 : 0 ≤ v1 ∧ v1 ≤ 99 := by rw [hv1]; exact hI.2.1 24 _ (show _ < 1024 by omega)
  refine qr_retI rfl rfl (by decide) (by decide) ?_
  exact ⟨rfl, v1, rfl, hs2⟩

set_option maxHeartbeats 4000000 in
set_option maxRecDepth 20000 in
/-- OneRoof$Kinship.apart -/
theorem sf_57_25 {L : Nat} {xs : Nat → Int} {vb : Bool} {d : Nat} {σ α : Nat → Nat → Int} {κ : Nat → Option Nat} {ρ : Nat} {x1 : Int} {x2 : Int} (hI : qI σ α κ ρ) (r1 : 0 ≤ x1 ∧ x1 ≤ 31) (r2 : 0 ≤ x2 ∧ x2 ≤ 31) : qm_T (qe L xs vb) (d + 1) 57 [.ref 25, .int (qz x1), .int (qz x2)] (qw σ α κ ρ) (fun r w' => w' = qw σ α κ ρ ∧ ∃ v : Int, r = some (.int (qz v)) ∧ (0 ≤ v ∧ v ≤ 99)) := by
  refine qr_start (d := d + 0) qv_e57 (Nat.le_of_ble_eq_true rfl) ?_
  show qr_W (qe L xs vb) (d + 0) qx_e57 _ (0, [(0, .ref 25), (1, .int (qz x1)), (2, .int (qz x2))], [], _, 0, 0)
  refine qr_aload_n 1 rfl rfl rfl ?_
  refine qr_get 4 rfl rfl rfl (by decide) rfl ?_
  refine qr_iload_n 5 rfl rfl rfl ?_
  refine qr_bipush 7 rfl (by decide) rfl ?_
  refine qr_imul 8 rfl rfl ?_
  refine qr_iload_n 9 rfl rfl rfl ?_
  refine qr_iadd 10 rfl rfl ?_
  refine qr_iaload 11 rfl rfl (by omega) (by decide) rfl ?_
  refine qr_topI (fun v1 hv1 => ?_)
  have hs2 : 0 ≤ v1 ∧ v1 ≤ 99 := by rw [hv1]; exact hI.2.1 26 _ (show _ < 1024 by omega)
  refine qr_retI rfl rfl (by decide) (by decide) ?_
  exact ⟨rfl, v1, rfl, hs2⟩

set_option maxHeartbeats 4000000 in
set_option maxRecDepth 20000 in
/-- OneRoof$Feuds.isAlight -/
theorem sf_67_27 {L : Nat} {xs : Nat → Int} {vb : Bool} {d : Nat} {σ α : Nat → Nat → Int} {κ : Nat → Option Nat} {ρ : Nat} {x1 : Int} {x2 : Int} (hI : qI σ α κ ρ) (r1 : 0 ≤ x1 ∧ x1 ≤ 39) (r2 : (-2147483648) ≤ x2 ∧ x2 ≤ 2147483647) : qm_T (qe L xs vb) (d + 1) 67 [.ref 27, .int (qz x1), .int (qz x2)] (qw σ α κ ρ) (fun r w' => w' = qw σ α κ ρ ∧ ∃ v : Int, r = some (.int (qz v)) ∧ (0 ≤ v ∧ v ≤ 1)) := by
  refine qr_start (d := d + 0) qv_e67 (Nat.le_of_ble_eq_true rfl) ?_
  show qr_W (qe L xs vb) (d + 0) qx_e67 _ (0, [(0, .ref 27), (1, .int (qz x1)), (2, .int (qz x2))], [], _, 0, 0)
  refine qr_aload_n 1 rfl rfl rfl ?_
  refine qr_get 4 rfl rfl rfl (by decide) rfl ?_
  refine qr_iload_n 5 rfl rfl rfl ?_
  refine qr_iaload 6 rfl rfl (qrgi r1 (by decide) (by decide)) (by decide) rfl ?_
  refine qr_topI (fun v1 hv1 => ?_)
  have hs2 : (-2147483648) ≤ v1 ∧ v1 ≤ 2147483647 := by rw [hv1]; exact hI.2.1 30 _ (show _ < 40 from qrgt r1 (by decide) (by decide))
  refine qr_iload_n 7 rfl rfl rfl ?_
  refine qr_icmp_gt 49 10 rfl rfl rfl hs2 r2 (fun h3 => ?_) (fun h3 => ?_)
  · skip
    refine qr_iconst 50 rfl rfl ?_
    refine qr_retZ rfl rfl (Or.inl rfl) (by decide) (by decide) ?_
    exact ⟨rfl, 0, rfl, (by decide)⟩
  · skip
    refine qr_aload_n 11 rfl rfl rfl ?_
    refine qr_get 14 rfl rfl rfl (by decide) rfl ?_
    refine qr_iload_n 15 rfl rfl rfl ?_
    refine qr_iaload 16 rfl rfl (qrgi r1 (by decide) (by decide)) (by decide) rfl ?_
    refine qr_topI (fun v4 hv4 => ?_)
    have hs5 : (-2147483648) ≤ v4 ∧ v4 ≤ 2147483647 := by rw [hv4]; exact hI.2.1 33 _ (show _ < 40 from qrgt r1 (by decide) (by decide))
    refine qr_sipush 19 rfl (by decide) rfl ?_
    refine qr_icmp_eq 32 22 rfl rfl rfl hs5 (by decide) (fun h6 => ?_) (fun h6 => ?_)
    · skip
      refine qr_aload_n 33 rfl rfl rfl ?_
      refine qr_get 36 rfl rfl rfl (by decide) rfl ?_
      have hs7 : (-9223372036854775808) ≤ σ 27 6 ∧ σ 27 6 ≤ 9223372036854775807 := hI.1 27 6
      refine qr_iload_n 37 rfl rfl rfl ?_
      refine qr_lushr 38 rfl rfl ?_
      refine qy_canl (fun v8 hv8 => ?_)
      refine qr_lconst 39 rfl rfl ?_
      refine qy_vl 1 rfl ?_
      refine qr_land 40 rfl rfl ?_
      refine qy_canl (fun v9 hv9 => ?_)
      refine qr_lconst 41 rfl rfl ?_
      refine qy_vl 0 rfl ?_
      refine qr_lc_ne 49 45 rfl rfl rfl rfl hv9 (by decide) (fun h10 => ?_) (fun h10 => ?_)
      · skip
        refine qr_iconst 50 rfl rfl ?_
        refine qr_retZ rfl rfl (Or.inl rfl) (by decide) (by decide) ?_
        exact ⟨rfl, 0, rfl, (by decide)⟩
      · skip
        refine qr_iconst 46 rfl rfl ?_
        refine qr_goto 50 rfl rfl ?_
        refine qr_retZ rfl rfl (Or.inr rfl) (by decide) (by decide) ?_
        exact ⟨rfl, 1, rfl, (by decide)⟩
    · skip
      refine qr_iload_n 23 rfl rfl rfl ?_
      refine qr_aload_n 24 rfl rfl rfl ?_
      refine qr_get 27 rfl rfl rfl (by decide) rfl ?_
      refine qr_iload_n 28 rfl rfl rfl ?_
      refine qr_iaload 29 rfl rfl (qrgi r1 (by decide) (by decide)) (by decide) rfl ?_
      refine qr_topI (fun v11 hv11 => ?_)
      have hs12 : (-2147483648) ≤ v11 ∧ v11 ≤ 2147483647 := by rw [hv11]; exact hI.2.1 33 _ (show _ < 40 from qrgt r1 (by decide) (by decide))
      refine qr_icmp_ge 49 32 rfl rfl rfl r2 hs12 (fun h13 => ?_) (fun h13 => ?_)
      · skip
        refine qr_iconst 50 rfl rfl ?_
        refine qr_retZ rfl rfl (Or.inl rfl) (by decide) (by decide) ?_
        exact ⟨rfl, 0, rfl, (by decide)⟩
      · skip
        refine qr_aload_n 33 rfl rfl rfl ?_
        refine qr_get 36 rfl rfl rfl (by decide) rfl ?_
        have hs14 : (-9223372036854775808) ≤ σ 27 6 ∧ σ 27 6 ≤ 9223372036854775807 := hI.1 27 6
        refine qr_iload_n 37 rfl rfl rfl ?_
        refine qr_lushr 38 rfl rfl ?_
        refine qy_canl (fun v15 hv15 => ?_)
        refine qr_lconst 39 rfl rfl ?_
        refine qy_vl 1 rfl ?_
        refine qr_land 40 rfl rfl ?_
        refine qy_canl (fun v16 hv16 => ?_)
        refine qr_lconst 41 rfl rfl ?_
        refine qy_vl 0 rfl ?_
        refine qr_lc_ne 49 45 rfl rfl rfl rfl hv16 (by decide) (fun h17 => ?_) (fun h17 => ?_)
        · skip
          refine qr_iconst 50 rfl rfl ?_
          refine qr_retZ rfl rfl (Or.inl rfl) (by decide) (by decide) ?_
          exact ⟨rfl, 0, rfl, (by decide)⟩
        · skip
          refine qr_iconst 46 rfl rfl ?_
          refine qr_goto 50 rfl rfl ?_
          refine qr_retZ rfl rfl (Or.inr rfl) (by decide) (by decide) ?_
          exact ⟨rfl, 1, rfl, (by decide)⟩

set_option maxHeartbeats 4000000 in
set_option maxRecDepth 20000 in
/-- java/lang/Math.min -/
theorem sf_12 {L : Nat} {xs : Nat → Int} {vb : Bool} {d : Nat} {σ α : Nat → Nat → Int} {κ : Nat → Option Nat} {ρ : Nat} {x0 : Int} {x1 : Int} (hI : qI σ α κ ρ) (r0 : (-2147483648) ≤ x0 ∧ x0 ≤ 2147483647) (r1 : (-2147483648) ≤ x1 ∧ x1 ≤ 2147483647) : qm_T (qe L xs vb) (d + 1) 12 [.int (qz x0), .int (qz x1)] (qw σ α κ ρ) (fun r w' => w' = qw σ α κ ρ ∧ ∃ v : Int, r = some (.int (qz v)) ∧ ((-2147483648) ≤ v ∧ v ≤ 2147483647) ∧ (v = x0 ∨ v = x1) ∧ v ≤ x0 ∧ v ≤ x1) := by
  refine qr_start (d := d + 0) qv_e12 (Nat.le_of_ble_eq_true rfl) ?_
  show qr_W (qe L xs vb) (d + 0) qx_e12 _ (0, [(0, .int (qz x0)), (1, .int (qz x1))], [], _, 0, 0)
  refine qr_iload_n 1 rfl rfl rfl ?_
  refine qr_iload_n 2 rfl rfl rfl ?_
  refine qr_icmp_gt 9 5 rfl rfl rfl r0 r1 (fun h1 => ?_) (fun h1 => ?_)
  · skip
    refine qr_iload_n 10 rfl rfl rfl ?_
    refine qr_retI rfl rfl (by decide) (by decide) ?_
    exact ⟨rfl, x1, rfl, r1, by omega⟩
  · skip
    refine qr_iload_n 6 rfl rfl rfl ?_
    refine qr_goto 10 rfl rfl ?_
    refine qr_retI rfl rfl (by decide) (by decide) ?_
    exact ⟨rfl, x0, rfl, r0, by omega⟩

set_option maxHeartbeats 4000000 in
set_option maxRecDepth 20000 in
/-- java/lang/Math.max -/
theorem sf_30 {L : Nat} {xs : Nat → Int} {vb : Bool} {d : Nat} {σ α : Nat → Nat → Int} {κ : Nat → Option Nat} {ρ : Nat} {x0 : Int} {x1 : Int} (hI : qI σ α κ ρ) (r0 : (-2147483648) ≤ x0 ∧ x0 ≤ 2147483647) (r1 : (-2147483648) ≤ x1 ∧ x1 ≤ 2147483647) : qm_T (qe L xs vb) (d + 1) 30 [.int (qz x0), .int (qz x1)] (qw σ α κ ρ) (fun r w' => w' = qw σ α κ ρ ∧ ∃ v : Int, r = some (.int (qz v)) ∧ ((-2147483648) ≤ v ∧ v ≤ 2147483647) ∧ (v = x0 ∨ v = x1) ∧ x0 ≤ v ∧ x1 ≤ v) := by
  refine qr_start (d := d + 0) qv_e30 (Nat.le_of_ble_eq_true rfl) ?_
  show qr_W (qe L xs vb) (d + 0) qx_e30 _ (0, [(0, .int (qz x0)), (1, .int (qz x1))], [], _, 0, 0)
  refine qr_iload_n 1 rfl rfl rfl ?_
  refine qr_iload_n 2 rfl rfl rfl ?_
  refine qr_icmp_lt 9 5 rfl rfl rfl r0 r1 (fun h1 => ?_) (fun h1 => ?_)
  · skip
    refine qr_iload_n 10 rfl rfl rfl ?_
    refine qr_retI rfl rfl (by decide) (by decide) ?_
    exact ⟨rfl, x1, rfl, r1, by omega⟩
  · skip
    refine qr_iload_n 6 rfl rfl rfl ?_
    refine qr_goto 10 rfl rfl ?_
    refine qr_retI rfl rfl (by decide) (by decide) ?_
    exact ⟨rfl, x0, rfl, r0, by omega⟩

set_option maxHeartbeats 4000000 in
set_option maxRecDepth 20000 in
/-- java/lang/Long.bitCount -/
theorem sf_74 {L : Nat} {xs : Nat → Int} {vb : Bool} {d : Nat} {σ α : Nat → Nat → Int} {κ : Nat → Option Nat} {ρ : Nat} {x0 : Int} (hI : qI σ α κ ρ) (r0 : (-9223372036854775808) ≤ x0 ∧ x0 ≤ 9223372036854775807) : qm_T (qe L xs vb) (d + 1) 74 [.long (ql x0)] (qw σ α κ ρ) (fun r w' => w' = qw σ α κ ρ ∧ ∃ v : Int, r = some (.int (qz v)) ∧ ((-2147483648) ≤ v ∧ v ≤ 2147483647)) := by
  refine qr_start (d := d + 0) qv_e74 (Nat.le_of_ble_eq_true rfl) ?_
  show qr_W (qe L xs vb) (d + 0) qx_e74 _ (0, [(0, .long (ql x0))], [], _, 0, 0)
  refine qr_lload_n 1 rfl rfl rfl ?_
  refine qr_lload_n 2 rfl rfl rfl ?_
  refine qr_iconst 3 rfl rfl ?_
  refine qr_lushr 4 rfl rfl ?_
  refine qy_canl (fun v1 hv1 => ?_)
  refine qr_ldc2 6148914691236517205 7 rfl (by decide) rfl ?_
  refine qr_land 8 rfl rfl ?_
  refine qy_canl (fun v2 hv2 => ?_)
  refine qr_lsub 9 rfl rfl ?_
  refine qy_canl (fun v3 hv3 => ?_)
  refine qr_lstore_n _ 10 rfl (by decide) rfl rfl ?_
  refine qr_lload_n 11 rfl rfl rfl ?_
  refine qr_ldc2 3689348814741910323 14 rfl (by decide) rfl ?_
  refine qr_land 15 rfl rfl ?_
  refine qy_canl (fun v4 hv4 => ?_)
  refine qr_lload_n 16 rfl rfl rfl ?_
  refine qr_iconst 17 rfl rfl ?_
  refine qr_lushr 18 rfl rfl ?_
  refine qy_canl (fun v5 hv5 => ?_)
  refine qr_ldc2 3689348814741910323 21 rfl (by decide) rfl ?_
  refine qr_land 22 rfl rfl ?_
  refine qy_canl (fun v6 hv6 => ?_)
  refine qr_ladd 23 rfl rfl ?_
  refine qy_canl (fun v7 hv7 => ?_)
  refine qr_lstore_n _ 24 rfl (by decide) rfl rfl ?_
  refine qr_lload_n 25 rfl rfl rfl ?_
  refine qr_lload_n 26 rfl rfl rfl ?_
  refine qr_iconst 27 rfl rfl ?_
  refine qr_lushr 28 rfl rfl ?_
  refine qy_canl (fun v8 hv8 => ?_)
  refine qr_ladd 29 rfl rfl ?_
  refine qy_canl (fun v9 hv9 => ?_)
  refine qr_ldc2 1085102592571150095 32 rfl (by decide) rfl ?_
  refine qr_land 33 rfl rfl ?_
  refine qy_canl (fun v10 hv10 => ?_)
  refine qr_lstore_n _ 34 rfl (by decide) rfl rfl ?_
  refine qr_lload_n 35 rfl rfl rfl ?_
  refine qr_lload_n 36 rfl rfl rfl ?_
  refine qr_bipush 38 rfl (by decide) rfl ?_
  refine qr_lushr 39 rfl rfl ?_
  refine qy_canl (fun v11 hv11 => ?_)
  refine qr_ladd 40 rfl rfl ?_
  refine qy_canl (fun v12 hv12 => ?_)
  refine qr_lstore_n _ 41 rfl (by decide) rfl rfl ?_
  refine qr_lload_n 42 rfl rfl rfl ?_
  refine qr_lload_n 43 rfl rfl rfl ?_
  refine qr_bipush 45 rfl (by decide) rfl ?_
  refine qr_lushr 46 rfl rfl ?_
  refine qy_canl (fun v13 hv13 => ?_)
  refine qr_ladd 47 rfl rfl ?_
  refine qy_canl (fun v14 hv14 => ?_)
  refine qr_lstore_n _ 48 rfl (by decide) rfl rfl ?_
  refine qr_lload_n 49 rfl rfl rfl ?_
  refine qr_lload_n 50 rfl rfl rfl ?_
  refine qr_bipush 52 rfl (by decide) rfl ?_
  refine qr_lushr 53 rfl rfl ?_
  refine qy_canl (fun v15 hv15 => ?_)
  refine qr_ladd 54 rfl rfl ?_
  refine qy_canl (fun v16 hv16 => ?_)
  refine qr_lstore_n _ 55 rfl (by decide) rfl rfl ?_
  refine qr_lload_n 56 rfl rfl rfl ?_
  refine qr_l2i 57 rfl rfl ?_
  refine qy_can (fun v17 hv17 => ?_)
  refine qr_bipush 59 rfl (by decide) rfl ?_
  refine qr_iand 60 rfl rfl ?_
  refine qy_andr (by omega) (fun v18 hv18 => ?_)
  refine qr_retI rfl rfl (by decide) (by decide) ?_
  exact ⟨rfl, v18, rfl, (by omega)⟩

set_option maxHeartbeats 4000000 in
set_option maxRecDepth 20000 in
/-- java/lang/Integer.bitCount -/
theorem sf_115 {L : Nat} {xs : Nat → Int} {vb : Bool} {d : Nat} {σ α : Nat → Nat → Int} {κ : Nat → Option Nat} {ρ : Nat} {x0 : Int} (hI : qI σ α κ ρ) (r0 : (-2147483648) ≤ x0 ∧ x0 ≤ 2147483647) : qm_T (qe L xs vb) (d + 1) 115 [.int (qz x0)] (qw σ α κ ρ) (fun r w' => w' = qw σ α κ ρ ∧ ∃ v : Int, r = some (.int (qz v)) ∧ ((-2147483648) ≤ v ∧ v ≤ 2147483647)) := by
  refine qr_start (d := d + 0) qv_e115 (Nat.le_of_ble_eq_true rfl) ?_
  show qr_W (qe L xs vb) (d + 0) qx_e115 _ (0, [(0, .int (qz x0))], [], _, 0, 0)
  refine qr_iload_n 1 rfl rfl rfl ?_
  refine qr_iload_n 2 rfl rfl rfl ?_
  refine qr_iconst 3 rfl rfl ?_
  refine qr_iushr 4 rfl rfl ?_
  refine qy_can (fun v1 hv1 => ?_)
  refine qr_ldcw 1431655765 7 rfl (by decide) rfl ?_
  refine qr_iand 8 rfl rfl ?_
  refine qy_andr (by omega) (fun v2 hv2 => ?_)
  refine qr_isub 9 rfl rfl ?_
  refine qy_can (fun v3 hv3 => ?_)
  refine qr_istore_n _ 10 rfl (by decide) rfl rfl ?_
  refine qr_iload_n 11 rfl rfl rfl ?_
  refine qr_ldcw 858993459 14 rfl (by decide) rfl ?_
  refine qr_iand 15 rfl rfl ?_
  refine qy_andr (by omega) (fun v4 hv4 => ?_)
  refine qr_iload_n 16 rfl rfl rfl ?_
  refine qr_iconst 17 rfl rfl ?_
  refine qr_iushr 18 rfl rfl ?_
  refine qy_can (fun v5 hv5 => ?_)
  refine qr_ldcw 858993459 21 rfl (by decide) rfl ?_
  refine qr_iand 22 rfl rfl ?_
  refine qy_andr (by omega) (fun v6 hv6 => ?_)
  refine qr_iadd 23 rfl rfl ?_
  refine qr_istore_n _ 24 rfl (by decide) rfl rfl ?_
  refine qr_iload_n 25 rfl rfl rfl ?_
  refine qr_iload_n 26 rfl rfl rfl ?_
  refine qr_iconst 27 rfl rfl ?_
  refine qr_iushr 28 rfl rfl ?_
  refine qy_v ((v4 + v6) / 16) (qz_ushr4 (by omega)) ?_
  refine qr_iadd 29 rfl rfl ?_
  refine qr_ldcw 252645135 32 rfl (by decide) rfl ?_
  refine qr_iand 33 rfl rfl ?_
  refine qy_andr (by omega) (fun v7 hv7 => ?_)
  refine qr_istore_n _ 34 rfl (by decide) rfl rfl ?_
  refine qr_iload_n 35 rfl rfl rfl ?_
  refine qr_iload_n 36 rfl rfl rfl ?_
  refine qr_bipush 38 rfl (by decide) rfl ?_
  refine qr_iushr 39 rfl rfl ?_
  refine qy_v (v7 / 256) (qz_ushr8 (by omega)) ?_
  refine qr_iadd 40 rfl rfl ?_
  refine qr_istore_n _ 41 rfl (by decide) rfl rfl ?_
  refine qr_iload_n 42 rfl rfl rfl ?_
  refine qr_iload_n 43 rfl rfl rfl ?_
  refine qr_bipush 45 rfl (by decide) rfl ?_
  refine qr_iushr 46 rfl rfl ?_
  refine qy_v ((v7 + (v7 / 256)) / 65536) (qz_ushr16 (by omega)) ?_
  refine qr_iadd 47 rfl rfl ?_
  refine qr_istore_n _ 48 rfl (by decide) rfl rfl ?_
  refine qr_iload_n 49 rfl rfl rfl ?_
  refine qr_bipush 51 rfl (by decide) rfl ?_
  refine qr_iand 52 rfl rfl ?_
  refine qy_andr (by omega) (fun v8 hv8 => ?_)
  refine qr_retI rfl rfl (by decide) (by decide) ?_
  exact ⟨rfl, v8, rfl, (by omega)⟩

set_option maxHeartbeats 4000000 in
set_option maxRecDepth 20000 in
/-- java/lang/Integer.numberOfTrailingZeros -/
theorem sf_83 {L : Nat} {xs : Nat → Int} {vb : Bool} {d : Nat} {σ α : Nat → Nat → Int} {κ : Nat → Option Nat} {ρ : Nat} {x0 : Int} (hI : qI σ α κ ρ) (r0 : (-2147483648) ≤ x0 ∧ x0 ≤ 2147483647) : qm_T (qe L xs vb) (d + 1) 83 [.int (qz x0)] (qw σ α κ ρ) (fun r w' => w' = qw σ α κ ρ ∧ ∃ v : Int, r = some (.int (qz v)) ∧ ((-2147483648) ≤ v ∧ v ≤ 2147483647)) := by
  refine qr_start (d := d + 0) qv_e83 (Nat.le_of_ble_eq_true rfl) ?_
  show qr_W (qe L xs vb) (d + 0) qx_e83 _ (0, [(0, .int (qz x0))], [], _, 0, 0)
  refine qr_iload_n 1 rfl rfl rfl ?_
  refine qr_iconst 2 rfl rfl ?_
  refine qr_ixor 3 rfl rfl ?_
  refine qy_can (fun v1 hv1 => ?_)
  refine qr_iload_n 4 rfl rfl rfl ?_
  refine qr_iconst 5 rfl rfl ?_
  refine qr_isub 6 rfl rfl ?_
  refine qy_can (fun v2 hv2 => ?_)
  refine qr_iand 7 rfl rfl ?_
  refine qy_can (fun v3 hv3 => ?_)
  refine qr_istore_n _ 8 rfl (by decide) rfl rfl ?_
  refine qr_iload_n 9 rfl rfl rfl ?_
  refine qr_if_gt 17 12 rfl rfl rfl hv3 (fun h4 => ?_) (fun h4 => ?_)
  · skip
    refine qr_iconst 18 rfl rfl ?_
    refine qr_istore_n _ 19 rfl (by decide) rfl rfl ?_
    refine qr_iload_n 20 rfl rfl rfl ?_
    refine qr_ldcw 65536 23 rfl (by decide) rfl ?_
    have hJ11 : ∀ (ls : qm_L) (u6 u8 : Int), qm_get ls 0 = some (.int (qz u6)) → qm_get ls 1 = some (.int (qz u8)) → (1 ≤ u6 ∧ u6 ≤ 65536) → (1 ≤ u8 ∧ u8 ≤ 17) → qr_W (qe L xs vb) (d + 0) qx_e83 (fun r w' => w' = qw σ α κ ρ ∧ ∃ v : Int, r = some (.int (qz v)) ∧ ((-2147483648) ≤ v ∧ v ≤ 2147483647)) (34, ls, [], qw σ α κ ρ, 0, 0) := by
      intro ls u6 u8 g5 g7 hf9 hf10
      refine qr_iload_n 35 rfl g5 rfl ?_
      refine qr_sipush 38 rfl (by decide) rfl ?_
      have hJ18 : ∀ (ls : qm_L) (u13 u15 : Int), qm_get ls 0 = some (.int (qz u13)) → qm_get ls 1 = some (.int (qz u15)) → (1 ≤ u13 ∧ u13 ≤ 256) → (1 ≤ u15 ∧ u15 ≤ 25) → qr_W (qe L xs vb) (d + 0) qx_e83 (fun r w' => w' = qw σ α κ ρ ∧ ∃ v : Int, r = some (.int (qz v)) ∧ ((-2147483648) ≤ v ∧ v ≤ 2147483647)) (49, ls, [], qw σ α κ ρ, 0, 0) := by
        intro ls u13 u15 g12 g14 hf16 hf17
        refine qr_iload_n 50 rfl g12 rfl ?_
        refine qr_bipush 52 rfl (by decide) rfl ?_
        have hJ25 : ∀ (ls : qm_L) (u20 u22 : Int), qm_get ls 0 = some (.int (qz u20)) → qm_get ls 1 = some (.int (qz u22)) → (1 ≤ u20 ∧ u20 ≤ 16) → (1 ≤ u22 ∧ u22 ≤ 29) → qr_W (qe L xs vb) (d + 0) qx_e83 (fun r w' => w' = qw σ α κ ρ ∧ ∃ v : Int, r = some (.int (qz v)) ∧ ((-2147483648) ≤ v ∧ v ≤ 2147483647)) (62, ls, [], qw σ α κ ρ, 0, 0) := by
          intro ls u20 u22 g19 g21 hf23 hf24
          refine qr_iload_n 63 rfl g19 rfl ?_
          refine qr_iconst 64 rfl rfl ?_
          have hJ32 : ∀ (ls : qm_L) (u27 u29 : Int), qm_get ls 0 = some (.int (qz u27)) → qm_get ls 1 = some (.int (qz u29)) → (1 ≤ u27 ∧ u27 ≤ 4) → (1 ≤ u29 ∧ u29 ≤ 31) → qr_W (qe L xs vb) (d + 0) qx_e83 (fun r w' => w' = qw σ α κ ρ ∧ ∃ v : Int, r = some (.int (qz v)) ∧ ((-2147483648) ≤ v ∧ v ≤ 2147483647)) (74, ls, [], qw σ α κ ρ, 0, 0) := by
            intro ls u27 u29 g26 g28 hf30 hf31
            refine qr_iload_n 75 rfl g28 rfl ?_
            refine qr_iload_n 76 rfl g26 rfl ?_
            refine qr_iconst 77 rfl rfl ?_
            refine qr_iushr 78 rfl rfl ?_
            refine qy_v (u27 / 2) (qz_ushr1 (by omega)) ?_
            refine qr_iadd 79 rfl rfl ?_
            refine qr_retI rfl rfl (by decide) (by decide) ?_
            exact ⟨rfl, (u29 + (u27 / 2)), rfl, (by omega)⟩
          refine qr_icmp_le 74 67 rfl rfl rfl (qrg hf23 (by decide) (by decide)) (by decide) (fun h33 => ?_) (fun h33 => ?_)
          · skip
            exact hJ32 _ u20 u22 g19 g21 (by omega) (qrg hf24 (by decide) (by decide))
          · skip
            refine qr_iinc _ 70 rfl g21 (by decide) rfl rfl ?_
            refine qr_iload_n 71 rfl (qm_gk g19 (by decide) (Or.inr rfl)) rfl ?_
            refine qr_iconst 72 rfl rfl ?_
            refine qr_iushr 73 rfl rfl ?_
            refine qy_v (u20 / 4) (qz_ushr2 (by omega)) ?_
            refine qr_istore_n _ 74 rfl (by decide) rfl rfl ?_
            exact hJ32 _ (u20 / 4) (u22 + 2) (qm_ge _ _ _) (qm_gk (qm_ge _ _ _) (by decide) (Or.inl (by decide))) (by omega) (by omega)
        refine qr_icmp_le 62 55 rfl rfl rfl (qrg hf16 (by decide) (by decide)) (by decide) (fun h34 => ?_) (fun h34 => ?_)
        · skip
          exact hJ25 _ u13 u15 g12 g14 (by omega) (qrg hf17 (by decide) (by decide))
        · skip
          refine qr_iinc _ 58 rfl g14 (by decide) rfl rfl ?_
          refine qr_iload_n 59 rfl (qm_gk g12 (by decide) (Or.inr rfl)) rfl ?_
          refine qr_iconst 60 rfl rfl ?_
          refine qr_iushr 61 rfl rfl ?_
          refine qy_v (u13 / 16) (qz_ushr4 (by omega)) ?_
          refine qr_istore_n _ 62 rfl (by decide) rfl rfl ?_
          exact hJ25 _ (u13 / 16) (u15 + 4) (qm_ge _ _ _) (qm_gk (qm_ge _ _ _) (by decide) (Or.inl (by decide))) (by omega) (by omega)
      refine qr_icmp_le 49 41 rfl rfl rfl (qrg hf9 (by decide) (by decide)) (by decide) (fun h35 => ?_) (fun h35 => ?_)
      · skip
        exact hJ18 _ u6 u8 g5 g7 (by omega) (qrg hf10 (by decide) (by decide))
      · skip
        refine qr_iinc _ 44 rfl g7 (by decide) rfl rfl ?_
        refine qr_iload_n 45 rfl (qm_gk g5 (by decide) (Or.inr rfl)) rfl ?_
        refine qr_bipush 47 rfl (by decide) rfl ?_
        refine qr_iushr 48 rfl rfl ?_
        refine qy_v (u6 / 256) (qz_ushr8 (by omega)) ?_
        refine qr_istore_n _ 49 rfl (by decide) rfl rfl ?_
        exact hJ18 _ (u6 / 256) (u8 + 8) (qm_ge _ _ _) (qm_gk (qm_ge _ _ _) (by decide) (Or.inl (by decide))) (by omega) (by omega)
    refine qr_icmp_le 34 26 rfl rfl rfl hv3 (by decide) (fun h36 => ?_) (fun h36 => ?_)
    · skip
      exact hJ11 _ v3 1 rfl rfl (by omega) (by decide)
    · skip
      refine qr_iinc _ 29 rfl rfl (by decide) rfl rfl ?_
      refine qr_iload_n 30 rfl rfl rfl ?_
      refine qr_bipush 32 rfl (by decide) rfl ?_
      refine qr_iushr 33 rfl rfl ?_
      refine qy_v (v3 / 65536) (qz_ushr16 (by omega)) ?_
      refine qr_istore_n _ 34 rfl (by decide) rfl rfl ?_
      exact hJ11 _ (v3 / 65536) (1 + 16) rfl rfl (by omega) (by omega)
  · skip
    refine qr_iload_n 13 rfl rfl rfl ?_
    refine qr_bipush 15 rfl (by decide) rfl ?_
    refine qr_iand 16 rfl rfl ?_
    refine qy_andr (by omega) (fun v37 hv37 => ?_)
    refine qr_retI rfl rfl (by decide) (by decide) ?_
    exact ⟨rfl, v37, rfl, (by omega)⟩

set_option maxHeartbeats 4000000 in
set_option maxRecDepth 20000 in
/-- java/lang/Integer.numberOfTrailingZeros -/
theorem sf_83s {L : Nat} {xs : Nat → Int} {vb : Bool} {d : Nat} {σ α : Nat → Nat → Int} {κ : Nat → Option Nat} {ρ : Nat} {x0 : Int} (hI : qI σ α κ ρ) (r0 : 1 ≤ x0 ∧ x0 ≤ 4095) : qm_T (qe L xs vb) (d + 1) 83 [.int (qz x0)] (qw σ α κ ρ) (fun r w' => w' = qw σ α κ ρ ∧ ∃ v : Int, r = some (.int (qz v)) ∧ (0 ≤ v ∧ v ≤ 11)) := by
  refine qr_start (d := d + 0) qv_e83 (Nat.le_of_ble_eq_true rfl) ?_
  show qr_W (qe L xs vb) (d + 0) qx_e83 _ (0, [(0, .int (qz x0))], [], _, 0, 0)
  refine qr_iload_n 1 rfl rfl rfl ?_
  refine qr_iconst 2 rfl rfl ?_
  refine qr_ixor 3 rfl rfl ?_
  refine qr_iload_n 4 rfl rfl rfl ?_
  refine qr_iconst 5 rfl rfl ?_
  refine qr_isub 6 rfl rfl ?_
  refine qr_iand 7 rfl rfl ?_
  refine qy_ntz (by omega) (fun v1 hv1 => ?_)
  refine qr_istore_n _ 8 rfl (by decide) rfl rfl ?_
  refine qr_iload_n 9 rfl rfl rfl ?_
  refine qr_if_gt 17 12 rfl rfl rfl (by omega) (fun h2 => ?_) (fun h2 => ?_)
  · skip
    refine qr_iconst 18 rfl rfl ?_
    refine qr_istore_n _ 19 rfl (by decide) rfl rfl ?_
    refine qr_iload_n 20 rfl rfl rfl ?_
    refine qr_ldcw 65536 23 rfl (by decide) rfl ?_
    refine qr_icmp_le 34 26 rfl rfl rfl (by omega) (by decide) (fun h3 => ?_) (fun h => False.elim (by omega))
    refine qr_iload_n 35 rfl rfl rfl ?_
    refine qr_sipush 38 rfl (by decide) rfl ?_
    refine qr_icmp_le 49 41 rfl rfl rfl (by omega) (by decide) (fun h4 => ?_) (fun h4 => ?_)
    · skip
      refine qr_iload_n 50 rfl rfl rfl ?_
      refine qr_bipush 52 rfl (by decide) rfl ?_
      refine qr_icmp_le 62 55 rfl rfl rfl (by omega) (by decide) (fun h5 => ?_) (fun h5 => ?_)
      · skip
        refine qr_iload_n 63 rfl rfl rfl ?_
        refine qr_iconst 64 rfl rfl ?_
        refine qr_icmp_le 74 67 rfl rfl rfl (by omega) (by decide) (fun h6 => ?_) (fun h6 => ?_)
        · skip
          refine qr_iload_n 75 rfl rfl rfl ?_
          refine qr_iload_n 76 rfl rfl rfl ?_
          refine qr_iconst 77 rfl rfl ?_
          refine qr_iushr 78 rfl rfl ?_
          refine qy_v (v1 / 2) (qz_ushr1 (by omega)) ?_
          refine qr_iadd 79 rfl rfl ?_
          refine qr_retI rfl rfl (by decide) (by decide) ?_
          exact ⟨rfl, (1 + (v1 / 2)), rfl, (by omega)⟩
        · skip
          refine qr_iinc _ 70 rfl rfl (by decide) rfl rfl ?_
          refine qr_iload_n 71 rfl rfl rfl ?_
          refine qr_iconst 72 rfl rfl ?_
          refine qr_iushr 73 rfl rfl ?_
          refine qy_v (v1 / 4) (qz_ushr2 (by omega)) ?_
          refine qr_istore_n _ 74 rfl (by decide) rfl rfl ?_
          refine qr_iload_n 75 rfl rfl rfl ?_
          refine qr_iload_n 76 rfl rfl rfl ?_
          refine qr_iconst 77 rfl rfl ?_
          refine qr_iushr 78 rfl rfl ?_
          refine qy_v ((v1 / 4) / 2) (qz_ushr1 (by omega)) ?_
          refine qr_iadd 79 rfl rfl ?_
          refine qr_retI rfl rfl (by decide) (by decide) ?_
          exact ⟨rfl, ((1 + 2) + ((v1 / 4) / 2)), rfl, (by omega)⟩
      · skip
        refine qr_iinc _ 58 rfl rfl (by decide) rfl rfl ?_
        refine qr_iload_n 59 rfl rfl rfl ?_
        refine qr_iconst 60 rfl rfl ?_
        refine qr_iushr 61 rfl rfl ?_
        refine qy_v (v1 / 16) (qz_ushr4 (by omega)) ?_
        refine qr_istore_n _ 62 rfl (by decide) rfl rfl ?_
        refine qr_iload_n 63 rfl rfl rfl ?_
        refine qr_iconst 64 rfl rfl ?_
        refine qr_icmp_le 74 67 rfl rfl rfl (by omega) (by decide) (fun h7 => ?_) (fun h7 => ?_)
        · skip
          refine qr_iload_n 75 rfl rfl rfl ?_
          refine qr_iload_n 76 rfl rfl rfl ?_
          refine qr_iconst 77 rfl rfl ?_
          refine qr_iushr 78 rfl rfl ?_
          refine qy_v ((v1 / 16) / 2) (qz_ushr1 (by omega)) ?_
          refine qr_iadd 79 rfl rfl ?_
          refine qr_retI rfl rfl (by decide) (by decide) ?_
          exact ⟨rfl, ((1 + 4) + ((v1 / 16) / 2)), rfl, (by omega)⟩
        · skip
          refine qr_iinc _ 70 rfl rfl (by decide) rfl rfl ?_
          refine qr_iload_n 71 rfl rfl rfl ?_
          refine qr_iconst 72 rfl rfl ?_
          refine qr_iushr 73 rfl rfl ?_
          refine qy_v ((v1 / 16) / 4) (qz_ushr2 (by omega)) ?_
          refine qr_istore_n _ 74 rfl (by decide) rfl rfl ?_
          refine qr_iload_n 75 rfl rfl rfl ?_
          refine qr_iload_n 76 rfl rfl rfl ?_
          refine qr_iconst 77 rfl rfl ?_
          refine qr_iushr 78 rfl rfl ?_
          refine qy_v (((v1 / 16) / 4) / 2) (qz_ushr1 (by omega)) ?_
          refine qr_iadd 79 rfl rfl ?_
          refine qr_retI rfl rfl (by decide) (by decide) ?_
          exact ⟨rfl, (((1 + 4) + 2) + (((v1 / 16) / 4) / 2)), rfl, (by omega)⟩
    · skip
      refine qr_iinc _ 44 rfl rfl (by decide) rfl rfl ?_
      refine qr_iload_n 45 rfl rfl rfl ?_
      refine qr_bipush 47 rfl (by decide) rfl ?_
      refine qr_iushr 48 rfl rfl ?_
      refine qy_v (v1 / 256) (qz_ushr8 (by omega)) ?_
      refine qr_istore_n _ 49 rfl (by decide) rfl rfl ?_
      refine qr_iload_n 50 rfl rfl rfl ?_
      refine qr_bipush 52 rfl (by decide) rfl ?_
      refine qr_icmp_le 62 55 rfl rfl rfl (by omega) (by decide) (fun h8 => ?_) (fun h => False.elim (by omega))
      refine qr_iload_n 63 rfl rfl rfl ?_
      refine qr_iconst 64 rfl rfl ?_
      refine qr_icmp_le 74 67 rfl rfl rfl (by omega) (by decide) (fun h9 => ?_) (fun h9 => ?_)
      · skip
        refine qr_iload_n 75 rfl rfl rfl ?_
        refine qr_iload_n 76 rfl rfl rfl ?_
        refine qr_iconst 77 rfl rfl ?_
        refine qr_iushr 78 rfl rfl ?_
        refine qy_v ((v1 / 256) / 2) (qz_ushr1 (by omega)) ?_
        refine qr_iadd 79 rfl rfl ?_
        refine qr_retI rfl rfl (by decide) (by decide) ?_
        exact ⟨rfl, ((1 + 8) + ((v1 / 256) / 2)), rfl, (by omega)⟩
      · skip
        refine qr_iinc _ 70 rfl rfl (by decide) rfl rfl ?_
        refine qr_iload_n 71 rfl rfl rfl ?_
        refine qr_iconst 72 rfl rfl ?_
        refine qr_iushr 73 rfl rfl ?_
        refine qy_v ((v1 / 256) / 4) (qz_ushr2 (by omega)) ?_
        refine qr_istore_n _ 74 rfl (by decide) rfl rfl ?_
        refine qr_iload_n 75 rfl rfl rfl ?_
        refine qr_iload_n 76 rfl rfl rfl ?_
        refine qr_iconst 77 rfl rfl ?_
        refine qr_iushr 78 rfl rfl ?_
        refine qy_v (((v1 / 256) / 4) / 2) (qz_ushr1 (by omega)) ?_
        refine qr_iadd 79 rfl rfl ?_
        refine qr_retI rfl rfl (by decide) (by decide) ?_
        exact ⟨rfl, (((1 + 8) + 2) + (((v1 / 256) / 4) / 2)), rfl, (by omega)⟩
  · skip
    refine qr_iload_n 13 rfl rfl rfl ?_
    refine qr_bipush 15 rfl (by decide) rfl ?_
    refine qr_iand 16 rfl rfl ?_
    refine qy_andl (by omega) (fun v10 hv10 => ?_)
    refine qr_retI rfl rfl (by decide) (by decide) ?_
    exact ⟨rfl, v10, rfl, (by omega)⟩

set_option maxHeartbeats 4000000 in
set_option maxRecDepth 20000 in
/-- java/lang/Long.numberOfTrailingZeros -/
theorem sf_82 {L : Nat} {xs : Nat → Int} {vb : Bool} {d : Nat} {σ α : Nat → Nat → Int} {κ : Nat → Option Nat} {ρ : Nat} {x0 : Int} (hI : qI σ α κ ρ) (r0 : (-9223372036854775808) ≤ x0 ∧ x0 ≤ 9223372036854775807) : qm_T (qe L xs vb) (d + 2) 82 [.long (ql x0)] (qw σ α κ ρ) (fun r w' => w' = qw σ α κ ρ ∧ ∃ v : Int, r = some (.int (qz v)) ∧ ((-2147483648) ≤ v ∧ v ≤ 2147483647)) := by
  refine qr_start (d := d + 1) qv_e82 (Nat.le_of_ble_eq_true rfl) ?_
  show qr_W (qe L xs vb) (d + 1) qx_e82 _ (0, [(0, .long (ql x0))], [], _, 0, 0)
  refine qr_lload_n 1 rfl rfl rfl ?_
  refine qr_l2i 2 rfl rfl ?_
  refine qy_can (fun v1 hv1 => ?_)
  refine qr_istore_n _ 3 rfl (by decide) rfl rfl ?_
  refine qr_iload_n 4 rfl rfl rfl ?_
  refine qr_if_ne 21 7 rfl rfl rfl hv1 (fun h2 => ?_) (fun h2 => ?_)
  · skip
    refine qr_iload_n 22 rfl rfl rfl ?_
    refine qr_callN 25 rfl rfl rfl (sf_83 (d := d + 0) hI hv1) ?_
    rintro _ _ ⟨rfl, v3, rfl, hv3⟩
    show qr_W (qe L xs vb) (d + 1) qx_e82 _ (25, _, [.int (qz v3)], qw σ α κ ρ, 0, 0)
    refine qr_retI rfl rfl (by decide) (by decide) ?_
    exact ⟨rfl, v3, rfl, hv3⟩
  · skip
    refine qr_bipush 9 rfl (by decide) rfl ?_
    refine qr_lload_n 10 rfl rfl rfl ?_
    refine qr_bipush 12 rfl (by decide) rfl ?_
    refine qr_lushr 13 rfl rfl ?_
    refine qy_canl (fun v4 hv4 => ?_)
    refine qr_l2i 14 rfl rfl ?_
    refine qy_can (fun v5 hv5 => ?_)
    refine qr_callN 17 rfl rfl rfl (sf_83 (d := d + 0) hI hv5) ?_
    rintro _ _ ⟨rfl, v6, rfl, hv6⟩
    show qr_W (qe L xs vb) (d + 1) qx_e82 _ (17, _, [.int (qz v6), .int (qz 32)], qw σ α κ ρ, 0, 0)
    refine qr_iadd 18 rfl rfl ?_
    refine qy_can (fun v7 hv7 => ?_)
    refine qr_goto 25 rfl rfl ?_
    refine qr_retI rfl rfl (by decide) (by decide) ?_
    exact ⟨rfl, v7, rfl, hv7⟩

set_option maxHeartbeats 4000000 in
set_option maxRecDepth 20000 in
/-- OneRoof$Acts.isUnder -/
theorem sf_169 {L : Nat} {xs : Nat → Int} {vb : Bool} {d : Nat} {σ α : Nat → Nat → Int} {κ : Nat → Option Nat} {ρ : Nat} {x0 : Int} {x1 : Int} (hI : qI σ α κ ρ) (r0 : (-2147483648) ≤ x0 ∧ x0 ≤ 2147483647) (r1 : (-2147483648) ≤ x1 ∧ x1 ≤ 2147483647) : qm_T (qe L xs vb) (d + 1) 169 [.int (qz x0), .int (qz x1)] (qw σ α κ ρ) (fun r w' => w' = qw σ α κ ρ ∧ ∃ v : Int, r = some (.int (qz v)) ∧ (0 ≤ v ∧ v ≤ 1)) := by
  refine qr_start (d := d + 0) qv_e169 (Nat.le_of_ble_eq_true rfl) ?_
  show qr_W (qe L xs vb) (d + 0) qx_e169 _ (0, [(0, .int (qz x0)), (1, .int (qz x1))], [], _, 0, 0)
  refine qr_iload_n 1 rfl rfl rfl ?_
  refine qr_istore_n _ 2 rfl (by decide) rfl rfl ?_
  refine qr_iconst 3 rfl rfl ?_
  refine qr_istore_n _ 4 rfl (by decide) rfl rfl ?_
  have hL62 : ∀ (n : Nat) (ls : qm_L) (u57 u59 : Int), 7 - u59 < (n : Int) → qm_get ls 1 = some (.int (qz x1)) → qm_get ls 2 = some (.int (qz u57)) → qm_get ls 3 = some (.int (qz u59)) → ((-2147483648) ≤ u57 ∧ u57 ≤ 2147483647) → (0 ≤ u59 ∧ u59 ≤ 7) → qr_W (qe L xs vb) (d + 0) qx_e169 (fun r w' => w' = qw σ α κ ρ ∧ ∃ v : Int, r = some (.int (qz v)) ∧ (0 ≤ v ∧ v ≤ 1)) (4, ls, [], qw σ α κ ρ, 0, 0) := by
    intro n
    induction n with
    | zero => intro ls u57 u59 hm g55 g56 g58 hf60 hf61; exact False.elim (by omega)
    | succ n ih63 =>
      intro ls u57 u59 hm g55 g56 g58 hf60 hf61
      refine qr_iload_n 5 rfl g58 rfl ?_
      refine qr_getst 8 rfl rfl ?_
      refine qr_alen 9 rfl rfl (by first | exact Or.inl (by decide) | exact Or.inr (Or.inl rfl) | exact Or.inr (Or.inr (Or.inl rfl)) | exact Or.inr (Or.inr (Or.inr (Or.inl rfl)))) rfl ?_
      refine qy_v 7 rfl ?_
      refine qr_icmp_ge 43 12 rfl rfl rfl (qrg hf61 (by decide) (by decide)) (by decide) (fun h64 => ?_) (fun h64 => ?_)
      · skip
        refine qr_iconst 44 rfl rfl ?_
        refine qr_retZ rfl rfl (Or.inl rfl) (by decide) (by decide) ?_
        exact ⟨rfl, 0, rfl, (by decide)⟩
      · skip
        refine qr_iload_n 13 rfl g56 rfl ?_
        refine qr_if_lt 43 16 rfl rfl rfl hf60 (fun h65 => ?_) (fun h65 => ?_)
        · skip
          refine qr_iconst 44 rfl rfl ?_
          refine qr_retZ rfl rfl (Or.inl rfl) (by decide) (by decide) ?_
          exact ⟨rfl, 0, rfl, (by decide)⟩
        · skip
          refine qr_iload_n 17 rfl g56 rfl ?_
          refine qr_getst 20 rfl rfl ?_
          refine qr_alen 21 rfl rfl (by first | exact Or.inl (by decide) | exact Or.inr (Or.inl rfl) | exact Or.inr (Or.inr (Or.inl rfl)) | exact Or.inr (Or.inr (Or.inr (Or.inl rfl)))) rfl ?_
          refine qy_v 7 rfl ?_
          refine qr_icmp_ge 43 24 rfl rfl rfl hf60 (by decide) (fun h66 => ?_) (fun h66 => ?_)
          · skip
            refine qr_iconst 44 rfl rfl ?_
            refine qr_retZ rfl rfl (Or.inl rfl) (by decide) (by decide) ?_
            exact ⟨rfl, 0, rfl, (by decide)⟩
          · skip
            refine qr_iload_n 25 rfl g56 rfl ?_
            refine qr_iload_n 26 rfl g55 rfl ?_
            refine qr_icmp_ne 31 29 rfl rfl rfl hf60 r1 (fun h67 => ?_) (fun h67 => ?_)
            · skip
              refine qr_getst 34 rfl rfl ?_
              refine qr_iload_n 35 rfl g56 rfl ?_
              refine qr_iaload 36 rfl rfl (by omega) (by decide) rfl ?_
              refine qr_topI (fun v68 hv68 => ?_)
              have hs69 : (-1) ≤ v68 ∧ v68 ≤ 4 := by rw [hv68]; exact qe_rr1 _ (by omega)
              refine qr_istore_n _ 37 rfl (by decide) rfl rfl ?_
              refine qr_iinc _ 40 rfl (qm_gk g58 (by decide) (Or.inl (by decide))) (by decide) rfl rfl ?_
              refine qr_goto 4 rfl rfl ?_
              exact ih63 _ v68 (u59 + 1) (by omega) (qm_gk (qm_gk g55 (by decide) (Or.inr rfl)) (by decide) (Or.inl (by decide))) (qm_gk (qm_ge _ _ _) (by decide) (Or.inr rfl)) (qm_ge _ _ _) (qrg hs69 (by decide) (by decide)) (by omega)
            · skip
              refine qr_iconst 30 rfl rfl ?_
              refine qr_retZ rfl rfl (Or.inr rfl) (by decide) (by decide) ?_
              exact ⟨rfl, 1, rfl, (by decide)⟩
  exact hL62 ((7 - 0 + 1 : Int)).toNat _ x0 0 (by omega) rfl rfl rfl r0 (by decide)

set_option maxHeartbeats 4000000 in
set_option maxRecDepth 20000 in
/-- OneRoof$Kinship.join -/
theorem sf_58_23 {L : Nat} {xs : Nat → Int} {vb : Bool} {d : Nat} {σ α : Nat → Nat → Int} {κ : Nat → Option Nat} {ρ : Nat} {x1 : Int} {x2 : Int} {x3 : Int} (hI : qI σ α κ ρ) (r1 : 0 ≤ x1 ∧ x1 ≤ 31) (r2 : 0 ≤ x2 ∧ x2 ≤ 31) (r3 : 0 ≤ x3 ∧ x3 ≤ 32) : qm_T (qe L xs vb) (d + 2) 58 [.ref 23, .int (qz x1), .int (qz x2), .int (qz x3)] (qw σ α κ ρ) (fun r w' => ∃ σ' α', w' = qw σ' α' κ ρ ∧ qI σ' α' κ ρ ∧ qFr [(23, 1)] [24] σ α σ' α' ∧ r = none) := by
  refine qr_start (d := d + 1) qv_e58 (Nat.le_of_ble_eq_true rfl) ?_
  show qr_W (qe L xs vb) (d + 1) qx_e58 _ (0, [(0, .ref 23), (1, .int (qz x1)), (2, .int (qz x2)), (3, .int (qz x3))], [], _, 0, 0)
  have hF0 := qFr_rf [(23, 1)] [24] σ α
  refine qr_aload_n 1 rfl rfl rfl ?_
  refine qr_dup 2 rfl rfl rfl ?_
  refine qr_get 5 rfl rfl rfl (by decide) rfl ?_
  have hs1 : (-2147483648) ≤ σ 23 1 ∧ σ 23 1 ≤ 2147483647 := hI.1 23 1
  refine qr_iconst 6 rfl rfl ?_
  refine qr_iadd 7 rfl rfl ?_
  refine qy_can (fun v2 hv2 => ?_)
  refine qr_put 10 rfl (by decide) rfl (Nat.le_of_ble_eq_true rfl) (Nat.le_of_ble_eq_true rfl) (Or.inl rfl) (qr_fitI rfl _) rfl ?_
  refine qy_wS (qw_s σ 23 1 v2) rfl (fun σ3 e4 => ?_)
  have hI5 : qI σ3 α κ ρ := by rw [e4]; exact qI_s hI 23 1 rfl (show (-2147483648) ≤ v2 ∧ v2 ≤ 2147483647 by omega)
  have hF6 : qFr [(23, 1)] [24] σ α σ3 α := by rw [e4]; exact qFr_s hF0 23 1 _ (by decide)
  refine qr_iconst 11 rfl rfl ?_
  refine qr_istore _ 13 rfl (by decide) rfl rfl ?_
  have hL12663 : ∀ (n : Nat) (ls : qm_L) (u12657 : Int) (α12659 : Nat → Nat → Int), 32 - u12657 < (n : Int) → qm_get ls 0 = some (.ref 23) → qm_get ls 1 = some (.int (qz x1)) → qm_get ls 2 = some (.int (qz x2)) → qm_get ls 3 = some (.int (qz x3)) → qm_get ls 4 = some (.int (qz u12657)) → (0 ≤ u12657 ∧ u12657 ≤ 32) → qI σ3 α12659 κ ρ → qFr [(23, 1)] [24] σ α σ3 α12659 → qr_W (qe L xs vb) (d + 1) qx_e58 (fun r w' => ∃ σ' α', w' = qw σ' α' κ ρ ∧ qI σ' α' κ ρ ∧ qFr [(23, 1)] [24] σ α σ' α' ∧ r = none) (13, ls, [], qw σ3 α12659 κ ρ, 0, 0) := by
    intro n
    induction n with
    | zero => intro ls u12657 α12659 hm g12652 g12653 g12654 g12655 g12656 hf12662 hI12660 hF12661; exact False.elim (by omega)
    | succ n ih12664 =>
      intro ls u12657 α12659 hm g12652 g12653 g12654 g12655 g12656 hf12662 hI12660 hF12661
      refine qr_iload 15 rfl g12656 rfl ?_
      refine qr_iload_n 16 rfl g12655 rfl ?_
      refine qr_icmp_ge 105 19 rfl rfl rfl (qrg hf12662 (by decide) (by decide)) (qrg r3 (by decide) (by decide)) (fun h12665 => ?_) (fun h12665 => ?_)
      · skip
        refine qr_retV rfl rfl (by decide) (by decide) ?_
        exact ⟨_, _, rfl, hI12660, hF12661, rfl⟩
      · skip
        refine qr_iconst 20 rfl rfl ?_
        refine qr_istore _ 22 rfl (by decide) rfl rfl ?_
        have hL13463 : ∀ (n : Nat) (ls : qm_L) (u13457 : Int) (α13459 : Nat → Nat → Int), 32 - u13457 < (n : Int) → qm_get ls 0 = some (.ref 23) → qm_get ls 1 = some (.int (qz x1)) → qm_get ls 2 = some (.int (qz x2)) → qm_get ls 3 = some (.int (qz x3)) → qm_get ls 4 = some (.int (qz u12657)) → qm_get ls 5 = some (.int (qz u13457)) → (0 ≤ u13457 ∧ u13457 ≤ 32) → qI σ3 α13459 κ ρ → qFr [(23, 1)] [24] σ α σ3 α13459 → qr_W (qe L xs vb) (d + 1) qx_e58 (fun r w' => ∃ σ' α', w' = qw σ' α' κ ρ ∧ qI σ' α' κ ρ ∧ qFr [(23, 1)] [24] σ α σ' α' ∧ r = none) (22, ls, [], qw σ3 α13459 κ ρ, 0, 0) := by
          intro n
          induction n with
          | zero => intro ls u13457 α13459 hm g13451 g13452 g13453 g13454 g13455 g13456 hf13462 hI13460 hF13461; exact False.elim (by omega)
          | succ n ih13464 =>
            intro ls u13457 α13459 hm g13451 g13452 g13453 g13454 g13455 g13456 hf13462 hI13460 hF13461
            refine qr_iload 24 rfl g13456 rfl ?_
            refine qr_iload_n 25 rfl g13454 rfl ?_
            refine qr_icmp_ge 99 28 rfl rfl rfl (qrg hf13462 (by decide) (by decide)) (qrg r3 (by decide) (by decide)) (fun h13490 => ?_) (fun h13490 => ?_)
            · skip
              refine qr_iinc _ 102 rfl g13455 (by decide) rfl rfl ?_
              refine qr_goto 13 rfl rfl ?_
              exact ih12664 _ (u12657 + 1) α13459 (by omega) (qm_gk g13451 (by decide) (Or.inl (by decide))) (qm_gk g13452 (by decide) (Or.inl (by decide))) (qm_gk g13453 (by decide) (Or.inl (by decide))) (qm_gk g13454 (by decide) (Or.inr rfl)) (qm_ge _ _ _) (by omega) hI13460 hF13461
            · skip
              refine qr_aload_n 29 rfl g13451 rfl ?_
              refine qr_iload 31 rfl g13455 rfl ?_
              refine qr_iload_n 32 rfl g13452 rfl ?_
              refine qr_callN 35 rfl rfl rfl (sf_57_23 (d := d + 0) hI13460 (by omega) r1) ?_
              rintro _ _ ⟨rfl, v13491, rfl, hv13491⟩
              show qr_W (qe L xs vb) (d + 1) qx_e58 _ (35, _, [.int (qz v13491)], qw σ3 α13459 κ ρ, 0, 0)
              refine qr_aload_n 36 rfl g13451 rfl ?_
              refine qr_iload_n 37 rfl g13453 rfl ?_
              refine qr_iload 39 rfl g13456 rfl ?_
              refine qr_callN 42 rfl rfl rfl (sf_57_23 (d := d + 0) hI13460 r2 (by omega)) ?_
              rintro _ _ ⟨rfl, v13492, rfl, hv13492⟩
              show qr_W (qe L xs vb) (d + 1) qx_e58 _ (42, _, [.int (qz v13492), .int (qz v13491)], qw σ3 α13459 κ ρ, 0, 0)
              refine qr_iadd 43 rfl rfl ?_
              refine qr_aload_n 44 rfl g13451 rfl ?_
              refine qr_iload 46 rfl g13455 rfl ?_
              refine qr_iload_n 47 rfl g13453 rfl ?_
              refine qr_callN 50 rfl rfl rfl (sf_57_23 (d := d + 0) hI13460 (by omega) r2) ?_
              rintro _ _ ⟨rfl, v13493, rfl, hv13493⟩
              show qr_W (qe L xs vb) (d + 1) qx_e58 _ (50, _, [.int (qz v13493), .int (qz (v13491 + v13492))], qw σ3 α13459 κ ρ, 0, 0)
              refine qr_aload_n 51 rfl g13451 rfl ?_
              refine qr_iload_n 52 rfl g13452 rfl ?_
              refine qr_iload 54 rfl g13456 rfl ?_
              refine qr_callN 57 rfl rfl rfl (sf_57_23 (d := d + 0) hI13460 r1 (by omega)) ?_
              rintro _ _ ⟨rfl, v13494, rfl, hv13494⟩
              show qr_W (qe L xs vb) (d + 1) qx_e58 _ (57, _, [.int (qz v13494), .int (qz v13493), .int (qz (v13491 + v13492))], qw σ3 α13459 κ ρ, 0, 0)
              refine qr_iadd 58 rfl rfl ?_
              refine qr_callN 61 rfl rfl rfl (sf_12 (d := d + 0) hI13460 (by omega) (by omega)) ?_
              rintro _ _ ⟨rfl, v13495, rfl, hv13495, hp13496⟩
              show qr_W (qe L xs vb) (d + 1) qx_e58 _ (61, _, [.int (qz v13495)], qw σ3 α13459 κ ρ, 0, 0)
              refine qr_iconst 62 rfl rfl ?_
              refine qr_iadd 63 rfl rfl ?_
              refine qr_istore _ 65 rfl (by decide) rfl rfl ?_
              refine qr_iload 67 rfl (qm_ge _ _ _) rfl ?_
              refine qr_aload_n 68 rfl (qm_gk g13451 (by decide) (Or.inl (by decide))) rfl ?_
              refine qr_iload 70 rfl (qm_gk g13455 (by decide) (Or.inl (by decide))) rfl ?_
              refine qr_iload 72 rfl (qm_gk g13456 (by decide) (Or.inr rfl)) rfl ?_
              refine qr_callN 75 rfl rfl rfl (sf_57_23 (d := d + 0) hI13460 (by omega) (by omega)) ?_
              rintro _ _ ⟨rfl, v13497, rfl, hv13497⟩
              show qr_W (qe L xs vb) (d + 1) qx_e58 _ (75, _, [.int (qz v13497), .int (qz (v13495 + 1))], qw σ3 α13459 κ ρ, 0, 0)
              have hJ13512 : ∀ (ls : qm_L) (α13509 : Nat → Nat → Int), qm_get ls 0 = some (.ref 23) → qm_get ls 1 = some (.int (qz x1)) → qm_get ls 2 = some (.int (qz x2)) → qm_get ls 3 = some (.int (qz x3)) → qm_get ls 4 = some (.int (qz u12657)) → qm_get ls 5 = some (.int (qz u13457)) → qI σ3 α13509 κ ρ → qFr [(23, 1)] [24] σ α σ3 α13509 → qr_W (qe L xs vb) (d + 1) qx_e58 (fun r w' => ∃ σ' α', w' = qw σ' α' κ ρ ∧ qI σ' α' κ ρ ∧ qFr [(23, 1)] [24] σ α σ' α' ∧ r = none) (93, ls, [], qw σ3 α13509 κ ρ, 0, 0) := by
                intro ls α13509 g13502 g13503 g13504 g13505 g13506 g13507 hI13510 hF13511
                refine qr_iinc _ 96 rfl g13507 (by decide) rfl rfl ?_
                refine qr_goto 22 rfl rfl ?_
                exact ih13464 _ (u13457 + 1) α13509 (by omega) (qm_gk g13502 (by decide) (Or.inl (by decide))) (qm_gk g13503 (by decide) (Or.inl (by decide))) (qm_gk g13504 (by decide) (Or.inl (by decide))) (qm_gk g13505 (by decide) (Or.inl (by decide))) (qm_gk g13506 (by decide) (Or.inr rfl)) (qm_ge _ _ _) (by omega) hI13510 hF13511
              refine qr_icmp_ge 93 78 rfl rfl rfl (by omega) (qrg hv13497 (by decide) (by decide)) (fun h13513 => ?_) (fun h13513 => ?_)
              · skip
                exact hJ13512 _ α13459 (qm_gk g13451 (by decide) (Or.inl (by decide))) (qm_gk g13452 (by decide) (Or.inl (by decide))) (qm_gk g13453 (by decide) (Or.inl (by decide))) (qm_gk g13454 (by decide) (Or.inl (by decide))) (qm_gk g13455 (by decide) (Or.inl (by decide))) (qm_gk g13456 (by decide) (Or.inr rfl)) hI13460 hF13461
              · skip
                refine qr_aload_n 79 rfl (qm_gk g13451 (by decide) (Or.inl (by decide))) rfl ?_
                refine qr_get 82 rfl rfl rfl (by decide) rfl ?_
                refine qr_iload 84 rfl (qm_gk g13455 (by decide) (Or.inl (by decide))) rfl ?_
                refine qr_bipush 86 rfl (by decide) rfl ?_
                refine qr_imul 87 rfl rfl ?_
                refine qr_iload 89 rfl (qm_gk g13456 (by decide) (Or.inr rfl)) rfl ?_
                refine qr_iadd 90 rfl rfl ?_
                refine qr_iload 92 rfl (qm_ge _ _ _) rfl ?_
                refine qr_iastore 93 rfl (by decide) rfl (by omega) (by decide) rfl ?_
                refine qy_wA (qw_r α13459 24 (qzu (α13459 24) (((u12657 * 32) + u13457) : Int).toNat (v13495 + 1))) rfl (fun α13514 e13515 => ?_)
                have hI13516 : qI σ3 α13514 κ ρ := by rw [e13515]; exact qI_r hI13460 24 _ rfl (show 0 ≤ (v13495 + 1) ∧ (v13495 + 1) ≤ 99 by omega)
                have hF13517 : qFr [(23, 1)] [24] σ α σ3 α13514 := by rw [e13515]; exact qFr_r hF13461 24 _ (by decide)
                exact hJ13512 _ α13514 (qm_gk g13451 (by decide) (Or.inl (by decide))) (qm_gk g13452 (by decide) (Or.inl (by decide))) (qm_gk g13453 (by decide) (Or.inl (by decide))) (qm_gk g13454 (by decide) (Or.inl (by decide))) (qm_gk g13455 (by decide) (Or.inl (by decide))) (qm_gk g13456 (by decide) (Or.inr rfl)) hI13516 hF13517
        exact hL13463 ((32 - 0 + 1 : Int)).toNat _ 0 α12659 (by omega) (qm_gk g12652 (by decide) (Or.inl (by decide))) (qm_gk g12653 (by decide) (Or.inl (by decide))) (qm_gk g12654 (by decide) (Or.inl (by decide))) (qm_gk g12655 (by decide) (Or.inl (by decide))) (qm_gk g12656 (by decide) (Or.inr rfl)) (qm_ge _ _ _) (by decide) hI12660 hF12661
  exact hL12663 ((32 - 0 + 1 : Int)).toNat _ 0 α (by omega) rfl rfl rfl rfl rfl (by decide) hI5 hF6

set_option maxHeartbeats 4000000 in
set_option maxRecDepth 20000 in
/-- OneRoof$Kinship.join -/
theorem sf_58_25 {L : Nat} {xs : Nat → Int} {vb : Bool} {d : Nat} {σ α : Nat → Nat → Int} {κ : Nat → Option Nat} {ρ : Nat} {x1 : Int} {x2 : Int} {x3 : Int} (hI : qI σ α κ ρ) (r1 : 0 ≤ x1 ∧ x1 ≤ 31) (r2 : 0 ≤ x2 ∧ x2 ≤ 31) (r3 : 0 ≤ x3 ∧ x3 ≤ 32) : qm_T (qe L xs vb) (d + 2) 58 [.ref 25, .int (qz x1), .int (qz x2), .int (qz x3)] (qw σ α κ ρ) (fun r w' => ∃ σ' α', w' = qw σ' α' κ ρ ∧ qI σ' α' κ ρ ∧ qFr [(25, 1)] [26] σ α σ' α' ∧ r = none) := by
  refine qr_start (d := d + 1) qv_e58 (Nat.le_of_ble_eq_true rfl) ?_
  show qr_W (qe L xs vb) (d + 1) qx_e58 _ (0, [(0, .ref 25), (1, .int (qz x1)), (2, .int (qz x2)), (3, .int (qz x3))], [], _, 0, 0)
  have hF0 := qFr_rf [(25, 1)] [26] σ α
  refine qr_aload_n 1 rfl rfl rfl ?_
  refine qr_dup 2 rfl rfl rfl ?_
  refine qr_get 5 rfl rfl rfl (by decide) rfl ?_
  have hs1 : (-2147483648) ≤ σ 25 1 ∧ σ 25 1 ≤ 2147483647 := hI.1 25 1
  refine qr_iconst 6 rfl rfl ?_
  refine qr_iadd 7 rfl rfl ?_
  refine qy_can (fun v2 hv2 => ?_)
  refine qr_put 10 rfl (by decide) rfl (Nat.le_of_ble_eq_true rfl) (Nat.le_of_ble_eq_true rfl) (Or.inl rfl) (qr_fitI rfl _) rfl ?_
  refine qy_wS (qw_s σ 25 1 v2) rfl (fun σ3 e4 => ?_)
  have hI5 : qI σ3 α κ ρ := by rw [e4]; exact qI_s hI 25 1 rfl (show (-2147483648) ≤ v2 ∧ v2 ≤ 2147483647 by omega)
  have hF6 : qFr [(25, 1)] [26] σ α σ3 α := by rw [e4]; exact qFr_s hF0 25 1 _ (by decide)
  refine qr_iconst 11 rfl rfl ?_
  refine qr_istore _ 13 rfl (by decide) rfl rfl ?_
  have hL12663 : ∀ (n : Nat) (ls : qm_L) (u12657 : Int) (α12659 : Nat → Nat → Int), 32 - u12657 < (n : Int) → qm_get ls 0 = some (.ref 25) → qm_get ls 1 = some (.int (qz x1)) → qm_get ls 2 = some (.int (qz x2)) → qm_get ls 3 = some (.int (qz x3)) → qm_get ls 4 = some (.int (qz u12657)) → (0 ≤ u12657 ∧ u12657 ≤ 32) → qI σ3 α12659 κ ρ → qFr [(25, 1)] [26] σ α σ3 α12659 → qr_W (qe L xs vb) (d + 1) qx_e58 (fun r w' => ∃ σ' α', w' = qw σ' α' κ ρ ∧ qI σ' α' κ ρ ∧ qFr [(25, 1)] [26] σ α σ' α' ∧ r = none) (13, ls, [], qw σ3 α12659 κ ρ, 0, 0) := by
    intro n
    induction n with
    | zero => intro ls u12657 α12659 hm g12652 g12653 g12654 g12655 g12656 hf12662 hI12660 hF12661; exact False.elim (by omega)
    | succ n ih12664 =>
      intro ls u12657 α12659 hm g12652 g12653 g12654 g12655 g12656 hf12662 hI12660 hF12661
      refine qr_iload 15 rfl g12656 rfl ?_
      refine qr_iload_n 16 rfl g12655 rfl ?_
      refine qr_icmp_ge 105 19 rfl rfl rfl (qrg hf12662 (by decide) (by decide)) (qrg r3 (by decide) (by decide)) (fun h12665 => ?_) (fun h12665 => ?_)
      · skip
        refine qr_retV rfl rfl (by decide) (by decide) ?_
        exact ⟨_, _, rfl, hI12660, hF12661, rfl⟩
      · skip
        refine qr_iconst 20 rfl rfl ?_
        refine qr_istore _ 22 rfl (by decide) rfl rfl ?_
        have hL13463 : ∀ (n : Nat) (ls : qm_L) (u13457 : Int) (α13459 : Nat → Nat → Int), 32 - u13457 < (n : Int) → qm_get ls 0 = some (.ref 25) → qm_get ls 1 = some (.int (qz x1)) → qm_get ls 2 = some (.int (qz x2)) → qm_get ls 3 = some (.int (qz x3)) → qm_get ls 4 = some (.int (qz u12657)) → qm_get ls 5 = some (.int (qz u13457)) → (0 ≤ u13457 ∧ u13457 ≤ 32) → qI σ3 α13459 κ ρ → qFr [(25, 1)] [26] σ α σ3 α13459 → qr_W (qe L xs vb) (d + 1) qx_e58 (fun r w' => ∃ σ' α', w' = qw σ' α' κ ρ ∧ qI σ' α' κ ρ ∧ qFr [(25, 1)] [26] σ α σ' α' ∧ r = none) (22, ls, [], qw σ3 α13459 κ ρ, 0, 0) := by
          intro n
          induction n with
          | zero => intro ls u13457 α13459 hm g13451 g13452 g13453 g13454 g13455 g13456 hf13462 hI13460 hF13461; exact False.elim (by omega)
          | succ n ih13464 =>
            intro ls u13457 α13459 hm g13451 g13452 g13453 g13454 g13455 g13456 hf13462 hI13460 hF13461
            refine qr_iload 24 rfl g13456 rfl ?_
            refine qr_iload_n 25 rfl g13454 rfl ?_
            refine qr_icmp_ge 99 28 rfl rfl rfl (qrg hf13462 (by decide) (by decide)) (qrg r3 (by decide) (by decide)) (fun h13490 => ?_) (fun h13490 => ?_)
            · skip
              refine qr_iinc _ 102 rfl g13455 (by decide) rfl rfl ?_
              refine qr_goto 13 rfl rfl ?_
              exact ih12664 _ (u12657 + 1) α13459 (by omega) (qm_gk g13451 (by decide) (Or.inl (by decide))) (qm_gk g13452 (by decide) (Or.inl (by decide))) (qm_gk g13453 (by decide) (Or.inl (by decide))) (qm_gk g13454 (by decide) (Or.inr rfl)) (qm_ge _ _ _) (by omega) hI13460 hF13461
            · skip
              refine qr_aload_n 29 rfl g13451 rfl ?_
              refine qr_iload 31 rfl g13455 rfl ?_
              refine qr_iload_n 32 rfl g13452 rfl ?_
              refine qr_callN 35 rfl rfl rfl (sf_57_25 (d := d + 0) hI13460 (by omega) r1) ?_
              rintro _ _ ⟨rfl, v13491, rfl, hv13491⟩
              show qr_W (qe L xs vb) (d + 1) qx_e58 _ (35, _, [.int (qz v13491)], qw σ3 α13459 κ ρ, 0, 0)
              refine qr_aload_n 36 rfl g13451 rfl ?_
              refine qr_iload_n 37 rfl g13453 rfl ?_
              refine qr_iload 39 rfl g13456 rfl ?_
              refine qr_callN 42 rfl rfl rfl (sf_57_25 (d := d + 0) hI13460 r2 (by omega)) ?_
              rintro _ _ ⟨rfl, v13492, rfl, hv13492⟩
              show qr_W (qe L xs vb) (d + 1) qx_e58 _ (42, _, [.int (qz v13492), .int (qz v13491)], qw σ3 α13459 κ ρ, 0, 0)
              refine qr_iadd 43 rfl rfl ?_
              refine qr_aload_n 44 rfl g13451 rfl ?_
              refine qr_iload 46 rfl g13455 rfl ?_
              refine qr_iload_n 47 rfl g13453 rfl ?_
              refine qr_callN 50 rfl rfl rfl (sf_57_25 (d := d + 0) hI13460 (by omega) r2) ?_
              rintro _ _ ⟨rfl, v13493, rfl, hv13493⟩
              show qr_W (qe L xs vb) (d + 1) qx_e58 _ (50, _, [.int (qz v13493), .int (qz (v13491 + v13492))], qw σ3 α13459 κ ρ, 0, 0)
              refine qr_aload_n 51 rfl g13451 rfl ?_
              refine qr_iload_n 52 rfl g13452 rfl ?_
              refine qr_iload 54 rfl g13456 rfl ?_
              refine qr_callN 57 rfl rfl rfl (sf_57_25 (d := d + 0) hI13460 r1 (by omega)) ?_
              rintro _ _ ⟨rfl, v13494, rfl, hv13494⟩
              show qr_W (qe L xs vb) (d + 1) qx_e58 _ (57, _, [.int (qz v13494), .int (qz v13493), .int (qz (v13491 + v13492))], qw σ3 α13459 κ ρ, 0, 0)
              refine qr_iadd 58 rfl rfl ?_
              refine qr_callN 61 rfl rfl rfl (sf_12 (d := d + 0) hI13460 (by omega) (by omega)) ?_
              rintro _ _ ⟨rfl, v13495, rfl, hv13495, hp13496⟩
              show qr_W (qe L xs vb) (d + 1) qx_e58 _ (61, _, [.int (qz v13495)], qw σ3 α13459 κ ρ, 0, 0)
              refine qr_iconst 62 rfl rfl ?_
              refine qr_iadd 63 rfl rfl ?_
              refine qr_istore _ 65 rfl (by decide) rfl rfl ?_
              refine qr_iload 67 rfl (qm_ge _ _ _) rfl ?_
              refine qr_aload_n 68 rfl (qm_gk g13451 (by decide) (Or.inl (by decide))) rfl ?_
              refine qr_iload 70 rfl (qm_gk g13455 (by decide) (Or.inl (by decide))) rfl ?_
              refine qr_iload 72 rfl (qm_gk g13456 (by decide) (Or.inr rfl)) rfl ?_
              refine qr_callN 75 rfl rfl rfl (sf_57_25 (d := d + 0) hI13460 (by omega) (by omega)) ?_
              rintro _ _ ⟨rfl, v13497, rfl, hv13497⟩
              show qr_W (qe L xs vb) (d + 1) qx_e58 _ (75, _, [.int (qz v13497), .int (qz (v13495 + 1))], qw σ3 α13459 κ ρ, 0, 0)
              have hJ13512 : ∀ (ls : qm_L) (α13509 : Nat → Nat → Int), qm_get ls 0 = some (.ref 25) → qm_get ls 1 = some (.int (qz x1)) → qm_get ls 2 = some (.int (qz x2)) → qm_get ls 3 = some (.int (qz x3)) → qm_get ls 4 = some (.int (qz u12657)) → qm_get ls 5 = some (.int (qz u13457)) → qI σ3 α13509 κ ρ → qFr [(25, 1)] [26] σ α σ3 α13509 → qr_W (qe L xs vb) (d + 1) qx_e58 (fun r w' => ∃ σ' α', w' = qw σ' α' κ ρ ∧ qI σ' α' κ ρ ∧ qFr [(25, 1)] [26] σ α σ' α' ∧ r = none) (93, ls, [], qw σ3 α13509 κ ρ, 0, 0) := by
                intro ls α13509 g13502 g13503 g13504 g13505 g13506 g13507 hI13510 hF13511
                refine qr_iinc _ 96 rfl g13507 (by decide) rfl rfl ?_
                refine qr_goto 22 rfl rfl ?_
                exact ih13464 _ (u13457 + 1) α13509 (by omega) (qm_gk g13502 (by decide) (Or.inl (by decide))) (qm_gk g13503 (by decide) (Or.inl (by decide))) (qm_gk g13504 (by decide) (Or.inl (by decide))) (qm_gk g13505 (by decide) (Or.inl (by decide))) (qm_gk g13506 (by decide) (Or.inr rfl)) (qm_ge _ _ _) (by omega) hI13510 hF13511
              refine qr_icmp_ge 93 78 rfl rfl rfl (by omega) (qrg hv13497 (by decide) (by decide)) (fun h13513 => ?_) (fun h13513 => ?_)
              · skip
                exact hJ13512 _ α13459 (qm_gk g13451 (by decide) (Or.inl (by decide))) (qm_gk g13452 (by decide) (Or.inl (by decide))) (qm_gk g13453 (by decide) (Or.inl (by decide))) (qm_gk g13454 (by decide) (Or.inl (by decide))) (qm_gk g13455 (by decide) (Or.inl (by decide))) (qm_gk g13456 (by decide) (Or.inr rfl)) hI13460 hF13461
              · skip
                refine qr_aload_n 79 rfl (qm_gk g13451 (by decide) (Or.inl (by decide))) rfl ?_
                refine qr_get 82 rfl rfl rfl (by decide) rfl ?_
                refine qr_iload 84 rfl (qm_gk g13455 (by decide) (Or.inl (by decide))) rfl ?_
                refine qr_bipush 86 rfl (by decide) rfl ?_
                refine qr_imul 87 rfl rfl ?_
                refine qr_iload 89 rfl (qm_gk g13456 (by decide) (Or.inr rfl)) rfl ?_
                refine qr_iadd 90 rfl rfl ?_
                refine qr_iload 92 rfl (qm_ge _ _ _) rfl ?_
                refine qr_iastore 93 rfl (by decide) rfl (by omega) (by decide) rfl ?_
                refine qy_wA (qw_r α13459 26 (qzu (α13459 26) (((u12657 * 32) + u13457) : Int).toNat (v13495 + 1))) rfl (fun α13514 e13515 => ?_)
                have hI13516 : qI σ3 α13514 κ ρ := by rw [e13515]; exact qI_r hI13460 26 _ rfl (show 0 ≤ (v13495 + 1) ∧ (v13495 + 1) ≤ 99 by omega)
                have hF13517 : qFr [(25, 1)] [26] σ α σ3 α13514 := by rw [e13515]; exact qFr_r hF13461 26 _ (by decide)
                exact hJ13512 _ α13514 (qm_gk g13451 (by decide) (Or.inl (by decide))) (qm_gk g13452 (by decide) (Or.inl (by decide))) (qm_gk g13453 (by decide) (Or.inl (by decide))) (qm_gk g13454 (by decide) (Or.inl (by decide))) (qm_gk g13455 (by decide) (Or.inl (by decide))) (qm_gk g13456 (by decide) (Or.inr rfl)) hI13516 hF13517
        exact hL13463 ((32 - 0 + 1 : Int)).toNat _ 0 α12659 (by omega) (qm_gk g12652 (by decide) (Or.inl (by decide))) (qm_gk g12653 (by decide) (Or.inl (by decide))) (qm_gk g12654 (by decide) (Or.inl (by decide))) (qm_gk g12655 (by decide) (Or.inl (by decide))) (qm_gk g12656 (by decide) (Or.inr rfl)) (qm_ge _ _ _) (by decide) hI12660 hF12661
  exact hL12663 ((32 - 0 + 1 : Int)).toNat _ 0 α (by omega) rfl rfl rfl rfl rfl (by decide) hI5 hF6

set_option maxHeartbeats 4000000 in
set_option maxRecDepth 20000 in
/-- OneRoof$Kinship.become -/
theorem sf_143_25_23 {L : Nat} {xs : Nat → Int} {vb : Bool} {d : Nat} {σ α : Nat → Nat → Int} {κ : Nat → Option Nat} {ρ : Nat}  (hI : qI σ α κ ρ)  : qm_T (qe L xs vb) (d + 1) 143 [.ref 25, .ref 23] (qw σ α κ ρ) (fun r w' => ∃ σ' α', w' = qw σ' α' κ ρ ∧ qI σ' α' κ ρ ∧ qFr [(25, 1)] [26] σ α σ' α' ∧ r = none) := by
  refine qr_start (d := d + 0) qv_e143 (Nat.le_of_ble_eq_true rfl) ?_
  show qr_W (qe L xs vb) (d + 0) qx_e143 _ (0, [(0, .ref 25), (1, .ref 23)], [], _, 0, 0)
  have hF0 := qFr_rf [(25, 1)] [26] σ α
  refine qr_aload_n 1 rfl rfl rfl ?_
  refine qr_get 4 rfl rfl rfl (by decide) rfl ?_
  refine qr_iconst 5 rfl rfl ?_
  refine qr_aload_n 6 rfl rfl rfl ?_
  refine qr_get 9 rfl rfl rfl (by decide) rfl ?_
  refine qr_iconst 10 rfl rfl ?_
  refine qr_aload_n 11 rfl rfl rfl ?_
  refine qr_get 14 rfl rfl rfl (by decide) rfl ?_
  refine qr_alen 15 rfl rfl (by first | exact Or.inl (by decide) | exact Or.inr (Or.inl rfl) | exact Or.inr (Or.inr (Or.inl rfl)) | exact Or.inr (Or.inr (Or.inr (Or.inl rfl)))) rfl ?_
  refine qy_v 1024 rfl ?_
  refine qy_copyi 18 rfl (by decide) (by decide) rfl rfl (by omega) (by omega) (by omega) (by omega) (by omega) (by decide) (by decide) rfl ?_
  refine qy_wA (qw_r α 26 (va_cpy (α 24) (α 26) (0 : Int).toNat (0 : Int).toNat (1024 : Int).toNat)) rfl (fun α1 e2 => ?_)
  have hI3 : qI σ α1 κ ρ := by rw [e2]; exact qI_cpy hI 24 26 rfl rfl (show _ ≤ 1024 by omega)
  have hF4 : qFr [(25, 1)] [26] σ α σ α1 := by rw [e2]; exact qFr_r hF0 26 _ (by decide)
  refine qr_aload_n 19 rfl rfl rfl ?_
  refine qr_aload_n 20 rfl rfl rfl ?_
  refine qr_get 23 rfl rfl rfl (by decide) rfl ?_
  have hs5 : (-2147483648) ≤ σ 23 1 ∧ σ 23 1 ≤ 2147483647 := hI3.1 23 1
  refine qr_put 26 rfl (by decide) rfl (Nat.le_of_ble_eq_true rfl) (Nat.le_of_ble_eq_true rfl) (Or.inl rfl) (qr_fitI rfl _) rfl ?_
  refine qy_wS (qw_s σ 25 1 (σ 23 1)) rfl (fun σ6 e7 => ?_)
  have hI8 : qI σ6 α1 κ ρ := by rw [e7]; exact qI_s hI3 25 1 rfl (show (-2147483648) ≤ (σ 23 1) ∧ (σ 23 1) ≤ 2147483647 by omega)
  have hF9 : qFr [(25, 1)] [26] σ α σ6 α1 := by rw [e7]; exact qFr_s hF4 25 1 _ (by decide)
  refine qr_retV rfl rfl (by decide) (by decide) ?_
  exact ⟨_, _, rfl, hI8, hF9, rfl⟩

set_option maxHeartbeats 4000000 in
set_option maxRecDepth 20000 in
/-- OneRoof$Feuds.turnsAt -/
theorem sf_102_27 {L : Nat} {xs : Nat → Int} {vb : Bool} {d : Nat} {σ α : Nat → Nat → Int} {κ : Nat → Option Nat} {ρ : Nat} {x1 : Int} (hI : qI σ α κ ρ) (r1 : (-2147483648) ≤ x1 ∧ x1 ≤ 2147483647) : qm_T (qe L xs vb) (d + 1) 102 [.ref 27, .int (qz x1)] (qw σ α κ ρ) (fun r w' => w' = qw σ α κ ρ ∧ ∃ v : Int, r = some (.int (qz v)) ∧ (0 ≤ v ∧ v ≤ 1)) := by
  refine qr_start (d := d + 0) qv_e102 (Nat.le_of_ble_eq_true rfl) ?_
  show qr_W (qe L xs vb) (d + 0) qx_e102 _ (0, [(0, .ref 27), (1, .int (qz x1))], [], _, 0, 0)
  refine qr_iconst 1 rfl rfl ?_
  refine qr_istore_n _ 2 rfl (by decide) rfl rfl ?_
  have hL177 : ∀ (n : Nat) (ls : qm_L) (u175 : Int), 40 - u175 < (n : Int) → qm_get ls 0 = some (.ref 27) → qm_get ls 1 = some (.int (qz x1)) → qm_get ls 2 = some (.int (qz u175)) → (0 ≤ u175 ∧ u175 ≤ 40) → qr_W (qe L xs vb) (d + 0) qx_e102 (fun r w' => w' = qw σ α κ ρ ∧ ∃ v : Int, r = some (.int (qz v)) ∧ (0 ≤ v ∧ v ≤ 1)) (2, ls, [], qw σ α κ ρ, 0, 0) := by
    intro n
    induction n with
    | zero => intro ls u175 hm g172 g173 g174 hf176; exact False.elim (by omega)
    | succ n ih178 =>
      intro ls u175 hm g172 g173 g174 hf176
      refine qr_iload_n 3 rfl g174 rfl ?_
      refine qr_aload_n 4 rfl g172 rfl ?_
      refine qr_get 7 rfl rfl rfl (by decide) rfl ?_
      have hs179 : 0 ≤ σ 27 7 ∧ σ 27 7 ≤ 40 := hI.1 27 7
      refine qr_icmp_ge 38 10 rfl rfl rfl (qrg hf176 (by decide) (by decide)) (qrg hs179 (by decide) (by decide)) (fun h180 => ?_) (fun h180 => ?_)
      · skip
        refine qr_iconst 39 rfl rfl ?_
        refine qr_retZ rfl rfl (Or.inl rfl) (by decide) (by decide) ?_
        exact ⟨rfl, 0, rfl, (by decide)⟩
      · skip
        refine qr_aload_n 11 rfl g172 rfl ?_
        refine qr_get 14 rfl rfl rfl (by decide) rfl ?_
        refine qr_iload_n 15 rfl g174 rfl ?_
        refine qr_iaload 16 rfl rfl (by omega) (by decide) rfl ?_
        refine qr_topI (fun v181 hv181 => ?_)
        have hs182 : (-2147483648) ≤ v181 ∧ v181 ≤ 2147483647 := by rw [hv181]; exact hI.2.1 30 _ (show _ < 40 by omega)
        refine qr_iload_n 17 rfl g173 rfl ?_
        refine qr_icmp_eq 30 20 rfl rfl rfl hs182 r1 (fun h183 => ?_) (fun h183 => ?_)
        · skip
          refine qr_iconst 31 rfl rfl ?_
          refine qr_retZ rfl rfl (Or.inr rfl) (by decide) (by decide) ?_
          exact ⟨rfl, 1, rfl, (by decide)⟩
        · skip
          refine qr_aload_n 21 rfl g172 rfl ?_
          refine qr_get 24 rfl rfl rfl (by decide) rfl ?_
          refine qr_iload_n 25 rfl g174 rfl ?_
          refine qr_iaload 26 rfl rfl (by omega) (by decide) rfl ?_
          refine qr_topI (fun v184 hv184 => ?_)
          have hs185 : (-2147483648) ≤ v184 ∧ v184 ≤ 2147483647 := by rw [hv184]; exact hI.2.1 33 _ (show _ < 40 by omega)
          refine qr_iload_n 27 rfl g173 rfl ?_
          refine qr_icmp_ne 32 30 rfl rfl rfl hs185 r1 (fun h186 => ?_) (fun h186 => ?_)
          · skip
            refine qr_iinc _ 35 rfl g174 (by decide) rfl rfl ?_
            refine qr_goto 2 rfl rfl ?_
            exact ih178 _ (u175 + 1) (by omega) (qm_gk g172 (by decide) (Or.inl (by decide))) (qm_gk g173 (by decide) (Or.inr rfl)) (qm_ge _ _ _) (by omega)
          · skip
            refine qr_iconst 31 rfl rfl ?_
            refine qr_retZ rfl rfl (Or.inr rfl) (by decide) (by decide) ?_
            exact ⟨rfl, 1, rfl, (by decide)⟩
  exact hL177 ((40 - 0 + 1 : Int)).toNat _ 0 (by omega) rfl rfl rfl (by decide)

set_option maxHeartbeats 4000000 in
set_option maxRecDepth 20000 in
/-- OneRoof$Feuds.closeness -/
theorem sf_68_27_23 {L : Nat} {xs : Nat → Int} {vb : Bool} {d : Nat} {σ α : Nat → Nat → Int} {κ : Nat → Option Nat} {ρ : Nat} {x1 : Int} {x2 : Int} {x3 : Int} (hI : qI σ α κ ρ) (r1 : 0 ≤ x1 ∧ x1 ≤ 39) (r2 : 0 ≤ x2 ∧ x2 ≤ 31) (r3 : 0 ≤ x3 ∧ x3 ≤ 31) : qm_T (qe L xs vb) (d + 1) 68 [.ref 27, .int (qz x1), .int (qz x2), .int (qz x3), .ref 23] (qw σ α κ ρ) (fun r w' => w' = qw σ α κ ρ ∧ ∃ v : Int, r = some (.int (qz v)) ∧ (0 ≤ v ∧ v ≤ 9)) := by
  refine qr_start (d := d + 0) qv_e68 (Nat.le_of_ble_eq_true rfl) ?_
  show qr_W (qe L xs vb) (d + 0) qx_e68 _ (0, [(0, .ref 27), (1, .int (qz x1)), (2, .int (qz x2)), (3, .int (qz x3)), (4, .ref 23)], [], _, 0, 0)
  refine qr_aload 2 rfl rfl rfl ?_
  refine qr_get 5 rfl rfl rfl (by decide) rfl ?_
  refine qr_astore _ 7 rfl (by decide) rfl rfl ?_
  refine qr_aload_n 8 rfl rfl rfl ?_
  refine qr_get 11 rfl rfl rfl (by decide) rfl ?_
  refine qr_iload_n 12 rfl rfl rfl ?_
  refine qr_iaload 13 rfl rfl (qrgi r1 (by decide) (by decide)) (by decide) rfl ?_
  refine qr_topI (fun v1 hv1 => ?_)
  have hs2 : 0 ≤ v1 ∧ v1 ≤ 3 := by rw [hv1]; exact hI.2.1 31 _ (show _ < 40 from qrgt r1 (by decide) (by decide))
  refine qr_istore _ 15 rfl (by decide) rfl rfl ?_
  refine qr_bipush 17 rfl (by decide) rfl ?_
  refine qr_istore _ 19 rfl (by decide) rfl rfl ?_
  refine qr_aload 21 rfl rfl rfl ?_
  refine qr_iload_n 22 rfl rfl rfl ?_
  refine qr_bipush 24 rfl (by decide) rfl ?_
  refine qr_imul 25 rfl rfl ?_
  refine qr_aload_n 26 rfl rfl rfl ?_
  refine qr_get 29 rfl rfl rfl (by decide) rfl ?_
  refine qr_iload_n 30 rfl rfl rfl ?_
  refine qr_iaload 31 rfl rfl (qrgi r1 (by decide) (by decide)) (by decide) rfl ?_
  refine qr_topI (fun v3 hv3 => ?_)
  have hs4 : 0 ≤ v3 ∧ v3 ≤ 31 := by rw [hv3]; exact hI.2.1 28 _ (show _ < 40 from qrgt r1 (by decide) (by decide))
  refine qr_iadd 32 rfl rfl ?_
  refine qr_iaload 33 rfl rfl (by omega) (by decide) rfl ?_
  refine qr_topI (fun v5 hv5 => ?_)
  have hs6 : 0 ≤ v5 ∧ v5 ≤ 99 := by rw [hv5]; exact hI.2.1 24 _ (show _ < 1024 by omega)
  refine qr_istore _ 35 rfl (by decide) rfl rfl ?_
  refine qr_aload 37 rfl rfl rfl ?_
  refine qr_iload_n 38 rfl rfl rfl ?_
  refine qr_bipush 40 rfl (by decide) rfl ?_
  refine qr_imul 41 rfl rfl ?_
  refine qr_aload_n 42 rfl rfl rfl ?_
  refine qr_get 45 rfl rfl rfl (by decide) rfl ?_
  refine qr_iload_n 46 rfl rfl rfl ?_
  refine qr_iaload 47 rfl rfl (qrgi r1 (by decide) (by decide)) (by decide) rfl ?_
  refine qr_topI (fun v7 hv7 => ?_)
  have hs8 : 0 ≤ v7 ∧ v7 ≤ 31 := by rw [hv7]; exact hI.2.1 29 _ (show _ < 40 from qrgt r1 (by decide) (by decide))
  refine qr_iadd 48 rfl rfl ?_
  refine qr_iaload 49 rfl rfl (by omega) (by decide) rfl ?_
  refine qr_topI (fun v9 hv9 => ?_)
  have hs10 : 0 ≤ v9 ∧ v9 ≤ 99 := by rw [hv9]; exact hI.2.1 24 _ (show _ < 1024 by omega)
  refine qr_istore _ 51 rfl (by decide) rfl rfl ?_
  refine qr_iload 53 rfl rfl rfl ?_
  refine qr_iload 55 rfl rfl rfl ?_
  have hJ20 : ∀ (ls : qm_L) (u18 : Int), qm_get ls 0 = some (.ref 27) → qm_get ls 1 = some (.int (qz x1)) → qm_get ls 2 = some (.int (qz x2)) → qm_get ls 3 = some (.int (qz x3)) → qm_get ls 5 = some (.ref 24) → qm_get ls 6 = some (.int (qz v1)) → qm_get ls 7 = some (.int (qz u18)) → (0 ≤ u18 ∧ u18 ≤ 9) → qr_W (qe L xs vb) (d + 0) qx_e68 (fun r w' => w' = qw σ α κ ρ ∧ ∃ v : Int, r = some (.int (qz v)) ∧ (0 ≤ v ∧ v ≤ 9)) (72, ls, [], qw σ α κ ρ, 0, 0) := by
    intro ls u18 g11 g12 g13 g14 g15 g16 g17 hf19
    refine qr_aload 74 rfl g15 rfl ?_
    refine qr_iload_n 75 rfl g14 rfl ?_
    refine qr_bipush 77 rfl (by decide) rfl ?_
    refine qr_imul 78 rfl rfl ?_
    refine qr_aload_n 79 rfl g11 rfl ?_
    refine qr_get 82 rfl rfl rfl (by decide) rfl ?_
    refine qr_iload_n 83 rfl g12 rfl ?_
    refine qr_iaload 84 rfl rfl (qrgi r1 (by decide) (by decide)) (by decide) rfl ?_
    refine qr_topI (fun v21 hv21 => ?_)
    have hs22 : 0 ≤ v21 ∧ v21 ≤ 31 := by rw [hv21]; exact hI.2.1 28 _ (show _ < 40 from qrgt r1 (by decide) (by decide))
    refine qr_iadd 85 rfl rfl ?_
    refine qr_iaload 86 rfl rfl (by omega) (by decide) rfl ?_
    refine qr_topI (fun v23 hv23 => ?_)
    have hs24 : 0 ≤ v23 ∧ v23 ≤ 99 := by rw [hv23]; exact hI.2.1 24 _ (show _ < 1024 by omega)
    refine qr_istore _ 88 rfl (by decide) rfl rfl ?_
    refine qr_aload 90 rfl (qm_gk g15 (by decide) (Or.inl (by decide))) rfl ?_
    refine qr_iload_n 91 rfl (qm_gk g13 (by decide) (Or.inl (by decide))) rfl ?_
    refine qr_bipush 93 rfl (by decide) rfl ?_
    refine qr_imul 94 rfl rfl ?_
    refine qr_aload_n 95 rfl (qm_gk g11 (by decide) (Or.inl (by decide))) rfl ?_
    refine qr_get 98 rfl rfl rfl (by decide) rfl ?_
    refine qr_iload_n 99 rfl (qm_gk g12 (by decide) (Or.inl (by decide))) rfl ?_
    refine qr_iaload 100 rfl rfl (qrgi r1 (by decide) (by decide)) (by decide) rfl ?_
    refine qr_topI (fun v25 hv25 => ?_)
    have hs26 : 0 ≤ v25 ∧ v25 ≤ 31 := by rw [hv25]; exact hI.2.1 29 _ (show _ < 40 from qrgt r1 (by decide) (by decide))
    refine qr_iadd 101 rfl rfl ?_
    refine qr_iaload 102 rfl rfl (by omega) (by decide) rfl ?_
    refine qr_topI (fun v27 hv27 => ?_)
    have hs28 : 0 ≤ v27 ∧ v27 ≤ 99 := by rw [hv27]; exact hI.2.1 24 _ (show _ < 1024 by omega)
    refine qr_istore _ 104 rfl (by decide) rfl rfl ?_
    refine qr_iload 106 rfl (qm_gk (qm_ge _ _ _) (by decide) (Or.inr rfl)) rfl ?_
    refine qr_iload 108 rfl (qm_gk (qm_gk g16 (by decide) (Or.inl (by decide))) (by decide) (Or.inl (by decide))) rfl ?_
    refine qr_icmp_gt 136 111 rfl rfl rfl (qrg hs24 (by decide) (by decide)) (qrg hs2 (by decide) (by decide)) (fun h29 => ?_) (fun h29 => ?_)
    · skip
      refine qr_iload 138 rfl (qm_gk (qm_gk g17 (by decide) (Or.inr rfl)) (by decide) (Or.inl (by decide))) rfl ?_
      refine qr_retI rfl rfl (by decide) (by decide) ?_
      exact ⟨rfl, u18, rfl, hf19⟩
    · skip
      refine qr_iload 113 rfl (qm_ge _ _ _) rfl ?_
      refine qr_iload 115 rfl (qm_gk (qm_gk g16 (by decide) (Or.inl (by decide))) (by decide) (Or.inl (by decide))) rfl ?_
      refine qr_icmp_gt 136 118 rfl rfl rfl (qrg hs28 (by decide) (by decide)) (qrg hs2 (by decide) (by decide)) (fun h30 => ?_) (fun h30 => ?_)
      · skip
        refine qr_iload 138 rfl (qm_gk (qm_gk g17 (by decide) (Or.inr rfl)) (by decide) (Or.inl (by decide))) rfl ?_
        refine qr_retI rfl rfl (by decide) (by decide) ?_
        exact ⟨rfl, u18, rfl, hf19⟩
      · skip
        refine qr_iload 120 rfl (qm_gk (qm_ge _ _ _) (by decide) (Or.inr rfl)) rfl ?_
        refine qr_iload 122 rfl (qm_ge _ _ _) rfl ?_
        refine qr_iadd 123 rfl rfl ?_
        refine qr_iload 125 rfl (qm_gk (qm_gk g17 (by decide) (Or.inr rfl)) (by decide) (Or.inl (by decide))) rfl ?_
        refine qr_icmp_ge 136 128 rfl rfl rfl (by omega) (qrg hf19 (by decide) (by decide)) (fun h31 => ?_) (fun h31 => ?_)
        · skip
          refine qr_iload 138 rfl (qm_gk (qm_gk g17 (by decide) (Or.inr rfl)) (by decide) (Or.inl (by decide))) rfl ?_
          refine qr_retI rfl rfl (by decide) (by decide) ?_
          exact ⟨rfl, u18, rfl, hf19⟩
        · skip
          refine qr_iload 130 rfl (qm_gk (qm_ge _ _ _) (by decide) (Or.inr rfl)) rfl ?_
          refine qr_iload 132 rfl (qm_ge _ _ _) rfl ?_
          refine qr_iadd 133 rfl rfl ?_
          refine qr_goto 138 rfl rfl ?_
          refine qr_retI rfl rfl (by decide) (by decide) ?_
          exact ⟨rfl, (v23 + v27), rfl, (by omega)⟩
  refine qr_icmp_gt 72 58 rfl rfl rfl (qrg hs6 (by decide) (by decide)) (qrg hs2 (by decide) (by decide)) (fun h32 => ?_) (fun h32 => ?_)
  · skip
    exact hJ20 _ 9 rfl rfl rfl rfl rfl rfl rfl (by decide)
  · skip
    refine qr_iload 60 rfl rfl rfl ?_
    refine qr_iload 62 rfl rfl rfl ?_
    refine qr_icmp_gt 72 65 rfl rfl rfl (qrg hs10 (by decide) (by decide)) (qrg hs2 (by decide) (by decide)) (fun h33 => ?_) (fun h33 => ?_)
    · skip
      exact hJ20 _ 9 rfl rfl rfl rfl rfl rfl rfl (by decide)
    · skip
      refine qr_iload 67 rfl rfl rfl ?_
      refine qr_iload 69 rfl rfl rfl ?_
      refine qr_iadd 70 rfl rfl ?_
      refine qr_istore _ 72 rfl (by decide) rfl rfl ?_
      exact hJ20 _ (v5 + v9) rfl rfl rfl rfl rfl rfl rfl (by omega)

set_option maxHeartbeats 4000000 in
set_option maxRecDepth 20000 in
/-- OneRoof$Feuds.closeness -/
theorem sf_68_27_25 {L : Nat} {xs : Nat → Int} {vb : Bool} {d : Nat} {σ α : Nat → Nat → Int} {κ : Nat → Option Nat} {ρ : Nat} {x1 : Int} {x2 : Int} {x3 : Int} (hI : qI σ α κ ρ) (r1 : 0 ≤ x1 ∧ x1 ≤ 39) (r2 : 0 ≤ x2 ∧ x2 ≤ 31) (r3 : 0 ≤ x3 ∧ x3 ≤ 31) : qm_T (qe L xs vb) (d + 1) 68 [.ref 27, .int (qz x1), .int (qz x2), .int (qz x3), .ref 25] (qw σ α κ ρ) (fun r w' => w' = qw σ α κ ρ ∧ ∃ v : Int, r = some (.int (qz v)) ∧ (0 ≤ v ∧ v ≤ 9)) := by
  refine qr_start (d := d + 0) qv_e68 (Nat.le_of_ble_eq_true rfl) ?_
  show qr_W (qe L xs vb) (d + 0) qx_e68 _ (0, [(0, .ref 27), (1, .int (qz x1)), (2, .int (qz x2)), (3, .int (qz x3)), (4, .ref 25)], [], _, 0, 0)
  refine qr_aload 2 rfl rfl rfl ?_
  refine qr_get 5 rfl rfl rfl (by decide) rfl ?_
  refine qr_astore _ 7 rfl (by decide) rfl rfl ?_
  refine qr_aload_n 8 rfl rfl rfl ?_
  refine qr_get 11 rfl rfl rfl (by decide) rfl ?_
  refine qr_iload_n 12 rfl rfl rfl ?_
  refine qr_iaload 13 rfl rfl (qrgi r1 (by decide) (by decide)) (by decide) rfl ?_
  refine qr_topI (fun v1 hv1 => ?_)
  have hs2 : 0 ≤ v1 ∧ v1 ≤ 3 := by rw [hv1]; exact hI.2.1 31 _ (show _ < 40 from qrgt r1 (by decide) (by decide))
  refine qr_istore _ 15 rfl (by decide) rfl rfl ?_
  refine qr_bipush 17 rfl (by decide) rfl ?_
  refine qr_istore _ 19 rfl (by decide) rfl rfl ?_
  refine qr_aload 21 rfl rfl rfl ?_
  refine qr_iload_n 22 rfl rfl rfl ?_
  refine qr_bipush 24 rfl (by decide) rfl ?_
  refine qr_imul 25 rfl rfl ?_
  refine qr_aload_n 26 rfl rfl rfl ?_
  refine qr_get 29 rfl rfl rfl (by decide) rfl ?_
  refine qr_iload_n 30 rfl rfl rfl ?_
  refine qr_iaload 31 rfl rfl (qrgi r1 (by decide) (by decide)) (by decide) rfl ?_
  refine qr_topI (fun v3 hv3 => ?_)
  have hs4 : 0 ≤ v3 ∧ v3 ≤ 31 := by rw [hv3]; exact hI.2.1 28 _ (show _ < 40 from qrgt r1 (by decide) (by decide))
  refine qr_iadd 32 rfl rfl ?_
  refine qr_iaload 33 rfl rfl (by omega) (by decide) rfl ?_
  refine qr_topI (fun v5 hv5 => ?_)
  have hs6 : 0 ≤ v5 ∧ v5 ≤ 99 := by rw [hv5]; exact hI.2.1 26 _ (show _ < 1024 by omega)
  refine qr_istore _ 35 rfl (by decide) rfl rfl ?_
  refine qr_aload 37 rfl rfl rfl ?_
  refine qr_iload_n 38 rfl rfl rfl ?_
  refine qr_bipush 40 rfl (by decide) rfl ?_
  refine qr_imul 41 rfl rfl ?_
  refine qr_aload_n 42 rfl rfl rfl ?_
  refine qr_get 45 rfl rfl rfl (by decide) rfl ?_
  refine qr_iload_n 46 rfl rfl rfl ?_
  refine qr_iaload 47 rfl rfl (qrgi r1 (by decide) (by decide)) (by decide) rfl ?_
  refine qr_topI (fun v7 hv7 => ?_)
  have hs8 : 0 ≤ v7 ∧ v7 ≤ 31 := by rw [hv7]; exact hI.2.1 29 _ (show _ < 40 from qrgt r1 (by decide) (by decide))
  refine qr_iadd 48 rfl rfl ?_
  refine qr_iaload 49 rfl rfl (by omega) (by decide) rfl ?_
  refine qr_topI (fun v9 hv9 => ?_)
  have hs10 : 0 ≤ v9 ∧ v9 ≤ 99 := by rw [hv9]; exact hI.2.1 26 _ (show _ < 1024 by omega)
  refine qr_istore _ 51 rfl (by decide) rfl rfl ?_
  refine qr_iload 53 rfl rfl rfl ?_
  refine qr_iload 55 rfl rfl rfl ?_
  have hJ20 : ∀ (ls : qm_L) (u18 : Int), qm_get ls 0 = some (.ref 27) → qm_get ls 1 = some (.int (qz x1)) → qm_get ls 2 = some (.int (qz x2)) → qm_get ls 3 = some (.int (qz x3)) → qm_get ls 5 = some (.ref 26) → qm_get ls 6 = some (.int (qz v1)) → qm_get ls 7 = some (.int (qz u18)) → (0 ≤ u18 ∧ u18 ≤ 9) → qr_W (qe L xs vb) (d + 0) qx_e68 (fun r w' => w' = qw σ α κ ρ ∧ ∃ v : Int, r = some (.int (qz v)) ∧ (0 ≤ v ∧ v ≤ 9)) (72, ls, [], qw σ α κ ρ, 0, 0) := by
    intro ls u18 g11 g12 g13 g14 g15 g16 g17 hf19
    refine qr_aload 74 rfl g15 rfl ?_
    refine qr_iload_n 75 rfl g14 rfl ?_
    refine qr_bipush 77 rfl (by decide) rfl ?_
    refine qr_imul 78 rfl rfl ?_
    refine qr_aload_n 79 rfl g11 rfl ?_
    refine qr_get 82 rfl rfl rfl (by decide) rfl ?_
    refine qr_iload_n 83 rfl g12 rfl ?_
    refine qr_iaload 84 rfl rfl (qrgi r1 (by decide) (by decide)) (by decide) rfl ?_
    refine qr_topI (fun v21 hv21 => ?_)
    have hs22 : 0 ≤ v21 ∧ v21 ≤ 31 := by rw [hv21]; exact hI.2.1 28 _ (show _ < 40 from qrgt r1 (by decide) (by decide))
    refine qr_iadd 85 rfl rfl ?_
    refine qr_iaload 86 rfl rfl (by omega) (by decide) rfl ?_
    refine qr_topI (fun v23 hv23 => ?_)
    have hs24 : 0 ≤ v23 ∧ v23 ≤ 99 := by rw [hv23]; exact hI.2.1 26 _ (show _ < 1024 by omega)
    refine qr_istore _ 88 rfl (by decide) rfl rfl ?_
    refine qr_aload 90 rfl (qm_gk g15 (by decide) (Or.inl (by decide))) rfl ?_
    refine qr_iload_n 91 rfl (qm_gk g13 (by decide) (Or.inl (by decide))) rfl ?_
    refine qr_bipush 93 rfl (by decide) rfl ?_
    refine qr_imul 94 rfl rfl ?_
    refine qr_aload_n 95 rfl (qm_gk g11 (by decide) (Or.inl (by decide))) rfl ?_
    refine qr_get 98 rfl rfl rfl (by decide) rfl ?_
    refine qr_iload_n 99 rfl (qm_gk g12 (by decide) (Or.inl (by decide))) rfl ?_
    refine qr_iaload 100 rfl rfl (qrgi r1 (by decide) (by decide)) (by decide) rfl ?_
    refine qr_topI (fun v25 hv25 => ?_)
    have hs26 : 0 ≤ v25 ∧ v25 ≤ 31 := by rw [hv25]; exact hI.2.1 29 _ (show _ < 40 from qrgt r1 (by decide) (by decide))
    refine qr_iadd 101 rfl rfl ?_
    refine qr_iaload 102 rfl rfl (by omega) (by decide) rfl ?_
    refine qr_topI (fun v27 hv27 => ?_)
    have hs28 : 0 ≤ v27 ∧ v27 ≤ 99 := by rw [hv27]; exact hI.2.1 26 _ (show _ < 1024 by omega)
    refine qr_istore _ 104 rfl (by decide) rfl rfl ?_
    refine qr_iload 106 rfl (qm_gk (qm_ge _ _ _) (by decide) (Or.inr rfl)) rfl ?_
    refine qr_iload 108 rfl (qm_gk (qm_gk g16 (by decide) (Or.inl (by decide))) (by decide) (Or.inl (by decide))) rfl ?_
    refine qr_icmp_gt 136 111 rfl rfl rfl (qrg hs24 (by decide) (by decide)) (qrg hs2 (by decide) (by decide)) (fun h29 => ?_) (fun h29 => ?_)
    · skip
      refine qr_iload 138 rfl (qm_gk (qm_gk g17 (by decide) (Or.inr rfl)) (by decide) (Or.inl (by decide))) rfl ?_
      refine qr_retI rfl rfl (by decide) (by decide) ?_
      exact ⟨rfl, u18, rfl, hf19⟩
    · skip
      refine qr_iload 113 rfl (qm_ge _ _ _) rfl ?_
      refine qr_iload 115 rfl (qm_gk (qm_gk g16 (by decide) (Or.inl (by decide))) (by decide) (Or.inl (by decide))) rfl ?_
      refine qr_icmp_gt 136 118 rfl rfl rfl (qrg hs28 (by decide) (by decide)) (qrg hs2 (by decide) (by decide)) (fun h30 => ?_) (fun h30 => ?_)
      · skip
        refine qr_iload 138 rfl (qm_gk (qm_gk g17 (by decide) (Or.inr rfl)) (by decide) (Or.inl (by decide))) rfl ?_
        refine qr_retI rfl rfl (by decide) (by decide) ?_
        exact ⟨rfl, u18, rfl, hf19⟩
      · skip
        refine qr_iload 120 rfl (qm_gk (qm_ge _ _ _) (by decide) (Or.inr rfl)) rfl ?_
        refine qr_iload 122 rfl (qm_ge _ _ _) rfl ?_
        refine qr_iadd 123 rfl rfl ?_
        refine qr_iload 125 rfl (qm_gk (qm_gk g17 (by decide) (Or.inr rfl)) (by decide) (Or.inl (by decide))) rfl ?_
        refine qr_icmp_ge 136 128 rfl rfl rfl (by omega) (qrg hf19 (by decide) (by decide)) (fun h31 => ?_) (fun h31 => ?_)
        · skip
          refine qr_iload 138 rfl (qm_gk (qm_gk g17 (by decide) (Or.inr rfl)) (by decide) (Or.inl (by decide))) rfl ?_
          refine qr_retI rfl rfl (by decide) (by decide) ?_
          exact ⟨rfl, u18, rfl, hf19⟩
        · skip
          refine qr_iload 130 rfl (qm_gk (qm_ge _ _ _) (by decide) (Or.inr rfl)) rfl ?_
          refine qr_iload 132 rfl (qm_ge _ _ _) rfl ?_
          refine qr_iadd 133 rfl rfl ?_
          refine qr_goto 138 rfl rfl ?_
          refine qr_retI rfl rfl (by decide) (by decide) ?_
          exact ⟨rfl, (v23 + v27), rfl, (by omega)⟩
  refine qr_icmp_gt 72 58 rfl rfl rfl (qrg hs6 (by decide) (by decide)) (qrg hs2 (by decide) (by decide)) (fun h32 => ?_) (fun h32 => ?_)
  · skip
    exact hJ20 _ 9 rfl rfl rfl rfl rfl rfl rfl (by decide)
  · skip
    refine qr_iload 60 rfl rfl rfl ?_
    refine qr_iload 62 rfl rfl rfl ?_
    refine qr_icmp_gt 72 65 rfl rfl rfl (qrg hs10 (by decide) (by decide)) (qrg hs2 (by decide) (by decide)) (fun h33 => ?_) (fun h33 => ?_)
    · skip
      exact hJ20 _ 9 rfl rfl rfl rfl rfl rfl rfl (by decide)
    · skip
      refine qr_iload 67 rfl rfl rfl ?_
      refine qr_iload 69 rfl rfl rfl ?_
      refine qr_iadd 70 rfl rfl ?_
      refine qr_istore _ 72 rfl (by decide) rfl rfl ?_
      exact hJ20 _ (v5 + v9) rfl rfl rfl rfl rfl rfl rfl (by omega)

set_option maxHeartbeats 4000000 in
set_option maxRecDepth 20000 in
/-- OneRoof$Feuds.nearest -/
theorem sf_66_27_23 {L : Nat} {xs : Nat → Int} {vb : Bool} {d : Nat} {σ α : Nat → Nat → Int} {κ : Nat → Option Nat} {ρ : Nat} {x1 : Int} {x2 : Int} {x3 : Int} (hI : qI σ α κ ρ) (r1 : 0 ≤ x1 ∧ x1 ≤ 31) (r2 : 0 ≤ x2 ∧ x2 ≤ 31) (r3 : (-2147483648) ≤ x3 ∧ x3 ≤ 2147483647) : qm_T (qe L xs vb) (d + 2) 66 [.ref 27, .int (qz x1), .int (qz x2), .int (qz x3), .ref 23] (qw σ α κ ρ) (fun r w' => w' = qw σ α κ ρ ∧ ∃ v : Int, r = some (.int (qz v)) ∧ (0 ≤ v ∧ v ≤ 576)) := by
  refine qr_start (d := d + 1) qv_e66 (Nat.le_of_ble_eq_true rfl) ?_
  show qr_W (qe L xs vb) (d + 1) qx_e66 _ (0, [(0, .ref 27), (1, .int (qz x1)), (2, .int (qz x2)), (3, .int (qz x3)), (4, .ref 23)], [], _, 0, 0)
  refine qr_sipush 3 rfl (by decide) rfl ?_
  refine qr_istore _ 5 rfl (by decide) rfl rfl ?_
  refine qr_iconst 6 rfl rfl ?_
  refine qr_istore _ 8 rfl (by decide) rfl rfl ?_
  have hL392 : ∀ (n : Nat) (ls : qm_L) (u387 u389 : Int), 40 - u389 < (n : Int) → qm_get ls 0 = some (.ref 27) → qm_get ls 1 = some (.int (qz x1)) → qm_get ls 2 = some (.int (qz x2)) → qm_get ls 3 = some (.int (qz x3)) → qm_get ls 4 = some (.ref 23) → qm_get ls 5 = some (.int (qz u387)) → qm_get ls 6 = some (.int (qz u389)) → (0 ≤ u387 ∧ u387 ≤ 576) → (0 ≤ u389 ∧ u389 ≤ 40) → qr_W (qe L xs vb) (d + 1) qx_e66 (fun r w' => w' = qw σ α κ ρ ∧ ∃ v : Int, r = some (.int (qz v)) ∧ (0 ≤ v ∧ v ≤ 576)) (8, ls, [], qw σ α κ ρ, 0, 0) := by
    intro n
    induction n with
    | zero => intro ls u387 u389 hm g381 g382 g383 g384 g385 g386 g388 hf390 hf391; exact False.elim (by omega)
    | succ n ih393 =>
      intro ls u387 u389 hm g381 g382 g383 g384 g385 g386 g388 hf390 hf391
      refine qr_iload 10 rfl g388 rfl ?_
      refine qr_aload_n 11 rfl g381 rfl ?_
      refine qr_get 14 rfl rfl rfl (by decide) rfl ?_
      have hs394 : 0 ≤ σ 27 7 ∧ σ 27 7 ≤ 40 := hI.1 27 7
      refine qr_icmp_ge 56 17 rfl rfl rfl (qrg hf391 (by decide) (by decide)) (qrg hs394 (by decide) (by decide)) (fun h395 => ?_) (fun h395 => ?_)
      · skip
        refine qr_iload 58 rfl g386 rfl ?_
        refine qr_retI rfl rfl (by decide) (by decide) ?_
        exact ⟨rfl, u387, rfl, hf390⟩
      · skip
        refine qr_aload_n 18 rfl g381 rfl ?_
        refine qr_iload 20 rfl g388 rfl ?_
        refine qr_iload_n 21 rfl g384 rfl ?_
        refine qr_callN 24 rfl rfl rfl (sf_67_27 (d := d + 0) hI (by omega) r3) ?_
        rintro _ _ ⟨rfl, v396, rfl, hv396⟩
        show qr_W (qe L xs vb) (d + 1) qx_e66 _ (24, _, [.int (qz v396)], qw σ α κ ρ, 0, 0)
        have hJ409 : ∀ (ls : qm_L) (u406 : Int), qm_get ls 0 = some (.ref 27) → qm_get ls 1 = some (.int (qz x1)) → qm_get ls 2 = some (.int (qz x2)) → qm_get ls 3 = some (.int (qz x3)) → qm_get ls 4 = some (.ref 23) → qm_get ls 5 = some (.int (qz u406)) → qm_get ls 6 = some (.int (qz u389)) → (0 ≤ u406 ∧ u406 ≤ 576) → qr_W (qe L xs vb) (d + 1) qx_e66 (fun r w' => w' = qw σ α κ ρ ∧ ∃ v : Int, r = some (.int (qz v)) ∧ (0 ≤ v ∧ v ≤ 576)) (50, ls, [], qw σ α κ ρ, 0, 0) := by
          intro ls u406 g400 g401 g402 g403 g404 g405 g407 hf408
          refine qr_iinc _ 53 rfl g407 (by decide) rfl rfl ?_
          refine qr_goto 8 rfl rfl ?_
          exact ih393 _ u406 (u389 + 1) (by omega) (qm_gk g400 (by decide) (Or.inl (by decide))) (qm_gk g401 (by decide) (Or.inl (by decide))) (qm_gk g402 (by decide) (Or.inl (by decide))) (qm_gk g403 (by decide) (Or.inl (by decide))) (qm_gk g404 (by decide) (Or.inl (by decide))) (qm_gk g405 (by decide) (Or.inr rfl)) (qm_ge _ _ _) hf408 (by omega)
        refine qr_if_eq 50 27 rfl rfl rfl (qrg hv396 (by decide) (by decide)) (fun h410 => ?_) (fun h410 => ?_)
        · skip
          exact hJ409 _ u387 g381 g382 g383 g384 g385 g386 g388 hf390
        · skip
          refine qr_iload 29 rfl g386 rfl ?_
          refine qr_aload_n 30 rfl g381 rfl ?_
          refine qr_iload 32 rfl g388 rfl ?_
          refine qr_iload_n 33 rfl g382 rfl ?_
          refine qr_iload_n 34 rfl g383 rfl ?_
          refine qr_aload 36 rfl g385 rfl ?_
          refine qr_callN 39 rfl rfl rfl (sf_68_27_23 (d := d + 0) hI (by omega) r1 r2) ?_
          rintro _ _ ⟨rfl, v411, rfl, hv411⟩
          show qr_W (qe L xs vb) (d + 1) qx_e66 _ (39, _, [.int (qz v411), .int (qz u387)], qw σ α κ ρ, 0, 0)
          refine qr_bipush 41 rfl (by decide) rfl ?_
          refine qr_imul 42 rfl rfl ?_
          refine qr_iload 44 rfl g388 rfl ?_
          refine qr_iadd 45 rfl rfl ?_
          refine qr_callN 48 rfl rfl rfl (sf_12 (d := d + 0) hI (qrg hf390 (by decide) (by decide)) (by omega)) ?_
          rintro _ _ ⟨rfl, v412, rfl, hv412, hp413⟩
          show qr_W (qe L xs vb) (d + 1) qx_e66 _ (48, _, [.int (qz v412)], qw σ α κ ρ, 0, 0)
          refine qr_istore _ 50 rfl (by decide) rfl rfl ?_
          exact hJ409 _ v412 (qm_gk g381 (by decide) (Or.inl (by decide))) (qm_gk g382 (by decide) (Or.inl (by decide))) (qm_gk g383 (by decide) (Or.inl (by decide))) (qm_gk g384 (by decide) (Or.inl (by decide))) (qm_gk g385 (by decide) (Or.inr rfl)) (qm_ge _ _ _) (qm_gk g388 (by decide) (Or.inl (by decide))) (by omega)
  exact hL392 ((40 - 0 + 1 : Int)).toNat _ 576 0 (by omega) rfl rfl rfl rfl rfl rfl rfl (by decide) (by decide)

set_option maxHeartbeats 4000000 in
set_option maxRecDepth 20000 in
/-- OneRoof$Feuds.nearest -/
theorem sf_66_27_25 {L : Nat} {xs : Nat → Int} {vb : Bool} {d : Nat} {σ α : Nat → Nat → Int} {κ : Nat → Option Nat} {ρ : Nat} {x1 : Int} {x2 : Int} {x3 : Int} (hI : qI σ α κ ρ) (r1 : 0 ≤ x1 ∧ x1 ≤ 31) (r2 : 0 ≤ x2 ∧ x2 ≤ 31) (r3 : (-2147483648) ≤ x3 ∧ x3 ≤ 2147483647) : qm_T (qe L xs vb) (d + 2) 66 [.ref 27, .int (qz x1), .int (qz x2), .int (qz x3), .ref 25] (qw σ α κ ρ) (fun r w' => w' = qw σ α κ ρ ∧ ∃ v : Int, r = some (.int (qz v)) ∧ (0 ≤ v ∧ v ≤ 576)) := by
  refine qr_start (d := d + 1) qv_e66 (Nat.le_of_ble_eq_true rfl) ?_
  show qr_W (qe L xs vb) (d + 1) qx_e66 _ (0, [(0, .ref 27), (1, .int (qz x1)), (2, .int (qz x2)), (3, .int (qz x3)), (4, .ref 25)], [], _, 0, 0)
  refine qr_sipush 3 rfl (by decide) rfl ?_
  refine qr_istore _ 5 rfl (by decide) rfl rfl ?_
  refine qr_iconst 6 rfl rfl ?_
  refine qr_istore _ 8 rfl (by decide) rfl rfl ?_
  have hL392 : ∀ (n : Nat) (ls : qm_L) (u387 u389 : Int), 40 - u389 < (n : Int) → qm_get ls 0 = some (.ref 27) → qm_get ls 1 = some (.int (qz x1)) → qm_get ls 2 = some (.int (qz x2)) → qm_get ls 3 = some (.int (qz x3)) → qm_get ls 4 = some (.ref 25) → qm_get ls 5 = some (.int (qz u387)) → qm_get ls 6 = some (.int (qz u389)) → (0 ≤ u387 ∧ u387 ≤ 576) → (0 ≤ u389 ∧ u389 ≤ 40) → qr_W (qe L xs vb) (d + 1) qx_e66 (fun r w' => w' = qw σ α κ ρ ∧ ∃ v : Int, r = some (.int (qz v)) ∧ (0 ≤ v ∧ v ≤ 576)) (8, ls, [], qw σ α κ ρ, 0, 0) := by
    intro n
    induction n with
    | zero => intro ls u387 u389 hm g381 g382 g383 g384 g385 g386 g388 hf390 hf391; exact False.elim (by omega)
    | succ n ih393 =>
      intro ls u387 u389 hm g381 g382 g383 g384 g385 g386 g388 hf390 hf391
      refine qr_iload 10 rfl g388 rfl ?_
      refine qr_aload_n 11 rfl g381 rfl ?_
      refine qr_get 14 rfl rfl rfl (by decide) rfl ?_
      have hs394 : 0 ≤ σ 27 7 ∧ σ 27 7 ≤ 40 := hI.1 27 7
      refine qr_icmp_ge 56 17 rfl rfl rfl (qrg hf391 (by decide) (by decide)) (qrg hs394 (by decide) (by decide)) (fun h395 => ?_) (fun h395 => ?_)
      · skip
        refine qr_iload 58 rfl g386 rfl ?_
        refine qr_retI rfl rfl (by decide) (by decide) ?_
        exact ⟨rfl, u387, rfl, hf390⟩
      · skip
        refine qr_aload_n 18 rfl g381 rfl ?_
        refine qr_iload 20 rfl g388 rfl ?_
        refine qr_iload_n 21 rfl g384 rfl ?_
        refine qr_callN 24 rfl rfl rfl (sf_67_27 (d := d + 0) hI (by omega) r3) ?_
        rintro _ _ ⟨rfl, v396, rfl, hv396⟩
        show qr_W (qe L xs vb) (d + 1) qx_e66 _ (24, _, [.int (qz v396)], qw σ α κ ρ, 0, 0)
        have hJ409 : ∀ (ls : qm_L) (u406 : Int), qm_get ls 0 = some (.ref 27) → qm_get ls 1 = some (.int (qz x1)) → qm_get ls 2 = some (.int (qz x2)) → qm_get ls 3 = some (.int (qz x3)) → qm_get ls 4 = some (.ref 25) → qm_get ls 5 = some (.int (qz u406)) → qm_get ls 6 = some (.int (qz u389)) → (0 ≤ u406 ∧ u406 ≤ 576) → qr_W (qe L xs vb) (d + 1) qx_e66 (fun r w' => w' = qw σ α κ ρ ∧ ∃ v : Int, r = some (.int (qz v)) ∧ (0 ≤ v ∧ v ≤ 576)) (50, ls, [], qw σ α κ ρ, 0, 0) := by
          intro ls u406 g400 g401 g402 g403 g404 g405 g407 hf408
          refine qr_iinc _ 53 rfl g407 (by decide) rfl rfl ?_
          refine qr_goto 8 rfl rfl ?_
          exact ih393 _ u406 (u389 + 1) (by omega) (qm_gk g400 (by decide) (Or.inl (by decide))) (qm_gk g401 (by decide) (Or.inl (by decide))) (qm_gk g402 (by decide) (Or.inl (by decide))) (qm_gk g403 (by decide) (Or.inl (by decide))) (qm_gk g404 (by decide) (Or.inl (by decide))) (qm_gk g405 (by decide) (Or.inr rfl)) (qm_ge _ _ _) hf408 (by omega)
        refine qr_if_eq 50 27 rfl rfl rfl (qrg hv396 (by decide) (by decide)) (fun h410 => ?_) (fun h410 => ?_)
        · skip
          exact hJ409 _ u387 g381 g382 g383 g384 g385 g386 g388 hf390
        · skip
          refine qr_iload 29 rfl g386 rfl ?_
          refine qr_aload_n 30 rfl g381 rfl ?_
          refine qr_iload 32 rfl g388 rfl ?_
          refine qr_iload_n 33 rfl g382 rfl ?_
          refine qr_iload_n 34 rfl g383 rfl ?_
          refine qr_aload 36 rfl g385 rfl ?_
          refine qr_callN 39 rfl rfl rfl (sf_68_27_25 (d := d + 0) hI (by omega) r1 r2) ?_
          rintro _ _ ⟨rfl, v411, rfl, hv411⟩
          show qr_W (qe L xs vb) (d + 1) qx_e66 _ (39, _, [.int (qz v411), .int (qz u387)], qw σ α κ ρ, 0, 0)
          refine qr_bipush 41 rfl (by decide) rfl ?_
          refine qr_imul 42 rfl rfl ?_
          refine qr_iload 44 rfl g388 rfl ?_
          refine qr_iadd 45 rfl rfl ?_
          refine qr_callN 48 rfl rfl rfl (sf_12 (d := d + 0) hI (qrg hf390 (by decide) (by decide)) (by omega)) ?_
          rintro _ _ ⟨rfl, v412, rfl, hv412, hp413⟩
          show qr_W (qe L xs vb) (d + 1) qx_e66 _ (48, _, [.int (qz v412)], qw σ α κ ρ, 0, 0)
          refine qr_istore _ 50 rfl (by decide) rfl rfl ?_
          exact hJ409 _ v412 (qm_gk g381 (by decide) (Or.inl (by decide))) (qm_gk g382 (by decide) (Or.inl (by decide))) (qm_gk g383 (by decide) (Or.inl (by decide))) (qm_gk g384 (by decide) (Or.inl (by decide))) (qm_gk g385 (by decide) (Or.inr rfl)) (qm_ge _ _ _) (qm_gk g388 (by decide) (Or.inl (by decide))) (by omega)
  exact hL392 ((40 - 0 + 1 : Int)).toNat _ 576 0 (by omega) rfl rfl rfl rfl rfl rfl rfl (by decide) (by decide)

set_option maxHeartbeats 4000000 in
set_option maxRecDepth 20000 in
/-- OneRoof$Feuds.nearestOnes -/
theorem sf_124_27_23 {L : Nat} {xs : Nat → Int} {vb : Bool} {d : Nat} {σ α : Nat → Nat → Int} {κ : Nat → Option Nat} {ρ : Nat} {x1 : Int} {x2 : Int} {x3 : Int} (hI : qI σ α κ ρ) (r1 : 0 ≤ x1 ∧ x1 ≤ 31) (r2 : 0 ≤ x2 ∧ x2 ≤ 31) (r3 : (-2147483648) ≤ x3 ∧ x3 ≤ 2147483647) : qm_T (qe L xs vb) (d + 3) 124 [.ref 27, .int (qz x1), .int (qz x2), .int (qz x3), .ref 23] (qw σ α κ ρ) (fun r w' => w' = qw σ α κ ρ ∧ ∃ v : Int, r = some (.long (ql v)) ∧ ((-9223372036854775808) ≤ v ∧ v ≤ 9223372036854775807)) := by
  refine qr_start (d := d + 2) qv_e124 (Nat.le_of_ble_eq_true rfl) ?_
  show qr_W (qe L xs vb) (d + 2) qx_e124 _ (0, [(0, .ref 27), (1, .int (qz x1)), (2, .int (qz x2)), (3, .int (qz x3)), (4, .ref 23)], [], _, 0, 0)
  refine qr_aload_n 1 rfl rfl rfl ?_
  refine qr_iload_n 2 rfl rfl rfl ?_
  refine qr_iload_n 3 rfl rfl rfl ?_
  refine qr_iload_n 4 rfl rfl rfl ?_
  refine qr_aload 6 rfl rfl rfl ?_
  refine qr_callN 9 rfl rfl rfl (sf_66_27_23 (d := d + 0) hI r1 r2 r3) ?_
  rintro _ _ ⟨rfl, v1, rfl, hv1⟩
  show qr_W (qe L xs vb) (d + 2) qx_e124 _ (9, _, [.int (qz v1)], qw σ α κ ρ, 0, 0)
  refine qr_bipush 11 rfl (by decide) rfl ?_
  refine qr_idiv 12 rfl (qrg hv1 (by decide) (by decide)) (by decide) rfl ?_
  refine qr_istore _ 14 rfl (by decide) rfl rfl ?_
  refine qr_lconst 15 rfl rfl ?_
  refine qy_vl 0 rfl ?_
  refine qr_lstore _ 17 rfl (by decide) rfl rfl ?_
  refine qr_iconst 18 rfl rfl ?_
  refine qr_istore _ 20 rfl (by decide) rfl rfl ?_
  have hL717 : ∀ (n : Nat) (ls : qm_L) (u712 u714 : Int), 40 - u714 < (n : Int) → qm_get ls 0 = some (.ref 27) → qm_get ls 1 = some (.int (qz x1)) → qm_get ls 2 = some (.int (qz x2)) → qm_get ls 3 = some (.int (qz x3)) → qm_get ls 4 = some (.ref 23) → qm_get ls 5 = some (.int (qz (v1 / 64))) → qm_get ls 6 = some (.long (ql u712)) → qm_get ls 8 = some (.int (qz u714)) → ((-9223372036854775808) ≤ u712 ∧ u712 ≤ 9223372036854775807) → (0 ≤ u714 ∧ u714 ≤ 40) → qr_W (qe L xs vb) (d + 2) qx_e124 (fun r w' => w' = qw σ α κ ρ ∧ ∃ v : Int, r = some (.long (ql v)) ∧ ((-9223372036854775808) ≤ v ∧ v ≤ 9223372036854775807)) (20, ls, [], qw σ α κ ρ, 0, 0) := by
    intro n
    induction n with
    | zero => intro ls u712 u714 hm g705 g706 g707 g708 g709 g710 g711 g713 hf715 hf716; exact False.elim (by omega)
    | succ n ih718 =>
      intro ls u712 u714 hm g705 g706 g707 g708 g709 g710 g711 g713 hf715 hf716
      refine qr_iload 22 rfl g713 rfl ?_
      refine qr_aload_n 23 rfl g705 rfl ?_
      refine qr_get 26 rfl rfl rfl (by decide) rfl ?_
      have hs719 : 0 ≤ σ 27 7 ∧ σ 27 7 ≤ 40 := hI.1 27 7
      refine qr_icmp_ge 69 29 rfl rfl rfl (qrg hf716 (by decide) (by decide)) (qrg hs719 (by decide) (by decide)) (fun h736 => ?_) (fun h736 => ?_)
      · skip
        refine qr_iload 71 rfl g710 rfl ?_
        refine qr_bipush 73 rfl (by decide) rfl ?_
        refine qr_icmp_ge 81 76 rfl rfl rfl (by omega) (by decide) (fun h737 => ?_) (fun h737 => ?_)
        · skip
          refine qr_ldc2 (-1) 84 rfl (by decide) rfl ?_
          refine qr_retL rfl rfl (by decide) (by decide) ?_
          exact ⟨rfl, (-1), rfl, (by decide)⟩
        · skip
          refine qr_lload 78 rfl g711 rfl ?_
          refine qr_goto 84 rfl rfl ?_
          refine qr_retL rfl rfl (by decide) (by decide) ?_
          exact ⟨rfl, u712, rfl, hf715⟩
      · skip
        refine qr_aload_n 30 rfl g705 rfl ?_
        refine qr_iload 32 rfl g713 rfl ?_
        refine qr_iload_n 33 rfl g708 rfl ?_
        refine qr_callN 36 rfl rfl rfl (sf_67_27 (d := d + 1) hI (by omega) r3) ?_
        rintro _ _ ⟨rfl, v738, rfl, hv738⟩
        show qr_W (qe L xs vb) (d + 2) qx_e124 _ (36, _, [.int (qz v738)], qw σ α κ ρ, 0, 0)
        have hJ752 : ∀ (ls : qm_L) (u749 : Int), qm_get ls 0 = some (.ref 27) → qm_get ls 1 = some (.int (qz x1)) → qm_get ls 2 = some (.int (qz x2)) → qm_get ls 3 = some (.int (qz x3)) → qm_get ls 4 = some (.ref 23) → qm_get ls 5 = some (.int (qz (v1 / 64))) → qm_get ls 6 = some (.long (ql u749)) → qm_get ls 8 = some (.int (qz u714)) → ((-9223372036854775808) ≤ u749 ∧ u749 ≤ 9223372036854775807) → qr_W (qe L xs vb) (d + 2) qx_e124 (fun r w' => w' = qw σ α κ ρ ∧ ∃ v : Int, r = some (.long (ql v)) ∧ ((-9223372036854775808) ≤ v ∧ v ≤ 9223372036854775807)) (63, ls, [], qw σ α κ ρ, 0, 0) := by
          intro ls u749 g742 g743 g744 g745 g746 g747 g748 g750 hf751
          refine qr_iinc _ 66 rfl g750 (by decide) rfl rfl ?_
          refine qr_goto 20 rfl rfl ?_
          exact ih718 _ u749 (u714 + 1) (by omega) (qm_gk g742 (by decide) (Or.inl (by decide))) (qm_gk g743 (by decide) (Or.inl (by decide))) (qm_gk g744 (by decide) (Or.inl (by decide))) (qm_gk g745 (by decide) (Or.inl (by decide))) (qm_gk g746 (by decide) (Or.inl (by decide))) (qm_gk g747 (by decide) (Or.inl (by decide))) (qm_gk g748 (by decide) (Or.inl (by decide))) (qm_ge _ _ _) hf751 (by omega)
        refine qr_if_eq 63 39 rfl rfl rfl (qrg hv738 (by decide) (by decide)) (fun h753 => ?_) (fun h753 => ?_)
        · skip
          exact hJ752 _ u712 g705 g706 g707 g708 g709 g710 g711 g713 hf715
        · skip
          refine qr_aload_n 40 rfl g705 rfl ?_
          refine qr_iload 42 rfl g713 rfl ?_
          refine qr_iload_n 43 rfl g706 rfl ?_
          refine qr_iload_n 44 rfl g707 rfl ?_
          refine qr_aload 46 rfl g709 rfl ?_
          refine qr_callN 49 rfl rfl rfl (sf_68_27_23 (d := d + 1) hI (by omega) r1 r2) ?_
          rintro _ _ ⟨rfl, v754, rfl, hv754⟩
          show qr_W (qe L xs vb) (d + 2) qx_e124 _ (49, _, [.int (qz v754)], qw σ α κ ρ, 0, 0)
          refine qr_iload 51 rfl g710 rfl ?_
          refine qr_icmp_ne 63 54 rfl rfl rfl (qrg hv754 (by decide) (by decide)) (by omega) (fun h755 => ?_) (fun h755 => ?_)
          · skip
            exact hJ752 _ u712 g705 g706 g707 g708 g709 g710 g711 g713 hf715
          · skip
            refine qr_lload 56 rfl g711 rfl ?_
            refine qr_lconst 57 rfl rfl ?_
            refine qy_vl 1 rfl ?_
            refine qr_iload 59 rfl g713 rfl ?_
            refine qr_lshl 60 rfl rfl ?_
            refine qy_canl (fun v756 hv756 => ?_)
            refine qr_lor 61 rfl rfl ?_
            refine qy_canl (fun v757 hv757 => ?_)
            refine qr_lstore _ 63 rfl (by decide) rfl rfl ?_
            exact hJ752 _ v757 (qm_gk2 g705 (by decide) (by decide) (Or.inl (by decide))) (qm_gk2 g706 (by decide) (by decide) (Or.inl (by decide))) (qm_gk2 g707 (by decide) (by decide) (Or.inl (by decide))) (qm_gk2 g708 (by decide) (by decide) (Or.inl (by decide))) (qm_gk2 g709 (by decide) (by decide) (Or.inl (by decide))) (qm_gk2 g710 (by decide) (by decide) (Or.inr rfl)) (qm_ge2 _ _ _) (qm_gk2 g713 (by decide) (by decide) (Or.inl (by decide))) hv757
  exact hL717 ((40 - 0 + 1 : Int)).toNat _ 0 0 (by omega) rfl rfl rfl rfl rfl rfl rfl rfl (by decide) (by decide)

set_option maxHeartbeats 4000000 in
set_option maxRecDepth 20000 in
/-- OneRoof$Feuds.firstOpen -/
theorem sf_122_27 {L : Nat} {xs : Nat → Int} {vb : Bool} {d : Nat} {σ α : Nat → Nat → Int} {κ : Nat → Option Nat} {ρ : Nat} {x1 : Int} {x2 : Int} (hI : qI σ α κ ρ) (r1 : (-2147483648) ≤ x1 ∧ x1 ≤ 2147483647) (r2 : (-2147483648) ≤ x2 ∧ x2 ≤ 2147483647) : qm_T (qe L xs vb) (d + 2) 122 [.ref 27, .int (qz x1), .int (qz x2)] (qw σ α κ ρ) (fun r w' => w' = qw σ α κ ρ ∧ ∃ v : Int, r = some (.long (ql v)) ∧ ((-9223372036854775808) ≤ v ∧ v ≤ 9223372036854775807)) := by
  refine qr_start (d := d + 1) qv_e122 (Nat.le_of_ble_eq_true rfl) ?_
  show qr_W (qe L xs vb) (d + 1) qx_e122 _ (0, [(0, .ref 27), (1, .int (qz x1)), (2, .int (qz x2))], [], _, 0, 0)
  refine qr_lconst 1 rfl rfl ?_
  refine qy_vl 0 rfl ?_
  refine qr_lstore_n _ 2 rfl (by decide) rfl rfl ?_
  refine qr_iconst 3 rfl rfl ?_
  refine qr_istore _ 5 rfl (by decide) rfl rfl ?_
  have hL352 : ∀ (n : Nat) (ls : qm_L) (u347 u349 : Int), 40 - u349 < (n : Int) → qm_get ls 0 = some (.ref 27) → qm_get ls 1 = some (.int (qz x1)) → qm_get ls 2 = some (.int (qz x2)) → qm_get ls 3 = some (.long (ql u347)) → qm_get ls 5 = some (.int (qz u349)) → ((-9223372036854775808) ≤ u347 ∧ u347 ≤ 9223372036854775807) → (0 ≤ u349 ∧ u349 ≤ 40) → qr_W (qe L xs vb) (d + 1) qx_e122 (fun r w' => w' = qw σ α κ ρ ∧ ∃ v : Int, r = some (.long (ql v)) ∧ ((-9223372036854775808) ≤ v ∧ v ≤ 9223372036854775807)) (5, ls, [], qw σ α κ ρ, 0, 0) := by
    intro n
    induction n with
    | zero => intro ls u347 u349 hm g343 g344 g345 g346 g348 hf350 hf351; exact False.elim (by omega)
    | succ n ih353 =>
      intro ls u347 u349 hm g343 g344 g345 g346 g348 hf350 hf351
      refine qr_iload 7 rfl g348 rfl ?_
      refine qr_aload_n 8 rfl g343 rfl ?_
      refine qr_get 11 rfl rfl rfl (by decide) rfl ?_
      have hs354 : 0 ≤ σ 27 7 ∧ σ 27 7 ≤ 40 := hI.1 27 7
      refine qr_icmp_ge 46 14 rfl rfl rfl (qrg hf351 (by decide) (by decide)) (qrg hs354 (by decide) (by decide)) (fun h355 => ?_) (fun h355 => ?_)
      · skip
        refine qr_lload_n 47 rfl g346 rfl ?_
        refine qr_retL rfl rfl (by decide) (by decide) ?_
        exact ⟨rfl, u347, rfl, hf350⟩
      · skip
        refine qr_lload_n 15 rfl g346 rfl ?_
        refine qr_callN 18 rfl rfl rfl (sf_74 (d := d + 0) hI hf350) ?_
        rintro _ _ ⟨rfl, v356, rfl, hv356⟩
        show qr_W (qe L xs vb) (d + 1) qx_e122 _ (18, _, [.int (qz v356)], qw σ α κ ρ, 0, 0)
        refine qr_iload_n 19 rfl g345 rfl ?_
        refine qr_icmp_ge 46 22 rfl rfl rfl hv356 r2 (fun h357 => ?_) (fun h357 => ?_)
        · skip
          refine qr_lload_n 47 rfl g346 rfl ?_
          refine qr_retL rfl rfl (by decide) (by decide) ?_
          exact ⟨rfl, u347, rfl, hf350⟩
        · skip
          refine qr_aload_n 23 rfl g343 rfl ?_
          refine qr_get 26 rfl rfl rfl (by decide) rfl ?_
          refine qr_iload 28 rfl g348 rfl ?_
          refine qr_iaload 29 rfl rfl (by omega) (by decide) rfl ?_
          refine qr_topI (fun v358 hv358 => ?_)
          have hs359 : (-2147483648) ≤ v358 ∧ v358 ≤ 2147483647 := by rw [hv358]; exact hI.2.1 33 _ (show _ < 40 by omega)
          refine qr_iload_n 30 rfl g344 rfl ?_
          have hJ369 : ∀ (ls : qm_L) (u366 : Int), qm_get ls 0 = some (.ref 27) → qm_get ls 1 = some (.int (qz x1)) → qm_get ls 2 = some (.int (qz x2)) → qm_get ls 3 = some (.long (ql u366)) → qm_get ls 5 = some (.int (qz u349)) → ((-9223372036854775808) ≤ u366 ∧ u366 ≤ 9223372036854775807) → qr_W (qe L xs vb) (d + 1) qx_e122 (fun r w' => w' = qw σ α κ ρ ∧ ∃ v : Int, r = some (.long (ql v)) ∧ ((-9223372036854775808) ≤ v ∧ v ≤ 9223372036854775807)) (40, ls, [], qw σ α κ ρ, 0, 0) := by
            intro ls u366 g362 g363 g364 g365 g367 hf368
            refine qr_iinc _ 43 rfl g367 (by decide) rfl rfl ?_
            refine qr_goto 5 rfl rfl ?_
            exact ih353 _ u366 (u349 + 1) (by omega) (qm_gk g362 (by decide) (Or.inl (by decide))) (qm_gk g363 (by decide) (Or.inl (by decide))) (qm_gk g364 (by decide) (Or.inl (by decide))) (qm_gk g365 (by decide) (Or.inl (by decide))) (qm_ge _ _ _) hf368 (by omega)
          refine qr_icmp_le 40 33 rfl rfl rfl hs359 r1 (fun h370 => ?_) (fun h370 => ?_)
          · skip
            exact hJ369 _ u347 g343 g344 g345 g346 g348 hf350
          · skip
            refine qr_lload_n 34 rfl g346 rfl ?_
            refine qr_lconst 35 rfl rfl ?_
            refine qy_vl 1 rfl ?_
            refine qr_iload 37 rfl g348 rfl ?_
            refine qr_lshl 38 rfl rfl ?_
            refine qy_canl (fun v371 hv371 => ?_)
            refine qr_lor 39 rfl rfl ?_
            refine qy_canl (fun v372 hv372 => ?_)
            refine qr_lstore_n _ 40 rfl (by decide) rfl rfl ?_
            exact hJ369 _ v372 (qm_gk2 g343 (by decide) (by decide) (Or.inl (by decide))) (qm_gk2 g344 (by decide) (by decide) (Or.inl (by decide))) (qm_gk2 g345 (by decide) (by decide) (Or.inr rfl)) (qm_ge2 _ _ _) (qm_gk2 g348 (by decide) (by decide) (Or.inl (by decide))) hv372
  exact hL352 ((40 - 0 + 1 : Int)).toNat _ 0 0 (by omega) rfl rfl rfl rfl rfl (by decide) (by decide)

set_option maxHeartbeats 4000000 in
set_option maxRecDepth 20000 in
/-- OneRoof$Feuds.priceOf -/
theorem sf_125_27 {L : Nat} {xs : Nat → Int} {vb : Bool} {d : Nat} {σ α : Nat → Nat → Int} {κ : Nat → Option Nat} {ρ : Nat} {x1 : Int} (hI : qI σ α κ ρ) (r1 : (-9223372036854775808) ≤ x1 ∧ x1 ≤ 9223372036854775807) : qm_T (qe L xs vb) (d + 2) 125 [.ref 27, .long (ql x1)] (qw σ α κ ρ) (fun r w' => w' = qw σ α κ ρ ∧ ∃ v : Int, r = some (.int (qz v)) ∧ ((-2147483648) ≤ v ∧ v ≤ 2147483647)) := by
  refine qr_start (d := d + 1) qv_e125 (Nat.le_of_ble_eq_true rfl) ?_
  show qr_W (qe L xs vb) (d + 1) qx_e125 _ (0, [(0, .ref 27), (1, .long (ql x1))], [], _, 0, 0)
  refine qr_iconst 1 rfl rfl ?_
  refine qr_istore_n _ 2 rfl (by decide) rfl rfl ?_
  refine qr_iconst 3 rfl rfl ?_
  refine qr_istore _ 5 rfl (by decide) rfl rfl ?_
  have hL330 : ∀ (n : Nat) (ls : qm_L) (u325 u327 : Int), 40 - u327 < (n : Int) → qm_get ls 0 = some (.ref 27) → qm_get ls 1 = some (.long (ql x1)) → qm_get ls 3 = some (.int (qz u325)) → qm_get ls 4 = some (.int (qz u327)) → ((-2147483648) ≤ u325 ∧ u325 ≤ 2147483647) → (0 ≤ u327 ∧ u327 ≤ 40) → qr_W (qe L xs vb) (d + 1) qx_e125 (fun r w' => w' = qw σ α κ ρ ∧ ∃ v : Int, r = some (.int (qz v)) ∧ ((-2147483648) ≤ v ∧ v ≤ 2147483647)) (5, ls, [], qw σ α κ ρ, 0, 0) := by
    intro n
    induction n with
    | zero => intro ls u325 u327 hm g322 g323 g324 g326 hf328 hf329; exact False.elim (by omega)
    | succ n ih331 =>
      intro ls u325 u327 hm g322 g323 g324 g326 hf328 hf329
      refine qr_iload 7 rfl g326 rfl ?_
      refine qr_aload_n 8 rfl g322 rfl ?_
      refine qr_get 11 rfl rfl rfl (by decide) rfl ?_
      have hs332 : 0 ≤ σ 27 7 ∧ σ 27 7 ≤ 40 := hI.1 27 7
      refine qr_icmp_ge 39 14 rfl rfl rfl (qrg hf329 (by decide) (by decide)) (qrg hs332 (by decide) (by decide)) (fun h333 => ?_) (fun h333 => ?_)
      · skip
        refine qr_iload_n 40 rfl g324 rfl ?_
        refine qr_retI rfl rfl (by decide) (by decide) ?_
        exact ⟨rfl, u325, rfl, hf328⟩
      · skip
        refine qr_lload_n 15 rfl g323 rfl ?_
        refine qr_iload 17 rfl g326 rfl ?_
        refine qr_callN 20 rfl rfl rfl (sf_50 (d := d + 0) hI r1 (qrg hf329 (by decide) (by decide))) ?_
        rintro _ _ ⟨rfl, v334, rfl, hv334⟩
        show qr_W (qe L xs vb) (d + 1) qx_e125 _ (20, _, [.int (qz v334)], qw σ α κ ρ, 0, 0)
        have hJ344 : ∀ (ls : qm_L) (u341 : Int), qm_get ls 0 = some (.ref 27) → qm_get ls 1 = some (.long (ql x1)) → qm_get ls 3 = some (.int (qz u341)) → qm_get ls 4 = some (.int (qz u327)) → ((-2147483648) ≤ u341 ∧ u341 ≤ 2147483647) → qr_W (qe L xs vb) (d + 1) qx_e125 (fun r w' => w' = qw σ α κ ρ ∧ ∃ v : Int, r = some (.int (qz v)) ∧ ((-2147483648) ≤ v ∧ v ≤ 2147483647)) (33, ls, [], qw σ α κ ρ, 0, 0) := by
          intro ls u341 g338 g339 g340 g342 hf343
          refine qr_iinc _ 36 rfl g342 (by decide) rfl rfl ?_
          refine qr_goto 5 rfl rfl ?_
          exact ih331 _ u341 (u327 + 1) (by omega) (qm_gk g338 (by decide) (Or.inl (by decide))) (qm_gk g339 (by decide) (Or.inl (by decide))) (qm_gk g340 (by decide) (Or.inr rfl)) (qm_ge _ _ _) hf343 (by omega)
        refine qr_if_eq 33 23 rfl rfl rfl (qrg hv334 (by decide) (by decide)) (fun h345 => ?_) (fun h345 => ?_)
        · skip
          exact hJ344 _ u325 g322 g323 g324 g326 hf328
        · skip
          refine qr_iload_n 24 rfl g324 rfl ?_
          refine qr_aload_n 25 rfl g322 rfl ?_
          refine qr_get 28 rfl rfl rfl (by decide) rfl ?_
          refine qr_iload 30 rfl g326 rfl ?_
          refine qr_iaload 31 rfl rfl (by omega) (by decide) rfl ?_
          refine qr_topI (fun v346 hv346 => ?_)
          have hs347 : (-2147483648) ≤ v346 ∧ v346 ≤ 2147483647 := by rw [hv346]; exact hI.2.1 32 _ (show _ < 40 by omega)
          refine qr_iadd 32 rfl rfl ?_
          refine qy_can (fun v348 hv348 => ?_)
          refine qr_istore_n _ 33 rfl (by decide) rfl rfl ?_
          exact hJ344 _ v348 (qm_gk g322 (by decide) (Or.inl (by decide))) (qm_gk g323 (by decide) (Or.inl (by decide))) (qm_ge _ _ _) (qm_gk g326 (by decide) (Or.inl (by decide))) hv348
  exact hL330 ((40 - 0 + 1 : Int)).toNat _ 0 0 (by omega) rfl rfl rfl rfl (by decide) (by decide)

set_option maxHeartbeats 4000000 in
set_option maxRecDepth 20000 in
/-- OneRoof$Feuds.pairsAt -/
theorem sf_142_27_23 {L : Nat} {xs : Nat → Int} {vb : Bool} {d : Nat} {σ α : Nat → Nat → Int} {κ : Nat → Option Nat} {ρ : Nat} {x1 : Int} {x3 : Int} (hI : qI σ α κ ρ) (r1 : (-2147483648) ≤ x1 ∧ x1 ≤ 2147483647) (r3 : 0 ≤ x3 ∧ x3 ≤ 32) : qm_T (qe L xs vb) (d + 3) 142 [.ref 27, .int (qz x1), .ref 23, .int (qz x3)] (qw σ α κ ρ) (fun r w' => w' = qw σ α κ ρ ∧ ∃ v : Int, r = some (.int (qz v)) ∧ ((-2147483648) ≤ v ∧ v ≤ 2147483647)) := by
  refine qr_start (d := d + 2) qv_e142 (Nat.le_of_ble_eq_true rfl) ?_
  show qr_W (qe L xs vb) (d + 2) qx_e142 _ (0, [(0, .ref 27), (1, .int (qz x1)), (2, .ref 23), (3, .int (qz x3))], [], _, 0, 0)
  refine qr_iconst 1 rfl rfl ?_
  refine qr_istore _ 3 rfl (by decide) rfl rfl ?_
  refine qr_iconst 4 rfl rfl ?_
  refine qr_istore _ 6 rfl (by decide) rfl rfl ?_
  have hL4675 : ∀ (n : Nat) (ls : qm_L) (u4670 u4672 : Int), 32 - u4672 < (n : Int) → qm_get ls 0 = some (.ref 27) → qm_get ls 1 = some (.int (qz x1)) → qm_get ls 2 = some (.ref 23) → qm_get ls 3 = some (.int (qz x3)) → qm_get ls 4 = some (.int (qz u4670)) → qm_get ls 5 = some (.int (qz u4672)) → ((-2147483648) ≤ u4670 ∧ u4670 ≤ 2147483647) → (0 ≤ u4672 ∧ u4672 ≤ 32) → qr_W (qe L xs vb) (d + 2) qx_e142 (fun r w' => w' = qw σ α κ ρ ∧ ∃ v : Int, r = some (.int (qz v)) ∧ ((-2147483648) ≤ v ∧ v ≤ 2147483647)) (6, ls, [], qw σ α κ ρ, 0, 0) := by
    intro n
    induction n with
    | zero => intro ls u4670 u4672 hm g4665 g4666 g4667 g4668 g4669 g4671 hf4673 hf4674; exact False.elim (by omega)
    | succ n ih4676 =>
      intro ls u4670 u4672 hm g4665 g4666 g4667 g4668 g4669 g4671 hf4673 hf4674
      refine qr_iload 8 rfl g4671 rfl ?_
      refine qr_iload_n 9 rfl g4668 rfl ?_
      refine qr_icmp_ge 55 12 rfl rfl rfl (qrg hf4674 (by decide) (by decide)) (qrg r3 (by decide) (by decide)) (fun h4677 => ?_) (fun h4677 => ?_)
      · skip
        refine qr_iload 57 rfl g4669 rfl ?_
        refine qr_retI rfl rfl (by decide) (by decide) ?_
        exact ⟨rfl, u4670, rfl, hf4673⟩
      · skip
        refine qr_iload 14 rfl g4671 rfl ?_
        refine qr_iconst 15 rfl rfl ?_
        refine qr_iadd 16 rfl rfl ?_
        refine qr_istore _ 18 rfl (by decide) rfl rfl ?_
        have hL4794 : ∀ (n : Nat) (ls : qm_L) (u4787 u4790 : Int), 32 - u4790 < (n : Int) → qm_get ls 0 = some (.ref 27) → qm_get ls 1 = some (.int (qz x1)) → qm_get ls 2 = some (.ref 23) → qm_get ls 3 = some (.int (qz x3)) → qm_get ls 4 = some (.int (qz u4787)) → qm_get ls 5 = some (.int (qz u4672)) → qm_get ls 6 = some (.int (qz u4790)) → ((-2147483648) ≤ u4787 ∧ u4787 ≤ 2147483647) → (1 ≤ u4790 ∧ u4790 ≤ 32) → (u4672 + 1) ≤ u4790 → qr_W (qe L xs vb) (d + 2) qx_e142 (fun r w' => w' = qw σ α κ ρ ∧ ∃ v : Int, r = some (.int (qz v)) ∧ ((-2147483648) ≤ v ∧ v ≤ 2147483647)) (18, ls, [], qw σ α κ ρ, 0, 0) := by
          intro n
          induction n with
          | zero => intro ls u4787 u4790 hm g4782 g4783 g4784 g4785 g4786 g4788 g4789 hf4791 hf4792 hx4793; exact False.elim (by omega)
          | succ n ih4795 =>
            intro ls u4787 u4790 hm g4782 g4783 g4784 g4785 g4786 g4788 g4789 hf4791 hf4792 hx4793
            refine qr_iload 20 rfl g4789 rfl ?_
            refine qr_iload_n 21 rfl g4785 rfl ?_
            refine qr_icmp_ge 49 24 rfl rfl rfl (qrg hf4792 (by decide) (by decide)) (qrg r3 (by decide) (by decide)) (fun h4807 => ?_) (fun h4807 => ?_)
            · skip
              refine qr_iinc _ 52 rfl g4788 (by decide) rfl rfl ?_
              refine qr_goto 6 rfl rfl ?_
              exact ih4676 _ u4787 (u4672 + 1) (by omega) (qm_gk g4782 (by decide) (Or.inl (by decide))) (qm_gk g4783 (by decide) (Or.inl (by decide))) (qm_gk g4784 (by decide) (Or.inl (by decide))) (qm_gk g4785 (by decide) (Or.inl (by decide))) (qm_gk g4786 (by decide) (Or.inr rfl)) (qm_ge _ _ _) hf4791 (by omega)
            · skip
              refine qr_aload_n 25 rfl g4782 rfl ?_
              refine qr_iload 27 rfl g4788 rfl ?_
              refine qr_iload 29 rfl g4789 rfl ?_
              refine qr_iload_n 30 rfl g4783 rfl ?_
              refine qr_aload_n 31 rfl g4784 rfl ?_
              refine qr_callN 34 rfl rfl rfl (sf_66_27_23 (d := d + 0) hI (by omega) (by omega) r1) ?_
              rintro _ _ ⟨rfl, v4808, rfl, hv4808⟩
              show qr_W (qe L xs vb) (d + 2) qx_e142 _ (34, _, [.int (qz v4808)], qw σ α κ ρ, 0, 0)
              refine qr_sipush 37 rfl (by decide) rfl ?_
              have hJ4819 : ∀ (ls : qm_L) (u4815 : Int), qm_get ls 0 = some (.ref 27) → qm_get ls 1 = some (.int (qz x1)) → qm_get ls 2 = some (.ref 23) → qm_get ls 3 = some (.int (qz x3)) → qm_get ls 4 = some (.int (qz u4815)) → qm_get ls 5 = some (.int (qz u4672)) → qm_get ls 6 = some (.int (qz u4790)) → ((-2147483648) ≤ u4815 ∧ u4815 ≤ 2147483647) → qr_W (qe L xs vb) (d + 2) qx_e142 (fun r w' => w' = qw σ α κ ρ ∧ ∃ v : Int, r = some (.int (qz v)) ∧ ((-2147483648) ≤ v ∧ v ≤ 2147483647)) (43, ls, [], qw σ α κ ρ, 0, 0) := by
                intro ls u4815 g4810 g4811 g4812 g4813 g4814 g4816 g4817 hf4818
                refine qr_iinc _ 46 rfl g4817 (by decide) rfl rfl ?_
                refine qr_goto 18 rfl rfl ?_
                exact ih4795 _ u4815 (u4790 + 1) (by omega) (qm_gk g4810 (by decide) (Or.inl (by decide))) (qm_gk g4811 (by decide) (Or.inl (by decide))) (qm_gk g4812 (by decide) (Or.inl (by decide))) (qm_gk g4813 (by decide) (Or.inl (by decide))) (qm_gk g4814 (by decide) (Or.inl (by decide))) (qm_gk g4816 (by decide) (Or.inr rfl)) (qm_ge _ _ _) hf4818 (by omega) (by omega)
              refine qr_icmp_ge 43 40 rfl rfl rfl (qrg hv4808 (by decide) (by decide)) (by decide) (fun h4820 => ?_) (fun h4820 => ?_)
              · skip
                exact hJ4819 _ u4787 g4782 g4783 g4784 g4785 g4786 g4788 g4789 hf4791
              · skip
                refine qy_iincC 43 rfl g4786 (by decide) rfl (fun v4821 hv4821 => ?_)
                exact hJ4819 _ v4821 (qm_gk g4782 (by decide) (Or.inl (by decide))) (qm_gk g4783 (by decide) (Or.inl (by decide))) (qm_gk g4784 (by decide) (Or.inl (by decide))) (qm_gk g4785 (by decide) (Or.inr rfl)) (qm_ge _ _ _) (qm_gk g4788 (by decide) (Or.inl (by decide))) (qm_gk g4789 (by decide) (Or.inl (by decide))) (by omega)
        exact hL4794 ((32 - (u4672 + 1) + 1 : Int)).toNat _ u4670 (u4672 + 1) (by omega) (qm_gk g4665 (by decide) (Or.inl (by decide))) (qm_gk g4666 (by decide) (Or.inl (by decide))) (qm_gk g4667 (by decide) (Or.inl (by decide))) (qm_gk g4668 (by decide) (Or.inl (by decide))) (qm_gk g4669 (by decide) (Or.inl (by decide))) (qm_gk g4671 (by decide) (Or.inr rfl)) (qm_ge _ _ _) hf4673 (by omega) (by omega)
  exact hL4675 ((32 - 0 + 1 : Int)).toNat _ 0 0 (by omega) rfl rfl rfl rfl rfl rfl (by decide) (by decide)

set_option maxHeartbeats 4000000 in
set_option maxRecDepth 20000 in
/-- OneRoof$Feuds.pairsAt -/
theorem sf_142_27_25 {L : Nat} {xs : Nat → Int} {vb : Bool} {d : Nat} {σ α : Nat → Nat → Int} {κ : Nat → Option Nat} {ρ : Nat} {x1 : Int} {x3 : Int} (hI : qI σ α κ ρ) (r1 : (-2147483648) ≤ x1 ∧ x1 ≤ 2147483647) (r3 : 0 ≤ x3 ∧ x3 ≤ 32) : qm_T (qe L xs vb) (d + 3) 142 [.ref 27, .int (qz x1), .ref 25, .int (qz x3)] (qw σ α κ ρ) (fun r w' => w' = qw σ α κ ρ ∧ ∃ v : Int, r = some (.int (qz v)) ∧ ((-2147483648) ≤ v ∧ v ≤ 2147483647)) := by
  refine qr_start (d := d + 2) qv_e142 (Nat.le_of_ble_eq_true rfl) ?_
  show qr_W (qe L xs vb) (d + 2) qx_e142 _ (0, [(0, .ref 27), (1, .int (qz x1)), (2, .ref 25), (3, .int (qz x3))], [], _, 0, 0)
  refine qr_iconst 1 rfl rfl ?_
  refine qr_istore _ 3 rfl (by decide) rfl rfl ?_
  refine qr_iconst 4 rfl rfl ?_
  refine qr_istore _ 6 rfl (by decide) rfl rfl ?_
  have hL4675 : ∀ (n : Nat) (ls : qm_L) (u4670 u4672 : Int), 32 - u4672 < (n : Int) → qm_get ls 0 = some (.ref 27) → qm_get ls 1 = some (.int (qz x1)) → qm_get ls 2 = some (.ref 25) → qm_get ls 3 = some (.int (qz x3)) → qm_get ls 4 = some (.int (qz u4670)) → qm_get ls 5 = some (.int (qz u4672)) → ((-2147483648) ≤ u4670 ∧ u4670 ≤ 2147483647) → (0 ≤ u4672 ∧ u4672 ≤ 32) → qr_W (qe L xs vb) (d + 2) qx_e142 (fun r w' => w' = qw σ α κ ρ ∧ ∃ v : Int, r = some (.int (qz v)) ∧ ((-2147483648) ≤ v ∧ v ≤ 2147483647)) (6, ls, [], qw σ α κ ρ, 0, 0) := by
    intro n
    induction n with
    | zero => intro ls u4670 u4672 hm g4665 g4666 g4667 g4668 g4669 g4671 hf4673 hf4674; exact False.elim (by omega)
    | succ n ih4676 =>
      intro ls u4670 u4672 hm g4665 g4666 g4667 g4668 g4669 g4671 hf4673 hf4674
      refine qr_iload 8 rfl g4671 rfl ?_
      refine qr_iload_n 9 rfl g4668 rfl ?_
      refine qr_icmp_ge 55 12 rfl rfl rfl (qrg hf4674 (by decide) (by decide)) (qrg r3 (by decide) (by decide)) (fun h4677 => ?_) (fun h4677 => ?_)
      · skip
        refine qr_iload 57 rfl g4669 rfl ?_
        refine qr_retI rfl rfl (by decide) (by decide) ?_
        exact ⟨rfl, u4670, rfl, hf4673⟩
      · skip
        refine qr_iload 14 rfl g4671 rfl ?_
        refine qr_iconst 15 rfl rfl ?_
        refine qr_iadd 16 rfl rfl ?_
        refine qr_istore _ 18 rfl (by decide) rfl rfl ?_
        have hL4794 : ∀ (n : Nat) (ls : qm_L) (u4787 u4790 : Int), 32 - u4790 < (n : Int) → qm_get ls 0 = some (.ref 27) → qm_get ls 1 = some (.int (qz x1)) → qm_get ls 2 = some (.ref 25) → qm_get ls 3 = some (.int (qz x3)) → qm_get ls 4 = some (.int (qz u4787)) → qm_get ls 5 = some (.int (qz u4672)) → qm_get ls 6 = some (.int (qz u4790)) → ((-2147483648) ≤ u4787 ∧ u4787 ≤ 2147483647) → (1 ≤ u4790 ∧ u4790 ≤ 32) → (u4672 + 1) ≤ u4790 → qr_W (qe L xs vb) (d + 2) qx_e142 (fun r w' => w' = qw σ α κ ρ ∧ ∃ v : Int, r = some (.int (qz v)) ∧ ((-2147483648) ≤ v ∧ v ≤ 2147483647)) (18, ls, [], qw σ α κ ρ, 0, 0) := by
          intro n
          induction n with
          | zero => intro ls u4787 u4790 hm g4782 g4783 g4784 g4785 g4786 g4788 g4789 hf4791 hf4792 hx4793; exact False.elim (by omega)
          | succ n ih4795 =>
            intro ls u4787 u4790 hm g4782 g4783 g4784 g4785 g4786 g4788 g4789 hf4791 hf4792 hx4793
            refine qr_iload 20 rfl g4789 rfl ?_
            refine qr_iload_n 21 rfl g4785 rfl ?_
            refine qr_icmp_ge 49 24 rfl rfl rfl (qrg hf4792 (by decide) (by decide)) (qrg r3 (by decide) (by decide)) (fun h4807 => ?_) (fun h4807 => ?_)
            · skip
              refine qr_iinc _ 52 rfl g4788 (by decide) rfl rfl ?_
              refine qr_goto 6 rfl rfl ?_
              exact ih4676 _ u4787 (u4672 + 1) (by omega) (qm_gk g4782 (by decide) (Or.inl (by decide))) (qm_gk g4783 (by decide) (Or.inl (by decide))) (qm_gk g4784 (by decide) (Or.inl (by decide))) (qm_gk g4785 (by decide) (Or.inl (by decide))) (qm_gk g4786 (by decide) (Or.inr rfl)) (qm_ge _ _ _) hf4791 (by omega)
            · skip
              refine qr_aload_n 25 rfl g4782 rfl ?_
              refine qr_iload 27 rfl g4788 rfl ?_
              refine qr_iload 29 rfl g4789 rfl ?_
              refine qr_iload_n 30 rfl g4783 rfl ?_
              refine qr_aload_n 31 rfl g4784 rfl ?_
              refine qr_callN 34 rfl rfl rfl (sf_66_27_25 (d := d + 0) hI (by omega) (by omega) r1) ?_
              rintro _ _ ⟨rfl, v4808, rfl, hv4808⟩
              show qr_W (qe L xs vb) (d + 2) qx_e142 _ (34, _, [.int (qz v4808)], qw σ α κ ρ, 0, 0)
              refine qr_sipush 37 rfl (by decide) rfl ?_
              have hJ4819 : ∀ (ls : qm_L) (u4815 : Int), qm_get ls 0 = some (.ref 27) → qm_get ls 1 = some (.int (qz x1)) → qm_get ls 2 = some (.ref 25) → qm_get ls 3 = some (.int (qz x3)) → qm_get ls 4 = some (.int (qz u4815)) → qm_get ls 5 = some (.int (qz u4672)) → qm_get ls 6 = some (.int (qz u4790)) → ((-2147483648) ≤ u4815 ∧ u4815 ≤ 2147483647) → qr_W (qe L xs vb) (d + 2) qx_e142 (fun r w' => w' = qw σ α κ ρ ∧ ∃ v : Int, r = some (.int (qz v)) ∧ ((-2147483648) ≤ v ∧ v ≤ 2147483647)) (43, ls, [], qw σ α κ ρ, 0, 0) := by
                intro ls u4815 g4810 g4811 g4812 g4813 g4814 g4816 g4817 hf4818
                refine qr_iinc _ 46 rfl g4817 (by decide) rfl rfl ?_
                refine qr_goto 18 rfl rfl ?_
                exact ih4795 _ u4815 (u4790 + 1) (by omega) (qm_gk g4810 (by decide) (Or.inl (by decide))) (qm_gk g4811 (by decide) (Or.inl (by decide))) (qm_gk g4812 (by decide) (Or.inl (by decide))) (qm_gk g4813 (by decide) (Or.inl (by decide))) (qm_gk g4814 (by decide) (Or.inl (by decide))) (qm_gk g4816 (by decide) (Or.inr rfl)) (qm_ge _ _ _) hf4818 (by omega) (by omega)
              refine qr_icmp_ge 43 40 rfl rfl rfl (qrg hv4808 (by decide) (by decide)) (by decide) (fun h4820 => ?_) (fun h4820 => ?_)
              · skip
                exact hJ4819 _ u4787 g4782 g4783 g4784 g4785 g4786 g4788 g4789 hf4791
              · skip
                refine qy_iincC 43 rfl g4786 (by decide) rfl (fun v4821 hv4821 => ?_)
                exact hJ4819 _ v4821 (qm_gk g4782 (by decide) (Or.inl (by decide))) (qm_gk g4783 (by decide) (Or.inl (by decide))) (qm_gk g4784 (by decide) (Or.inl (by decide))) (qm_gk g4785 (by decide) (Or.inr rfl)) (qm_ge _ _ _) (qm_gk g4788 (by decide) (Or.inl (by decide))) (qm_gk g4789 (by decide) (Or.inl (by decide))) (by omega)
        exact hL4794 ((32 - (u4672 + 1) + 1 : Int)).toNat _ u4670 (u4672 + 1) (by omega) (qm_gk g4665 (by decide) (Or.inl (by decide))) (qm_gk g4666 (by decide) (Or.inl (by decide))) (qm_gk g4667 (by decide) (Or.inl (by decide))) (qm_gk g4668 (by decide) (Or.inl (by decide))) (qm_gk g4669 (by decide) (Or.inl (by decide))) (qm_gk g4671 (by decide) (Or.inr rfl)) (qm_ge _ _ _) hf4673 (by omega) (by omega)
  exact hL4675 ((32 - 0 + 1 : Int)).toNat _ 0 0 (by omega) rfl rfl rfl rfl rfl rfl (by decide) (by decide)

set_option maxHeartbeats 4000000 in
set_option maxRecDepth 20000 in
/-- OneRoof$Peaces.has -/
theorem sf_73_34 {L : Nat} {xs : Nat → Int} {vb : Bool} {d : Nat} {σ α : Nat → Nat → Int} {κ : Nat → Option Nat} {ρ : Nat} {x1 : Int} (hI : qI σ α κ ρ) (r1 : (-2147483648) ≤ x1 ∧ x1 ≤ 2147483647) : qm_T (qe L xs vb) (d + 1) 73 [.ref 34, .int (qz x1)] (qw σ α κ ρ) (fun r w' => w' = qw σ α κ ρ ∧ ∃ v : Int, r = some (.int (qz v)) ∧ (0 ≤ v ∧ v ≤ 1) ∧ (σ 34 7 ≤ 60 ∧ ((v = 1 ∧ 0 ≤ x1 ∧ x1 < σ 34 7) ∨ (v = 0 ∧ ¬ (0 ≤ x1 ∧ x1 < σ 34 7))))) := by
  refine qr_start (d := d + 0) qv_e73 (Nat.le_of_ble_eq_true rfl) ?_
  show qr_W (qe L xs vb) (d + 0) qx_e73 _ (0, [(0, .ref 34), (1, .int (qz x1))], [], _, 0, 0)
  have hz34_7 : 0 ≤ σ 34 7 ∧ σ 34 7 ≤ 60 := hI.1 34 7
  refine qr_iload_n 1 rfl rfl rfl ?_
  refine qr_if_lt 16 4 rfl rfl rfl r1 (fun h1 => ?_) (fun h1 => ?_)
  · skip
    refine qr_iconst 17 rfl rfl ?_
    refine qr_retZ rfl rfl (Or.inl rfl) (by decide) (by decide) ?_
    exact ⟨rfl, 0, rfl, (by decide), by omega⟩
  · skip
    refine qr_iload_n 5 rfl rfl rfl ?_
    refine qr_aload_n 6 rfl rfl rfl ?_
    refine qr_get 9 rfl rfl rfl (by decide) rfl ?_
    refine qr_icmp_ge 16 12 rfl rfl rfl r1 (qrg hz34_7 (by decide) (by decide)) (fun h2 => ?_) (fun h2 => ?_)
    · skip
      refine qr_iconst 17 rfl rfl ?_
      refine qr_retZ rfl rfl (Or.inl rfl) (by decide) (by decide) ?_
      exact ⟨rfl, 0, rfl, (by decide), by omega⟩
    · skip
      refine qr_iconst 13 rfl rfl ?_
      refine qr_goto 17 rfl rfl ?_
      refine qr_retZ rfl rfl (Or.inr rfl) (by decide) (by decide) ?_
      exact ⟨rfl, 1, rfl, (by decide), by omega⟩
