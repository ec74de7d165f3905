section
set_option maxHeartbeats 4000000 in
set_option maxRecDepth 20000 in
/-- OneRoofModel.within -/
theorem sf_176 {L : Nat} {xs : Nat → Int} {vb : Bool} {d : Nat} {σ α : Nat → Nat → Int} {κ : Nat → Option Nat} {ρ : Nat} {x0 : Int} {x1 : Int} {x2 : Int} (hI : qI σ α κ ρ) (r0 : (-9223372036854775808) ≤ x0 ∧ x0 ≤ 9223372036854775807) (r1 : (-9223372036854775808) ≤ x1 ∧ x1 ≤ 9223372036854775807) (r2 : (-9223372036854775808) ≤ x2 ∧ x2 ≤ 9223372036854775807) : qm_T (qe L xs vb) (d + 1) 176 [.long (ql x0), .long (ql x1), .long (ql x2)] (qw σ α κ ρ) (fun r w' => w' = qw σ α κ ρ ∧ ∃ v : Int, r = some (.int (qz v)) ∧ (0 ≤ v ∧ v ≤ 1) ∧ ((v = 1 ∧ x1 ≤ x0 ∧ x0 ≤ x2) ∨ (v = 0 ∧ ¬ (x1 ≤ x0 ∧ x0 ≤ x2)))) := by
  refine qr_start (d := d + 0) qv_e176 (Nat.le_of_ble_eq_true rfl) ?_
  show qr_W (qe L xs vb) (d + 0) qx_e176 _ (0, [(0, .long (ql x0)), (2, .long (ql x1)), (4, .long (ql x2))], [], _, 0, 0)
  refine qr_lload_n 1 rfl rfl rfl ?_
  refine qr_lload_n 2 rfl rfl rfl ?_
  refine qr_lc_lt 17 6 rfl rfl rfl rfl r0 r1 (fun h1 => ?_) (fun h1 => ?_)
  · skip
    refine qr_iconst 18 rfl rfl ?_
    refine qr_retZ rfl rfl (Or.inl rfl) (by decide) (by decide) ?_
    exact ⟨rfl, 0, rfl, (by decide), by omega⟩
  · skip
    refine qr_lload_n 7 rfl rfl rfl ?_
    refine qr_lload 9 rfl rfl rfl ?_
    refine qr_lc_gt 17 13 rfl rfl rfl rfl r0 r2 (fun h2 => ?_) (fun h2 => ?_)
    · skip
      refine qr_iconst 18 rfl rfl ?_
      refine qr_retZ rfl rfl (Or.inl rfl) (by decide) (by decide) ?_
      exact ⟨rfl, 0, rfl, (by decide), by omega⟩
    · skip
      refine qr_iconst 14 rfl rfl ?_
      refine qr_goto 18 rfl rfl ?_
      refine qr_retZ rfl rfl (Or.inr rfl) (by decide) (by decide) ?_
      exact ⟨rfl, 1, rfl, (by decide), by omega⟩

set_option maxHeartbeats 4000000 in
set_option maxRecDepth 20000 in
/-- OneRoofModel.isHour -/
theorem sf_192 {L : Nat} {xs : Nat → Int} {vb : Bool} {d : Nat} {σ α : Nat → Nat → Int} {κ : Nat → Option Nat} {ρ : Nat} {x0 : Int} (hI : qI σ α κ ρ) (r0 : (-2147483648) ≤ x0 ∧ x0 ≤ 2147483647) : qm_T (qe L xs vb) (d + 2) 192 [.int (qz x0)] (qw σ α κ ρ) (fun r w' => w' = qw σ α κ ρ ∧ ∃ v : Int, r = some (.int (qz v)) ∧ (0 ≤ v ∧ v ≤ 1) ∧ ((v = 1 ∧ 0 ≤ x0 ∧ x0 ≤ 2399) ∨ (v = 0 ∧ ¬ (0 ≤ x0 ∧ x0 ≤ 2399)))) := by
  refine qr_start (d := d + 1) qv_e192 (Nat.le_of_ble_eq_true rfl) ?_
  show qr_W (qe L xs vb) (d + 1) qx_e192 _ (0, [(0, .int (qz x0))], [], _, 0, 0)
  refine qr_iload_n 1 rfl rfl rfl ?_
  refine qr_i2l 2 rfl r0 rfl ?_
  refine qr_lconst 3 rfl rfl ?_
  refine qy_vl 0 rfl ?_
  refine qr_ldc2 2399 6 rfl (by decide) rfl ?_
  refine qr_callN 9 rfl rfl rfl (sf_176 (d := d + 0) hI (qrg r0 (by decide) (by decide)) (by decide) (by decide)) ?_
  rintro _ _ ⟨rfl, v1, rfl, hv1, hp2⟩
  show qr_W (qe L xs vb) (d + 1) qx_e192 _ (9, _, [.int (qz v1)], qw σ α κ ρ, 0, 0)
  refine qr_retZ rfl rfl (by omega) (by decide) (by decide) ?_
  exact ⟨rfl, v1, rfl, hv1, by omega⟩

set_option maxHeartbeats 4000000 in
set_option maxRecDepth 20000 in
/-- OneRoofModel.isShelf -/
theorem sf_178 {L : Nat} {xs : Nat → Int} {vb : Bool} {d : Nat} {σ α : Nat → Nat → Int} {κ : Nat → Option Nat} {ρ : Nat} {x0 : Int} (hI : qI σ α κ ρ) (r0 : (-2147483648) ≤ x0 ∧ x0 ≤ 2147483647) : qm_T (qe L xs vb) (d + 2) 178 [.int (qz x0)] (qw σ α κ ρ) (fun r w' => w' = qw σ α κ ρ ∧ ∃ v : Int, r = some (.int (qz v)) ∧ (0 ≤ v ∧ v ≤ 1) ∧ ((v = 1 ∧ 0 ≤ x0 ∧ x0 ≤ 5) ∨ (v = 0 ∧ ¬ (0 ≤ x0 ∧ x0 ≤ 5)))) := by
  refine qr_start (d := d + 1) qv_e178 (Nat.le_of_ble_eq_true rfl) ?_
  show qr_W (qe L xs vb) (d + 1) qx_e178 _ (0, [(0, .int (qz x0))], [], _, 0, 0)
  refine qr_iload_n 1 rfl rfl rfl ?_
  refine qr_i2l 2 rfl r0 rfl ?_
  refine qr_lconst 3 rfl rfl ?_
  refine qy_vl 0 rfl ?_
  refine qr_ldc2 5 6 rfl (by decide) rfl ?_
  refine qr_callN 9 rfl rfl rfl (sf_176 (d := d + 0) hI (qrg r0 (by decide) (by decide)) (by decide) (by decide)) ?_
  rintro _ _ ⟨rfl, v1, rfl, hv1, hp2⟩
  show qr_W (qe L xs vb) (d + 1) qx_e178 _ (9, _, [.int (qz v1)], qw σ α κ ρ, 0, 0)
  refine qr_retZ rfl rfl (by omega) (by decide) (by decide) ?_
  exact ⟨rfl, v1, rfl, hv1, by omega⟩

set_option maxHeartbeats 4000000 in
set_option maxRecDepth 20000 in
/-- OneRoofModel.isSpan -/
theorem sf_230 {L : Nat} {xs : Nat → Int} {vb : Bool} {d : Nat} {σ α : Nat → Nat → Int} {κ : Nat → Option Nat} {ρ : Nat} {x0 : Int} (hI : qI σ α κ ρ) (r0 : (-2147483648) ≤ x0 ∧ x0 ≤ 2147483647) : qm_T (qe L xs vb) (d + 3) 230 [.int (qz x0)] (qw σ α κ ρ) (fun r w' => w' = qw σ α κ ρ ∧ ∃ v : Int, r = some (.int (qz v)) ∧ (0 ≤ v ∧ v ≤ 1) ∧ ((v = 1 ∧ 0 ≤ x0 ∧ x0 / 10000 ≤ x0 % 10000 ∧ x0 % 10000 ≤ 2399 ∧ x0 % 10000 - x0 / 10000 < 48) ∨ (v = 0 ∧ ¬ (0 ≤ x0 ∧ x0 / 10000 ≤ x0 % 10000 ∧ x0 % 10000 ≤ 2399 ∧ x0 % 10000 - x0 / 10000 < 48)))) := by
  refine qr_start (d := d + 2) qv_e230 (Nat.le_of_ble_eq_true rfl) ?_
  show qr_W (qe L xs vb) (d + 2) qx_e230 _ (0, [(0, .int (qz x0))], [], _, 0, 0)
  refine qr_iload_n 1 rfl rfl rfl ?_
  refine qr_if_lt 59 4 rfl rfl rfl r0 (fun h1 => ?_) (fun h1 => ?_)
  · skip
    refine qr_iconst 60 rfl rfl ?_
    refine qr_retZ rfl rfl (Or.inl rfl) (by decide) (by decide) ?_
    exact ⟨rfl, 0, rfl, (by decide), by omega⟩
  · skip
    refine qr_iload_n 5 rfl rfl rfl ?_
    refine qr_sipush 8 rfl (by decide) rfl ?_
    refine qr_idiv 9 rfl (by omega) (by decide) rfl ?_
    refine qr_callN 12 rfl rfl rfl (sf_192 (d := d + 0) hI (by omega)) ?_
    rintro _ _ ⟨rfl, v2, rfl, hv2, hp3⟩
    show qr_W (qe L xs vb) (d + 2) qx_e230 _ (12, _, [.int (qz v2)], qw σ α κ ρ, 0, 0)
    refine qr_if_eq 59 15 rfl rfl rfl (qrg hv2 (by decide) (by decide)) (fun h4 => ?_) (fun h4 => ?_)
    · skip
      refine qr_iconst 60 rfl rfl ?_
      refine qr_retZ rfl rfl (Or.inl rfl) (by decide) (by decide) ?_
      exact ⟨rfl, 0, rfl, (by decide), by omega⟩
    · skip
      refine qr_iload_n 16 rfl rfl rfl ?_
      refine qr_sipush 19 rfl (by decide) rfl ?_
      refine qr_irem 20 rfl (by omega) (by decide) rfl ?_
      refine qr_callN 23 rfl rfl rfl (sf_192 (d := d + 0) hI (by omega)) ?_
      rintro _ _ ⟨rfl, v5, rfl, hv5, hp6⟩
      show qr_W (qe L xs vb) (d + 2) qx_e230 _ (23, _, [.int (qz v5)], qw σ α κ ρ, 0, 0)
      refine qr_if_eq 59 26 rfl rfl rfl (qrg hv5 (by decide) (by decide)) (fun h7 => ?_) (fun h7 => ?_)
      · skip
        refine qr_iconst 60 rfl rfl ?_
        refine qr_retZ rfl rfl (Or.inl rfl) (by decide) (by decide) ?_
        exact ⟨rfl, 0, rfl, (by decide), by omega⟩
      · skip
        refine qr_iload_n 27 rfl rfl rfl ?_
        refine qr_sipush 30 rfl (by decide) rfl ?_
        refine qr_idiv 31 rfl (by omega) (by decide) rfl ?_
        refine qr_iload_n 32 rfl rfl rfl ?_
        refine qr_sipush 35 rfl (by decide) rfl ?_
        refine qr_irem 36 rfl (by omega) (by decide) rfl ?_
        refine qr_icmp_gt 59 39 rfl rfl rfl (by omega) (by omega) (fun h8 => ?_) (fun h8 => ?_)
        · skip
          refine qr_iconst 60 rfl rfl ?_
          refine qr_retZ rfl rfl (Or.inl rfl) (by decide) (by decide) ?_
          exact ⟨rfl, 0, rfl, (by decide), by omega⟩
        · skip
          refine qr_iload_n 40 rfl rfl rfl ?_
          refine qr_sipush 43 rfl (by decide) rfl ?_
          refine qr_irem 44 rfl (by omega) (by decide) rfl ?_
          refine qr_iload_n 45 rfl rfl rfl ?_
          refine qr_sipush 48 rfl (by decide) rfl ?_
          refine qr_idiv 49 rfl (by omega) (by decide) rfl ?_
          refine qr_isub 50 rfl rfl ?_
          refine qr_bipush 52 rfl (by decide) rfl ?_
          refine qr_icmp_ge 59 55 rfl rfl rfl (by omega) (by decide) (fun h9 => ?_) (fun h9 => ?_)
          · skip
            refine qr_iconst 60 rfl rfl ?_
            refine qr_retZ rfl rfl (Or.inl rfl) (by decide) (by decide) ?_
            exact ⟨rfl, 0, rfl, (by decide), by omega⟩
          · skip
            refine qr_iconst 56 rfl rfl ?_
            refine qr_goto 60 rfl rfl ?_
            refine qr_retZ rfl rfl (Or.inr rfl) (by decide) (by decide) ?_
            exact ⟨rfl, 1, rfl, (by decide), by omega⟩

set_option maxHeartbeats 4000000 in
set_option maxRecDepth 20000 in
/-- OneRoofModel.isPerson -/
theorem sf_180_86 {L : Nat} {xs : Nat → Int} {vb : Bool} {d : Nat} {σ α : Nat → Nat → Int} {κ : Nat → Option Nat} {ρ : Nat} {x1 : Int} (hI : qI σ α κ ρ) (r1 : (-2147483648) ≤ x1 ∧ x1 ≤ 2147483647) : qm_T (qe L xs vb) (d + 2) 180 [.ref 86, .int (qz x1)] (qw σ α κ ρ) (fun r w' => w' = qw σ α κ ρ ∧ ∃ v : Int, r = some (.int (qz v)) ∧ (0 ≤ v ∧ v ≤ 1) ∧ (σ 86 6 ≤ 32 ∧ ((v = 1 ∧ 0 ≤ x1 ∧ x1 < σ 86 6) ∨ (v = 0 ∧ ¬ (0 ≤ x1 ∧ x1 < σ 86 6))))) := by
  refine qr_start (d := d + 1) qv_e180 (Nat.le_of_ble_eq_true rfl) ?_
  show qr_W (qe L xs vb) (d + 1) qx_e180 _ (0, [(0, .ref 86), (1, .int (qz x1))], [], _, 0, 0)
  have hz86_6 : 0 ≤ σ 86 6 ∧ σ 86 6 ≤ 32 := hI.1 86 6
  refine qr_iload_n 1 rfl rfl rfl ?_
  refine qr_i2l 2 rfl r1 rfl ?_
  refine qr_lconst 3 rfl rfl ?_
  refine qy_vl 0 rfl ?_
  refine qr_aload_n 4 rfl rfl rfl ?_
  refine qr_get 7 rfl rfl rfl (by decide) rfl ?_
  refine qr_iconst 8 rfl rfl ?_
  refine qr_isub 9 rfl rfl ?_
  refine qr_i2l 10 rfl (by omega) rfl ?_
  refine qr_callN 13 rfl rfl rfl (sf_176 (d := d + 0) hI (qrg r1 (by decide) (by decide)) (by decide) (by omega)) ?_
  rintro _ _ ⟨rfl, v1, rfl, hv1, hp2⟩
  show qr_W (qe L xs vb) (d + 1) qx_e180 _ (13, _, [.int (qz v1)], qw σ α κ ρ, 0, 0)
  refine qr_retZ rfl rfl (by omega) (by decide) (by decide) ?_
  exact ⟨rfl, v1, rfl, hv1, by omega⟩

set_option maxHeartbeats 4000000 in
set_option maxRecDepth 20000 in
/-- OneRoofModel.isPeace -/
theorem sf_200_86 {L : Nat} {xs : Nat → Int} {vb : Bool} {d : Nat} {σ α : Nat → Nat → Int} {κ : Nat → Option Nat} {ρ : Nat} {x1 : Int} (hI : qI σ α κ ρ) (r1 : (-2147483648) ≤ x1 ∧ x1 ≤ 2147483647) : qm_T (qe L xs vb) (d + 2) 200 [.ref 86, .int (qz x1)] (qw σ α κ ρ) (fun r w' => w' = qw σ α κ ρ ∧ ∃ v : Int, r = some (.int (qz v)) ∧ (0 ≤ v ∧ v ≤ 1) ∧ (σ 86 24 ≤ 60 ∧ ((v = 1 ∧ 0 ≤ x1 ∧ x1 < σ 86 24) ∨ (v = 0 ∧ ¬ (0 ≤ x1 ∧ x1 < σ 86 24))))) := by
  refine qr_start (d := d + 1) qv_e200 (Nat.le_of_ble_eq_true rfl) ?_
  show qr_W (qe L xs vb) (d + 1) qx_e200 _ (0, [(0, .ref 86), (1, .int (qz x1))], [], _, 0, 0)
  have hz86_24 : 0 ≤ σ 86 24 ∧ σ 86 24 ≤ 60 := hI.1 86 24
  refine qr_iload_n 1 rfl rfl rfl ?_
  refine qr_i2l 2 rfl r1 rfl ?_
  refine qr_lconst 3 rfl rfl ?_
  refine qy_vl 0 rfl ?_
  refine qr_aload_n 4 rfl rfl rfl ?_
  refine qr_get 7 rfl rfl rfl (by decide) rfl ?_
  refine qr_iconst 8 rfl rfl ?_
  refine qr_isub 9 rfl rfl ?_
  refine qr_i2l 10 rfl (by omega) rfl ?_
  refine qr_callN 13 rfl rfl rfl (sf_176 (d := d + 0) hI (qrg r1 (by decide) (by decide)) (by decide) (by omega)) ?_
  rintro _ _ ⟨rfl, v1, rfl, hv1, hp2⟩
  show qr_W (qe L xs vb) (d + 1) qx_e200 _ (13, _, [.int (qz v1)], qw σ α κ ρ, 0, 0)
  refine qr_retZ rfl rfl (by omega) (by decide) (by decide) ?_
  exact ⟨rfl, v1, rfl, hv1, by omega⟩

set_option maxHeartbeats 4000000 in
set_option maxRecDepth 20000 in
/-- OneRoofModel.arePair -/
theorem sf_191_86 {L : Nat} {xs : Nat → Int} {vb : Bool} {d : Nat} {σ α : Nat → Nat → Int} {κ : Nat → Option Nat} {ρ : Nat} {x1 : Int} (hI : qI σ α κ ρ) (r1 : (-2147483648) ≤ x1 ∧ x1 ≤ 2147483647) : qm_T (qe L xs vb) (d + 3) 191 [.ref 86, .int (qz x1)] (qw σ α κ ρ) (fun r w' => w' = qw σ α κ ρ ∧ ∃ v : Int, r = some (.int (qz v)) ∧ (0 ≤ v ∧ v ≤ 1) ∧ (σ 86 6 ≤ 32 ∧ ((v = 1 ∧ 0 ≤ x1 ∧ x1 / 100 < σ 86 6 ∧ x1 % 100 < σ 86 6 ∧ ¬ x1 / 100 = x1 % 100) ∨ (v = 0 ∧ ¬ (0 ≤ x1 ∧ x1 / 100 < σ 86 6 ∧ x1 % 100 < σ 86 6 ∧ ¬ x1 / 100 = x1 % 100))))) := by
  refine qr_start (d := d + 2) qv_e191 (Nat.le_of_ble_eq_true rfl) ?_
  show qr_W (qe L xs vb) (d + 2) qx_e191 _ (0, [(0, .ref 86), (1, .int (qz x1))], [], _, 0, 0)
  have hz86_6 : 0 ≤ σ 86 6 ∧ σ 86 6 ≤ 32 := hI.1 86 6
  refine qr_iload_n 1 rfl rfl rfl ?_
  refine qr_if_lt 41 4 rfl rfl rfl r1 (fun h1 => ?_) (fun h1 => ?_)
  · skip
    refine qr_iconst 42 rfl rfl ?_
    refine qr_retZ rfl rfl (Or.inl rfl) (by decide) (by decide) ?_
    exact ⟨rfl, 0, rfl, (by decide), by omega⟩
  · skip
    refine qr_aload_n 5 rfl rfl rfl ?_
    refine qr_iload_n 6 rfl rfl rfl ?_
    refine qr_bipush 8 rfl (by decide) rfl ?_
    refine qr_idiv 9 rfl (by omega) (by decide) rfl ?_
    refine qr_callN 12 rfl rfl rfl (sf_180_86 (d := d + 0) hI (by omega)) ?_
    have hs4 : 0 ≤ σ 86 6 ∧ σ 86 6 ≤ 32 := hI.1 86 6
    rintro _ _ ⟨rfl, v2, rfl, hv2, hp3⟩
    show qr_W (qe L xs vb) (d + 2) qx_e191 _ (12, _, [.int (qz v2)], qw σ α κ ρ, 0, 0)
    refine qr_if_eq 41 15 rfl rfl rfl (qrg hv2 (by decide) (by decide)) (fun h5 => ?_) (fun h5 => ?_)
    · skip
      refine qr_iconst 42 rfl rfl ?_
      refine qr_retZ rfl rfl (Or.inl rfl) (by decide) (by decide) ?_
      exact ⟨rfl, 0, rfl, (by decide), by omega⟩
    · skip
      refine qr_aload_n 16 rfl rfl rfl ?_
      refine qr_iload_n 17 rfl rfl rfl ?_
      refine qr_bipush 19 rfl (by decide) rfl ?_
      refine qr_irem 20 rfl (by omega) (by decide) rfl ?_
      refine qr_callN 23 rfl rfl rfl (sf_180_86 (d := d + 0) hI (by omega)) ?_
      have hs8 : 0 ≤ σ 86 6 ∧ σ 86 6 ≤ 32 := hI.1 86 6
      rintro _ _ ⟨rfl, v6, rfl, hv6, hp7⟩
      show qr_W (qe L xs vb) (d + 2) qx_e191 _ (23, _, [.int (qz v6)], qw σ α κ ρ, 0, 0)
      refine qr_if_eq 41 26 rfl rfl rfl (qrg hv6 (by decide) (by decide)) (fun h9 => ?_) (fun h9 => ?_)
      · skip
        refine qr_iconst 42 rfl rfl ?_
        refine qr_retZ rfl rfl (Or.inl rfl) (by decide) (by decide) ?_
        exact ⟨rfl, 0, rfl, (by decide), by omega⟩
      · skip
        refine qr_iload_n 27 rfl rfl rfl ?_
        refine qr_bipush 29 rfl (by decide) rfl ?_
        refine qr_idiv 30 rfl (by omega) (by decide) rfl ?_
        refine qr_iload_n 31 rfl rfl rfl ?_
        refine qr_bipush 33 rfl (by decide) rfl ?_
        refine qr_irem 34 rfl (by omega) (by decide) rfl ?_
        refine qr_icmp_eq 41 37 rfl rfl rfl (by omega) (by omega) (fun h10 => ?_) (fun h10 => ?_)
        · skip
          refine qr_iconst 42 rfl rfl ?_
          refine qr_retZ rfl rfl (Or.inl rfl) (by decide) (by decide) ?_
          exact ⟨rfl, 0, rfl, (by decide), by omega⟩
        · skip
          refine qr_iconst 38 rfl rfl ?_
          refine qr_goto 42 rfl rfl ?_
          refine qr_retZ rfl rfl (Or.inr rfl) (by decide) (by decide) ?_
          exact ⟨rfl, 1, rfl, (by decide), by omega⟩

set_option maxHeartbeats 4000000 in
set_option maxRecDepth 20000 in
/-- OneRoofModel.isOne -/
theorem sf_175_86 {L : Nat} {xs : Nat → Int} {vb : Bool} {d : Nat} {σ α : Nat → Nat → Int} {κ : Nat → Option Nat} {ρ : Nat} {x1 : Int} {x2 : Int} {x3 : Int} (hI : qI σ α κ ρ) (r1 : (-2147483648) ≤ x1 ∧ x1 ≤ 2147483647) (r2 : (-2147483648) ≤ x2 ∧ x2 ≤ 2147483647) (r3 : (-2147483648) ≤ x3 ∧ x3 ≤ 2147483647) : qm_T (qe L xs vb) (d + 2) 175 [.ref 86, .int (qz x1), .int (qz x2), .int (qz x3)] (qw σ α κ ρ) (fun r w' => w' = qw σ α κ ρ ∧ ∃ v : Int, r = some (.int (qz v)) ∧ (0 ≤ v ∧ v ≤ 1) ∧ (σ 86 6 ≤ 32 ∧ ((v = 1 ∧ -1 ≤ x1 ∧ x1 < σ 86 6 ∧ 1 ≤ x2 ∧ x2 ≤ 99 ∧ 0 ≤ x3 ∧ x3 ≤ 1) ∨ (v = 0 ∧ ¬ (-1 ≤ x1 ∧ x1 < σ 86 6 ∧ 1 ≤ x2 ∧ x2 ≤ 99 ∧ 0 ≤ x3 ∧ x3 ≤ 1))))) := by
  refine qr_start (d := d + 1) qv_e175 (Nat.le_of_ble_eq_true rfl) ?_
  show qr_W (qe L xs vb) (d + 1) qx_e175 _ (0, [(0, .ref 86), (1, .int (qz x1)), (2, .int (qz x2)), (3, .int (qz x3))], [], _, 0, 0)
  have hz86_6 : 0 ≤ σ 86 6 ∧ σ 86 6 ≤ 32 := hI.1 86 6
  refine qr_iload_n 1 rfl rfl rfl ?_
  refine qr_i2l 2 rfl r1 rfl ?_
  refine qr_ldc2 (-1) 5 rfl (by decide) rfl ?_
  refine qr_aload_n 6 rfl rfl rfl ?_
  refine qr_get 9 rfl rfl rfl (by decide) rfl ?_
  refine qr_iconst 10 rfl rfl ?_
  refine qr_isub 11 rfl rfl ?_
  refine qr_i2l 12 rfl (by omega) rfl ?_
  refine qr_callN 15 rfl rfl rfl (sf_176 (d := d + 0) hI (qrg r1 (by decide) (by decide)) (by decide) (by omega)) ?_
  rintro _ _ ⟨rfl, v1, rfl, hv1, hp2⟩
  show qr_W (qe L xs vb) (d + 1) qx_e175 _ (15, _, [.int (qz v1)], qw σ α κ ρ, 0, 0)
  refine qr_if_eq 44 18 rfl rfl rfl (qrg hv1 (by decide) (by decide)) (fun h3 => ?_) (fun h3 => ?_)
  · skip
    refine qr_iconst 45 rfl rfl ?_
    refine qr_retZ rfl rfl (Or.inl rfl) (by decide) (by decide) ?_
    exact ⟨rfl, 0, rfl, (by decide), by omega⟩
  · skip
    refine qr_iload_n 19 rfl rfl rfl ?_
    refine qr_i2l 20 rfl r2 rfl ?_
    refine qr_lconst 21 rfl rfl ?_
    refine qy_vl 1 rfl ?_
    refine qr_ldc2 99 24 rfl (by decide) rfl ?_
    refine qr_callN 27 rfl rfl rfl (sf_176 (d := d + 0) hI (qrg r2 (by decide) (by decide)) (by decide) (by decide)) ?_
    rintro _ _ ⟨rfl, v4, rfl, hv4, hp5⟩
    show qr_W (qe L xs vb) (d + 1) qx_e175 _ (27, _, [.int (qz v4)], qw σ α κ ρ, 0, 0)
    refine qr_if_eq 44 30 rfl rfl rfl (qrg hv4 (by decide) (by decide)) (fun h6 => ?_) (fun h6 => ?_)
    · skip
      refine qr_iconst 45 rfl rfl ?_
      refine qr_retZ rfl rfl (Or.inl rfl) (by decide) (by decide) ?_
      exact ⟨rfl, 0, rfl, (by decide), by omega⟩
    · skip
      refine qr_iload_n 31 rfl rfl rfl ?_
      refine qr_i2l 32 rfl r3 rfl ?_
      refine qr_lconst 33 rfl rfl ?_
      refine qy_vl 0 rfl ?_
      refine qr_lconst 34 rfl rfl ?_
      refine qy_vl 1 rfl ?_
      refine qr_callN 37 rfl rfl rfl (sf_176 (d := d + 0) hI (qrg r3 (by decide) (by decide)) (by decide) (by decide)) ?_
      rintro _ _ ⟨rfl, v7, rfl, hv7, hp8⟩
      show qr_W (qe L xs vb) (d + 1) qx_e175 _ (37, _, [.int (qz v7)], qw σ α κ ρ, 0, 0)
      refine qr_if_eq 44 40 rfl rfl rfl (qrg hv7 (by decide) (by decide)) (fun h9 => ?_) (fun h9 => ?_)
      · skip
        refine qr_iconst 45 rfl rfl ?_
        refine qr_retZ rfl rfl (Or.inl rfl) (by decide) (by decide) ?_
        exact ⟨rfl, 0, rfl, (by decide), by omega⟩
      · skip
        refine qr_iconst 41 rfl rfl ?_
        refine qr_goto 45 rfl rfl ?_
        refine qr_retZ rfl rfl (Or.inr rfl) (by decide) (by decide) ?_
        exact ⟨rfl, 1, rfl, (by decide), by omega⟩

set_option maxHeartbeats 4000000 in
set_option maxRecDepth 20000 in
/-- OneRoofModel.isDead -/
theorem sf_181_86 {L : Nat} {xs : Nat → Int} {vb : Bool} {d : Nat} {σ α : Nat → Nat → Int} {κ : Nat → Option Nat} {ρ : Nat} {x1 : Int} (hI : qI σ α κ ρ) (r1 : (-2147483648) ≤ x1 ∧ x1 ≤ 2147483647) : qm_T (qe L xs vb) (d + 1) 181 [.ref 86, .int (qz x1)] (qw σ α κ ρ) (fun r w' => w' = qw σ α κ ρ ∧ ∃ v : Int, r = some (.int (qz v)) ∧ (0 ≤ v ∧ v ≤ 1)) := by
  refine qr_start (d := d + 0) qv_e181 (Nat.le_of_ble_eq_true rfl) ?_
  show qr_W (qe L xs vb) (d + 0) qx_e181 _ (0, [(0, .ref 86), (1, .int (qz x1))], [], _, 0, 0)
  refine qr_aload_n 1 rfl rfl rfl ?_
  refine qr_get 4 rfl rfl rfl (by decide) rfl ?_
  have hs1 : (-9223372036854775808) ≤ σ 86 10 ∧ σ 86 10 ≤ 9223372036854775807 := hI.1 86 10
  refine qr_iload_n 5 rfl rfl rfl ?_
  refine qr_lshr 6 rfl rfl ?_
  refine qy_canl (fun v2 hv2 => ?_)
  refine qr_lconst 7 rfl rfl ?_
  refine qy_vl 1 rfl ?_
  refine qr_land 8 rfl rfl ?_
  refine qy_canl (fun v3 hv3 => ?_)
  refine qr_lconst 9 rfl rfl ?_
  refine qy_vl 1 rfl ?_
  refine qr_lc_ne 17 13 rfl rfl rfl rfl hv3 (by decide) (fun h4 => ?_) (fun h4 => ?_)
  · skip
    refine qr_iconst 18 rfl rfl ?_
    refine qr_retZ rfl rfl (Or.inl rfl) (by decide) (by decide) ?_
    exact ⟨rfl, 0, rfl, (by decide)⟩
  · skip
    refine qr_iconst 14 rfl rfl ?_
    refine qr_goto 18 rfl rfl ?_
    refine qr_retZ rfl rfl (Or.inr rfl) (by decide) (by decide) ?_
    exact ⟨rfl, 1, rfl, (by decide)⟩

set_option maxHeartbeats 4000000 in
set_option maxRecDepth 20000 in
/-- OneRoofModel.of -/
theorem sf_179_86 {L : Nat} {xs : Nat → Int} {vb : Bool} {d : Nat} {σ α : Nat → Nat → Int} {κ : Nat → Option Nat} {ρ : Nat} {x1 : Int} {x2 : Int} (hI : qI σ α κ ρ) (r1 : (-2147483648) ≤ x1 ∧ x1 ≤ 2147483647) (r2 : (-2147483648) ≤ x2 ∧ x2 ≤ 2147483647) : qm_T (qe L xs vb) (d + 3) 179 [.ref 86, .int (qz x1), .int (qz x2)] (qw σ α κ ρ) (fun r w' => w' = qw σ α κ ρ ∧ ∃ v : Int, r = some (.int (qz v)) ∧ ((-2147483648) ≤ v ∧ v ≤ 2147483647)) := by
  refine qr_start (d := d + 2) qv_e179 (Nat.le_of_ble_eq_true rfl) ?_
  show qr_W (qe L xs vb) (d + 2) qx_e179 _ (0, [(0, .ref 86), (1, .int (qz x1)), (2, .int (qz x2))], [], _, 0, 0)
  refine qr_aload_n 1 rfl rfl rfl ?_
  refine qr_iload_n 2 rfl rfl rfl ?_
  refine qr_callN 5 rfl rfl rfl (sf_180_86 (d := d + 0) hI r1) ?_
  have hs3 : 0 ≤ σ 86 6 ∧ σ 86 6 ≤ 32 := hI.1 86 6
  rintro _ _ ⟨rfl, v1, rfl, hv1, hp2⟩
  show qr_W (qe L xs vb) (d + 2) qx_e179 _ (5, _, [.int (qz v1)], qw σ α κ ρ, 0, 0)
  refine qr_if_ne 10 8 rfl rfl rfl (qrg hv1 (by decide) (by decide)) (fun h4 => ?_) (fun h4 => ?_)
  · skip
    refine qr_iload_n 11 rfl rfl rfl ?_
    have h5 : x2 = 0 ∨ x2 = 1 ∨ x2 = 2 ∨ x2 = 3 ∨ (x2 < 0 ∨ 3 < x2) := by omega
    rcases h5 with h5 | h5 | h5 | h5 | h5
    · skip
      refine qr_tabIn 40 rfl r2 (by rw [h5]; decide) (by rw [h5]; rfl) rfl ?_
      refine qr_aload_n 41 rfl rfl rfl ?_
      refine qr_get 44 rfl rfl rfl (by decide) rfl ?_
      refine qr_iload_n 45 rfl rfl rfl ?_
      refine qr_iaload 46 rfl rfl (by omega) (by decide) rfl ?_
      refine qr_topI (fun v7 hv7 => ?_)
      have hs8 : (-1) ≤ v7 ∧ v7 ≤ 31 := by rw [hv7]; exact hI.2.1 91 _ (show _ < 32 by omega)
      have hs9 := hI.2.2.2.2.2.2.1 (x1 : Int).toNat (by omega)
      refine qr_retI rfl rfl (by decide) (by decide) ?_
      exact ⟨rfl, v7, rfl, (qrg hs8 (by decide) (by decide))⟩
    · skip
      refine qr_tabIn 47 rfl r2 (by rw [h5]; decide) (by rw [h5]; rfl) rfl ?_
      refine qr_aload_n 48 rfl rfl rfl ?_
      refine qr_get 51 rfl rfl rfl (by decide) rfl ?_
      refine qr_iload_n 52 rfl rfl rfl ?_
      refine qr_iaload 53 rfl rfl (by omega) (by decide) rfl ?_
      refine qr_topI (fun v10 hv10 => ?_)
      have hs11 : (-2147483648) ≤ v10 ∧ v10 ≤ 2147483647 := by rw [hv10]; exact hI.2.1 92 _ (show _ < 32 by omega)
      refine qr_retI rfl rfl (by decide) (by decide) ?_
      exact ⟨rfl, v10, rfl, hs11⟩
    · skip
      refine qr_tabIn 54 rfl r2 (by rw [h5]; decide) (by rw [h5]; rfl) rfl ?_
      refine qr_aload_n 55 rfl rfl rfl ?_
      refine qr_get 58 rfl rfl rfl (by decide) rfl ?_
      refine qr_iconst 59 rfl rfl ?_
      refine qr_iload_n 60 rfl rfl rfl ?_
      refine qr_iadd 61 rfl rfl ?_
      refine qr_iaload 62 rfl rfl (by omega) (by decide) rfl ?_
      refine qr_topI (fun v12 hv12 => ?_)
      have hs13 : (-2147483648) ≤ v12 ∧ v12 ≤ 2147483647 := by rw [hv12]; exact hI.2.1 87 _ (show _ < 252 by omega)
      refine qr_retI rfl rfl (by decide) (by decide) ?_
      exact ⟨rfl, v12, rfl, hs13⟩
    · skip
      refine qr_tabIn 63 rfl r2 (by rw [h5]; decide) (by rw [h5]; rfl) rfl ?_
      refine qr_aload_n 64 rfl rfl rfl ?_
      refine qr_iload_n 65 rfl rfl rfl ?_
      refine qr_callN 68 rfl rfl rfl (sf_181_86 (d := d + 1) hI r1) ?_
      rintro _ _ ⟨rfl, v14, rfl, hv14⟩
      show qr_W (qe L xs vb) (d + 2) qx_e179 _ (68, _, [.int (qz v14)], qw σ α κ ρ, 0, 0)
      refine qr_if_eq 75 71 rfl rfl rfl (qrg hv14 (by decide) (by decide)) (fun h15 => ?_) (fun h15 => ?_)
      · skip
        refine qr_iconst 76 rfl rfl ?_
        refine qr_retI rfl rfl (by decide) (by decide) ?_
        exact ⟨rfl, 0, rfl, (by decide)⟩
      · skip
        refine qr_iconst 72 rfl rfl ?_
        refine qr_goto 76 rfl rfl ?_
        refine qr_retI rfl rfl (by decide) (by decide) ?_
        exact ⟨rfl, 1, rfl, (by decide)⟩
    · skip
      refine qr_tabOut 77 rfl r2 (by omega) rfl ?_
      refine qr_iconst 78 rfl rfl ?_
      refine qr_retI rfl rfl (by decide) (by decide) ?_
      exact ⟨rfl, (-1), rfl, (by decide)⟩
  · skip
    refine qr_iconst 9 rfl rfl ?_
    refine qr_retI rfl rfl (by decide) (by decide) ?_
    exact ⟨rfl, (-1), rfl, (by decide)⟩

set_option maxHeartbeats 4000000 in
set_option maxRecDepth 20000 in
/-- OneRoofModel.areKin -/
theorem sf_185_86 {L : Nat} {xs : Nat → Int} {vb : Bool} {d : Nat} {σ α : Nat → Nat → Int} {κ : Nat → Option Nat} {ρ : Nat} {x1 : Int} {x2 : Int} (hI : qI σ α κ ρ) (r1 : (-2147483648) ≤ x1 ∧ x1 ≤ 2147483647) (r2 : (-2147483648) ≤ x2 ∧ x2 ≤ 2147483647) : qm_T (qe L xs vb) (d + 1) 185 [.ref 86, .int (qz x1), .int (qz x2)] (qw σ α κ ρ) (fun r w' => w' = qw σ α κ ρ ∧ ∃ v : Int, r = some (.int (qz v)) ∧ (0 ≤ v ∧ v ≤ 1)) := by
  refine qr_start (d := d + 0) qv_e185 (Nat.le_of_ble_eq_true rfl) ?_
  show qr_W (qe L xs vb) (d + 0) qx_e185 _ (0, [(0, .ref 86), (1, .int (qz x1)), (2, .int (qz x2))], [], _, 0, 0)
  refine qr_iconst 1 rfl rfl ?_
  refine qr_istore_n _ 2 rfl (by decide) rfl rfl ?_
  have hL432 : ∀ (n : Nat) (ls : qm_L) (u430 : Int), 61 - u430 < (n : Int) → qm_get ls 0 = some (.ref 86) → qm_get ls 1 = some (.int (qz x1)) → qm_get ls 2 = some (.int (qz x2)) → qm_get ls 3 = some (.int (qz u430)) → (0 ≤ u430 ∧ u430 ≤ 61) → qr_W (qe L xs vb) (d + 0) qx_e185 (fun r w' => w' = qw σ α κ ρ ∧ ∃ v : Int, r = some (.int (qz v)) ∧ (0 ≤ v ∧ v ≤ 1)) (2, ls, [], qw σ α κ ρ, 0, 0) := by
    intro n
    induction n with
    | zero => intro ls u430 hm g426 g427 g428 g429 hf431; exact False.elim (by omega)
    | succ n ih433 =>
      intro ls u430 hm g426 g427 g428 g429 hf431
      refine qr_iload_n 3 rfl g429 rfl ?_
      refine qr_aload_n 4 rfl g426 rfl ?_
      refine qr_get 7 rfl rfl rfl (by decide) rfl ?_
      have hs434 : 0 ≤ σ 86 11 ∧ σ 86 11 ≤ 61 := hI.1 86 11
      refine qr_icmp_ge 58 10 rfl rfl rfl (qrg hf431 (by decide) (by decide)) (qrg hs434 (by decide) (by decide)) (fun h435 => ?_) (fun h435 => ?_)
      · skip
        refine qr_iconst 59 rfl rfl ?_
        refine qr_retZ rfl rfl (Or.inl rfl) (by decide) (by decide) ?_
        exact ⟨rfl, 0, rfl, (by decide)⟩
      · skip
        refine qr_aload_n 11 rfl g426 rfl ?_
        refine qr_get 14 rfl rfl rfl (by decide) rfl ?_
        refine qr_iload_n 15 rfl g429 rfl ?_
        refine qr_iaload 16 rfl rfl (by omega) (by decide) rfl ?_
        refine qr_topI (fun v436 hv436 => ?_)
        have hs437 : 0 ≤ v436 ∧ v436 ≤ 31 := by rw [hv436]; exact hI.2.1 94 _ (show _ < 61 by omega)
        refine qr_iload_n 17 rfl g427 rfl ?_
        refine qr_icmp_ne 30 20 rfl rfl rfl (qrg hs437 (by decide) (by decide)) r1 (fun h438 => ?_) (fun h438 => ?_)
        · skip
          refine qr_aload_n 31 rfl g426 rfl ?_
          refine qr_get 34 rfl rfl rfl (by decide) rfl ?_
          refine qr_iload_n 35 rfl g429 rfl ?_
          refine qr_iaload 36 rfl rfl (by omega) (by decide) rfl ?_
          refine qr_topI (fun v439 hv439 => ?_)
          have hs440 : 0 ≤ v439 ∧ v439 ≤ 31 := by rw [hv439]; exact hI.2.1 94 _ (show _ < 61 by omega)
          refine qr_iload_n 37 rfl g428 rfl ?_
          refine qr_icmp_ne 52 40 rfl rfl rfl (qrg hs440 (by decide) (by decide)) r2 (fun h441 => ?_) (fun h441 => ?_)
          · skip
            refine qr_iinc _ 55 rfl g429 (by decide) rfl rfl ?_
            refine qr_goto 2 rfl rfl ?_
            exact ih433 _ (u430 + 1) (by omega) (qm_gk g426 (by decide) (Or.inl (by decide))) (qm_gk g427 (by decide) (Or.inl (by decide))) (qm_gk g428 (by decide) (Or.inr rfl)) (qm_ge _ _ _) (by omega)
          · skip
            refine qr_aload_n 41 rfl g426 rfl ?_
            refine qr_get 44 rfl rfl rfl (by decide) rfl ?_
            refine qr_iload_n 45 rfl g429 rfl ?_
            refine qr_iaload 46 rfl rfl (by omega) (by decide) rfl ?_
            refine qr_topI (fun v442 hv442 => ?_)
            have hs443 : 0 ≤ v442 ∧ v442 ≤ 31 := by rw [hv442]; exact hI.2.1 95 _ (show _ < 61 by omega)
            refine qr_iload_n 47 rfl g427 rfl ?_
            refine qr_icmp_ne 52 50 rfl rfl rfl (qrg hs443 (by decide) (by decide)) r1 (fun h444 => ?_) (fun h444 => ?_)
            · skip
              refine qr_iinc _ 55 rfl g429 (by decide) rfl rfl ?_
              refine qr_goto 2 rfl rfl ?_
              exact ih433 _ (u430 + 1) (by omega) (qm_gk g426 (by decide) (Or.inl (by decide))) (qm_gk g427 (by decide) (Or.inl (by decide))) (qm_gk g428 (by decide) (Or.inr rfl)) (qm_ge _ _ _) (by omega)
            · skip
              refine qr_iconst 51 rfl rfl ?_
              refine qr_retZ rfl rfl (Or.inr rfl) (by decide) (by decide) ?_
              exact ⟨rfl, 1, rfl, (by decide)⟩
        · skip
          refine qr_aload_n 21 rfl g426 rfl ?_
          refine qr_get 24 rfl rfl rfl (by decide) rfl ?_
          refine qr_iload_n 25 rfl g429 rfl ?_
          refine qr_iaload 26 rfl rfl (by omega) (by decide) rfl ?_
          refine qr_topI (fun v445 hv445 => ?_)
          have hs446 : 0 ≤ v445 ∧ v445 ≤ 31 := by rw [hv445]; exact hI.2.1 95 _ (show _ < 61 by omega)
          refine qr_iload_n 27 rfl g428 rfl ?_
          refine qr_icmp_eq 50 30 rfl rfl rfl (qrg hs446 (by decide) (by decide)) r2 (fun h447 => ?_) (fun h447 => ?_)
          · skip
            refine qr_iconst 51 rfl rfl ?_
            refine qr_retZ rfl rfl (Or.inr rfl) (by decide) (by decide) ?_
            exact ⟨rfl, 1, rfl, (by decide)⟩
          · skip
            refine qr_aload_n 31 rfl g426 rfl ?_
            refine qr_get 34 rfl rfl rfl (by decide) rfl ?_
            refine qr_iload_n 35 rfl g429 rfl ?_
            refine qr_iaload 36 rfl rfl (by omega) (by decide) rfl ?_
            refine qr_topI (fun v448 hv448 => ?_)
            have hs449 : 0 ≤ v448 ∧ v448 ≤ 31 := by rw [hv448]; exact hI.2.1 94 _ (show _ < 61 by omega)
            refine qr_iload_n 37 rfl g428 rfl ?_
            refine qr_icmp_ne 52 40 rfl rfl rfl (qrg hs449 (by decide) (by decide)) r2 (fun h450 => ?_) (fun h450 => ?_)
            · skip
              refine qr_iinc _ 55 rfl g429 (by decide) rfl rfl ?_
              refine qr_goto 2 rfl rfl ?_
              exact ih433 _ (u430 + 1) (by omega) (qm_gk g426 (by decide) (Or.inl (by decide))) (qm_gk g427 (by decide) (Or.inl (by decide))) (qm_gk g428 (by decide) (Or.inr rfl)) (qm_ge _ _ _) (by omega)
            · skip
              refine qr_aload_n 41 rfl g426 rfl ?_
              refine qr_get 44 rfl rfl rfl (by decide) rfl ?_
              refine qr_iload_n 45 rfl g429 rfl ?_
              refine qr_iaload 46 rfl rfl (by omega) (by decide) rfl ?_
              refine qr_topI (fun v451 hv451 => ?_)
              have hs452 : 0 ≤ v451 ∧ v451 ≤ 31 := by rw [hv451]; exact hI.2.1 95 _ (show _ < 61 by omega)
              refine qr_iload_n 47 rfl g427 rfl ?_
              refine qr_icmp_ne 52 50 rfl rfl rfl (qrg hs452 (by decide) (by decide)) r1 (fun h453 => ?_) (fun h453 => ?_)
              · skip
                refine qr_iinc _ 55 rfl g429 (by decide) rfl rfl ?_
                refine qr_goto 2 rfl rfl ?_
                exact ih433 _ (u430 + 1) (by omega) (qm_gk g426 (by decide) (Or.inl (by decide))) (qm_gk g427 (by decide) (Or.inl (by decide))) (qm_gk g428 (by decide) (Or.inr rfl)) (qm_ge _ _ _) (by omega)
              · skip
                refine qr_iconst 51 rfl rfl ?_
                refine qr_retZ rfl rfl (Or.inr rfl) (by decide) (by decide) ?_
                exact ⟨rfl, 1, rfl, (by decide)⟩
  exact hL432 ((61 - 0 + 1 : Int)).toNat _ 0 (by omega) rfl rfl rfl rfl (by decide)

set_option maxHeartbeats 4000000 in
set_option maxRecDepth 20000 in
/-- OneRoofModel.isOpen -/
theorem sf_196_86 {L : Nat} {xs : Nat → Int} {vb : Bool} {d : Nat} {σ α : Nat → Nat → Int} {κ : Nat → Option Nat} {ρ : Nat} {x1 : Int} {x2 : Int} (hI : qI σ α κ ρ) (r1 : 0 ≤ x1 ∧ x1 ≤ 39) (r2 : (-2147483648) ≤ x2 ∧ x2 ≤ 2147483647) : qm_T (qe L xs vb) (d + 1) 196 [.ref 86, .int (qz x1), .int (qz x2)] (qw σ α κ ρ) (fun r w' => w' = qw σ α κ ρ ∧ ∃ v : Int, r = some (.int (qz v)) ∧ (0 ≤ v ∧ v ≤ 1)) := by
  refine qr_start (d := d + 0) qv_e196 (Nat.le_of_ble_eq_true rfl) ?_
  show qr_W (qe L xs vb) (d + 0) qx_e196 _ (0, [(0, .ref 86), (1, .int (qz x1)), (2, .int (qz x2))], [], _, 0, 0)
  refine qr_aload_n 1 rfl rfl rfl ?_
  refine qr_get 4 rfl rfl rfl (by decide) rfl ?_
  refine qr_iload_n 5 rfl rfl rfl ?_
  refine qr_iaload 6 rfl rfl (qrgi r1 (by decide) (by decide)) (by decide) rfl ?_
  refine qr_topI (fun v1 hv1 => ?_)
  have hs2 : (-2147483648) ≤ v1 ∧ v1 ≤ 2147483647 := by rw [hv1]; exact hI.2.1 99 _ (show _ < 40 from qrgt r1 (by decide) (by decide))
  refine qr_iload_n 7 rfl rfl rfl ?_
  refine qr_icmp_gt 55 10 rfl rfl rfl hs2 r2 (fun h3 => ?_) (fun h3 => ?_)
  · skip
    refine qr_iconst 56 rfl rfl ?_
    refine qr_retZ rfl rfl (Or.inl rfl) (by decide) (by decide) ?_
    exact ⟨rfl, 0, rfl, (by decide)⟩
  · skip
    refine qr_aload_n 11 rfl rfl rfl ?_
    refine qr_get 14 rfl rfl rfl (by decide) rfl ?_
    refine qr_bipush 16 rfl (by decide) rfl ?_
    refine qr_iload_n 17 rfl rfl rfl ?_
    refine qr_iadd 18 rfl rfl ?_
    refine qr_iaload 19 rfl rfl (by omega) (by decide) rfl ?_
    refine qr_topI (fun v4 hv4 => ?_)
    have hs5 : (-2147483648) ≤ v4 ∧ v4 ≤ 2147483647 := by rw [hv4]; exact hI.2.1 87 _ (show _ < 252 by omega)
    refine qr_sipush 22 rfl (by decide) rfl ?_
    refine qr_icmp_eq 38 25 rfl rfl rfl hs5 (by decide) (fun h6 => ?_) (fun h6 => ?_)
    · skip
      refine qr_aload_n 39 rfl rfl rfl ?_
      refine qr_get 42 rfl rfl rfl (by decide) rfl ?_
      have hs7 : (-9223372036854775808) ≤ σ 86 22 ∧ σ 86 22 ≤ 9223372036854775807 := hI.1 86 22
      refine qr_iload_n 43 rfl rfl rfl ?_
      refine qr_lshr 44 rfl rfl ?_
      refine qy_canl (fun v8 hv8 => ?_)
      refine qr_lconst 45 rfl rfl ?_
      refine qy_vl 1 rfl ?_
      refine qr_land 46 rfl rfl ?_
      refine qy_canl (fun v9 hv9 => ?_)
      refine qr_lconst 47 rfl rfl ?_
      refine qy_vl 0 rfl ?_
      refine qr_lc_ne 55 51 rfl rfl rfl rfl hv9 (by decide) (fun h10 => ?_) (fun h10 => ?_)
      · skip
        refine qr_iconst 56 rfl rfl ?_
        refine qr_retZ rfl rfl (Or.inl rfl) (by decide) (by decide) ?_
        exact ⟨rfl, 0, rfl, (by decide)⟩
      · skip
        refine qr_iconst 52 rfl rfl ?_
        refine qr_goto 56 rfl rfl ?_
        refine qr_retZ rfl rfl (Or.inr rfl) (by decide) (by decide) ?_
        exact ⟨rfl, 1, rfl, (by decide)⟩
    · skip
      refine qr_iload_n 26 rfl rfl rfl ?_
      refine qr_aload_n 27 rfl rfl rfl ?_
      refine qr_get 30 rfl rfl rfl (by decide) rfl ?_
      refine qr_bipush 32 rfl (by decide) rfl ?_
      refine qr_iload_n 33 rfl rfl rfl ?_
      refine qr_iadd 34 rfl rfl ?_
      refine qr_iaload 35 rfl rfl (by omega) (by decide) rfl ?_
      refine qr_topI (fun v11 hv11 => ?_)
      have hs12 : (-2147483648) ≤ v11 ∧ v11 ≤ 2147483647 := by rw [hv11]; exact hI.2.1 87 _ (show _ < 252 by omega)
      refine qr_icmp_ge 55 38 rfl rfl rfl r2 hs12 (fun h13 => ?_) (fun h13 => ?_)
      · skip
        refine qr_iconst 56 rfl rfl ?_
        refine qr_retZ rfl rfl (Or.inl rfl) (by decide) (by decide) ?_
        exact ⟨rfl, 0, rfl, (by decide)⟩
      · skip
        refine qr_aload_n 39 rfl rfl rfl ?_
        refine qr_get 42 rfl rfl rfl (by decide) rfl ?_
        have hs14 : (-9223372036854775808) ≤ σ 86 22 ∧ σ 86 22 ≤ 9223372036854775807 := hI.1 86 22
        refine qr_iload_n 43 rfl rfl rfl ?_
        refine qr_lshr 44 rfl rfl ?_
        refine qy_canl (fun v15 hv15 => ?_)
        refine qr_lconst 45 rfl rfl ?_
        refine qy_vl 1 rfl ?_
        refine qr_land 46 rfl rfl ?_
        refine qy_canl (fun v16 hv16 => ?_)
        refine qr_lconst 47 rfl rfl ?_
        refine qy_vl 0 rfl ?_
        refine qr_lc_ne 55 51 rfl rfl rfl rfl hv16 (by decide) (fun h17 => ?_) (fun h17 => ?_)
        · skip
          refine qr_iconst 56 rfl rfl ?_
          refine qr_retZ rfl rfl (Or.inl rfl) (by decide) (by decide) ?_
          exact ⟨rfl, 0, rfl, (by decide)⟩
        · skip
          refine qr_iconst 52 rfl rfl ?_
          refine qr_goto 56 rfl rfl ?_
          refine qr_retZ rfl rfl (Or.inr rfl) (by decide) (by decide) ?_
          exact ⟨rfl, 1, rfl, (by decide)⟩

set_option maxHeartbeats 4000000 in
set_option maxRecDepth 20000 in
/-- OneRoofModel.kindOf -/
theorem sf_201_86 {L : Nat} {xs : Nat → Int} {vb : Bool} {d : Nat} {σ α : Nat → Nat → Int} {κ : Nat → Option Nat} {ρ : Nat} {x1 : Int} (hI : qI σ α κ ρ) (r1 : 0 ≤ x1 ∧ x1 ≤ 59) : qm_T (qe L xs vb) (d + 1) 201 [.ref 86, .int (qz x1)] (qw σ α κ ρ) (fun r w' => w' = qw σ α κ ρ ∧ ∃ v : Int, r = some (.int (qz v)) ∧ ((-2147483648) ≤ v ∧ v ≤ 2147483647)) := by
  refine qr_start (d := d + 0) qv_e201 (Nat.le_of_ble_eq_true rfl) ?_
  show qr_W (qe L xs vb) (d + 0) qx_e201 _ (0, [(0, .ref 86), (1, .int (qz x1))], [], _, 0, 0)
  refine qr_aload_n 1 rfl rfl rfl ?_
  refine qr_get 4 rfl rfl rfl (by decide) rfl ?_
  refine qr_sipush 7 rfl (by decide) rfl ?_
  refine qr_iload_n 8 rfl rfl rfl ?_
  refine qr_iadd 9 rfl rfl ?_
  refine qr_iaload 10 rfl rfl (by omega) (by decide) rfl ?_
  refine qr_topI (fun v1 hv1 => ?_)
  have hs2 : (-2147483648) ≤ v1 ∧ v1 ≤ 2147483647 := by rw [hv1]; exact hI.2.1 87 _ (show _ < 252 by omega)
  refine qr_retI rfl rfl (by decide) (by decide) ?_
  exact ⟨rfl, v1, rfl, hs2⟩

set_option maxHeartbeats 4000000 in
set_option maxRecDepth 20000 in
/-- OneRoofModel.covers -/
theorem sf_202_86 {L : Nat} {xs : Nat → Int} {vb : Bool} {d : Nat} {σ α : Nat → Nat → Int} {κ : Nat → Option Nat} {ρ : Nat} {x1 : Int} {x2 : Int} (hI : qI σ α κ ρ) (r1 : 0 ≤ x1 ∧ x1 ≤ 59) (r2 : 0 ≤ x2 ∧ x2 ≤ 31) : qm_T (qe L xs vb) (d + 1) 202 [.ref 86, .int (qz x1), .int (qz x2)] (qw σ α κ ρ) (fun r w' => w' = qw σ α κ ρ ∧ ∃ v : Int, r = some (.int (qz v)) ∧ (0 ≤ v ∧ v ≤ 1)) := by
  refine qr_start (d := d + 0) qv_e202 (Nat.le_of_ble_eq_true rfl) ?_
  show qr_W (qe L xs vb) (d + 0) qx_e202 _ (0, [(0, .ref 86), (1, .int (qz x1)), (2, .int (qz x2))], [], _, 0, 0)
  refine qr_aload_n 1 rfl rfl rfl ?_
  refine qr_get 4 rfl rfl rfl (by decide) rfl ?_
  refine qr_bipush 6 rfl (by decide) rfl ?_
  refine qr_iconst 7 rfl rfl ?_
  refine qr_iload_n 8 rfl rfl rfl ?_
  refine qr_imul 9 rfl rfl ?_
  refine qr_iadd 10 rfl rfl ?_
  refine qr_iload_n 11 rfl rfl rfl ?_
  refine qr_bipush 13 rfl (by decide) rfl ?_
  refine qr_idiv 14 rfl (qrg r2 (by decide) (by decide)) (by decide) rfl ?_
  refine qr_iadd 15 rfl rfl ?_
  refine qr_iaload 16 rfl rfl (by omega) (by decide) rfl ?_
  refine qr_topI (fun v1 hv1 => ?_)
  have hs2 : (-2147483648) ≤ v1 ∧ v1 ≤ 2147483647 := by rw [hv1]; exact hI.2.1 87 _ (show _ < 252 by omega)
  refine qr_iload_n 17 rfl rfl rfl ?_
  refine qr_bipush 19 rfl (by decide) rfl ?_
  refine qr_irem 20 rfl (qrg r2 (by decide) (by decide)) (by decide) rfl ?_
  refine qr_ishr 21 rfl rfl ?_
  refine qy_can (fun v3 hv3 => ?_)
  refine qr_iconst 22 rfl rfl ?_
  refine qr_iand 23 rfl rfl ?_
  refine qy_andr (by omega) (fun v4 hv4 => ?_)
  refine qr_iconst 24 rfl rfl ?_
  refine qr_icmp_ne 31 27 rfl rfl rfl (by omega) (by decide) (fun h5 => ?_) (fun h5 => ?_)
  · skip
    refine qr_iconst 32 rfl rfl ?_
    refine qr_retZ rfl rfl (Or.inl rfl) (by decide) (by decide) ?_
    exact ⟨rfl, 0, rfl, (by decide)⟩
  · skip
    refine qr_iconst 28 rfl rfl ?_
    refine qr_goto 32 rfl rfl ?_
    refine qr_retZ rfl rfl (Or.inr rfl) (by decide) (by decide) ?_
    exact ⟨rfl, 1, rfl, (by decide)⟩

set_option maxHeartbeats 4000000 in
set_option maxRecDepth 20000 in
/-- OneRoofModel.ofPeace -/
theorem sf_199_86 {L : Nat} {xs : Nat → Int} {vb : Bool} {d : Nat} {σ α : Nat → Nat → Int} {κ : Nat → Option Nat} {ρ : Nat} {x1 : Int} {x2 : Int} (hI : qI σ α κ ρ) (r1 : (-2147483648) ≤ x1 ∧ x1 ≤ 2147483647) (r2 : (-2147483648) ≤ x2 ∧ x2 ≤ 2147483647) : qm_T (qe L xs vb) (d + 3) 199 [.ref 86, .int (qz x1), .int (qz x2)] (qw σ α κ ρ) (fun r w' => w' = qw σ α κ ρ ∧ ∃ v : Int, r = some (.int (qz v)) ∧ ((-2147483648) ≤ v ∧ v ≤ 2147483647)) := by
  refine qr_start (d := d + 2) qv_e199 (Nat.le_of_ble_eq_true rfl) ?_
  show qr_W (qe L xs vb) (d + 2) qx_e199 _ (0, [(0, .ref 86), (1, .int (qz x1)), (2, .int (qz x2))], [], _, 0, 0)
  refine qr_aload_n 1 rfl rfl rfl ?_
  refine qr_iload_n 2 rfl rfl rfl ?_
  refine qr_callN 5 rfl rfl rfl (sf_200_86 (d := d + 0) hI r1) ?_
  have hs3 : 0 ≤ σ 86 24 ∧ σ 86 24 ≤ 60 := hI.1 86 24
  rintro _ _ ⟨rfl, v1, rfl, hv1, hp2⟩
  show qr_W (qe L xs vb) (d + 2) qx_e199 _ (5, _, [.int (qz v1)], qw σ α κ ρ, 0, 0)
  refine qr_if_ne 10 8 rfl rfl rfl (qrg hv1 (by decide) (by decide)) (fun h4 => ?_) (fun h4 => ?_)
  · skip
    refine qr_iload_n 11 rfl rfl rfl ?_
    have h5 : x2 = 0 ∨ x2 = 1 ∨ x2 = 2 ∨ x2 = 3 ∨ x2 = 4 ∨ x2 = 5 ∨ (x2 < 0 ∨ 5 < x2) := by omega
    rcases h5 with h5 | h5 | h5 | h5 | h5 | h5 | h5
    · skip
      refine qr_tabIn 48 rfl r2 (by rw [h5]; decide) (by rw [h5]; rfl) rfl ?_
      refine qr_aload_n 49 rfl rfl rfl ?_
      refine qr_iload_n 50 rfl rfl rfl ?_
      refine qr_callN 53 rfl rfl rfl (sf_201_86 (d := d + 1) hI (by omega)) ?_
      rintro _ _ ⟨rfl, v7, rfl, hv7⟩
      show qr_W (qe L xs vb) (d + 2) qx_e199 _ (53, _, [.int (qz v7)], qw σ α κ ρ, 0, 0)
      refine qr_retI rfl rfl (by decide) (by decide) ?_
      exact ⟨rfl, v7, rfl, hv7⟩
    · skip
      refine qr_tabIn 54 rfl r2 (by rw [h5]; decide) (by rw [h5]; rfl) rfl ?_
      refine qr_aload_n 55 rfl rfl rfl ?_
      refine qr_get 58 rfl rfl rfl (by decide) rfl ?_
      refine qr_iload_n 59 rfl rfl rfl ?_
      refine qr_iaload 60 rfl rfl (by omega) (by decide) rfl ?_
      refine qr_topI (fun v8 hv8 => ?_)
      have hs9 : 0 ≤ v8 ∧ v8 ≤ 31 := by rw [hv8]; exact hI.2.1 102 _ (show _ < 60 by omega)
      refine qr_retI rfl rfl (by decide) (by decide) ?_
      exact ⟨rfl, v8, rfl, (qrg hs9 (by decide) (by decide))⟩
    · skip
      refine qr_tabIn 61 rfl r2 (by rw [h5]; decide) (by rw [h5]; rfl) rfl ?_
      refine qr_aload_n 62 rfl rfl rfl ?_
      refine qr_get 65 rfl rfl rfl (by decide) rfl ?_
      refine qr_iload_n 66 rfl rfl rfl ?_
      refine qr_iaload 67 rfl rfl (by omega) (by decide) rfl ?_
      refine qr_topI (fun v10 hv10 => ?_)
      have hs11 : (-2147483648) ≤ v10 ∧ v10 ≤ 2147483647 := by rw [hv10]; exact hI.2.1 103 _ (show _ < 60 by omega)
      refine qr_retI rfl rfl (by decide) (by decide) ?_
      exact ⟨rfl, v10, rfl, hs11⟩
    · skip
      refine qr_tabIn 68 rfl r2 (by rw [h5]; decide) (by rw [h5]; rfl) rfl ?_
      refine qr_aload_n 69 rfl rfl rfl ?_
      refine qr_get 72 rfl rfl rfl (by decide) rfl ?_
      refine qr_iload_n 73 rfl rfl rfl ?_
      refine qr_iaload 74 rfl rfl (by omega) (by decide) rfl ?_
      refine qr_topI (fun v12 hv12 => ?_)
      have hs13 : (-2147483648) ≤ v12 ∧ v12 ≤ 2147483647 := by rw [hv12]; exact hI.2.1 104 _ (show _ < 60 by omega)
      refine qr_retI rfl rfl (by decide) (by decide) ?_
      exact ⟨rfl, v12, rfl, hs13⟩
    · skip
      refine qr_tabIn 75 rfl r2 (by rw [h5]; decide) (by rw [h5]; rfl) rfl ?_
      refine qr_aload_n 76 rfl rfl rfl ?_
      refine qr_get 79 rfl rfl rfl (by decide) rfl ?_
      refine qr_iload_n 80 rfl rfl rfl ?_
      refine qr_iaload 81 rfl rfl (by omega) (by decide) rfl ?_
      refine qr_topI (fun v14 hv14 => ?_)
      have hs15 : (-2147483648) ≤ v14 ∧ v14 ≤ 2147483647 := by rw [hv14]; exact hI.2.1 105 _ (show _ < 60 by omega)
      refine qr_retI rfl rfl (by decide) (by decide) ?_
      exact ⟨rfl, v14, rfl, hs15⟩
    · skip
      refine qr_tabIn 82 rfl r2 (by rw [h5]; decide) (by rw [h5]; rfl) rfl ?_
      refine qr_iconst 83 rfl rfl ?_
      refine qr_istore_n _ 84 rfl (by decide) rfl rfl ?_
      refine qr_iconst 85 rfl rfl ?_
      refine qr_istore _ 87 rfl (by decide) rfl rfl ?_
      have hL479 : ∀ (n : Nat) (ls : qm_L) (u474 u476 : Int), 32 - u476 < (n : Int) → qm_get ls 0 = some (.ref 86) → qm_get ls 1 = some (.int (qz x1)) → qm_get ls 3 = some (.int (qz u474)) → qm_get ls 4 = some (.int (qz u476)) → ((-2147483648) ≤ u474 ∧ u474 ≤ 2147483647) → (0 ≤ u476 ∧ u476 ≤ 32) → qr_W (qe L xs vb) (d + 2) qx_e199 (fun r w' => w' = qw σ α κ ρ ∧ ∃ v : Int, r = some (.int (qz v)) ∧ ((-2147483648) ≤ v ∧ v ≤ 2147483647)) (87, ls, [], qw σ α κ ρ, 0, 0) := by
        intro n
        induction n with
        | zero => intro ls u474 u476 hm g471 g472 g473 g475 hf477 hf478; exact False.elim (by omega)
        | succ n ih480 =>
          intro ls u474 u476 hm g471 g472 g473 g475 hf477 hf478
          refine qr_iload 89 rfl g475 rfl ?_
          refine qr_bipush 91 rfl (by decide) rfl ?_
          refine qr_icmp_ge 118 94 rfl rfl rfl (qrg hf478 (by decide) (by decide)) (by decide) (fun h481 => ?_) (fun h481 => ?_)
          · skip
            refine qr_iload_n 119 rfl g473 rfl ?_
            refine qr_retI rfl rfl (by decide) (by decide) ?_
            exact ⟨rfl, u474, rfl, hf477⟩
          · skip
            refine qr_iload_n 95 rfl g473 rfl ?_
            refine qr_aload_n 96 rfl g471 rfl ?_
            refine qr_iload_n 97 rfl g472 rfl ?_
            refine qr_iload 99 rfl g475 rfl ?_
            refine qr_callN 102 rfl rfl rfl (sf_202_86 (d := d + 1) hI (by omega) (by omega)) ?_
            rintro _ _ ⟨rfl, v482, rfl, hv482⟩
            show qr_W (qe L xs vb) (d + 2) qx_e199 _ (102, _, [.int (qz v482), .int (qz u474)], qw σ α κ ρ, 0, 0)
            have hJ488 : ∀ (ls : qm_L) (u486 : Int), qm_get ls 0 = some (.ref 86) → qm_get ls 1 = some (.int (qz x1)) → qm_get ls 4 = some (.int (qz u476)) → (0 ≤ u486 ∧ u486 ≤ 1) → qr_W (qe L xs vb) (d + 2) qx_e199 (fun r w' => w' = qw σ α κ ρ ∧ ∃ v : Int, r = some (.int (qz v)) ∧ ((-2147483648) ≤ v ∧ v ≤ 2147483647)) (110, ls, [.int (qz u486), .int (qz u474)], qw σ α κ ρ, 0, 0) := by
              intro ls u486 g483 g484 g485 hf487
              refine qr_iadd 111 rfl rfl ?_
              refine qy_can (fun v489 hv489 => ?_)
              refine qr_istore_n _ 112 rfl (by decide) rfl rfl ?_
              refine qr_iinc _ 115 rfl (qm_gk g485 (by decide) (Or.inl (by decide))) (by decide) rfl rfl ?_
              refine qr_goto 87 rfl rfl ?_
              exact ih480 _ v489 (u476 + 1) (by omega) (qm_gk (qm_gk g483 (by decide) (Or.inl (by decide))) (by decide) (Or.inl (by decide))) (qm_gk (qm_gk g484 (by decide) (Or.inl (by decide))) (by decide) (Or.inl (by decide))) (qm_gk (qm_ge _ _ _) (by decide) (Or.inr rfl)) (qm_ge _ _ _) hv489 (by omega)
            refine qr_if_eq 109 105 rfl rfl rfl (qrg hv482 (by decide) (by decide)) (fun h490 => ?_) (fun h490 => ?_)
            · skip
              refine qr_iconst 110 rfl rfl ?_
              exact hJ488 _ 0 g471 g472 g475 (by decide)
            · skip
              refine qr_iconst 106 rfl rfl ?_
              refine qr_goto 110 rfl rfl ?_
              exact hJ488 _ 1 g471 g472 g475 (by decide)
      exact hL479 ((32 - 0 + 1 : Int)).toNat _ 0 0 (by omega) rfl rfl rfl rfl (by decide) (by decide)
    · skip
      refine qr_tabOut 120 rfl r2 (by omega) rfl ?_
      refine qr_iconst 121 rfl rfl ?_
      refine qr_retI rfl rfl (by decide) (by decide) ?_
      exact ⟨rfl, (-1), rfl, (by decide)⟩
  · skip
    refine qr_iconst 9 rfl rfl ?_
    refine qr_retI rfl rfl (by decide) (by decide) ?_
    exact ⟨rfl, (-1), rfl, (by decide)⟩

set_option maxHeartbeats 4000000 in
set_option maxRecDepth 20000 in
/-- OneRoofModel.isSet -/
theorem sf_225_86 {L : Nat} {xs : Nat → Int} {vb : Bool} {d : Nat} {σ α : Nat → Nat → Int} {κ : Nat → Option Nat} {ρ : Nat} {x1 : Int} (hI : qI σ α κ ρ) (r1 : (-9223372036854775808) ≤ x1 ∧ x1 ≤ 9223372036854775807) : qm_T (qe L xs vb) (d + 1) 225 [.ref 86, .long (ql x1)] (qw σ α κ ρ) (fun r w' => w' = qw σ α κ ρ ∧ ∃ v : Int, r = some (.int (qz v)) ∧ (0 ≤ v ∧ v ≤ 1)) := by
  refine qr_start (d := d + 0) qv_e225 (Nat.le_of_ble_eq_true rfl) ?_
  show qr_W (qe L xs vb) (d + 0) qx_e225 _ (0, [(0, .ref 86), (1, .long (ql x1))], [], _, 0, 0)
  refine qr_lload_n 1 rfl rfl rfl ?_
  refine qr_lconst 2 rfl rfl ?_
  refine qy_vl 0 rfl ?_
  refine qr_lc_lt 21 6 rfl rfl rfl rfl r1 (by decide) (fun h1 => ?_) (fun h1 => ?_)
  · skip
    refine qr_iconst 22 rfl rfl ?_
    refine qr_retZ rfl rfl (Or.inl rfl) (by decide) (by decide) ?_
    exact ⟨rfl, 0, rfl, (by decide)⟩
  · skip
    refine qr_lload_n 7 rfl rfl rfl ?_
    refine qr_aload_n 8 rfl rfl rfl ?_
    refine qr_get 11 rfl rfl rfl (by decide) rfl ?_
    have hs2 : 0 ≤ σ 86 6 ∧ σ 86 6 ≤ 32 := hI.1 86 6
    refine qr_lshr 12 rfl rfl ?_
    refine qy_canl (fun v3 hv3 => ?_)
    refine qr_lconst 13 rfl rfl ?_
    refine qy_vl 0 rfl ?_
    refine qr_lc_ne 21 17 rfl rfl rfl rfl hv3 (by decide) (fun h4 => ?_) (fun h4 => ?_)
    · skip
      refine qr_iconst 22 rfl rfl ?_
      refine qr_retZ rfl rfl (Or.inl rfl) (by decide) (by decide) ?_
      exact ⟨rfl, 0, rfl, (by decide)⟩
    · skip
      refine qr_iconst 18 rfl rfl ?_
      refine qr_goto 22 rfl rfl ?_
      refine qr_retZ rfl rfl (Or.inr rfl) (by decide) (by decide) ?_
      exact ⟨rfl, 1, rfl, (by decide)⟩

set_option maxHeartbeats 4000000 in
set_option maxRecDepth 20000 in
/-- OneRoofModel.has -/
theorem sf_226 {L : Nat} {xs : Nat → Int} {vb : Bool} {d : Nat} {σ α : Nat → Nat → Int} {κ : Nat → Option Nat} {ρ : Nat} {x0 : Int} {x1 : Int} (hI : qI σ α κ ρ) (r0 : (-9223372036854775808) ≤ x0 ∧ x0 ≤ 9223372036854775807) (r1 : (-2147483648) ≤ x1 ∧ x1 ≤ 2147483647) : qm_T (qe L xs vb) (d + 1) 226 [.long (ql x0), .int (qz x1)] (qw σ α κ ρ) (fun r w' => w' = qw σ α κ ρ ∧ ∃ v : Int, r = some (.int (qz v)) ∧ (0 ≤ v ∧ v ≤ 1)) := by
  refine qr_start (d := d + 0) qv_e226 (Nat.le_of_ble_eq_true rfl) ?_
  show qr_W (qe L xs vb) (d + 0) qx_e226 _ (0, [(0, .long (ql x0)), (2, .int (qz x1))], [], _, 0, 0)
  refine qr_lload_n 1 rfl rfl rfl ?_
  refine qr_iload_n 2 rfl rfl rfl ?_
  refine qr_lshr 3 rfl rfl ?_
  refine qy_canl (fun v1 hv1 => ?_)
  refine qr_lconst 4 rfl rfl ?_
  refine qy_vl 1 rfl ?_
  refine qr_land 5 rfl rfl ?_
  refine qy_canl (fun v2 hv2 => ?_)
  refine qr_lconst 6 rfl rfl ?_
  refine qy_vl 1 rfl ?_
  refine qr_lc_ne 14 10 rfl rfl rfl rfl hv2 (by decide) (fun h3 => ?_) (fun h3 => ?_)
  · skip
    refine qr_iconst 15 rfl rfl ?_
    refine qr_retZ rfl rfl (Or.inl rfl) (by decide) (by decide) ?_
    exact ⟨rfl, 0, rfl, (by decide)⟩
  · skip
    refine qr_iconst 11 rfl rfl ?_
    refine qr_goto 15 rfl rfl ?_
    refine qr_retZ rfl rfl (Or.inr rfl) (by decide) (by decide) ?_
    exact ⟨rfl, 1, rfl, (by decide)⟩

set_option maxHeartbeats 4000000 in
set_option maxRecDepth 20000 in
/-- OneRoofModel.peopleOf -/
theorem sf_237_86 {L : Nat} {xs : Nat → Int} {vb : Bool} {d : Nat} {σ α : Nat → Nat → Int} {κ : Nat → Option Nat} {ρ : Nat} {x1 : Int} (hI : qI σ α κ ρ) (r1 : (-2147483648) ≤ x1 ∧ x1 ≤ 2147483647) : qm_T (qe L xs vb) (d + 1) 237 [.ref 86, .int (qz x1)] (qw σ α κ ρ) (fun r w' => w' = qw σ α κ ρ ∧ ∃ v : Int, r = some (.long (ql v)) ∧ ((-9223372036854775808) ≤ v ∧ v ≤ 9223372036854775807)) := by
  refine qr_start (d := d + 0) qv_e237 (Nat.le_of_ble_eq_true rfl) ?_
  show qr_W (qe L xs vb) (d + 0) qx_e237 _ (0, [(0, .ref 86), (1, .int (qz x1))], [], _, 0, 0)
  refine qr_lconst 1 rfl rfl ?_
  refine qy_vl 0 rfl ?_
  refine qr_lstore_n _ 2 rfl (by decide) rfl rfl ?_
  refine qr_iconst 3 rfl rfl ?_
  refine qr_istore _ 5 rfl (by decide) rfl rfl ?_
  have hL279 : ∀ (n : Nat) (ls : qm_L) (u274 u276 : Int), 32 - u276 < (n : Int) → qm_get ls 0 = some (.ref 86) → qm_get ls 1 = some (.int (qz x1)) → qm_get ls 2 = some (.long (ql u274)) → qm_get ls 4 = some (.int (qz u276)) → ((-9223372036854775808) ≤ u274 ∧ u274 ≤ 9223372036854775807) → (0 ≤ u276 ∧ u276 ≤ 32) → qr_W (qe L xs vb) (d + 0) qx_e237 (fun r w' => w' = qw σ α κ ρ ∧ ∃ v : Int, r = some (.long (ql v)) ∧ ((-9223372036854775808) ≤ v ∧ v ≤ 9223372036854775807)) (5, ls, [], qw σ α κ ρ, 0, 0) := by
    intro n
    induction n with
    | zero => intro ls u274 u276 hm g271 g272 g273 g275 hf277 hf278; exact False.elim (by omega)
    | succ n ih280 =>
      intro ls u274 u276 hm g271 g272 g273 g275 hf277 hf278
      refine qr_iload 7 rfl g275 rfl ?_
      refine qr_aload_n 8 rfl g271 rfl ?_
      refine qr_get 11 rfl rfl rfl (by decide) rfl ?_
      have hs281 : 0 ≤ σ 86 43 ∧ σ 86 43 ≤ 32 := hI.1 86 43
      refine qr_icmp_ge 46 14 rfl rfl rfl (qrg hf278 (by decide) (by decide)) (qrg hs281 (by decide) (by decide)) (fun h282 => ?_) (fun h282 => ?_)
      · skip
        refine qr_lload_n 47 rfl g273 rfl ?_
        refine qr_retL rfl rfl (by decide) (by decide) ?_
        exact ⟨rfl, u274, rfl, hf277⟩
      · skip
        refine qr_lload_n 15 rfl g273 rfl ?_
        refine qr_iload_n 16 rfl g272 rfl ?_
        refine qr_iload 18 rfl g275 rfl ?_
        refine qr_ishr 19 rfl rfl ?_
        refine qy_can (fun v283 hv283 => ?_)
        refine qr_iconst 20 rfl rfl ?_
        refine qr_iand 21 rfl rfl ?_
        refine qy_andr (by omega) (fun v284 hv284 => ?_)
        refine qr_iconst 22 rfl rfl ?_
        have hJ293 : ∀ (ls : qm_L) (u291 : Int), qm_get ls 0 = some (.ref 86) → qm_get ls 1 = some (.int (qz x1)) → qm_get ls 4 = some (.int (qz u276)) → ((-9223372036854775808) ≤ u291 ∧ u291 ≤ 9223372036854775807) → qr_W (qe L xs vb) (d + 0) qx_e237 (fun r w' => w' = qw σ α κ ρ ∧ ∃ v : Int, r = some (.long (ql v)) ∧ ((-9223372036854775808) ≤ v ∧ v ≤ 9223372036854775807)) (38, ls, [.long (ql u291), .long (ql u274)], qw σ α κ ρ, 0, 0) := by
          intro ls u291 g288 g289 g290 hf292
          refine qr_lor 39 rfl rfl ?_
          refine qy_canl (fun v294 hv294 => ?_)
          refine qr_lstore_n _ 40 rfl (by decide) rfl rfl ?_
          refine qr_iinc _ 43 rfl (qm_gk2 g290 (by decide) (by decide) (Or.inl (by decide))) (by decide) rfl rfl ?_
          refine qr_goto 5 rfl rfl ?_
          exact ih280 _ v294 (u276 + 1) (by omega) (qm_gk (qm_gk2 g288 (by decide) (by decide) (Or.inl (by decide))) (by decide) (Or.inl (by decide))) (qm_gk (qm_gk2 g289 (by decide) (by decide) (Or.inr rfl)) (by decide) (Or.inl (by decide))) (qm_gk (qm_ge2 _ _ _) (by decide) (Or.inl (by decide))) (qm_ge _ _ _) hv294 (by omega)
        refine qr_icmp_ne 37 25 rfl rfl rfl (by omega) (by decide) (fun h295 => ?_) (fun h295 => ?_)
        · skip
          refine qr_lconst 38 rfl rfl ?_
          refine qy_vl 0 rfl ?_
          exact hJ293 _ 0 g271 g272 g275 (by decide)
        · skip
          refine qr_lconst 26 rfl rfl ?_
          refine qy_vl 1 rfl ?_
          refine qr_aload_n 27 rfl g271 rfl ?_
          refine qr_get 30 rfl rfl rfl (by decide) rfl ?_
          refine qr_iload 32 rfl g275 rfl ?_
          refine qr_iaload 33 rfl rfl (by omega) (by decide) rfl ?_
          refine qr_topI (fun v296 hv296 => ?_)
          have hs297 : 0 ≤ v296 ∧ v296 ≤ 31 := by rw [hv296]; exact hI.2.1 110 _ (show _ < 32 by omega)
          refine qr_lshl 34 rfl rfl ?_
          refine qy_canl (fun v298 hv298 => ?_)
          refine qr_goto 38 rfl rfl ?_
          exact hJ293 _ v298 g271 g272 g275 hv298
  exact hL279 ((32 - 0 + 1 : Int)).toNat _ 0 0 (by omega) rfl rfl rfl rfl (by decide) (by decide)

set_option maxHeartbeats 4000000 in
set_option maxRecDepth 20000 in
/-- OneRoofModel.trace -/
theorem sf_261_86 {L : Nat} {xs : Nat → Int} {vb : Bool} {d : Nat} {σ α : Nat → Nat → Int} {κ : Nat → Option Nat} {ρ : Nat} {x1 : Int} (hI : qI σ α κ ρ) (r1 : (-2147483648) ≤ x1 ∧ x1 ≤ 2147483647) : qm_T (qe L xs vb) (d + 1) 261 [.ref 86, .int (qz x1)] (qw σ α κ ρ) (fun r w' => w' = qw σ α κ ρ ∧ ∃ v : Int, r = some (.int (qz v)) ∧ ((-2147483648) ≤ v ∧ v ≤ 2147483647)) := by
  refine qr_start (d := d + 0) qv_e261 (Nat.le_of_ble_eq_true rfl) ?_
  show qr_W (qe L xs vb) (d + 0) qx_e261 _ (0, [(0, .ref 86), (1, .int (qz x1))], [], _, 0, 0)
  refine qr_iload_n 1 rfl rfl rfl ?_
  refine qr_if_lt 27 4 rfl rfl rfl r1 (fun h1 => ?_) (fun h1 => ?_)
  · skip
    refine qr_iconst 28 rfl rfl ?_
    refine qr_retI rfl rfl (by decide) (by decide) ?_
    exact ⟨rfl, (-1), rfl, (by decide)⟩
  · skip
    refine qr_iload_n 5 rfl rfl rfl ?_
    refine qr_aload_n 6 rfl rfl rfl ?_
    refine qr_get 9 rfl rfl rfl (by decide) rfl ?_
    have hs2 : (-2147483648) ≤ σ 86 56 ∧ σ 86 56 ≤ 2147483647 := hI.1 86 56
    refine qr_icmp_ge 27 12 rfl rfl rfl r1 hs2 (fun h3 => ?_) (fun h3 => ?_)
    · skip
      refine qr_iconst 28 rfl rfl ?_
      refine qr_retI rfl rfl (by decide) (by decide) ?_
      exact ⟨rfl, (-1), rfl, (by decide)⟩
    · skip
      refine qr_iload_n 13 rfl rfl rfl ?_
      refine qr_bipush 15 rfl (by decide) rfl ?_
      refine qr_icmp_ge 27 18 rfl rfl rfl r1 (by decide) (fun h4 => ?_) (fun h4 => ?_)
      · skip
        refine qr_iconst 28 rfl rfl ?_
        refine qr_retI rfl rfl (by decide) (by decide) ?_
        exact ⟨rfl, (-1), rfl, (by decide)⟩
      · skip
        refine qr_aload_n 19 rfl rfl rfl ?_
        refine qr_get 22 rfl rfl rfl (by decide) rfl ?_
        refine qr_iload_n 23 rfl rfl rfl ?_
        refine qr_iaload 24 rfl rfl (by omega) (by decide) rfl ?_
        refine qr_topI (fun v5 hv5 => ?_)
        have hs6 : (-2147483648) ≤ v5 ∧ v5 ≤ 2147483647 := by rw [hv5]; exact hI.2.1 120 _ (show _ < 24 by omega)
        refine qr_goto 28 rfl rfl ?_
        refine qr_retI rfl rfl (by decide) (by decide) ?_
        exact ⟨rfl, v5, rfl, hs6⟩

set_option maxHeartbeats 4000000 in
set_option maxRecDepth 20000 in
/-- OneRoofModel.above -/
theorem sf_270 {L : Nat} {xs : Nat → Int} {vb : Bool} {d : Nat} {σ α : Nat → Nat → Int} {κ : Nat → Option Nat} {ρ : Nat} {x0 : Int} (hI : qI σ α κ ρ) (r0 : (-2147483648) ≤ x0 ∧ x0 ≤ 2147483647) : qm_T (qe L xs vb) (d + 1) 270 [.int (qz x0)] (qw σ α κ ρ) (fun r w' => w' = qw σ α κ ρ ∧ ∃ v : Int, r = some (.int (qz v)) ∧ ((-2147483648) ≤ v ∧ v ≤ 2147483647) ∧ (v = 0 ∨ (x0 = 2 ∧ v = 1) ∨ (x0 = 5 ∧ v = 4))) := by
  refine qr_start (d := d + 0) qv_e270 (Nat.le_of_ble_eq_true rfl) ?_
  show qr_W (qe L xs vb) (d + 0) qx_e270 _ (0, [(0, .int (qz x0))], [], _, 0, 0)
  refine qr_iload_n 1 rfl rfl rfl ?_
  refine qr_iconst 2 rfl rfl ?_
  refine qr_icmp_ne 9 5 rfl rfl rfl r0 (by decide) (fun h1 => ?_) (fun h1 => ?_)
  · skip
    refine qr_iload_n 10 rfl rfl rfl ?_
    refine qr_iconst 11 rfl rfl ?_
    refine qr_icmp_ne 18 14 rfl rfl rfl r0 (by decide) (fun h2 => ?_) (fun h2 => ?_)
    · skip
      refine qr_iconst 19 rfl rfl ?_
      refine qr_retI rfl rfl (by decide) (by decide) ?_
      exact ⟨rfl, 0, rfl, (by decide), by omega⟩
    · skip
      refine qr_iconst 15 rfl rfl ?_
      refine qr_goto 19 rfl rfl ?_
      refine qr_retI rfl rfl (by decide) (by decide) ?_
      exact ⟨rfl, 4, rfl, (by decide), by omega⟩
  · skip
    refine qr_iconst 6 rfl rfl ?_
    refine qr_goto 19 rfl rfl ?_
    refine qr_retI rfl rfl (by decide) (by decide) ?_
    exact ⟨rfl, 1, rfl, (by decide), by omega⟩

set_option maxHeartbeats 4000000 in
set_option maxRecDepth 20000 in
/-- OneRoofModel.taken -/
theorem sf_269_86 {L : Nat} {xs : Nat → Int} {vb : Bool} {d : Nat} {σ α : Nat → Nat → Int} {κ : Nat → Option Nat} {ρ : Nat} {x1 : Int} {x2 : Int} (hI : qI σ α κ ρ) (r1 : (-2147483648) ≤ x1 ∧ x1 ≤ 2147483647) (r2 : (-2147483648) ≤ x2 ∧ x2 ≤ 2147483647) : qm_T (qe L xs vb) (d + 3) 269 [.ref 86, .int (qz x1), .int (qz x2)] (qw σ α κ ρ) (fun r w' => w' = qw σ α κ ρ ∧ ∃ v : Int, r = some (.int (qz v)) ∧ ((-2147483648) ≤ v ∧ v ≤ 2147483647)) := by
  refine qr_start (d := d + 2) qv_e269 (Nat.le_of_ble_eq_true rfl) ?_
  show qr_W (qe L xs vb) (d + 2) qx_e269 _ (0, [(0, .ref 86), (1, .int (qz x1)), (2, .int (qz x2))], [], _, 0, 0)
  refine qr_iload_n 1 rfl rfl rfl ?_
  refine qr_callN 4 rfl rfl rfl (sf_178 (d := d + 0) hI r1) ?_
  rintro _ _ ⟨rfl, v1, rfl, hv1, hp2⟩
  show qr_W (qe L xs vb) (d + 2) qx_e269 _ (4, _, [.int (qz v1)], qw σ α κ ρ, 0, 0)
  refine qr_if_eq 19 7 rfl rfl rfl (qrg hv1 (by decide) (by decide)) (fun h3 => ?_) (fun h3 => ?_)
  · skip
    refine qr_iconst 20 rfl rfl ?_
    refine qr_retI rfl rfl (by decide) (by decide) ?_
    exact ⟨rfl, (-1), rfl, (by decide)⟩
  · skip
    refine qr_iload_n 8 rfl rfl rfl ?_
    refine qr_i2l 9 rfl r2 rfl ?_
    refine qr_lconst 10 rfl rfl ?_
    refine qy_vl 0 rfl ?_
    refine qr_ldc2 6 13 rfl (by decide) rfl ?_
    refine qr_callN 16 rfl rfl rfl (sf_176 (d := d + 1) hI (qrg r2 (by decide) (by decide)) (by decide) (by decide)) ?_
    rintro _ _ ⟨rfl, v4, rfl, hv4, hp5⟩
    show qr_W (qe L xs vb) (d + 2) qx_e269 _ (16, _, [.int (qz v4)], qw σ α κ ρ, 0, 0)
    refine qr_if_ne 21 19 rfl rfl rfl (qrg hv4 (by decide) (by decide)) (fun h6 => ?_) (fun h6 => ?_)
    · skip
      refine qr_aload_n 22 rfl rfl rfl ?_
      refine qr_get 25 rfl rfl rfl (by decide) rfl ?_
      refine qr_iload_n 26 rfl rfl rfl ?_
      refine qr_iaload 27 rfl rfl (by omega) (by decide) rfl ?_
      refine qr_topI (fun v7 hv7 => ?_)
      have hs8 : (-1) ≤ v7 ∧ v7 ≤ 64 := by rw [hv7]; exact hI.2.1 121 _ (show _ < 6 by omega)
      refine qr_if_ge 33 30 rfl rfl rfl (qrg hs8 (by decide) (by decide)) (fun h9 => ?_) (fun h9 => ?_)
      · skip
        refine qr_aload_n 34 rfl rfl rfl ?_
        refine qr_get 37 rfl rfl rfl (by decide) rfl ?_
        refine qr_iload_n 38 rfl rfl rfl ?_
        refine qr_iaload 39 rfl rfl (by omega) (by decide) rfl ?_
        refine qr_topI (fun v10 hv10 => ?_)
        have hs11 : (-1) ≤ v10 ∧ v10 ≤ 64 := by rw [hv10]; exact hI.2.1 121 _ (show _ < 6 by omega)
        refine qr_bipush 41 rfl (by decide) rfl ?_
        refine qr_icmp_lt 47 44 rfl rfl rfl (qrg hs11 (by decide) (by decide)) (by decide) (fun h12 => ?_) (fun h12 => ?_)
        · skip
          refine qr_aload_n 48 rfl rfl rfl ?_
          refine qr_aload_n 49 rfl rfl rfl ?_
          refine qr_get 52 rfl rfl rfl (by decide) rfl ?_
          refine qr_iload_n 53 rfl rfl rfl ?_
          refine qr_iaload 54 rfl rfl (by omega) (by decide) rfl ?_
          refine qr_topI (fun v13 hv13 => ?_)
          have hs14 : (-1) ≤ v13 ∧ v13 ≤ 64 := by rw [hv13]; exact hI.2.1 121 _ (show _ < 6 by omega)
          refine qr_callN 57 rfl rfl rfl (sf_201_86 (d := d + 1) hI (by omega)) ?_
          rintro _ _ ⟨rfl, v15, rfl, hv15⟩
          show qr_W (qe L xs vb) (d + 2) qx_e269 _ (57, _, [.int (qz v15)], qw σ α κ ρ, 0, 0)
          refine qr_istore_n _ 58 rfl (by decide) rfl rfl ?_
          have hL86 : ∀ (n : Nat) (ls : qm_L) (u84 : Int), (u84.toNat : Int) < (n : Int) → qm_get ls 0 = some (.ref 86) → qm_get ls 1 = some (.int (qz x1)) → qm_get ls 2 = some (.int (qz x2)) → qm_get ls 3 = some (.int (qz u84)) → ((-2147483648) ≤ u84 ∧ u84 ≤ 2147483647) → qr_W (qe L xs vb) (d + 2) qx_e269 (fun r w' => w' = qw σ α κ ρ ∧ ∃ v : Int, r = some (.int (qz v)) ∧ ((-2147483648) ≤ v ∧ v ≤ 2147483647)) (58, ls, [], qw σ α κ ρ, 0, 0) := by
            intro n
            induction n with
            | zero => intro ls u84 hm g80 g81 g82 g83 hf85; exact False.elim (by omega)
            | succ n ih87 =>
              intro ls u84 hm g80 g81 g82 g83 hf85
              refine qr_iload_n 59 rfl g83 rfl ?_
              refine qr_iload_n 60 rfl g82 rfl ?_
              have hJ96 : ∀ (ls : qm_L) (u94 : Int), qm_get ls 0 = some (.ref 86) → qm_get ls 1 = some (.int (qz x1)) → qm_get ls 2 = some (.int (qz x2)) → qm_get ls 3 = some (.int (qz u94)) → ((-2147483648) ≤ u94 ∧ u94 ≤ 6) → qr_W (qe L xs vb) (d + 2) qx_e269 (fun r w' => w' = qw σ α κ ρ ∧ ∃ v : Int, r = some (.int (qz v)) ∧ ((-2147483648) ≤ v ∧ v ≤ 2147483647)) (75, ls, [], qw σ α κ ρ, 0, 0) := by
                intro ls u94 g90 g91 g92 g93 hf95
                refine qr_iload_n 76 rfl g93 rfl ?_
                refine qr_iload_n 77 rfl g92 rfl ?_
                refine qr_icmp_ne 93 80 rfl rfl rfl (qrg hf95 (by decide) (by decide)) r2 (fun h97 => ?_) (fun h97 => ?_)
                · skip
                  refine qr_bipush 95 rfl (by decide) rfl ?_
                  refine qr_retI rfl rfl (by decide) (by decide) ?_
                  exact ⟨rfl, (-12), rfl, (by decide)⟩
                · skip
                  refine qr_aload_n 81 rfl g90 rfl ?_
                  refine qr_aload_n 82 rfl g90 rfl ?_
                  refine qr_get 85 rfl rfl rfl (by decide) rfl ?_
                  refine qr_iload_n 86 rfl g91 rfl ?_
                  refine qr_iaload 87 rfl rfl (by omega) (by decide) rfl ?_
                  refine qr_topI (fun v98 hv98 => ?_)
                  have hs99 : (-1) ≤ v98 ∧ v98 ≤ 64 := by rw [hv98]; exact hI.2.1 121 _ (show _ < 6 by omega)
                  refine qr_callN 90 rfl rfl rfl (sf_201_86 (d := d + 1) hI (by omega)) ?_
                  rintro _ _ ⟨rfl, v100, rfl, hv100⟩
                  show qr_W (qe L xs vb) (d + 2) qx_e269 _ (90, _, [.int (qz v100)], qw σ α κ ρ, 0, 0)
                  refine qr_goto 95 rfl rfl ?_
                  refine qr_retI rfl rfl (by decide) (by decide) ?_
                  exact ⟨rfl, v100, rfl, hv100⟩
              refine qr_icmp_eq 75 63 rfl rfl rfl hf85 r2 (fun h101 => ?_) (fun h101 => ?_)
              · skip
                exact hJ96 _ u84 g80 g81 g82 g83 (by omega)
              · skip
                refine qr_iload_n 64 rfl g83 rfl ?_
                refine qr_if_le 75 67 rfl rfl rfl hf85 (fun h102 => ?_) (fun h102 => ?_)
                · skip
                  exact hJ96 _ u84 g80 g81 g82 g83 (by omega)
                · skip
                  refine qr_iload_n 68 rfl g83 rfl ?_
                  refine qr_callN 71 rfl rfl rfl (sf_270 (d := d + 1) hI hf85) ?_
                  rintro _ _ ⟨rfl, v103, rfl, hv103, hp104⟩
                  show qr_W (qe L xs vb) (d + 2) qx_e269 _ (71, _, [.int (qz v103)], qw σ α κ ρ, 0, 0)
                  refine qr_istore_n _ 72 rfl (by decide) rfl rfl ?_
                  refine qr_goto 58 rfl rfl ?_
                  exact ih87 _ v103 (by omega) (qm_gk g80 (by decide) (Or.inl (by decide))) (qm_gk g81 (by decide) (Or.inl (by decide))) (qm_gk g82 (by decide) (Or.inr rfl)) (qm_ge _ _ _) hv103
          exact hL86 (((v15.toNat : Int) + 1 : Int)).toNat _ v15 (by omega) rfl rfl rfl rfl hv15
        · skip
          refine qr_bipush 46 rfl (by decide) rfl ?_
          refine qr_retI rfl rfl (by decide) (by decide) ?_
          exact ⟨rfl, (-12), rfl, (by decide)⟩
      · skip
        refine qr_bipush 32 rfl (by decide) rfl ?_
        refine qr_retI rfl rfl (by decide) (by decide) ?_
        exact ⟨rfl, (-11), rfl, (by decide)⟩
    · skip
      refine qr_iconst 20 rfl rfl ?_
      refine qr_retI rfl rfl (by decide) (by decide) ?_
      exact ⟨rfl, (-1), rfl, (by decide)⟩

set_option maxHeartbeats 4000000 in
set_option maxRecDepth 20000 in
/-- OneRoofModel.blow -/
theorem sf_250_86 {L : Nat} {xs : Nat → Int} {vb : Bool} {d : Nat} {σ α : Nat → Nat → Int} {κ : Nat → Option Nat} {ρ : Nat} {x1 : Int} (hI : qI σ α κ ρ) (r1 : (-2147483648) ≤ x1 ∧ x1 ≤ 2147483647) : qm_T (qe L xs vb) (d + 1) 250 [.ref 86, .int (qz x1)] (qw σ α κ ρ) (fun r w' => w' = qw σ α κ ρ ∧ ∃ v : Int, r = some (.int (qz v)) ∧ ((-2147483648) ≤ v ∧ v ≤ 2147483647)) := by
  refine qr_start (d := d + 0) qv_e250 (Nat.le_of_ble_eq_true rfl) ?_
  show qr_W (qe L xs vb) (d + 0) qx_e250 _ (0, [(0, .ref 86), (1, .int (qz x1))], [], _, 0, 0)
  refine qr_iload_n 1 rfl rfl rfl ?_
  refine qr_if_lt 31 4 rfl rfl rfl r1 (fun h1 => ?_) (fun h1 => ?_)
  · skip
    refine qr_iconst 32 rfl rfl ?_
    refine qr_retI rfl rfl (by decide) (by decide) ?_
    exact ⟨rfl, (-1), rfl, (by decide)⟩
  · skip
    refine qr_iload_n 5 rfl rfl rfl ?_
    refine qr_aload_n 6 rfl rfl rfl ?_
    refine qr_get 9 rfl rfl rfl (by decide) rfl ?_
    have hs2 : 0 ≤ σ 86 50 ∧ σ 86 50 ≤ 31 := hI.1 86 50
    refine qr_icmp_ge 31 12 rfl rfl rfl r1 (qrg hs2 (by decide) (by decide)) (fun h3 => ?_) (fun h3 => ?_)
    · skip
      refine qr_iconst 32 rfl rfl ?_
      refine qr_retI rfl rfl (by decide) (by decide) ?_
      exact ⟨rfl, (-1), rfl, (by decide)⟩
    · skip
      refine qr_bipush 14 rfl (by decide) rfl ?_
      refine qr_aload_n 15 rfl rfl rfl ?_
      refine qr_get 18 rfl rfl rfl (by decide) rfl ?_
      refine qr_iload_n 19 rfl rfl rfl ?_
      refine qr_iaload 20 rfl rfl (by omega) (by decide) rfl ?_
      refine qr_topI (fun v4 hv4 => ?_)
      have hs5 : 0 ≤ v4 ∧ v4 ≤ 31 := by rw [hv4]; exact hI.2.1 115 _ (show _ < 31 by omega)
      refine qr_imul 21 rfl rfl ?_
      refine qr_aload_n 22 rfl rfl rfl ?_
      refine qr_get 25 rfl rfl rfl (by decide) rfl ?_
      refine qr_iload_n 26 rfl rfl rfl ?_
      refine qr_iaload 27 rfl rfl (by omega) (by decide) rfl ?_
      refine qr_topI (fun v6 hv6 => ?_)
      have hs7 : 0 ≤ v6 ∧ v6 ≤ 31 := by rw [hv6]; exact hI.2.1 116 _ (show _ < 31 by omega)
      refine qr_iadd 28 rfl rfl ?_
      refine qr_goto 32 rfl rfl ?_
      refine qr_retI rfl rfl (by decide) (by decide) ?_
      exact ⟨rfl, ((100 * v4) + v6), rfl, (by omega)⟩

set_option maxHeartbeats 4000000 in
set_option maxRecDepth 20000 in
/-- OneRoofModel.alive -/
theorem sf_251_86 {L : Nat} {xs : Nat → Int} {vb : Bool} {d : Nat} {σ α : Nat → Nat → Int} {κ : Nat → Option Nat} {ρ : Nat}  (hI : qI σ α κ ρ)  : qm_T (qe L xs vb) (d + 1) 251 [.ref 86] (qw σ α κ ρ) (fun r w' => w' = qw σ α κ ρ ∧ ∃ v : Int, r = some (.long (ql v)) ∧ ((-9223372036854775808) ≤ v ∧ v ≤ 9223372036854775807)) := by
  refine qr_start (d := d + 0) qv_e251 (Nat.le_of_ble_eq_true rfl) ?_
  show qr_W (qe L xs vb) (d + 0) qx_e251 _ (0, [(0, .ref 86)], [], _, 0, 0)
  refine qr_aload_n 1 rfl rfl rfl ?_
  refine qr_get 4 rfl rfl rfl (by decide) rfl ?_
  have hs1 : (-9223372036854775808) ≤ σ 86 51 ∧ σ 86 51 ≤ 9223372036854775807 := hI.1 86 51
  refine qr_retL rfl rfl (by decide) (by decide) ?_
  exact ⟨rfl, (σ 86 51), rfl, hs1⟩
end
section
set_option maxHeartbeats 4000000 in
set_option maxRecDepth 20000 in
/-- OneRoofModel.isLordOf -/
theorem sf_207_86 {L : Nat} {xs : Nat → Int} {vb : Bool} {d : Nat} {σ α : Nat → Nat → Int} {κ : Nat → Option Nat} {ρ : Nat} {x1 : Int} {x2 : Int} (hI : qI σ α κ ρ) (r1 : (-2147483648) ≤ x1 ∧ x1 ≤ 2147483647) (r2 : 0 ≤ x2 ∧ x2 ≤ 31) (p0 : 1 ≤ σ 86 6) : qm_T (qe L xs vb) (d + 1) 207 [.ref 86, .int (qz x1), .int (qz x2)] (qw σ α κ ρ) (fun r w' => w' = qw σ α κ ρ ∧ ∃ v : Int, r = some (.int (qz v)) ∧ (0 ≤ v ∧ v ≤ 1)) := by
  refine qr_start (d := d + 0) qv_e207 (Nat.le_of_ble_eq_true rfl) ?_
  show qr_W (qe L xs vb) (d + 0) qx_e207 _ (0, [(0, .ref 86), (1, .int (qz x1)), (2, .int (qz x2))], [], _, 0, 0)
  have hz86_6 : 0 ≤ σ 86 6 ∧ σ 86 6 ≤ 32 := hI.1 86 6
  refine qr_aload_n 1 rfl rfl rfl ?_
  refine qr_get 4 rfl rfl rfl (by decide) rfl ?_
  refine qr_iload_n 5 rfl rfl rfl ?_
  refine qr_iaload 6 rfl rfl (qrgi r2 (by decide) (by decide)) (by decide) rfl ?_
  refine qr_topI (fun v1 hv1 => ?_)
  have hs2 : (-1) ≤ v1 ∧ v1 ≤ 31 := by rw [hv1]; exact hI.2.1 91 _ (show _ < 32 from qrgt r2 (by decide) (by decide))
  have hs3 := hI.2.2.2.2.2.2.1 (x2 : Int).toNat (by omega)
  refine qr_istore_n _ 7 rfl (by decide) rfl rfl ?_
  have hL37 : ∀ (n : Nat) (ls : qm_L) (u35 : Int), u35 + 1 < (n : Int) → qm_get ls 0 = some (.ref 86) → qm_get ls 1 = some (.int (qz x1)) → qm_get ls 3 = some (.int (qz u35)) → ((-1) ≤ u35 ∧ u35 ≤ 31) → qr_W (qe L xs vb) (d + 0) qx_e207 (fun r w' => w' = qw σ α κ ρ ∧ ∃ v : Int, r = some (.int (qz v)) ∧ (0 ≤ v ∧ v ≤ 1)) (7, ls, [], qw σ α κ ρ, 0, 0) := by
    intro n
    induction n with
    | zero => intro ls u35 hm g32 g33 g34 hf36; exact False.elim (by omega)
    | succ n ih38 =>
      intro ls u35 hm g32 g33 g34 hf36
      refine qr_iload_n 8 rfl g34 rfl ?_
      refine qr_if_lt 28 11 rfl rfl rfl (qrg hf36 (by decide) (by decide)) (fun h39 => ?_) (fun h39 => ?_)
      · skip
        refine qr_iconst 29 rfl rfl ?_
        refine qr_retZ rfl rfl (Or.inl rfl) (by decide) (by decide) ?_
        exact ⟨rfl, 0, rfl, (by decide)⟩
      · skip
        refine qr_iload_n 12 rfl g34 rfl ?_
        refine qr_iload_n 13 rfl g33 rfl ?_
        refine qr_icmp_ne 18 16 rfl rfl rfl (qrg hf36 (by decide) (by decide)) r1 (fun h40 => ?_) (fun h40 => ?_)
        · skip
          refine qr_aload_n 19 rfl g32 rfl ?_
          refine qr_get 22 rfl rfl rfl (by decide) rfl ?_
          refine qr_iload_n 23 rfl g34 rfl ?_
          refine qr_iaload 24 rfl rfl (by omega) (by decide) rfl ?_
          refine qr_topI (fun v41 hv41 => ?_)
          have hs42 : (-1) ≤ v41 ∧ v41 ≤ 31 := by rw [hv41]; exact hI.2.1 91 _ (show _ < 32 from qrgt hf36 (by decide) (by decide))
          have hs43 := hI.2.2.2.2.2.2.1 (u35 : Int).toNat (by omega)
          refine qr_istore_n _ 25 rfl (by decide) rfl rfl ?_
          refine qr_goto 7 rfl rfl ?_
          exact ih38 _ v41 (by omega) (qm_gk g32 (by decide) (Or.inl (by decide))) (qm_gk g33 (by decide) (Or.inl (by decide))) (qm_ge _ _ _) hs42
        · skip
          refine qr_iconst 17 rfl rfl ?_
          refine qr_retZ rfl rfl (Or.inr rfl) (by decide) (by decide) ?_
          exact ⟨rfl, 1, rfl, (by decide)⟩
  exact hL37 ((v1 + 1 + 1 : Int)).toNat _ v1 (by omega) rfl rfl rfl hs2

set_option maxHeartbeats 4000000 in
set_option maxRecDepth 20000 in
/-- OneRoofModel.isUnderGiver -/
theorem sf_206_86 {L : Nat} {xs : Nat → Int} {vb : Bool} {d : Nat} {σ α : Nat → Nat → Int} {κ : Nat → Option Nat} {ρ : Nat} {x1 : Int} {x2 : Int} (hI : qI σ α κ ρ) (r1 : 0 ≤ x1 ∧ x1 ≤ 59) (r2 : 0 ≤ x2 ∧ x2 ≤ 31) (p0 : 1 ≤ σ 86 6) : qm_T (qe L xs vb) (d + 2) 206 [.ref 86, .int (qz x1), .int (qz x2)] (qw σ α κ ρ) (fun r w' => w' = qw σ α κ ρ ∧ ∃ v : Int, r = some (.int (qz v)) ∧ (0 ≤ v ∧ v ≤ 1)) := by
  refine qr_start (d := d + 1) qv_e206 (Nat.le_of_ble_eq_true rfl) ?_
  show qr_W (qe L xs vb) (d + 1) qx_e206 _ (0, [(0, .ref 86), (1, .int (qz x1)), (2, .int (qz x2))], [], _, 0, 0)
  have hz86_6 : 0 ≤ σ 86 6 ∧ σ 86 6 ≤ 32 := hI.1 86 6
  refine qr_iload_n 1 rfl rfl rfl ?_
  refine qr_aload_n 2 rfl rfl rfl ?_
  refine qr_get 5 rfl rfl rfl (by decide) rfl ?_
  refine qr_iload_n 6 rfl rfl rfl ?_
  refine qr_iaload 7 rfl rfl (qrgi r1 (by decide) (by decide)) (by decide) rfl ?_
  refine qr_topI (fun v1 hv1 => ?_)
  have hs2 : 0 ≤ v1 ∧ v1 ≤ 31 := by rw [hv1]; exact hI.2.1 102 _ (show _ < 60 from qrgt r1 (by decide) (by decide))
  refine qr_icmp_eq 24 10 rfl rfl rfl (qrg r2 (by decide) (by decide)) (qrg hs2 (by decide) (by decide)) (fun h3 => ?_) (fun h3 => ?_)
  · skip
    refine qr_iconst 25 rfl rfl ?_
    refine qr_goto 29 rfl rfl ?_
    refine qr_retZ rfl rfl (Or.inr rfl) (by decide) (by decide) ?_
    exact ⟨rfl, 1, rfl, (by decide)⟩
  · skip
    refine qr_aload_n 11 rfl rfl rfl ?_
    refine qr_aload_n 12 rfl rfl rfl ?_
    refine qr_get 15 rfl rfl rfl (by decide) rfl ?_
    refine qr_iload_n 16 rfl rfl rfl ?_
    refine qr_iaload 17 rfl rfl (qrgi r1 (by decide) (by decide)) (by decide) rfl ?_
    refine qr_topI (fun v4 hv4 => ?_)
    have hs5 : 0 ≤ v4 ∧ v4 ≤ 31 := by rw [hv4]; exact hI.2.1 102 _ (show _ < 60 from qrgt r1 (by decide) (by decide))
    refine qr_iload_n 18 rfl rfl rfl ?_
    refine qr_callN 21 rfl rfl rfl (sf_207_86 (d := d + 0) hI (qrg hs5 (by decide) (by decide)) r2 (by omega)) ?_
    rintro _ _ ⟨rfl, v6, rfl, hv6⟩
    show qr_W (qe L xs vb) (d + 1) qx_e206 _ (21, _, [.int (qz v6)], qw σ α κ ρ, 0, 0)
    refine qr_if_eq 28 24 rfl rfl rfl (qrg hv6 (by decide) (by decide)) (fun h7 => ?_) (fun h7 => ?_)
    · skip
      refine qr_iconst 29 rfl rfl ?_
      refine qr_retZ rfl rfl (Or.inl rfl) (by decide) (by decide) ?_
      exact ⟨rfl, 0, rfl, (by decide)⟩
    · skip
      refine qr_iconst 25 rfl rfl ?_
      refine qr_goto 29 rfl rfl ?_
      refine qr_retZ rfl rfl (Or.inr rfl) (by decide) (by decide) ?_
      exact ⟨rfl, 1, rfl, (by decide)⟩

set_option maxHeartbeats 4000000 in
set_option maxRecDepth 20000 in
/-- OneRoofModel.holdsNow -/
theorem sf_205_86 {L : Nat} {xs : Nat → Int} {vb : Bool} {d : Nat} {σ α : Nat → Nat → Int} {κ : Nat → Option Nat} {ρ : Nat} {x1 : Int} {x2 : Int} {x3 : Int} {x4 : Int} (hI : qI σ α κ ρ) (r1 : 0 ≤ x1 ∧ x1 ≤ 59) (r2 : 0 ≤ x2 ∧ x2 ≤ 31) (r3 : 0 ≤ x3 ∧ x3 ≤ 31) (r4 : (-2147483648) ≤ x4 ∧ x4 ≤ 2147483647) (p0 : 1 ≤ σ 86 6) : qm_T (qe L xs vb) (d + 3) 205 [.ref 86, .int (qz x1), .int (qz x2), .int (qz x3), .int (qz x4)] (qw σ α κ ρ) (fun r w' => w' = qw σ α κ ρ ∧ ∃ v : Int, r = some (.int (qz v)) ∧ (0 ≤ v ∧ v ≤ 1)) := by
  refine qr_start (d := d + 2) qv_e205 (Nat.le_of_ble_eq_true rfl) ?_
  show qr_W (qe L xs vb) (d + 2) qx_e205 _ (0, [(0, .ref 86), (1, .int (qz x1)), (2, .int (qz x2)), (3, .int (qz x3)), (4, .int (qz x4))], [], _, 0, 0)
  have hz86_6 : 0 ≤ σ 86 6 ∧ σ 86 6 ≤ 32 := hI.1 86 6
  refine qr_aload_n 1 rfl rfl rfl ?_
  refine qr_iload_n 2 rfl rfl rfl ?_
  refine qr_callN 5 rfl rfl rfl (sf_201_86 (d := d + 1) hI r1) ?_
  rintro _ _ ⟨rfl, v1, rfl, hv1⟩
  show qr_W (qe L xs vb) (d + 2) qx_e205 _ (5, _, [.int (qz v1)], qw σ α κ ρ, 0, 0)
  refine qr_istore _ 7 rfl (by decide) rfl rfl ?_
  refine qr_iload 9 rfl rfl rfl ?_
  refine qr_bipush 11 rfl (by decide) rfl ?_
  refine qr_icmp_eq 66 14 rfl rfl rfl hv1 (by decide) (fun h2 => ?_) (fun h2 => ?_)
  · skip
    refine qr_iconst 67 rfl rfl ?_
    refine qr_retZ rfl rfl (Or.inl rfl) (by decide) (by decide) ?_
    exact ⟨rfl, 0, rfl, (by decide)⟩
  · skip
    refine qr_aload_n 15 rfl rfl rfl ?_
    refine qr_get 18 rfl rfl rfl (by decide) rfl ?_
    have hs3 : (-9223372036854775808) ≤ σ 86 29 ∧ σ 86 29 ≤ 9223372036854775807 := hI.1 86 29
    refine qr_iload_n 19 rfl rfl rfl ?_
    refine qr_lshr 20 rfl rfl ?_
    refine qy_canl (fun v4 hv4 => ?_)
    refine qr_lconst 21 rfl rfl ?_
    refine qy_vl 1 rfl ?_
    refine qr_land 22 rfl rfl ?_
    refine qy_canl (fun v5 hv5 => ?_)
    refine qr_lconst 23 rfl rfl ?_
    refine qy_vl 1 rfl ?_
    refine qr_lc_eq 66 27 rfl rfl rfl rfl hv5 (by decide) (fun h6 => ?_) (fun h6 => ?_)
    · skip
      refine qr_iconst 67 rfl rfl ?_
      refine qr_retZ rfl rfl (Or.inl rfl) (by decide) (by decide) ?_
      exact ⟨rfl, 0, rfl, (by decide)⟩
    · skip
      refine qr_iload 29 rfl rfl rfl ?_
      refine qr_aload_n 30 rfl rfl rfl ?_
      refine qr_get 33 rfl rfl rfl (by decide) rfl ?_
      refine qr_iload_n 34 rfl rfl rfl ?_
      refine qr_iaload 35 rfl rfl (qrgi r1 (by decide) (by decide)) (by decide) rfl ?_
      refine qr_topI (fun v7 hv7 => ?_)
      have hs8 : (-2147483648) ≤ v7 ∧ v7 ≤ 2147483647 := by rw [hv7]; exact hI.2.1 103 _ (show _ < 60 from qrgt r1 (by decide) (by decide))
      refine qr_icmp_lt 66 38 rfl rfl rfl r4 hs8 (fun h9 => ?_) (fun h9 => ?_)
      · skip
        refine qr_iconst 67 rfl rfl ?_
        refine qr_retZ rfl rfl (Or.inl rfl) (by decide) (by decide) ?_
        exact ⟨rfl, 0, rfl, (by decide)⟩
      · skip
        refine qr_iload 40 rfl rfl rfl ?_
        refine qr_aload_n 41 rfl rfl rfl ?_
        refine qr_get 44 rfl rfl rfl (by decide) rfl ?_
        refine qr_iload_n 45 rfl rfl rfl ?_
        refine qr_iaload 46 rfl rfl (qrgi r1 (by decide) (by decide)) (by decide) rfl ?_
        refine qr_topI (fun v10 hv10 => ?_)
        have hs11 : (-2147483648) ≤ v10 ∧ v10 ≤ 2147483647 := by rw [hv10]; exact hI.2.1 104 _ (show _ < 60 from qrgt r1 (by decide) (by decide))
        refine qr_iload 48 rfl rfl rfl ?_
        refine qr_iconst 49 rfl rfl ?_
        have hJ21 : ∀ (ls : qm_L) (u19 : Int), qm_get ls 0 = some (.ref 86) → qm_get ls 1 = some (.int (qz x1)) → qm_get ls 2 = some (.int (qz x2)) → qm_get ls 3 = some (.int (qz x3)) → qm_get ls 5 = some (.int (qz v1)) → ((-2147483648) ≤ u19 ∧ u19 ≤ 2147483647) → qr_W (qe L xs vb) (d + 2) qx_e205 (fun r w' => w' = qw σ α κ ρ ∧ ∃ v : Int, r = some (.int (qz v)) ∧ (0 ≤ v ∧ v ≤ 1)) (62, ls, [.int (qz u19), .int (qz v10), .int (qz x4)], qw σ α κ ρ, 0, 0) := by
          intro ls u19 g14 g15 g16 g17 g18 hf20
          refine qr_iadd 63 rfl rfl ?_
          refine qy_can (fun v22 hv22 => ?_)
          refine qr_icmp_le 68 66 rfl rfl rfl r4 hv22 (fun h23 => ?_) (fun h23 => ?_)
          · skip
            refine qr_aload_n 69 rfl g14 rfl ?_
            refine qr_iload_n 70 rfl g15 rfl ?_
            refine qr_iload_n 71 rfl g16 rfl ?_
            refine qr_callN 74 rfl rfl rfl (sf_202_86 (d := d + 1) hI r1 r2) ?_
            rintro _ _ ⟨rfl, v24, rfl, hv24⟩
            show qr_W (qe L xs vb) (d + 2) qx_e205 _ (74, _, [.int (qz v24)], qw σ α κ ρ, 0, 0)
            refine qr_istore _ 76 rfl (by decide) rfl rfl ?_
            refine qr_aload_n 77 rfl (qm_gk g14 (by decide) (Or.inl (by decide))) rfl ?_
            refine qr_iload_n 78 rfl (qm_gk g15 (by decide) (Or.inl (by decide))) rfl ?_
            refine qr_iload_n 79 rfl (qm_gk g17 (by decide) (Or.inl (by decide))) rfl ?_
            refine qr_callN 82 rfl rfl rfl (sf_202_86 (d := d + 1) hI r1 r3) ?_
            rintro _ _ ⟨rfl, v25, rfl, hv25⟩
            show qr_W (qe L xs vb) (d + 2) qx_e205 _ (82, _, [.int (qz v25)], qw σ α κ ρ, 0, 0)
            refine qr_istore _ 84 rfl (by decide) rfl rfl ?_
            refine qr_iload 86 rfl (qm_gk (qm_gk g18 (by decide) (Or.inr rfl)) (by decide) (Or.inl (by decide))) rfl ?_
            have h26 : v1 = 1 ∨ v1 = 2 ∨ v1 = 3 ∨ v1 = 4 ∨ v1 = 5 ∨ (v1 < 1 ∨ 5 < v1) := by omega
            rcases h26 with h26 | h26 | h26 | h26 | h26 | h26
            · skip
              refine qr_tabIn 120 rfl hv1 (by rw [h26]; decide) (by rw [h26]; rfl) rfl ?_
              refine qr_iload 122 rfl (qm_gk (qm_ge _ _ _) (by decide) (Or.inr rfl)) rfl ?_
              refine qr_if_eq 130 125 rfl rfl rfl (qrg hv24 (by decide) (by decide)) (fun h28 => ?_) (fun h28 => ?_)
              · skip
                refine qr_iload 132 rfl (qm_gk (qm_ge _ _ _) (by decide) (Or.inr rfl)) rfl ?_
                refine qr_if_eq 145 135 rfl rfl rfl (qrg hv24 (by decide) (by decide)) (fun h29 => ?_) (fun h => False.elim (by omega))
                refine qr_iload 147 rfl (qm_ge _ _ _) rfl ?_
                refine qr_if_eq 164 150 rfl rfl rfl (qrg hv25 (by decide) (by decide)) (fun h30 => ?_) (fun h30 => ?_)
                · skip
                  refine qr_iconst 165 rfl rfl ?_
                  refine qr_retZ rfl rfl (Or.inl rfl) (by decide) (by decide) ?_
                  exact ⟨rfl, 0, rfl, (by decide)⟩
                · skip
                  refine qr_iload_n 151 rfl (qm_gk (qm_gk g16 (by decide) (Or.inl (by decide))) (by decide) (Or.inl (by decide))) rfl ?_
                  refine qr_aload_n 152 rfl (qm_gk (qm_gk g14 (by decide) (Or.inl (by decide))) (by decide) (Or.inl (by decide))) rfl ?_
                  refine qr_get 155 rfl rfl rfl (by decide) rfl ?_
                  refine qr_iload_n 156 rfl (qm_gk (qm_gk g15 (by decide) (Or.inl (by decide))) (by decide) (Or.inl (by decide))) rfl ?_
                  refine qr_iaload 157 rfl rfl (qrgi r1 (by decide) (by decide)) (by decide) rfl ?_
                  refine qr_topI (fun v31 hv31 => ?_)
                  have hs32 : 0 ≤ v31 ∧ v31 ≤ 31 := by rw [hv31]; exact hI.2.1 102 _ (show _ < 60 from qrgt r1 (by decide) (by decide))
                  refine qr_icmp_ne 164 160 rfl rfl rfl (qrg r2 (by decide) (by decide)) (qrg hs32 (by decide) (by decide)) (fun h33 => ?_) (fun h33 => ?_)
                  · skip
                    refine qr_iconst 165 rfl rfl ?_
                    refine qr_retZ rfl rfl (Or.inl rfl) (by decide) (by decide) ?_
                    exact ⟨rfl, 0, rfl, (by decide)⟩
                  · skip
                    refine qr_iconst 161 rfl rfl ?_
                    refine qr_goto 165 rfl rfl ?_
                    refine qr_retZ rfl rfl (Or.inr rfl) (by decide) (by decide) ?_
                    exact ⟨rfl, 1, rfl, (by decide)⟩
              · skip
                refine qr_iload 127 rfl (qm_ge _ _ _) rfl ?_
                refine qr_if_ne 160 130 rfl rfl rfl (qrg hv25 (by decide) (by decide)) (fun h34 => ?_) (fun h34 => ?_)
                · skip
                  refine qr_iconst 161 rfl rfl ?_
                  refine qr_goto 165 rfl rfl ?_
                  refine qr_retZ rfl rfl (Or.inr rfl) (by decide) (by decide) ?_
                  exact ⟨rfl, 1, rfl, (by decide)⟩
                · skip
                  refine qr_iload 132 rfl (qm_gk (qm_ge _ _ _) (by decide) (Or.inr rfl)) rfl ?_
                  refine qr_if_eq 145 135 rfl rfl rfl (qrg hv24 (by decide) (by decide)) (fun h => False.elim (by omega)) (fun h35 => ?_)
                  refine qr_iload_n 136 rfl (qm_gk (qm_gk g17 (by decide) (Or.inl (by decide))) (by decide) (Or.inl (by decide))) rfl ?_
                  refine qr_aload_n 137 rfl (qm_gk (qm_gk g14 (by decide) (Or.inl (by decide))) (by decide) (Or.inl (by decide))) rfl ?_
                  refine qr_get 140 rfl rfl rfl (by decide) rfl ?_
                  refine qr_iload_n 141 rfl (qm_gk (qm_gk g15 (by decide) (Or.inl (by decide))) (by decide) (Or.inl (by decide))) rfl ?_
                  refine qr_iaload 142 rfl rfl (qrgi r1 (by decide) (by decide)) (by decide) rfl ?_
                  refine qr_topI (fun v36 hv36 => ?_)
                  have hs37 : 0 ≤ v36 ∧ v36 ≤ 31 := by rw [hv36]; exact hI.2.1 102 _ (show _ < 60 from qrgt r1 (by decide) (by decide))
                  refine qr_icmp_eq 160 145 rfl rfl rfl (qrg r3 (by decide) (by decide)) (qrg hs37 (by decide) (by decide)) (fun h38 => ?_) (fun h38 => ?_)
                  · skip
                    refine qr_iconst 161 rfl rfl ?_
                    refine qr_goto 165 rfl rfl ?_
                    refine qr_retZ rfl rfl (Or.inr rfl) (by decide) (by decide) ?_
                    exact ⟨rfl, 1, rfl, (by decide)⟩
                  · skip
                    refine qr_iload 147 rfl (qm_ge _ _ _) rfl ?_
                    refine qr_if_eq 164 150 rfl rfl rfl (qrg hv25 (by decide) (by decide)) (fun h39 => ?_) (fun h => False.elim (by omega))
                    refine qr_iconst 165 rfl rfl ?_
                    refine qr_retZ rfl rfl (Or.inl rfl) (by decide) (by decide) ?_
                    exact ⟨rfl, 0, rfl, (by decide)⟩
            · skip
              refine qr_tabIn 120 rfl hv1 (by rw [h26]; decide) (by rw [h26]; rfl) rfl ?_
              refine qr_iload 122 rfl (qm_gk (qm_ge _ _ _) (by decide) (Or.inr rfl)) rfl ?_
              refine qr_if_eq 130 125 rfl rfl rfl (qrg hv24 (by decide) (by decide)) (fun h40 => ?_) (fun h40 => ?_)
              · skip
                refine qr_iload 132 rfl (qm_gk (qm_ge _ _ _) (by decide) (Or.inr rfl)) rfl ?_
                refine qr_if_eq 145 135 rfl rfl rfl (qrg hv24 (by decide) (by decide)) (fun h41 => ?_) (fun h => False.elim (by omega))
                refine qr_iload 147 rfl (qm_ge _ _ _) rfl ?_
                refine qr_if_eq 164 150 rfl rfl rfl (qrg hv25 (by decide) (by decide)) (fun h42 => ?_) (fun h42 => ?_)
                · skip
                  refine qr_iconst 165 rfl rfl ?_
                  refine qr_retZ rfl rfl (Or.inl rfl) (by decide) (by decide) ?_
                  exact ⟨rfl, 0, rfl, (by decide)⟩
                · skip
                  refine qr_iload_n 151 rfl (qm_gk (qm_gk g16 (by decide) (Or.inl (by decide))) (by decide) (Or.inl (by decide))) rfl ?_
                  refine qr_aload_n 152 rfl (qm_gk (qm_gk g14 (by decide) (Or.inl (by decide))) (by decide) (Or.inl (by decide))) rfl ?_
                  refine qr_get 155 rfl rfl rfl (by decide) rfl ?_
                  refine qr_iload_n 156 rfl (qm_gk (qm_gk g15 (by decide) (Or.inl (by decide))) (by decide) (Or.inl (by decide))) rfl ?_
                  refine qr_iaload 157 rfl rfl (qrgi r1 (by decide) (by decide)) (by decide) rfl ?_
                  refine qr_topI (fun v43 hv43 => ?_)
                  have hs44 : 0 ≤ v43 ∧ v43 ≤ 31 := by rw [hv43]; exact hI.2.1 102 _ (show _ < 60 from qrgt r1 (by decide) (by decide))
                  refine qr_icmp_ne 164 160 rfl rfl rfl (qrg r2 (by decide) (by decide)) (qrg hs44 (by decide) (by decide)) (fun h45 => ?_) (fun h45 => ?_)
                  · skip
                    refine qr_iconst 165 rfl rfl ?_
                    refine qr_retZ rfl rfl (Or.inl rfl) (by decide) (by decide) ?_
                    exact ⟨rfl, 0, rfl, (by decide)⟩
                  · skip
                    refine qr_iconst 161 rfl rfl ?_
                    refine qr_goto 165 rfl rfl ?_
                    refine qr_retZ rfl rfl (Or.inr rfl) (by decide) (by decide) ?_
                    exact ⟨rfl, 1, rfl, (by decide)⟩
              · skip
                refine qr_iload 127 rfl (qm_ge _ _ _) rfl ?_
                refine qr_if_ne 160 130 rfl rfl rfl (qrg hv25 (by decide) (by decide)) (fun h46 => ?_) (fun h46 => ?_)
                · skip
                  refine qr_iconst 161 rfl rfl ?_
                  refine qr_goto 165 rfl rfl ?_
                  refine qr_retZ rfl rfl (Or.inr rfl) (by decide) (by decide) ?_
                  exact ⟨rfl, 1, rfl, (by decide)⟩
                · skip
                  refine qr_iload 132 rfl (qm_gk (qm_ge _ _ _) (by decide) (Or.inr rfl)) rfl ?_
                  refine qr_if_eq 145 135 rfl rfl rfl (qrg hv24 (by decide) (by decide)) (fun h => False.elim (by omega)) (fun h47 => ?_)
                  refine qr_iload_n 136 rfl (qm_gk (qm_gk g17 (by decide) (Or.inl (by decide))) (by decide) (Or.inl (by decide))) rfl ?_
                  refine qr_aload_n 137 rfl (qm_gk (qm_gk g14 (by decide) (Or.inl (by decide))) (by decide) (Or.inl (by decide))) rfl ?_
                  refine qr_get 140 rfl rfl rfl (by decide) rfl ?_
                  refine qr_iload_n 141 rfl (qm_gk (qm_gk g15 (by decide) (Or.inl (by decide))) (by decide) (Or.inl (by decide))) rfl ?_
                  refine qr_iaload 142 rfl rfl (qrgi r1 (by decide) (by decide)) (by decide) rfl ?_
                  refine qr_topI (fun v48 hv48 => ?_)
                  have hs49 : 0 ≤ v48 ∧ v48 ≤ 31 := by rw [hv48]; exact hI.2.1 102 _ (show _ < 60 from qrgt r1 (by decide) (by decide))
                  refine qr_icmp_eq 160 145 rfl rfl rfl (qrg r3 (by decide) (by decide)) (qrg hs49 (by decide) (by decide)) (fun h50 => ?_) (fun h50 => ?_)
                  · skip
                    refine qr_iconst 161 rfl rfl ?_
                    refine qr_goto 165 rfl rfl ?_
                    refine qr_retZ rfl rfl (Or.inr rfl) (by decide) (by decide) ?_
                    exact ⟨rfl, 1, rfl, (by decide)⟩
                  · skip
                    refine qr_iload 147 rfl (qm_ge _ _ _) rfl ?_
                    refine qr_if_eq 164 150 rfl rfl rfl (qrg hv25 (by decide) (by decide)) (fun h51 => ?_) (fun h => False.elim (by omega))
                    refine qr_iconst 165 rfl rfl ?_
                    refine qr_retZ rfl rfl (Or.inl rfl) (by decide) (by decide) ?_
                    exact ⟨rfl, 0, rfl, (by decide)⟩
            · skip
              refine qr_tabIn 166 rfl hv1 (by rw [h26]; decide) (by rw [h26]; rfl) rfl ?_
              refine qr_iload 168 rfl (qm_gk (qm_ge _ _ _) (by decide) (Or.inr rfl)) rfl ?_
              refine qr_if_ne 176 171 rfl rfl rfl (qrg hv24 (by decide) (by decide)) (fun h52 => ?_) (fun h52 => ?_)
              · skip
                refine qr_iconst 177 rfl rfl ?_
                refine qr_goto 181 rfl rfl ?_
                refine qr_retZ rfl rfl (Or.inr rfl) (by decide) (by decide) ?_
                exact ⟨rfl, 1, rfl, (by decide)⟩
              · skip
                refine qr_iload 173 rfl (qm_ge _ _ _) rfl ?_
                refine qr_if_eq 180 176 rfl rfl rfl (qrg hv25 (by decide) (by decide)) (fun h53 => ?_) (fun h53 => ?_)
                · skip
                  refine qr_iconst 181 rfl rfl ?_
                  refine qr_retZ rfl rfl (Or.inl rfl) (by decide) (by decide) ?_
                  exact ⟨rfl, 0, rfl, (by decide)⟩
                · skip
                  refine qr_iconst 177 rfl rfl ?_
                  refine qr_goto 181 rfl rfl ?_
                  refine qr_retZ rfl rfl (Or.inr rfl) (by decide) (by decide) ?_
                  exact ⟨rfl, 1, rfl, (by decide)⟩
            · skip
              refine qr_tabIn 182 rfl hv1 (by rw [h26]; decide) (by rw [h26]; rfl) rfl ?_
              refine qr_iload 184 rfl (qm_gk (qm_ge _ _ _) (by decide) (Or.inr rfl)) rfl ?_
              refine qr_if_eq 196 187 rfl rfl rfl (qrg hv24 (by decide) (by decide)) (fun h54 => ?_) (fun h54 => ?_)
              · skip
                refine qr_iconst 197 rfl rfl ?_
                refine qr_retZ rfl rfl (Or.inl rfl) (by decide) (by decide) ?_
                exact ⟨rfl, 0, rfl, (by decide)⟩
              · skip
                refine qr_iload 189 rfl (qm_ge _ _ _) rfl ?_
                refine qr_if_eq 196 192 rfl rfl rfl (qrg hv25 (by decide) (by decide)) (fun h55 => ?_) (fun h55 => ?_)
                · skip
                  refine qr_iconst 197 rfl rfl ?_
                  refine qr_retZ rfl rfl (Or.inl rfl) (by decide) (by decide) ?_
                  exact ⟨rfl, 0, rfl, (by decide)⟩
                · skip
                  refine qr_iconst 193 rfl rfl ?_
                  refine qr_goto 197 rfl rfl ?_
                  refine qr_retZ rfl rfl (Or.inr rfl) (by decide) (by decide) ?_
                  exact ⟨rfl, 1, rfl, (by decide)⟩
            · skip
              refine qr_tabIn 198 rfl hv1 (by rw [h26]; decide) (by rw [h26]; rfl) rfl ?_
              refine qr_iconst 199 rfl rfl ?_
              refine qr_retZ rfl rfl (Or.inr rfl) (by decide) (by decide) ?_
              exact ⟨rfl, 1, rfl, (by decide)⟩
            · skip
              refine qr_tabOut 200 rfl hv1 (by omega) rfl ?_
              refine qr_aload_n 201 rfl (qm_gk (qm_gk g14 (by decide) (Or.inl (by decide))) (by decide) (Or.inl (by decide))) rfl ?_
              refine qr_iload_n 202 rfl (qm_gk (qm_gk g15 (by decide) (Or.inl (by decide))) (by decide) (Or.inl (by decide))) rfl ?_
              refine qr_iload_n 203 rfl (qm_gk (qm_gk g16 (by decide) (Or.inl (by decide))) (by decide) (Or.inl (by decide))) rfl ?_
              refine qr_callN 206 rfl rfl rfl (sf_206_86 (d := d + 0) hI r1 r2 (by omega)) ?_
              rintro _ _ ⟨rfl, v56, rfl, hv56⟩
              show qr_W (qe L xs vb) (d + 2) qx_e205 _ (206, _, [.int (qz v56)], qw σ α κ ρ, 0, 0)
              refine qr_if_eq 222 209 rfl rfl rfl (qrg hv56 (by decide) (by decide)) (fun h57 => ?_) (fun h57 => ?_)
              · skip
                refine qr_iconst 223 rfl rfl ?_
                refine qr_retZ rfl rfl (Or.inl rfl) (by decide) (by decide) ?_
                exact ⟨rfl, 0, rfl, (by decide)⟩
              · skip
                refine qr_aload_n 210 rfl (qm_gk (qm_gk g14 (by decide) (Or.inl (by decide))) (by decide) (Or.inl (by decide))) rfl ?_
                refine qr_iload_n 211 rfl (qm_gk (qm_gk g15 (by decide) (Or.inl (by decide))) (by decide) (Or.inl (by decide))) rfl ?_
                refine qr_iload_n 212 rfl (qm_gk (qm_gk g17 (by decide) (Or.inl (by decide))) (by decide) (Or.inl (by decide))) rfl ?_
                refine qr_callN 215 rfl rfl rfl (sf_206_86 (d := d + 0) hI r1 r3 (by omega)) ?_
                rintro _ _ ⟨rfl, v58, rfl, hv58⟩
                show qr_W (qe L xs vb) (d + 2) qx_e205 _ (215, _, [.int (qz v58)], qw σ α κ ρ, 0, 0)
                refine qr_if_eq 222 218 rfl rfl rfl (qrg hv58 (by decide) (by decide)) (fun h59 => ?_) (fun h59 => ?_)
                · skip
                  refine qr_iconst 223 rfl rfl ?_
                  refine qr_retZ rfl rfl (Or.inl rfl) (by decide) (by decide) ?_
                  exact ⟨rfl, 0, rfl, (by decide)⟩
                · skip
                  refine qr_iconst 219 rfl rfl ?_
                  refine qr_goto 223 rfl rfl ?_
                  refine qr_retZ rfl rfl (Or.inr rfl) (by decide) (by decide) ?_
                  exact ⟨rfl, 1, rfl, (by decide)⟩
          · skip
            refine qr_iconst 67 rfl rfl ?_
            refine qr_retZ rfl rfl (Or.inl rfl) (by decide) (by decide) ?_
            exact ⟨rfl, 0, rfl, (by decide)⟩
        refine qr_icmp_ne 61 52 rfl rfl rfl hv1 (by decide) (fun h60 => ?_) (fun h60 => ?_)
        · skip
          refine qr_iconst 62 rfl rfl ?_
          exact hJ21 _ 0 rfl rfl rfl rfl rfl (by decide)
        · skip
          refine qr_aload_n 53 rfl rfl rfl ?_
          refine qr_get 56 rfl rfl rfl (by decide) rfl ?_
          refine qr_iload_n 57 rfl rfl rfl ?_
          refine qr_iaload 58 rfl rfl (qrgi r1 (by decide) (by decide)) (by decide) rfl ?_
          refine qr_topI (fun v61 hv61 => ?_)
          have hs62 : (-2147483648) ≤ v61 ∧ v61 ≤ 2147483647 := by rw [hv61]; exact hI.2.1 105 _ (show _ < 60 from qrgt r1 (by decide) (by decide))
          refine qr_goto 62 rfl rfl ?_
          exact hJ21 _ v61 rfl rfl rfl rfl rfl hs62

set_option maxHeartbeats 4000000 in
set_option maxRecDepth 20000 in
/-- OneRoofModel.manyBetween -/
theorem sf_209_86 {L : Nat} {xs : Nat → Int} {vb : Bool} {d : Nat} {σ α : Nat → Nat → Int} {κ : Nat → Option Nat} {ρ : Nat} {x1 : Int} {x2 : Int} {x3 : Int} (hI : qI σ α κ ρ) (r1 : 0 ≤ x1 ∧ x1 ≤ 31) (r2 : 0 ≤ x2 ∧ x2 ≤ 31) (r3 : (-2147483648) ≤ x3 ∧ x3 ≤ 2147483647) (p0 : 1 ≤ σ 86 6) : qm_T (qe L xs vb) (d + 4) 209 [.ref 86, .int (qz x1), .int (qz x2), .int (qz x3)] (qw σ α κ ρ) (fun r w' => ∃ σ', w' = qw σ' α κ ρ ∧ qI σ' α κ ρ ∧ qFr [(86, 30)] [] σ α σ' α ∧ ∃ v : Int, r = some (.int (qz v)) ∧ ((-2147483648) ≤ v ∧ v ≤ 2147483647)) := by
  refine qr_start (d := d + 3) qv_e209 (Nat.le_of_ble_eq_true rfl) ?_
  show qr_W (qe L xs vb) (d + 3) qx_e209 _ (0, [(0, .ref 86), (1, .int (qz x1)), (2, .int (qz x2)), (3, .int (qz x3))], [], _, 0, 0)
  have hF0 := qFr_rf [(86, 30)] [] σ α
  have hz86_6 : 0 ≤ σ 86 6 ∧ σ 86 6 ≤ 32 := hI.1 86 6
  refine qr_iconst 1 rfl rfl ?_
  refine qr_istore _ 3 rfl (by decide) rfl rfl ?_
  refine qr_iconst 4 rfl rfl ?_
  refine qr_istore _ 6 rfl (by decide) rfl rfl ?_
  have hL1426 : ∀ (n : Nat) (ls : qm_L) (u1416 u1418 : Int) (σ1419 : Nat → Nat → Int), 60 - u1418 < (n : Int) → qm_get ls 0 = some (.ref 86) → qm_get ls 1 = some (.int (qz x1)) → qm_get ls 2 = some (.int (qz x2)) → qm_get ls 3 = some (.int (qz x3)) → qm_get ls 4 = some (.int (qz u1416)) → qm_get ls 5 = some (.int (qz u1418)) → ((-2147483648) ≤ u1416 ∧ u1416 ≤ 2147483647) → (0 ≤ u1418 ∧ u1418 ≤ 60) → qI σ1419 α κ ρ → qFr [(86, 30)] [] σ α σ1419 α → σ1419 86 6 = (σ 86 6) → qr_W (qe L xs vb) (d + 3) qx_e209 (fun r w' => ∃ σ', w' = qw σ' α κ ρ ∧ qI σ' α κ ρ ∧ qFr [(86, 30)] [] σ α σ' α ∧ ∃ v : Int, r = some (.int (qz v)) ∧ ((-2147483648) ≤ v ∧ v ≤ 2147483647)) (6, ls, [], qw σ1419 α κ ρ, 0, 0) := by
    intro n
    induction n with
    | zero => intro ls u1416 u1418 σ1419 hm g1411 g1412 g1413 g1414 g1415 g1417 hf1424 hf1425 hI1421 hF1422 hk1423; exact False.elim (by omega)
    | succ n ih1427 =>
      intro ls u1416 u1418 σ1419 hm g1411 g1412 g1413 g1414 g1415 g1417 hf1424 hf1425 hI1421 hF1422 hk1423
      refine qr_iload 8 rfl g1417 rfl ?_
      refine qr_aload_n 9 rfl g1411 rfl ?_
      refine qr_get 12 rfl rfl rfl (by decide) rfl ?_
      have hs1428 : 0 ≤ σ1419 86 24 ∧ σ1419 86 24 ≤ 60 := hI1421.1 86 24
      refine qr_icmp_ge 42 15 rfl rfl rfl (qrg hf1425 (by decide) (by decide)) (qrg hs1428 (by decide) (by decide)) (fun h1429 => ?_) (fun h1429 => ?_)
      · skip
        refine qr_iload 44 rfl g1415 rfl ?_
        refine qr_retI rfl rfl (by decide) (by decide) ?_
        exact ⟨_, rfl, hI1421, hF1422, u1416, rfl, hf1424⟩
      · skip
        refine qr_aload_n 16 rfl g1411 rfl ?_
        refine qr_iload 18 rfl g1417 rfl ?_
        refine qr_iload_n 19 rfl g1412 rfl ?_
        refine qr_iload_n 20 rfl g1413 rfl ?_
        refine qr_iload_n 21 rfl g1414 rfl ?_
        refine qr_callN 24 rfl rfl rfl (sf_205_86 (d := d + 0) hI1421 (by omega) r1 r2 r3 (by omega)) ?_
        rintro _ _ ⟨rfl, v1430, rfl, hv1430⟩
        show qr_W (qe L xs vb) (d + 3) qx_e209 _ (24, _, [.int (qz v1430)], qw σ1419 α κ ρ, 0, 0)
        have hJ1450 : ∀ (ls : qm_L) (u1441 : Int) (σ1443 : Nat → Nat → Int), qm_get ls 0 = some (.ref 86) → qm_get ls 1 = some (.int (qz x1)) → qm_get ls 2 = some (.int (qz x2)) → qm_get ls 3 = some (.int (qz x3)) → qm_get ls 4 = some (.int (qz u1441)) → qm_get ls 5 = some (.int (qz u1418)) → ((-2147483648) ≤ u1441 ∧ u1441 ≤ 2147483647) → qI σ1443 α κ ρ → qFr [(86, 30)] [] σ α σ1443 α → σ1443 86 6 = (σ 86 6) → σ1443 86 24 = (σ1419 86 24) → qr_W (qe L xs vb) (d + 3) qx_e209 (fun r w' => ∃ σ', w' = qw σ' α κ ρ ∧ qI σ' α κ ρ ∧ qFr [(86, 30)] [] σ α σ' α ∧ ∃ v : Int, r = some (.int (qz v)) ∧ ((-2147483648) ≤ v ∧ v ≤ 2147483647)) (36, ls, [], qw σ1443 α κ ρ, 0, 0) := by
          intro ls u1441 σ1443 g1436 g1437 g1438 g1439 g1440 g1442 hf1449 hI1445 hF1446 hk1447 hk1448
          refine qr_iinc _ 39 rfl g1442 (by decide) rfl rfl ?_
          refine qr_goto 6 rfl rfl ?_
          exact ih1427 _ u1441 (u1418 + 1) σ1443 (by omega) (qm_gk g1436 (by decide) (Or.inl (by decide))) (qm_gk g1437 (by decide) (Or.inl (by decide))) (qm_gk g1438 (by decide) (Or.inl (by decide))) (qm_gk g1439 (by decide) (Or.inl (by decide))) (qm_gk g1440 (by decide) (Or.inr rfl)) (qm_ge _ _ _) hf1449 (by omega) hI1445 hF1446 ((hk1447).trans rfl)
        refine qr_if_eq 36 27 rfl rfl rfl (qrg hv1430 (by decide) (by decide)) (fun h1451 => ?_) (fun h1451 => ?_)
        · skip
          exact hJ1450 _ u1416 σ1419 g1411 g1412 g1413 g1414 g1415 g1417 hf1424 hI1421 hF1422 ((hk1423).trans rfl) (rfl)
        · skip
          refine qy_iincC 30 rfl g1415 (by decide) rfl (fun v1452 hv1452 => ?_)
          refine qr_aload_n 31 rfl (qm_gk g1411 (by decide) (Or.inl (by decide))) rfl ?_
          refine qr_iload 33 rfl (qm_gk g1417 (by decide) (Or.inl (by decide))) rfl ?_
          refine qr_put 36 rfl (by decide) rfl (Nat.le_of_ble_eq_true rfl) (Nat.le_of_ble_eq_true rfl) (Or.inl rfl) (qr_fitI rfl _) rfl ?_
          refine qy_wS (qw_s σ1419 86 30 u1418) rfl (fun σ1453 e1454 => ?_)
          have hI1455 : qI σ1453 α κ ρ := by rw [e1454]; exact qI_s hI1421 86 30 rfl (show (-2147483648) ≤ u1418 ∧ u1418 ≤ 2147483647 by omega)
          have hF1456 : qFr [(86, 30)] [] σ α σ1453 α := by rw [e1454]; exact qFr_s hF1422 86 30 _ (by decide)
          exact hJ1450 _ v1452 σ1453 (qm_gk g1411 (by decide) (Or.inl (by decide))) (qm_gk g1412 (by decide) (Or.inl (by decide))) (qm_gk g1413 (by decide) (Or.inl (by decide))) (qm_gk g1414 (by decide) (Or.inr rfl)) (qm_ge _ _ _) (qm_gk g1417 (by decide) (Or.inl (by decide))) (by omega) hI1455 hF1456 ((congrFun (congrFun e1454 86) 6).trans ((hk1423).trans rfl)) ((congrFun (congrFun e1454 86) 24).trans rfl)
  exact hL1426 ((60 - 0 + 1 : Int)).toNat _ 0 0 σ (by omega) rfl rfl rfl rfl rfl rfl (by decide) (by decide) hI hF0 (rfl)

set_option maxHeartbeats 4000000 in
set_option maxRecDepth 20000 in
/-- OneRoofModel.holds -/
theorem sf_204_86 {L : Nat} {xs : Nat → Int} {vb : Bool} {d : Nat} {σ α : Nat → Nat → Int} {κ : Nat → Option Nat} {ρ : Nat} {x1 : Int} {x2 : Int} {x3 : Int} (hI : qI σ α κ ρ) (r1 : (-2147483648) ≤ x1 ∧ x1 ≤ 2147483647) (r2 : (-2147483648) ≤ x2 ∧ x2 ≤ 2147483647) (r3 : (-2147483648) ≤ x3 ∧ x3 ≤ 2147483647) : qm_T (qe L xs vb) (d + 4) 204 [.ref 86, .int (qz x1), .int (qz x2), .int (qz x3)] (qw σ α κ ρ) (fun r w' => w' = qw σ α κ ρ ∧ ∃ v : Int, r = some (.int (qz v)) ∧ ((-2147483648) ≤ v ∧ v ≤ 2147483647)) := by
  refine qr_start (d := d + 3) qv_e204 (Nat.le_of_ble_eq_true rfl) ?_
  show qr_W (qe L xs vb) (d + 3) qx_e204 _ (0, [(0, .ref 86), (1, .int (qz x1)), (2, .int (qz x2)), (3, .int (qz x3))], [], _, 0, 0)
  refine qr_aload_n 1 rfl rfl rfl ?_
  refine qr_iload_n 2 rfl rfl rfl ?_
  refine qr_callN 5 rfl rfl rfl (sf_200_86 (d := d + 1) hI r1) ?_
  have hs3 : 0 ≤ σ 86 24 ∧ σ 86 24 ≤ 60 := hI.1 86 24
  rintro _ _ ⟨rfl, v1, rfl, hv1, hp2⟩
  show qr_W (qe L xs vb) (d + 3) qx_e204 _ (5, _, [.int (qz v1)], qw σ α κ ρ, 0, 0)
  refine qr_if_eq 48 8 rfl rfl rfl (qrg hv1 (by decide) (by decide)) (fun h4 => ?_) (fun h4 => ?_)
  · skip
    refine qr_iconst 49 rfl rfl ?_
    refine qr_retI rfl rfl (by decide) (by decide) ?_
    exact ⟨rfl, (-1), rfl, (by decide)⟩
  · skip
    refine qr_aload_n 9 rfl rfl rfl ?_
    refine qr_iload_n 10 rfl rfl rfl ?_
    refine qr_callN 13 rfl rfl rfl (sf_191_86 (d := d + 0) hI r2) ?_
    have hs7 : 0 ≤ σ 86 6 ∧ σ 86 6 ≤ 32 := hI.1 86 6
    rintro _ _ ⟨rfl, v5, rfl, hv5, hp6⟩
    show qr_W (qe L xs vb) (d + 3) qx_e204 _ (13, _, [.int (qz v5)], qw σ α κ ρ, 0, 0)
    refine qr_if_eq 48 16 rfl rfl rfl (qrg hv5 (by decide) (by decide)) (fun h8 => ?_) (fun h8 => ?_)
    · skip
      refine qr_iconst 49 rfl rfl ?_
      refine qr_retI rfl rfl (by decide) (by decide) ?_
      exact ⟨rfl, (-1), rfl, (by decide)⟩
    · skip
      refine qr_iload_n 17 rfl rfl rfl ?_
      refine qr_callN 20 rfl rfl rfl (sf_192 (d := d + 1) hI r3) ?_
      rintro _ _ ⟨rfl, v9, rfl, hv9, hp10⟩
      show qr_W (qe L xs vb) (d + 3) qx_e204 _ (20, _, [.int (qz v9)], qw σ α κ ρ, 0, 0)
      refine qr_if_eq 48 23 rfl rfl rfl (qrg hv9 (by decide) (by decide)) (fun h11 => ?_) (fun h11 => ?_)
      · skip
        refine qr_iconst 49 rfl rfl ?_
        refine qr_retI rfl rfl (by decide) (by decide) ?_
        exact ⟨rfl, (-1), rfl, (by decide)⟩
      · skip
        refine qr_aload_n 24 rfl rfl rfl ?_
        refine qr_iload_n 25 rfl rfl rfl ?_
        refine qr_iload_n 26 rfl rfl rfl ?_
        refine qr_bipush 28 rfl (by decide) rfl ?_
        refine qr_idiv 29 rfl (by omega) (by decide) rfl ?_
        refine qr_iload_n 30 rfl rfl rfl ?_
        refine qr_bipush 32 rfl (by decide) rfl ?_
        refine qr_irem 33 rfl (by omega) (by decide) rfl ?_
        refine qr_iload_n 34 rfl rfl rfl ?_
        refine qr_callN 37 rfl rfl rfl (sf_205_86 (d := d + 0) hI (by omega) (by omega) (by omega) r3 (by omega)) ?_
        rintro _ _ ⟨rfl, v12, rfl, hv12⟩
        show qr_W (qe L xs vb) (d + 3) qx_e204 _ (37, _, [.int (qz v12)], qw σ α κ ρ, 0, 0)
        refine qr_if_eq 44 40 rfl rfl rfl (qrg hv12 (by decide) (by decide)) (fun h13 => ?_) (fun h13 => ?_)
        · skip
          refine qr_iconst 45 rfl rfl ?_
          refine qr_goto 49 rfl rfl ?_
          refine qr_retI rfl rfl (by decide) (by decide) ?_
          exact ⟨rfl, 0, rfl, (by decide)⟩
        · skip
          refine qr_iconst 41 rfl rfl ?_
          refine qr_goto 49 rfl rfl ?_
          refine qr_retI rfl rfl (by decide) (by decide) ?_
          exact ⟨rfl, 1, rfl, (by decide)⟩

set_option maxHeartbeats 4000000 in
set_option maxRecDepth 20000 in
/-- OneRoofModel.between -/
theorem sf_208_86 {L : Nat} {xs : Nat → Int} {vb : Bool} {d : Nat} {σ α : Nat → Nat → Int} {κ : Nat → Option Nat} {ρ : Nat} {x1 : Int} {x2 : Int} (hI : qI σ α κ ρ) (r1 : (-2147483648) ≤ x1 ∧ x1 ≤ 2147483647) (r2 : (-2147483648) ≤ x2 ∧ x2 ≤ 2147483647) : qm_T (qe L xs vb) (d + 5) 208 [.ref 86, .int (qz x1), .int (qz x2)] (qw σ α κ ρ) (fun r w' => ∃ σ', w' = qw σ' α κ ρ ∧ qI σ' α κ ρ ∧ qFr [(86, 30)] [] σ α σ' α ∧ ∃ v : Int, r = some (.int (qz v)) ∧ ((-2147483648) ≤ v ∧ v ≤ 2147483647)) := by
  refine qr_start (d := d + 4) qv_e208 (Nat.le_of_ble_eq_true rfl) ?_
  show qr_W (qe L xs vb) (d + 4) qx_e208 _ (0, [(0, .ref 86), (1, .int (qz x1)), (2, .int (qz x2))], [], _, 0, 0)
  have hF0 := qFr_rf [(86, 30)] [] σ α
  refine qr_aload_n 1 rfl rfl rfl ?_
  refine qr_iload_n 2 rfl rfl rfl ?_
  refine qr_callN 5 rfl rfl rfl (sf_191_86 (d := d + 1) hI r1) ?_
  have hs3 : 0 ≤ σ 86 6 ∧ σ 86 6 ≤ 32 := hI.1 86 6
  rintro _ _ ⟨rfl, v1, rfl, hv1, hp2⟩
  show qr_W (qe L xs vb) (d + 4) qx_e208 _ (5, _, [.int (qz v1)], qw σ α κ ρ, 0, 0)
  refine qr_if_eq 31 8 rfl rfl rfl (qrg hv1 (by decide) (by decide)) (fun h4 => ?_) (fun h4 => ?_)
  · skip
    refine qr_iconst 32 rfl rfl ?_
    refine qr_retI rfl rfl (by decide) (by decide) ?_
    exact ⟨_, rfl, hI, hF0, (-1), rfl, (by decide)⟩
  · skip
    refine qr_iload_n 9 rfl rfl rfl ?_
    refine qr_callN 12 rfl rfl rfl (sf_192 (d := d + 2) hI r2) ?_
    rintro _ _ ⟨rfl, v5, rfl, hv5, hp6⟩
    show qr_W (qe L xs vb) (d + 4) qx_e208 _ (12, _, [.int (qz v5)], qw σ α κ ρ, 0, 0)
    refine qr_if_eq 31 15 rfl rfl rfl (qrg hv5 (by decide) (by decide)) (fun h7 => ?_) (fun h7 => ?_)
    · skip
      refine qr_iconst 32 rfl rfl ?_
      refine qr_retI rfl rfl (by decide) (by decide) ?_
      exact ⟨_, rfl, hI, hF0, (-1), rfl, (by decide)⟩
    · skip
      refine qr_aload_n 16 rfl rfl rfl ?_
      refine qr_iload_n 17 rfl rfl rfl ?_
      refine qr_bipush 19 rfl (by decide) rfl ?_
      refine qr_idiv 20 rfl (by omega) (by decide) rfl ?_
      refine qr_iload_n 21 rfl rfl rfl ?_
      refine qr_bipush 23 rfl (by decide) rfl ?_
      refine qr_irem 24 rfl (by omega) (by decide) rfl ?_
      refine qr_iload_n 25 rfl rfl rfl ?_
      refine qr_callN 28 rfl rfl rfl (sf_209_86 (d := d + 0) hI (by omega) (by omega) r2 (by omega)) ?_
      rintro _ _ ⟨σ9, rfl, hI10, hG11, v8, rfl, hv8⟩
      have hF12 : qFr [(86, 30)] [] σ α σ9 α := qFr_t hF0 hG11 (by decide) (by decide)
      show qr_W (qe L xs vb) (d + 4) qx_e208 _ (28, _, [.int (qz v8)], qw σ9 α κ ρ, 0, 0)
      refine qr_goto 32 rfl rfl ?_
      refine qr_retI rfl rfl (by decide) (by decide) ?_
      exact ⟨_, rfl, hI10, hF12, v8, rfl, hv8⟩

set_option maxHeartbeats 4000000 in
set_option maxRecDepth 20000 in
/-- OneRoofModel.proof -/
theorem sf_210_86 {L : Nat} {xs : Nat → Int} {vb : Bool} {d : Nat} {σ α : Nat → Nat → Int} {κ : Nat → Option Nat} {ρ : Nat} {x1 : Int} {x2 : Int} (hI : qI σ α κ ρ) (r1 : (-2147483648) ≤ x1 ∧ x1 ≤ 2147483647) (r2 : (-2147483648) ≤ x2 ∧ x2 ≤ 2147483647) : qm_T (qe L xs vb) (d + 5) 210 [.ref 86, .int (qz x1), .int (qz x2)] (qw σ α κ ρ) (fun r w' => ∃ σ', w' = qw σ' α κ ρ ∧ qI σ' α κ ρ ∧ qFr [(86, 30)] [] σ α σ' α ∧ ∃ v : Int, r = some (.int (qz v)) ∧ ((-2147483648) ≤ v ∧ v ≤ 2147483647)) := by
  refine qr_start (d := d + 4) qv_e210 (Nat.le_of_ble_eq_true rfl) ?_
  show qr_W (qe L xs vb) (d + 4) qx_e210 _ (0, [(0, .ref 86), (1, .int (qz x1)), (2, .int (qz x2))], [], _, 0, 0)
  have hF0 := qFr_rf [(86, 30)] [] σ α
  refine qr_aload_n 1 rfl rfl rfl ?_
  refine qr_iload_n 2 rfl rfl rfl ?_
  refine qr_callN 5 rfl rfl rfl (sf_191_86 (d := d + 1) hI r1) ?_
  have hs3 : 0 ≤ σ 86 6 ∧ σ 86 6 ≤ 32 := hI.1 86 6
  rintro _ _ ⟨rfl, v1, rfl, hv1, hp2⟩
  show qr_W (qe L xs vb) (d + 4) qx_e210 _ (5, _, [.int (qz v1)], qw σ α κ ρ, 0, 0)
  refine qr_if_eq 15 8 rfl rfl rfl (qrg hv1 (by decide) (by decide)) (fun h4 => ?_) (fun h4 => ?_)
  · skip
    refine qr_iconst 16 rfl rfl ?_
    refine qr_retI rfl rfl (by decide) (by decide) ?_
    exact ⟨_, rfl, hI, hF0, (-1), rfl, (by decide)⟩
  · skip
    refine qr_iload_n 9 rfl rfl rfl ?_
    refine qr_callN 12 rfl rfl rfl (sf_192 (d := d + 2) hI r2) ?_
    rintro _ _ ⟨rfl, v5, rfl, hv5, hp6⟩
    show qr_W (qe L xs vb) (d + 4) qx_e210 _ (12, _, [.int (qz v5)], qw σ α κ ρ, 0, 0)
    refine qr_if_ne 17 15 rfl rfl rfl (qrg hv5 (by decide) (by decide)) (fun h7 => ?_) (fun h7 => ?_)
    · skip
      refine qr_aload_n 18 rfl rfl rfl ?_
      refine qr_iload_n 19 rfl rfl rfl ?_
      refine qr_bipush 21 rfl (by decide) rfl ?_
      refine qr_idiv 22 rfl (by omega) (by decide) rfl ?_
      refine qr_iload_n 23 rfl rfl rfl ?_
      refine qr_bipush 25 rfl (by decide) rfl ?_
      refine qr_irem 26 rfl (by omega) (by decide) rfl ?_
      refine qr_iload_n 27 rfl rfl rfl ?_
      refine qr_callN 30 rfl rfl rfl (sf_209_86 (d := d + 0) hI (by omega) (by omega) r2 (by omega)) ?_
      rintro _ _ ⟨σ9, rfl, hI10, hG11, v8, rfl, hv8⟩
      have hF12 : qFr [(86, 30)] [] σ α σ9 α := qFr_t hF0 hG11 (by decide) (by decide)
      show qr_W (qe L xs vb) (d + 4) qx_e210 _ (30, _, [.int (qz v8)], qw σ9 α κ ρ, 0, 0)
      refine qr_iconst 31 rfl rfl ?_
      refine qr_icmp_ne 41 34 rfl rfl rfl hv8 (by decide) (fun h13 => ?_) (fun h13 => ?_)
      · skip
        refine qr_bipush 43 rfl (by decide) rfl ?_
        refine qr_retI rfl rfl (by decide) (by decide) ?_
        exact ⟨_, rfl, hI10, hF12, (-2), rfl, (by decide)⟩
      · skip
        refine qr_aload_n 35 rfl rfl rfl ?_
        refine qr_get 38 rfl rfl rfl (by decide) rfl ?_
        have hs14 : (-2147483648) ≤ σ9 86 30 ∧ σ9 86 30 ≤ 2147483647 := hI10.1 86 30
        refine qr_goto 43 rfl rfl ?_
        refine qr_retI rfl rfl (by decide) (by decide) ?_
        exact ⟨_, rfl, hI10, hF12, (σ9 86 30), rfl, hs14⟩
    · skip
      refine qr_iconst 16 rfl rfl ?_
      refine qr_retI rfl rfl (by decide) (by decide) ?_
      exact ⟨_, rfl, hI, hF0, (-1), rfl, (by decide)⟩
end
section
section QYL
variable {X : qm_X} {d : Nat} {x : qs_Ent} {Q : Option Value → qm_W → Prop} {pc : Nat} {ls : qm_L} {st : List Value} {w : qm_W} {c n : Nat}
theorem qy_low {a : Int} (h : (-2147483648 ≤ a ∧ a ≤ 2147483647) ∧ ¬ a = 0) (k : ∀ v : Int, ((-2147483648 ≤ v ∧ v ≤ 2147483647) ∧ ((qz v).toBitVec.toNat : Int) < ((qz a).toBitVec.toNat : Int)) → qr_W X d x Q (pc, ls, .int (qz v) :: st, w, c, n)) : qr_W X d x Q (pc, ls, .int (qz (qz_and a (a - 1))) :: st, w, c, n) := by
  refine k _ ⟨qz_rng _, ?_⟩
  have e1 : qz (qz_and a (a - 1)) = qz a &&& (qz a - qz 1) := by unfold qz_and; rw [← qz_of, qz_sub]
  have e2 : (qz a).toBitVec.toNat ≠ 0 := fun h0 => h.2 (by
    have h1 : (qz a).toBitVec = 0#32 := BitVec.eq_of_toNat_eq h0
    have h2 : (qz a).toInt = a := qz_ti h.1
    have h3 : (qz a).toInt = (qz a).toBitVec.toInt := rfl
    rw [h1] at h3
    rw [← h2, h3]
    rfl)
  have e3 : (qz a &&& (qz a - qz 1)).toBitVec.toNat ≤ (qz a - qz 1).toBitVec.toNat := by rw [Int32.toBitVec_and, BitVec.toNat_and]; exact Nat.and_le_right
  have e4 : (qz a - qz 1).toBitVec.toNat = (4294967296 - 1 + (qz a).toBitVec.toNat) % 4294967296 := by rw [Int32.toBitVec_sub, BitVec.toNat_sub]; rfl
  have e5 : (qz a).toBitVec.toNat < 4294967296 := (qz a).toBitVec.isLt
  rw [e1]
  omega
theorem qy_lowl {a : Int} (h : (-9223372036854775808 ≤ a ∧ a ≤ 9223372036854775807) ∧ ¬ a = 0) (k : ∀ v : Int, ((-9223372036854775808 ≤ v ∧ v ≤ 9223372036854775807) ∧ ((ql v).toBitVec.toNat : Int) < ((ql a).toBitVec.toNat : Int)) → qr_W X d x Q (pc, ls, .long (ql v) :: st, w, c, n)) : qr_W X d x Q (pc, ls, .long (ql (ql_and a (a - 1))) :: st, w, c, n) := by
  refine k _ ⟨ql_rng _, ?_⟩
  have e1 : ql (ql_and a (a - 1)) = ql a &&& (ql a - ql 1) := by unfold ql_and; rw [← ql_of, ql_sub]
  have e2 : (ql a).toBitVec.toNat ≠ 0 := fun h0 => h.2 (by
    have h1 : (ql a).toBitVec = 0#64 := BitVec.eq_of_toNat_eq h0
    have h2 : (ql a).toInt = a := ql_ti h.1
    have h3 : (ql a).toInt = (ql a).toBitVec.toInt := rfl
    rw [h1] at h3
    rw [← h2, h3]
    rfl)
  have e3 : (ql a &&& (ql a - ql 1)).toBitVec.toNat ≤ (ql a - ql 1).toBitVec.toNat := by rw [Int64.toBitVec_and, BitVec.toNat_and]; exact Nat.and_le_right
  have e4 : (ql a - ql 1).toBitVec.toNat = (18446744073709551616 - 1 + (ql a).toBitVec.toNat) % 18446744073709551616 := by rw [Int64.toBitVec_sub, BitVec.toNat_sub]; rfl
  have e5 : (ql a).toBitVec.toNat < 18446744073709551616 := (ql a).toBitVec.isLt
  rw [e1]
  omega
end QYL

set_option maxHeartbeats 4000000 in
set_option maxRecDepth 20000 in
/-- OneRoofModel.bitsOf -/
theorem sf_236 {L : Nat} {xs : Nat → Int} {vb : Bool} {d : Nat} {σ α : Nat → Nat → Int} {κ : Nat → Option Nat} {ρ : Nat} {x0 : Int} (hI : qI σ α κ ρ) (r0 : (-2147483648) ≤ x0 ∧ x0 ≤ 2147483647) : qm_T (qe L xs vb) (d + 1) 236 [.int (qz x0)] (qw σ α κ ρ) (fun r w' => w' = qw σ α κ ρ ∧ ∃ v : Int, r = some (.int (qz v)) ∧ ((-2147483648) ≤ v ∧ v ≤ 2147483647)) := by
  refine qr_start (d := d + 0) qv_e236 (Nat.le_of_ble_eq_true rfl) ?_
  show qr_W (qe L xs vb) (d + 0) qx_e236 _ (0, [(0, .int (qz x0))], [], _, 0, 0)
  refine qr_iconst 1 rfl rfl ?_
  refine qr_istore_n _ 2 rfl (by decide) rfl rfl ?_
  refine qr_iload_n 3 rfl rfl rfl ?_
  refine qr_istore_n _ 4 rfl (by decide) rfl rfl ?_
  have hL262 : ∀ (n : Nat) (ls : qm_L) (u257 u259 : Int), ((qz u259).toBitVec.toNat : Int) < (n : Int) → qm_get ls 1 = some (.int (qz u257)) → qm_get ls 2 = some (.int (qz u259)) → ((-2147483648) ≤ u257 ∧ u257 ≤ 2147483647) → ((-2147483648) ≤ u259 ∧ u259 ≤ 2147483647) → qr_W (qe L xs vb) (d + 0) qx_e236 (fun r w' => w' = qw σ α κ ρ ∧ ∃ v : Int, r = some (.int (qz v)) ∧ ((-2147483648) ≤ v ∧ v ≤ 2147483647)) (4, ls, [], qw σ α κ ρ, 0, 0) := by
    intro n
    induction n with
    | zero => intro ls u257 u259 hm g256 g258 hf260 hf261; exact False.elim (by omega)
    | succ n ih263 =>
      intro ls u257 u259 hm g256 g258 hf260 hf261
      refine qr_iload_n 5 rfl g258 rfl ?_
      refine qr_if_eq 20 8 rfl rfl rfl hf261 (fun h264 => ?_) (fun h264 => ?_)
      · skip
        refine qr_iload_n 21 rfl g256 rfl ?_
        refine qr_retI rfl rfl (by decide) (by decide) ?_
        exact ⟨rfl, u257, rfl, hf260⟩
      · skip
        refine qy_iincC 11 rfl g256 (by decide) rfl (fun v265 hv265 => ?_)
        refine qr_iload_n 12 rfl (qm_gk g258 (by decide) (Or.inl (by decide))) rfl ?_
        refine qr_iload_n 13 rfl (qm_gk g258 (by decide) (Or.inl (by decide))) rfl ?_
        refine qr_iconst 14 rfl rfl ?_
        refine qr_isub 15 rfl rfl ?_
        refine qr_iand 16 rfl rfl ?_
        refine qy_low (by omega) (fun v266 hv266 => ?_)
        refine qr_istore_n _ 17 rfl (by decide) rfl rfl ?_
        refine qr_goto 4 rfl rfl ?_
        exact ih263 _ v265 v266 (by omega) (qm_gk (qm_ge _ _ _) (by decide) (Or.inr rfl)) (qm_ge _ _ _) (by omega) (by omega)
  exact hL262 ((((qz x0).toBitVec.toNat : Int) + 1 : Int)).toNat _ 0 x0 (by omega) rfl rfl (by decide) r0

set_option maxHeartbeats 4000000 in
set_option maxRecDepth 20000 in
/-- OneRoofModel.bitsIn -/
theorem sf_253 {L : Nat} {xs : Nat → Int} {vb : Bool} {d : Nat} {σ α : Nat → Nat → Int} {κ : Nat → Option Nat} {ρ : Nat} {x0 : Int} (hI : qI σ α κ ρ) (r0 : (-9223372036854775808) ≤ x0 ∧ x0 ≤ 9223372036854775807) : qm_T (qe L xs vb) (d + 1) 253 [.long (ql x0)] (qw σ α κ ρ) (fun r w' => w' = qw σ α κ ρ ∧ ∃ v : Int, r = some (.int (qz v)) ∧ ((-2147483648) ≤ v ∧ v ≤ 2147483647)) := by
  refine qr_start (d := d + 0) qv_e253 (Nat.le_of_ble_eq_true rfl) ?_
  show qr_W (qe L xs vb) (d + 0) qx_e253 _ (0, [(0, .long (ql x0))], [], _, 0, 0)
  refine qr_iconst 1 rfl rfl ?_
  refine qr_istore_n _ 2 rfl (by decide) rfl rfl ?_
  refine qr_lload_n 3 rfl rfl rfl ?_
  refine qr_lstore_n _ 4 rfl (by decide) rfl rfl ?_
  have hL262 : ∀ (n : Nat) (ls : qm_L) (u257 u259 : Int), ((ql u259).toBitVec.toNat : Int) < (n : Int) → qm_get ls 2 = some (.int (qz u257)) → qm_get ls 3 = some (.long (ql u259)) → ((-2147483648) ≤ u257 ∧ u257 ≤ 2147483647) → ((-9223372036854775808) ≤ u259 ∧ u259 ≤ 9223372036854775807) → qr_W (qe L xs vb) (d + 0) qx_e253 (fun r w' => w' = qw σ α κ ρ ∧ ∃ v : Int, r = some (.int (qz v)) ∧ ((-2147483648) ≤ v ∧ v ≤ 2147483647)) (4, ls, [], qw σ α κ ρ, 0, 0) := by
    intro n
    induction n with
    | zero => intro ls u257 u259 hm g256 g258 hf260 hf261; exact False.elim (by omega)
    | succ n ih263 =>
      intro ls u257 u259 hm g256 g258 hf260 hf261
      refine qr_lload_n 5 rfl g258 rfl ?_
      refine qr_lconst 6 rfl rfl ?_
      refine qy_vl 0 rfl ?_
      refine qr_lc_eq 22 10 rfl rfl rfl rfl hf261 (by decide) (fun h264 => ?_) (fun h264 => ?_)
      · skip
        refine qr_iload_n 23 rfl g256 rfl ?_
        refine qr_retI rfl rfl (by decide) (by decide) ?_
        exact ⟨rfl, u257, rfl, hf260⟩
      · skip
        refine qy_iincC 13 rfl g256 (by decide) rfl (fun v265 hv265 => ?_)
        refine qr_lload_n 14 rfl (qm_gk g258 (by decide) (Or.inl (by decide))) rfl ?_
        refine qr_lload_n 15 rfl (qm_gk g258 (by decide) (Or.inl (by decide))) rfl ?_
        refine qr_lconst 16 rfl rfl ?_
        refine qy_vl 1 rfl ?_
        refine qr_lsub 17 rfl rfl ?_
        refine qr_land 18 rfl rfl ?_
        refine qy_lowl (by omega) (fun v266 hv266 => ?_)
        refine qr_lstore_n _ 19 rfl (by decide) rfl rfl ?_
        refine qr_goto 4 rfl rfl ?_
        exact ih263 _ v265 v266 (by omega) (qm_gk2 (qm_ge _ _ _) (by decide) (by decide) (Or.inr rfl)) (qm_ge2 _ _ _) (by omega) (by omega)
  exact hL262 ((((ql x0).toBitVec.toNat : Int) + 1 : Int)).toNat _ 0 x0 (by omega) rfl rfl (by decide) r0

set_option maxHeartbeats 4000000 in
set_option maxRecDepth 20000 in
/-- OneRoofModel.count -/
theorem sf_271_86 {L : Nat} {xs : Nat → Int} {vb : Bool} {d : Nat} {σ α : Nat → Nat → Int} {κ : Nat → Option Nat} {ρ : Nat} {x1 : Int} (hI : qI σ α κ ρ) (r1 : (-2147483648) ≤ x1 ∧ x1 ≤ 2147483647) : qm_T (qe L xs vb) (d + 2) 271 [.ref 86, .int (qz x1)] (qw σ α κ ρ) (fun r w' => w' = qw σ α κ ρ ∧ ∃ v : Int, r = some (.int (qz v)) ∧ ((-2147483648) ≤ v ∧ v ≤ 2147483647)) := by
  refine qr_start (d := d + 1) qv_e271 (Nat.le_of_ble_eq_true rfl) ?_
  show qr_W (qe L xs vb) (d + 1) qx_e271 _ (0, [(0, .ref 86), (1, .int (qz x1))], [], _, 0, 0)
  refine qr_iload_n 1 rfl rfl rfl ?_
  have h1 : x1 = 0 ∨ x1 = 1 ∨ x1 = 2 ∨ x1 = 3 ∨ x1 = 4 ∨ x1 = 5 ∨ x1 = 6 ∨ x1 = 7 ∨ (x1 < 0 ∨ 7 < x1) := by omega
  rcases h1 with h1 | h1 | h1 | h1 | h1 | h1 | h1 | h1 | h1
  · skip
    refine qr_tabIn 48 rfl r1 (by rw [h1]; decide) (by rw [h1]; rfl) rfl ?_
    refine qr_aload_n 49 rfl rfl rfl ?_
    refine qr_get 52 rfl rfl rfl (by decide) rfl ?_
    have hs3 : 0 ≤ σ 86 6 ∧ σ 86 6 ≤ 32 := hI.1 86 6
    refine qr_retI rfl rfl (by decide) (by decide) ?_
    exact ⟨rfl, (σ 86 6), rfl, (qrg hs3 (by decide) (by decide))⟩
  · skip
    refine qr_tabIn 53 rfl r1 (by rw [h1]; decide) (by rw [h1]; rfl) rfl ?_
    refine qr_aload_n 54 rfl rfl rfl ?_
    refine qr_get 57 rfl rfl rfl (by decide) rfl ?_
    have hs4 : 0 ≤ σ 86 11 ∧ σ 86 11 ≤ 61 := hI.1 86 11
    refine qr_retI rfl rfl (by decide) (by decide) ?_
    exact ⟨rfl, (σ 86 11), rfl, (qrg hs4 (by decide) (by decide))⟩
  · skip
    refine qr_tabIn 58 rfl r1 (by rw [h1]; decide) (by rw [h1]; rfl) rfl ?_
    refine qr_aload_n 59 rfl rfl rfl ?_
    refine qr_get 62 rfl rfl rfl (by decide) rfl ?_
    have hs5 : 0 ≤ σ 86 16 ∧ σ 86 16 ≤ 40 := hI.1 86 16
    refine qr_retI rfl rfl (by decide) (by decide) ?_
    exact ⟨rfl, (σ 86 16), rfl, (qrg hs5 (by decide) (by decide))⟩
  · skip
    refine qr_tabIn 63 rfl r1 (by rw [h1]; decide) (by rw [h1]; rfl) rfl ?_
    refine qr_aload_n 64 rfl rfl rfl ?_
    refine qr_get 67 rfl rfl rfl (by decide) rfl ?_
    have hs6 : 0 ≤ σ 86 24 ∧ σ 86 24 ≤ 60 := hI.1 86 24
    refine qr_retI rfl rfl (by decide) (by decide) ?_
    exact ⟨rfl, (σ 86 24), rfl, (qrg hs6 (by decide) (by decide))⟩
  · skip
    refine qr_tabIn 68 rfl r1 (by rw [h1]; decide) (by rw [h1]; rfl) rfl ?_
    refine qr_aload_n 69 rfl rfl rfl ?_
    refine qr_get 72 rfl rfl rfl (by decide) rfl ?_
    have hs7 : 0 ≤ σ 86 32 ∧ σ 86 32 ≤ 120 := hI.1 86 32
    refine qr_retI rfl rfl (by decide) (by decide) ?_
    exact ⟨rfl, (σ 86 32), rfl, (qrg hs7 (by decide) (by decide))⟩
  · skip
    refine qr_tabIn 73 rfl r1 (by rw [h1]; decide) (by rw [h1]; rfl) rfl ?_
    refine qr_aload_n 74 rfl rfl rfl ?_
    refine qr_get 77 rfl rfl rfl (by decide) rfl ?_
    have hs8 : 0 ≤ σ 86 5 ∧ σ 86 5 ≤ 40 := hI.1 86 5
    refine qr_retI rfl rfl (by decide) (by decide) ?_
    exact ⟨rfl, (σ 86 5), rfl, (qrg hs8 (by decide) (by decide))⟩
  · skip
    refine qr_tabIn 78 rfl r1 (by rw [h1]; decide) (by rw [h1]; rfl) rfl ?_
    refine qr_aload_n 79 rfl rfl rfl ?_
    refine qr_get 82 rfl rfl rfl (by decide) rfl ?_
    have hs9 : (-9223372036854775808) ≤ σ 86 10 ∧ σ 86 10 ≤ 9223372036854775807 := hI.1 86 10
    refine qr_callN 85 rfl rfl rfl (sf_253 (d := d + 0) hI hs9) ?_
    rintro _ _ ⟨rfl, v10, rfl, hv10⟩
    show qr_W (qe L xs vb) (d + 1) qx_e271 _ (85, _, [.int (qz v10)], qw σ α κ ρ, 0, 0)
    refine qr_retI rfl rfl (by decide) (by decide) ?_
    exact ⟨rfl, v10, rfl, hv10⟩
  · skip
    refine qr_tabIn 86 rfl r1 (by rw [h1]; decide) (by rw [h1]; rfl) rfl ?_
    refine qr_aload_n 87 rfl rfl rfl ?_
    refine qr_get 90 rfl rfl rfl (by decide) rfl ?_
    have hs11 : (-2147483648) ≤ σ 86 56 ∧ σ 86 56 ≤ 2147483647 := hI.1 86 56
    refine qr_retI rfl rfl (by decide) (by decide) ?_
    exact ⟨rfl, (σ 86 56), rfl, hs11⟩
  · skip
    refine qr_tabOut 91 rfl r1 (by omega) rfl ?_
    refine qr_iconst 92 rfl rfl ?_
    refine qr_retI rfl rfl (by decide) (by decide) ?_
    exact ⟨rfl, (-1), rfl, (by decide)⟩
end
section
def qSf (f : Nat → Int) : Nat → Int
  | 0 => 0
  | n + 1 => qSf f n + f n
def qS (α : Nat → Nat → Int) : Int := qSf (α 96) 1024
theorem qSf_lo (f : Nat → Int) (i : Nat) (v : Int) : ∀ n, n ≤ i → qSf (qzu f i v) n = qSf f n
  | 0, _ => rfl
  | n + 1, h => by
    show qSf (qzu f i v) n + qzu f i v n = qSf f n + f n
    rw [qSf_lo f i v n (by omega)]
    unfold qzu
    rw [if_neg (by omega)]
theorem qSf_u (f : Nat → Int) (i : Nat) (v : Int) : ∀ n, i < n → qSf (qzu f i v) n + f i = qSf f n + v
  | 0, h => absurd h (Nat.not_lt_zero _)
  | n + 1, h => by
    show qSf (qzu f i v) n + qzu f i v n + f i = qSf f n + f n + v
    by_cases e : i = n
    · subst e
      rw [qSf_lo f i v i (Nat.le_refl _)]
      unfold qzu
      rw [if_pos rfl]
      omega
    · have h1 := qSf_u f i v n (by omega)
      have h2 : qzu f i v n = f n := by unfold qzu; rw [if_neg (by omega)]
      rw [h2]
      omega
theorem qS_u (α : Nat → Nat → Int) (i : Nat) (v : Int) (h : i < 1024) : qS (qw_r α 96 (qzu (α 96) i v)) + α 96 i = qS α + v := by
  unfold qS
  rw [qw_r_eq]
  exact qSf_u _ _ _ _ h
theorem qSf_nn (f : Nat → Int) : ∀ n, (∀ j, j < n → 0 ≤ f j) → 0 ≤ qSf f n
  | 0, _ => Int.le_refl 0
  | n + 1, h => by
    have h1 := qSf_nn f n (fun j hj => h j (by omega))
    have h2 := h n (by omega)
    show 0 ≤ qSf f n + f n
    omega
theorem qS_nn {σ α : Nat → Nat → Int} {κ : Nat → Option Nat} {ρ : Nat} (h : qI σ α κ ρ) : 0 ≤ qS α := qSf_nn _ _ (fun j hj => (h.2.1 96 j hj).1)

set_option maxHeartbeats 4000000 in
set_option maxRecDepth 20000 in
/-- OneRoofModel.nearer -/
theorem sf_189_86s {L : Nat} {xs : Nat → Int} {vb : Bool} {d : Nat} {σ α : Nat → Nat → Int} {κ : Nat → Option Nat} {ρ : Nat} {x1 : Int} {x2 : Int} {P : Int → Int → Int → Prop} (hI : qI σ α κ ρ) (r1 : 0 ≤ x1 ∧ x1 ≤ 31) (r2 : 0 ≤ x2 ∧ x2 ≤ 31) (p0 : ∀ x y : Int, (0 ≤ x ∧ x < σ 86 6) → (0 ≤ y ∧ y < σ 86 6) → P (qTb (α 96) x y) x y) (p1 : qC1 P (σ 86 6) x1 x2) (p2 : x1 < σ 86 6 ∧ x2 < σ 86 6) (p3 : σ 86 15 = 0) : qm_T (qe L xs vb) (d + 1) 189 [.ref 86, .int (qz x1), .int (qz x2)] (qw σ α κ ρ) (fun r w' => ∃ α', w' = qw σ α' κ ρ ∧ qI σ α' κ ρ ∧ qFr [] [96] σ α σ α' ∧ ∃ v : Int, r = some (.int (qz v)) ∧ (0 ≤ v ∧ v ≤ 1) ∧ (qS α' ≤ qS α ∧ (v = 1 → qS α' < qS α)) ∧ qNr P (α 96) (α' 96) (σ 86 6) x1 x2 (σ 86 6) v) := by
  refine qr_start (d := d + 0) qv_e189 (Nat.le_of_ble_eq_true rfl) ?_
  show qr_W (qe L xs vb) (d + 0) qx_e189 _ (0, [(0, .ref 86), (1, .int (qz x1)), (2, .int (qz x2))], [], _, 0, 0)
  have hF0 := qFr_rf [] [96] σ α
  have hz86_6 : 0 ≤ σ 86 6 ∧ σ 86 6 ≤ 32 := hI.1 86 6
  have hz86_15 : 0 ≤ σ 86 15 ∧ σ 86 15 ≤ 1 := hI.1 86 15
  refine qr_iconst 1 rfl rfl ?_
  refine qr_istore_n _ 2 rfl (by decide) rfl rfl ?_
  refine qr_iconst 3 rfl rfl ?_
  refine qr_istore _ 5 rfl (by decide) rfl rfl ?_
  have hL211 : ∀ (n : Nat) (ls : qm_L) (u200 u202 : Int) (α204 : Nat → Nat → Int), 32 - u202 < (n : Int) → qm_get ls 0 = some (.ref 86) → qm_get ls 1 = some (.int (qz x1)) → qm_get ls 2 = some (.int (qz x2)) → qm_get ls 3 = some (.int (qz u200)) → qm_get ls 4 = some (.int (qz u202)) → (0 ≤ u200 ∧ u200 ≤ 1) → (0 ≤ u202 ∧ u202 ≤ 32) → qI σ α204 κ ρ → qFr [] [96] σ α σ α204 → qNr P (α 96) (α204 96) (σ 86 6) x1 x2 u202 u200 → (qS α204 ≤ qS α ∧ (u200 = 1 → qS α204 < qS α)) → qr_W (qe L xs vb) (d + 0) qx_e189 (fun r w' => ∃ α', w' = qw σ α' κ ρ ∧ qI σ α' κ ρ ∧ qFr [] [96] σ α σ α' ∧ ∃ v : Int, r = some (.int (qz v)) ∧ (0 ≤ v ∧ v ≤ 1) ∧ (qS α' ≤ qS α ∧ (v = 1 → qS α' < qS α)) ∧ qNr P (α 96) (α' 96) (σ 86 6) x1 x2 (σ 86 6) v) (5, ls, [], qw σ α204 κ ρ, 0, 0) := by
    intro n
    induction n with
    | zero => intro ls u200 u202 α204 hm g196 g197 g198 g199 g201 hf207 hf208 hI205 hF206 hx209 hx210; exact False.elim (by omega)
    | succ n ih212 =>
      intro ls u200 u202 α204 hm g196 g197 g198 g199 g201 hf207 hf208 hI205 hF206 hx209 hx210
      refine qr_iload 7 rfl g201 rfl ?_
      refine qr_aload_n 8 rfl g196 rfl ?_
      refine qr_get 11 rfl rfl rfl (by decide) rfl ?_
      refine qr_icmp_ge 69 14 rfl rfl rfl (qrg hf208 (by decide) (by decide)) (qrg hz86_6 (by decide) (by decide)) (fun h213 => ?_) (fun h213 => ?_)
      · skip
        refine qr_iload_n 70 rfl g199 rfl ?_
        refine qr_retZ rfl rfl (by omega) (by decide) (by decide) ?_
        exact ⟨_, rfl, hI205, hF206, u200, rfl, hf207, by omega, (qNr_end hx209 (by omega))⟩
      · skip
        refine qr_aload_n 15 rfl g196 rfl ?_
        refine qr_get 18 rfl rfl rfl (by decide) rfl ?_
        refine qr_bipush 20 rfl (by decide) rfl ?_
        refine qr_iload 22 rfl g201 rfl ?_
        refine qr_imul 23 rfl rfl ?_
        refine qr_iload_n 24 rfl g197 rfl ?_
        refine qr_iadd 25 rfl rfl ?_
        refine qr_iaload 26 rfl rfl (by omega) (by decide) rfl ?_
        refine qr_topI (fun v214 hv214 => ?_)
        have hs215 : 0 ≤ v214 ∧ v214 ≤ 99 := by rw [hv214]; exact hI205.2.1 96 _ (show _ < 1024 by omega)
        refine qr_iconst 27 rfl rfl ?_
        refine qr_iadd 28 rfl rfl ?_
        refine qr_istore _ 30 rfl (by decide) rfl rfl ?_
        refine qr_iload 32 rfl (qm_ge _ _ _) rfl ?_
        refine qr_aload_n 33 rfl (qm_gk g196 (by decide) (Or.inl (by decide))) rfl ?_
        refine qr_get 36 rfl rfl rfl (by decide) rfl ?_
        refine qr_bipush 38 rfl (by decide) rfl ?_
        refine qr_iload 40 rfl (qm_gk g201 (by decide) (Or.inr rfl)) rfl ?_
        refine qr_imul 41 rfl rfl ?_
        refine qr_iload_n 42 rfl (qm_gk g198 (by decide) (Or.inl (by decide))) rfl ?_
        refine qr_iadd 43 rfl rfl ?_
        refine qr_iaload 44 rfl rfl (by omega) (by decide) rfl ?_
        refine qr_topI (fun v216 hv216 => ?_)
        have hs217 : 0 ≤ v216 ∧ v216 ≤ 99 := by rw [hv216]; exact hI205.2.1 96 _ (show _ < 1024 by omega)
        refine qr_icmp_ge 63 47 rfl rfl rfl (by omega) (qrg hs217 (by decide) (by decide)) (fun h218 => ?_) (fun h218 => ?_)
        · skip
          refine qr_iinc _ 66 rfl (qm_gk g201 (by decide) (Or.inr rfl)) (by decide) rfl rfl ?_
          refine qr_goto 5 rfl rfl ?_
          exact ih212 _ u200 (u202 + 1) α204 (by omega) (qm_gk (qm_gk g196 (by decide) (Or.inl (by decide))) (by decide) (Or.inl (by decide))) (qm_gk (qm_gk g197 (by decide) (Or.inl (by decide))) (by decide) (Or.inl (by decide))) (qm_gk (qm_gk g198 (by decide) (Or.inl (by decide))) (by decide) (Or.inl (by decide))) (qm_gk (qm_gk g199 (by decide) (Or.inl (by decide))) (by decide) (Or.inr rfl)) (qm_ge _ _ _) hf207 (by omega) hI205 hF206 (qNr_skip hx209 (qTb_c hv214) (qTb_c hv216) (by omega)) (by omega)
        · skip
          refine qr_aload_n 48 rfl (qm_gk g196 (by decide) (Or.inl (by decide))) rfl ?_
          refine qr_get 51 rfl rfl rfl (by decide) rfl ?_
          refine qr_bipush 53 rfl (by decide) rfl ?_
          refine qr_iload 55 rfl (qm_gk g201 (by decide) (Or.inr rfl)) rfl ?_
          refine qr_imul 56 rfl rfl ?_
          refine qr_iload_n 57 rfl (qm_gk g198 (by decide) (Or.inl (by decide))) rfl ?_
          refine qr_iadd 58 rfl rfl ?_
          refine qr_iload 60 rfl (qm_ge _ _ _) rfl ?_
          refine qr_iastore 61 rfl (by decide) rfl (by omega) (by decide) rfl ?_
          refine qy_wA (qw_r α204 96 (qzu (α204 96) (((32 * u202) + x2) : Int).toNat (v214 + 1))) rfl (fun α219 e220 => ?_)
          have hI221 : qI σ α219 κ ρ := by rw [e220]; exact qI_r96 hI205 _ (show 0 ≤ (v214 + 1) ∧ (v214 + 1) ≤ 99 by omega) (by have hw : σ 86 15 = (σ 86 15) := rfl; omega)
          have hF222 : qFr [] [96] σ α σ α219 := by rw [e220]; exact qFr_r hF206 96 _ (by decide)
          have hq223 := qS_u α204 (((32 * u202) + x2) : Int).toNat ((v214 + 1)) (by omega)
          rw [← e220] at hq223
          refine qr_iconst 62 rfl rfl ?_
          refine qr_istore_n _ 63 rfl (by decide) rfl rfl ?_
          refine qr_iinc _ 66 rfl (qm_gk (qm_gk g201 (by decide) (Or.inr rfl)) (by decide) (Or.inl (by decide))) (by decide) rfl rfl ?_
          refine qr_goto 5 rfl rfl ?_
          exact ih212 _ 1 (u202 + 1) α219 (by omega) (qm_gk (qm_gk (qm_gk g196 (by decide) (Or.inl (by decide))) (by decide) (Or.inl (by decide))) (by decide) (Or.inl (by decide))) (qm_gk (qm_gk (qm_gk g197 (by decide) (Or.inl (by decide))) (by decide) (Or.inl (by decide))) (by decide) (Or.inl (by decide))) (qm_gk (qm_gk (qm_gk g198 (by decide) (Or.inl (by decide))) (by decide) (Or.inr rfl)) (by decide) (Or.inl (by decide))) (qm_gk (qm_ge _ _ _) (by decide) (Or.inr rfl)) (qm_ge _ _ _) (by decide) (by omega) hI221 hF222 (by rw [(congrFun e220 96).trans qw_r_eq]; exact qNr_set hx209 p1 (by omega) (by omega) (by omega) (by omega) (by omega) (qTb_c hv214) (qTb_c hv216) (by omega)) (by omega)
  exact hL211 ((32 - 0 + 1 : Int)).toNat _ 0 0 α (by omega) rfl rfl rfl rfl rfl (by decide) (by decide) hI hF0 (qNr_0 p0) (by omega)

set_option maxHeartbeats 4000000 in
set_option maxRecDepth 20000 in
/-- OneRoofModel.findSteps -/
theorem sf_188_86 {L : Nat} {xs : Nat → Int} {vb : Bool} {d : Nat} {σ α : Nat → Nat → Int} {κ : Nat → Option Nat} {ρ : Nat}  (hI : qI σ α κ ρ) (p0 : σ 86 15 = 0) : qm_T (qe L xs vb) (d + 2) 188 [.ref 86] (qw σ α κ ρ) (fun r w' => ∃ σ' α', w' = qw σ' α' κ ρ ∧ qI σ' α' κ ρ ∧ qFr [(86, 15)] [96] σ α σ' α' ∧ σ' 86 15 = 1 ∧ r = none) := by
  refine qr_start (d := d + 1) qv_e188 (Nat.le_of_ble_eq_true rfl) ?_
  show qr_W (qe L xs vb) (d + 1) qx_e188 _ (0, [(0, .ref 86)], [], _, 0, 0)
  have hF0 := qFr_rf [(86, 15)] [96] σ α
  have q0 : ∀ x : Int, qPw (α 94) (α 95) (σ 86 11) 0 x x := fun x => ⟨by decide, fun _ => rfl⟩
  have q1 : ∀ x y : Int, qPw (α 94) (α 95) (σ 86 11) 99 x y := fun x y => ⟨by decide, fun h => absurd h (by decide)⟩
  have q2 : ∀ j : Nat, (j : Int) < σ 86 11 → qC1 (qPw (α 94) (α 95) (σ 86 11)) (σ 86 6) (α 94 j) (α 95 j) ∧ qC1 (qPw (α 94) (α 95) (σ 86 11)) (σ 86 6) (α 95 j) (α 94 j) := fun j hj => ⟨qPw_c1 ⟨j, hj, Or.inl ⟨rfl, rfl⟩⟩, qPw_c1 ⟨j, hj, Or.inr ⟨rfl, rfl⟩⟩⟩
  have q3 := hI.2.2.2.2.2.2.2.2.1
  have hz86_15 : 0 ≤ σ 86 15 ∧ σ 86 15 ≤ 1 := hI.1 86 15
  have hz86_6 : 0 ≤ σ 86 6 ∧ σ 86 6 ≤ 32 := hI.1 86 6
  have hz86_11 : 0 ≤ σ 86 11 ∧ σ 86 11 ≤ 61 := hI.1 86 11
  refine qr_iconst 1 rfl rfl ?_
  refine qr_istore_n _ 2 rfl (by decide) rfl rfl ?_
  have hL170556 : ∀ (n : Nat) (ls : qm_L) (u170549 : Int) (α170551 : Nat → Nat → Int), 32 - u170549 < (n : Int) → qm_get ls 0 = some (.ref 86) → qm_get ls 1 = some (.int (qz u170549)) → (0 ≤ u170549 ∧ u170549 ≤ 32) → qI σ α170551 κ ρ → qFr [(86, 15)] [96] σ α σ α170551 → qFi (α170551 96) (σ 86 6) u170549 0 → qr_W (qe L xs vb) (d + 1) qx_e188 (fun r w' => ∃ σ' α', w' = qw σ' α' κ ρ ∧ qI σ' α' κ ρ ∧ qFr [(86, 15)] [96] σ α σ' α' ∧ σ' 86 15 = 1 ∧ r = none) (2, ls, [], qw σ α170551 κ ρ, 0, 0) := by
    intro n
    induction n with
    | zero => intro ls u170549 α170551 hm g170547 g170548 hf170554 hI170552 hF170553 hx170555; exact False.elim (by omega)
    | succ n ih170557 =>
      intro ls u170549 α170551 hm g170547 g170548 hf170554 hI170552 hF170553 hx170555
      refine qr_iload_n 3 rfl g170548 rfl ?_
      refine qr_aload_n 4 rfl g170547 rfl ?_
      refine qr_get 7 rfl rfl rfl (by decide) rfl ?_
      refine qr_icmp_ge 54 10 rfl rfl rfl (qrg hf170554 (by decide) (by decide)) (qrg hz86_6 (by decide) (by decide)) (fun h170558 => ?_) (fun h170558 => ?_)
      · skip
        refine qr_iconst 55 rfl rfl ?_
        refine qr_istore_n _ 56 rfl (by decide) rfl rfl ?_
        have hL179879 : ∀ (n : Nat) (ls : qm_L) (u179872 : Int) (α179874 : Nat → Nat → Int), ((2 * qS α179874 + u179872).toNat : Int) < (n : Int) → qm_get ls 0 = some (.ref 86) → qm_get ls 1 = some (.int (qz u179872)) → (0 ≤ u179872 ∧ u179872 ≤ 1) → qI σ α179874 κ ρ → qFr [(86, 15)] [96] σ α σ α179874 → qWh (qPw (α 94) (α 95) (σ 86 11)) (α179874 96) (α 94) (α 95) (σ 86 6) (if u179872 = 0 then σ 86 11 else 0) u179872 → qr_W (qe L xs vb) (d + 1) qx_e188 (fun r w' => ∃ σ' α', w' = qw σ' α' κ ρ ∧ qI σ' α' κ ρ ∧ qFr [(86, 15)] [96] σ α σ' α' ∧ σ' 86 15 = 1 ∧ r = none) (56, ls, [], qw σ α179874 κ ρ, 0, 0) := by
          intro n
          induction n with
          | zero => intro ls u179872 α179874 hm g179870 g179871 hf179877 hI179875 hF179876 hx179878; exact False.elim (by omega)
          | succ n ih179880 =>
            intro ls u179872 α179874 hm g179870 g179871 hf179877 hI179875 hF179876 hx179878
            have hq179881 := qS_nn hI179875
            refine qr_iload_n 57 rfl g179871 rfl ?_
            refine qr_if_eq 139 60 rfl rfl rfl (qrg hf179877 (by decide) (by decide)) (fun h179882 => ?_) (fun h179882 => ?_)
            · skip
              refine qr_aload_n 140 rfl g179870 rfl ?_
              refine qr_iconst 141 rfl rfl ?_
              refine qr_put 144 rfl (by decide) rfl (Nat.le_of_ble_eq_true rfl) (Nat.le_of_ble_eq_true rfl) (Or.inl rfl) (qr_fitZ rfl (Or.inr rfl)) rfl ?_
              refine qy_wS (qw_s σ 86 15 1) rfl (fun σ179883 e179884 => ?_)
              have hI179885 : qI σ179883 α179874 κ ρ := by rw [e179884]; exact qI_s15o hI179875 (by rw [hF179876.2 94 (by decide), hF179876.2 95 (by decide)]; exact qDi_rest q3 (fun x y hx hy => (hI179875.2.1 96 _ (show (x * 32 + y : Int).toNat < 1024 by omega)).2) (by have hq := hx179878; rw [if_pos (show u179872 = 0 by omega), show u179872 = 0 by omega] at hq; exact hq))
              have hF179886 : qFr [(86, 15)] [96] σ α σ179883 α179874 := by rw [e179884]; exact qFr_s hF179876 86 15 _ (by decide)
              refine qr_retV rfl rfl (by decide) (by decide) ?_
              exact ⟨_, _, rfl, hI179885, hF179886, (by have hw : σ179883 86 15 = 1 := (congrFun (congrFun e179884 86) 15).trans rfl; omega), rfl⟩
            · skip
              refine qr_iconst 61 rfl rfl ?_
              refine qr_istore_n _ 62 rfl (by decide) rfl rfl ?_
              refine qr_iconst 63 rfl rfl ?_
              refine qr_istore_n _ 64 rfl (by decide) rfl rfl ?_
              have hL181684 : ∀ (n : Nat) (ls : qm_L) (u181672 u181674 : Int) (α181676 : Nat → Nat → Int), 61 - u181674 < (n : Int) → qm_get ls 0 = some (.ref 86) → qm_get ls 1 = some (.int (qz u181672)) → qm_get ls 2 = some (.int (qz u181674)) → (0 ≤ u181672 ∧ u181672 ≤ 1) → (0 ≤ u181674 ∧ u181674 ≤ 61) → qI σ α181676 κ ρ → qFr [(86, 15)] [96] σ α σ α181676 → qWh (qPw (α 94) (α 95) (σ 86 11)) (α181676 96) (α 94) (α 95) (σ 86 6) u181674 u181672 → (qS α181676 ≤ qS α179874 ∧ (u181672 = 1 → qS α181676 < qS α179874)) → u181674 ≤ σ 86 11 → qr_W (qe L xs vb) (d + 1) qx_e188 (fun r w' => ∃ σ' α', w' = qw σ' α' κ ρ ∧ qI σ' α' κ ρ ∧ qFr [(86, 15)] [96] σ α σ' α' ∧ σ' 86 15 = 1 ∧ r = none) (64, ls, [], qw σ α181676 κ ρ, 0, 0) := by
                intro n
                induction n with
                | zero => intro ls u181672 u181674 α181676 hm g181670 g181671 g181673 hf181679 hf181680 hI181677 hF181678 hx181681 hx181682 hx181683; exact False.elim (by omega)
                | succ n ih181685 =>
                  intro ls u181672 u181674 α181676 hm g181670 g181671 g181673 hf181679 hf181680 hI181677 hF181678 hx181681 hx181682 hx181683
                  refine qr_iload_n 65 rfl g181673 rfl ?_
                  refine qr_aload_n 66 rfl g181670 rfl ?_
                  refine qr_get 69 rfl rfl rfl (by decide) rfl ?_
                  refine qr_icmp_ge 136 72 rfl rfl rfl (qrg hf181680 (by decide) (by decide)) (qrg hz86_11 (by decide) (by decide)) (fun h181686 => ?_) (fun h181686 => ?_)
                  · skip
                    refine qr_goto 56 rfl rfl ?_
                    exact ih179880 _ u181672 α181676 (by omega) g181670 g181671 hf181679 hI181677 hF181678 (by split; (have hq := hx181681; rw [show u181674 = σ 86 11 by omega] at hq; exact hq); (exact qWh_0 hx181681))
                  · skip
                    refine qr_aload_n 73 rfl g181670 rfl ?_
                    refine qr_aload_n 74 rfl g181670 rfl ?_
                    refine qr_get 77 rfl rfl rfl (by decide) rfl ?_
                    refine qr_iload_n 78 rfl g181673 rfl ?_
                    refine qr_iaload 79 rfl rfl (by omega) (by decide) rfl ?_
                    refine qr_topI (fun v181687 hv181687 => ?_)
                    have hs181688 : 0 ≤ v181687 ∧ v181687 ≤ 31 := by rw [hv181687]; exact hI181677.2.1 94 _ (show _ < 61 by omega)
                    refine qr_aload_n 80 rfl g181670 rfl ?_
                    refine qr_get 83 rfl rfl rfl (by decide) rfl ?_
                    refine qr_iload_n 84 rfl g181673 rfl ?_
                    refine qr_iaload 85 rfl rfl (by omega) (by decide) rfl ?_
                    refine qr_topI (fun v181689 hv181689 => ?_)
                    have hs181690 : 0 ≤ v181689 ∧ v181689 ≤ 31 := by rw [hv181689]; exact hI181677.2.1 95 _ (show _ < 61 by omega)
                    have ev181691 : v181687 = α 94 (u181674 : Int).toNat := hv181687.trans (congrFun (hF181678.2 94 (by decide)) _)
                    have ev181692 : v181689 = α 95 (u181674 : Int).toNat := hv181689.trans (congrFun (hF181678.2 95 (by decide)) _)
                    have hc181693 := q2 (u181674 : Int).toNat (by omega)
                    have hc181694 := q3 (u181674 : Int).toNat (by omega)
                    rw [← ev181691, ← ev181692] at hc181693 hc181694
                    have hs181695 : 0 ≤ σ 86 15 ∧ σ 86 15 ≤ 1 := hI181677.1 86 15
                    have hs181696 : 0 ≤ σ 86 6 ∧ σ 86 6 ≤ 32 := hI181677.1 86 6
                    refine qr_callN 88 rfl rfl rfl (sf_189_86s (d := d + 0) hI181677 hs181688 hs181690 (fun x y hx hy => hx181681.1 x y hx hy) hc181693.1 (by omega) (by omega)) ?_
                    rintro _ _ ⟨α181700, rfl, hI181701, hG181702, v181697, rfl, hv181697, hp181698, hx181699⟩
                    have hF181703 : qFr [(86, 15)] [96] σ α σ α181700 := qFr_t hF181678 hG181702 (by decide) (by decide)
                    show qr_W (qe L xs vb) (d + 1) qx_e188 _ (88, _, [.int (qz v181697)], qw σ α181700 κ ρ, 0, 0)
                    refine qr_if_ne 95 91 rfl rfl rfl (qrg hv181697 (by decide) (by decide)) (fun h181704 => ?_) (fun h181704 => ?_)
                    · skip
                      refine qr_iconst 96 rfl rfl ?_
                      refine qr_goto 100 rfl rfl ?_
                      refine qr_istore_n _ 101 rfl (by decide) rfl rfl ?_
                      refine qr_aload_n 102 rfl (qm_gk g181670 (by decide) (Or.inr rfl)) rfl ?_
                      refine qr_aload_n 103 rfl (qm_gk g181670 (by decide) (Or.inr rfl)) rfl ?_
                      refine qr_get 106 rfl rfl rfl (by decide) rfl ?_
                      refine qr_iload_n 107 rfl (qm_gk g181673 (by decide) (Or.inl (by decide))) rfl ?_
                      refine qr_iaload 108 rfl rfl (by omega) (by decide) rfl ?_
                      refine qr_topI (fun v181705 hv181705 => ?_)
                      have hs181706 : 0 ≤ v181705 ∧ v181705 ≤ 31 := by rw [hv181705]; exact hI181701.2.1 95 _ (show _ < 61 by omega)
                      refine qr_aload_n 109 rfl (qm_gk g181670 (by decide) (Or.inr rfl)) rfl ?_
                      refine qr_get 112 rfl rfl rfl (by decide) rfl ?_
                      refine qr_iload_n 113 rfl (qm_gk g181673 (by decide) (Or.inl (by decide))) rfl ?_
                      refine qr_iaload 114 rfl rfl (by omega) (by decide) rfl ?_
                      refine qr_topI (fun v181707 hv181707 => ?_)
                      have hs181708 : 0 ≤ v181707 ∧ v181707 ≤ 31 := by rw [hv181707]; exact hI181701.2.1 94 _ (show _ < 61 by omega)
                      have ev181709 : v181705 = α 95 (u181674 : Int).toNat := hv181705.trans (congrFun (hF181703.2 95 (by decide)) _)
                      have ev181710 : v181707 = α 94 (u181674 : Int).toNat := hv181707.trans (congrFun (hF181703.2 94 (by decide)) _)
                      have hc181711 := q2 (u181674 : Int).toNat (by omega)
                      have hc181712 := q3 (u181674 : Int).toNat (by omega)
                      rw [← ev181709, ← ev181710] at hc181711 hc181712
                      have hs181713 : 0 ≤ σ 86 15 ∧ σ 86 15 ≤ 1 := hI181701.1 86 15
                      have hs181714 : 0 ≤ σ 86 6 ∧ σ 86 6 ≤ 32 := hI181701.1 86 6
                      refine qr_callN 117 rfl rfl rfl (sf_189_86s (d := d + 0) hI181701 hs181706 hs181708 (fun x y hx hy => hx181699.2.1 x y hx hy) hc181711.2 (by omega) (by omega)) ?_
                      rintro _ _ ⟨α181718, rfl, hI181719, hG181720, v181715, rfl, hv181715, hp181716, hx181717⟩
                      have hF181721 : qFr [(86, 15)] [96] σ α σ α181718 := qFr_t hF181703 hG181720 (by decide) (by decide)
                      show qr_W (qe L xs vb) (d + 1) qx_e188 _ (117, _, [.int (qz v181715)], qw σ α181718 κ ρ, 0, 0)
                      refine qr_if_ne 124 120 rfl rfl rfl (qrg hv181715 (by decide) (by decide)) (fun h181722 => ?_) (fun h181722 => ?_)
                      · skip
                        refine qr_iconst 125 rfl rfl ?_
                        refine qr_goto 129 rfl rfl ?_
                        refine qr_istore_n _ 130 rfl (by decide) rfl rfl ?_
                        refine qr_iinc _ 133 rfl (qm_gk (qm_gk g181673 (by decide) (Or.inl (by decide))) (by decide) (Or.inl (by decide))) (by decide) rfl rfl ?_
                        refine qr_goto 64 rfl rfl ?_
                        exact ih181685 _ 1 (u181674 + 1) α181718 (by omega) (qm_gk (qm_gk (qm_gk g181670 (by decide) (Or.inr rfl)) (by decide) (Or.inr rfl)) (by decide) (Or.inl (by decide))) (qm_gk (qm_ge _ _ _) (by decide) (Or.inr rfl)) (qm_ge _ _ _) (by decide) (by omega) hI181719 hF181721 (qWh_s hx181681 hx181699 hx181717 ev181691 ev181692 ev181710 ev181709 (by omega) (by omega)) (by omega) (by omega)
                      · skip
                        refine qr_iload_n 121 rfl (qm_ge _ _ _) rfl ?_
                        refine qr_if_eq 128 124 rfl rfl rfl (by decide) (fun h => False.elim (by omega)) (fun h181723 => ?_)
                        refine qr_iconst 125 rfl rfl ?_
                        refine qr_goto 129 rfl rfl ?_
                        refine qr_istore_n _ 130 rfl (by decide) rfl rfl ?_
                        refine qr_iinc _ 133 rfl (qm_gk (qm_gk g181673 (by decide) (Or.inl (by decide))) (by decide) (Or.inl (by decide))) (by decide) rfl rfl ?_
                        refine qr_goto 64 rfl rfl ?_
                        exact ih181685 _ 1 (u181674 + 1) α181718 (by omega) (qm_gk (qm_gk (qm_gk g181670 (by decide) (Or.inr rfl)) (by decide) (Or.inr rfl)) (by decide) (Or.inl (by decide))) (qm_gk (qm_ge _ _ _) (by decide) (Or.inr rfl)) (qm_ge _ _ _) (by decide) (by omega) hI181719 hF181721 (qWh_s hx181681 hx181699 hx181717 ev181691 ev181692 ev181710 ev181709 (by omega) (by omega)) (by omega) (by omega)
                    · skip
                      refine qr_iload_n 92 rfl g181671 rfl ?_
                      refine qr_if_eq 99 95 rfl rfl rfl (qrg hf181679 (by decide) (by decide)) (fun h181724 => ?_) (fun h181724 => ?_)
                      · skip
                        refine qr_iconst 100 rfl rfl ?_
                        refine qr_istore_n _ 101 rfl (by decide) rfl rfl ?_
                        refine qr_aload_n 102 rfl (qm_gk g181670 (by decide) (Or.inr rfl)) rfl ?_
                        refine qr_aload_n 103 rfl (qm_gk g181670 (by decide) (Or.inr rfl)) rfl ?_
                        refine qr_get 106 rfl rfl rfl (by decide) rfl ?_
                        refine qr_iload_n 107 rfl (qm_gk g181673 (by decide) (Or.inl (by decide))) rfl ?_
                        refine qr_iaload 108 rfl rfl (by omega) (by decide) rfl ?_
                        refine qr_topI (fun v181725 hv181725 => ?_)
                        have hs181726 : 0 ≤ v181725 ∧ v181725 ≤ 31 := by rw [hv181725]; exact hI181701.2.1 95 _ (show _ < 61 by omega)
                        refine qr_aload_n 109 rfl (qm_gk g181670 (by decide) (Or.inr rfl)) rfl ?_
                        refine qr_get 112 rfl rfl rfl (by decide) rfl ?_
                        refine qr_iload_n 113 rfl (qm_gk g181673 (by decide) (Or.inl (by decide))) rfl ?_
                        refine qr_iaload 114 rfl rfl (by omega) (by decide) rfl ?_
                        refine qr_topI (fun v181727 hv181727 => ?_)
                        have hs181728 : 0 ≤ v181727 ∧ v181727 ≤ 31 := by rw [hv181727]; exact hI181701.2.1 94 _ (show _ < 61 by omega)
                        have ev181729 : v181725 = α 95 (u181674 : Int).toNat := hv181725.trans (congrFun (hF181703.2 95 (by decide)) _)
                        have ev181730 : v181727 = α 94 (u181674 : Int).toNat := hv181727.trans (congrFun (hF181703.2 94 (by decide)) _)
                        have hc181731 := q2 (u181674 : Int).toNat (by omega)
                        have hc181732 := q3 (u181674 : Int).toNat (by omega)
                        rw [← ev181729, ← ev181730] at hc181731 hc181732
                        have hs181733 : 0 ≤ σ 86 15 ∧ σ 86 15 ≤ 1 := hI181701.1 86 15
                        have hs181734 : 0 ≤ σ 86 6 ∧ σ 86 6 ≤ 32 := hI181701.1 86 6
                        refine qr_callN 117 rfl rfl rfl (sf_189_86s (d := d + 0) hI181701 hs181726 hs181728 (fun x y hx hy => hx181699.2.1 x y hx hy) hc181731.2 (by omega) (by omega)) ?_
                        rintro _ _ ⟨α181738, rfl, hI181739, hG181740, v181735, rfl, hv181735, hp181736, hx181737⟩
                        have hF181741 : qFr [(86, 15)] [96] σ α σ α181738 := qFr_t hF181703 hG181740 (by decide) (by decide)
                        show qr_W (qe L xs vb) (d + 1) qx_e188 _ (117, _, [.int (qz v181735)], qw σ α181738 κ ρ, 0, 0)
                        refine qr_if_ne 124 120 rfl rfl rfl (qrg hv181735 (by decide) (by decide)) (fun h181742 => ?_) (fun h181742 => ?_)
                        · skip
                          refine qr_iconst 125 rfl rfl ?_
                          refine qr_goto 129 rfl rfl ?_
                          refine qr_istore_n _ 130 rfl (by decide) rfl rfl ?_
                          refine qr_iinc _ 133 rfl (qm_gk (qm_gk g181673 (by decide) (Or.inl (by decide))) (by decide) (Or.inl (by decide))) (by decide) rfl rfl ?_
                          refine qr_goto 64 rfl rfl ?_
                          exact ih181685 _ 1 (u181674 + 1) α181738 (by omega) (qm_gk (qm_gk (qm_gk g181670 (by decide) (Or.inr rfl)) (by decide) (Or.inr rfl)) (by decide) (Or.inl (by decide))) (qm_gk (qm_ge _ _ _) (by decide) (Or.inr rfl)) (qm_ge _ _ _) (by decide) (by omega) hI181739 hF181741 (qWh_s hx181681 hx181699 hx181737 ev181691 ev181692 ev181730 ev181729 (by omega) (by omega)) (by omega) (by omega)
                        · skip
                          refine qr_iload_n 121 rfl (qm_ge _ _ _) rfl ?_
                          refine qr_if_eq 128 124 rfl rfl rfl (by decide) (fun h181743 => ?_) (fun h => False.elim (by omega))
                          refine qr_iconst 129 rfl rfl ?_
                          refine qr_istore_n _ 130 rfl (by decide) rfl rfl ?_
                          refine qr_iinc _ 133 rfl (qm_gk (qm_gk g181673 (by decide) (Or.inl (by decide))) (by decide) (Or.inl (by decide))) (by decide) rfl rfl ?_
                          refine qr_goto 64 rfl rfl ?_
                          exact ih181685 _ 0 (u181674 + 1) α181738 (by omega) (qm_gk (qm_gk (qm_gk g181670 (by decide) (Or.inr rfl)) (by decide) (Or.inr rfl)) (by decide) (Or.inl (by decide))) (qm_gk (qm_ge _ _ _) (by decide) (Or.inr rfl)) (qm_ge _ _ _) (by decide) (by omega) hI181739 hF181741 (qWh_s hx181681 hx181699 hx181737 ev181691 ev181692 ev181730 ev181729 (by omega) (by omega)) (by omega) (by omega)
                      · skip
                        refine qr_iconst 96 rfl rfl ?_
                        refine qr_goto 100 rfl rfl ?_
                        refine qr_istore_n _ 101 rfl (by decide) rfl rfl ?_
                        refine qr_aload_n 102 rfl (qm_gk g181670 (by decide) (Or.inr rfl)) rfl ?_
                        refine qr_aload_n 103 rfl (qm_gk g181670 (by decide) (Or.inr rfl)) rfl ?_
                        refine qr_get 106 rfl rfl rfl (by decide) rfl ?_
                        refine qr_iload_n 107 rfl (qm_gk g181673 (by decide) (Or.inl (by decide))) rfl ?_
                        refine qr_iaload 108 rfl rfl (by omega) (by decide) rfl ?_
                        refine qr_topI (fun v181744 hv181744 => ?_)
                        have hs181745 : 0 ≤ v181744 ∧ v181744 ≤ 31 := by rw [hv181744]; exact hI181701.2.1 95 _ (show _ < 61 by omega)
                        refine qr_aload_n 109 rfl (qm_gk g181670 (by decide) (Or.inr rfl)) rfl ?_
                        refine qr_get 112 rfl rfl rfl (by decide) rfl ?_
                        refine qr_iload_n 113 rfl (qm_gk g181673 (by decide) (Or.inl (by decide))) rfl ?_
                        refine qr_iaload 114 rfl rfl (by omega) (by decide) rfl ?_
                        refine qr_topI (fun v181746 hv181746 => ?_)
                        have hs181747 : 0 ≤ v181746 ∧ v181746 ≤ 31 := by rw [hv181746]; exact hI181701.2.1 94 _ (show _ < 61 by omega)
                        have ev181748 : v181744 = α 95 (u181674 : Int).toNat := hv181744.trans (congrFun (hF181703.2 95 (by decide)) _)
                        have ev181749 : v181746 = α 94 (u181674 : Int).toNat := hv181746.trans (congrFun (hF181703.2 94 (by decide)) _)
                        have hc181750 := q2 (u181674 : Int).toNat (by omega)
                        have hc181751 := q3 (u181674 : Int).toNat (by omega)
                        rw [← ev181748, ← ev181749] at hc181750 hc181751
                        have hs181752 : 0 ≤ σ 86 15 ∧ σ 86 15 ≤ 1 := hI181701.1 86 15
                        have hs181753 : 0 ≤ σ 86 6 ∧ σ 86 6 ≤ 32 := hI181701.1 86 6
                        refine qr_callN 117 rfl rfl rfl (sf_189_86s (d := d + 0) hI181701 hs181745 hs181747 (fun x y hx hy => hx181699.2.1 x y hx hy) hc181750.2 (by omega) (by omega)) ?_
                        rintro _ _ ⟨α181757, rfl, hI181758, hG181759, v181754, rfl, hv181754, hp181755, hx181756⟩
                        have hF181760 : qFr [(86, 15)] [96] σ α σ α181757 := qFr_t hF181703 hG181759 (by decide) (by decide)
                        show qr_W (qe L xs vb) (d + 1) qx_e188 _ (117, _, [.int (qz v181754)], qw σ α181757 κ ρ, 0, 0)
                        refine qr_if_ne 124 120 rfl rfl rfl (qrg hv181754 (by decide) (by decide)) (fun h181761 => ?_) (fun h181761 => ?_)
                        · skip
                          refine qr_iconst 125 rfl rfl ?_
                          refine qr_goto 129 rfl rfl ?_
                          refine qr_istore_n _ 130 rfl (by decide) rfl rfl ?_
                          refine qr_iinc _ 133 rfl (qm_gk (qm_gk g181673 (by decide) (Or.inl (by decide))) (by decide) (Or.inl (by decide))) (by decide) rfl rfl ?_
                          refine qr_goto 64 rfl rfl ?_
                          exact ih181685 _ 1 (u181674 + 1) α181757 (by omega) (qm_gk (qm_gk (qm_gk g181670 (by decide) (Or.inr rfl)) (by decide) (Or.inr rfl)) (by decide) (Or.inl (by decide))) (qm_gk (qm_ge _ _ _) (by decide) (Or.inr rfl)) (qm_ge _ _ _) (by decide) (by omega) hI181758 hF181760 (qWh_s hx181681 hx181699 hx181756 ev181691 ev181692 ev181749 ev181748 (by omega) (by omega)) (by omega) (by omega)
                        · skip
                          refine qr_iload_n 121 rfl (qm_ge _ _ _) rfl ?_
                          refine qr_if_eq 128 124 rfl rfl rfl (by decide) (fun h => False.elim (by omega)) (fun h181762 => ?_)
                          refine qr_iconst 125 rfl rfl ?_
                          refine qr_goto 129 rfl rfl ?_
                          refine qr_istore_n _ 130 rfl (by decide) rfl rfl ?_
                          refine qr_iinc _ 133 rfl (qm_gk (qm_gk g181673 (by decide) (Or.inl (by decide))) (by decide) (Or.inl (by decide))) (by decide) rfl rfl ?_
                          refine qr_goto 64 rfl rfl ?_
                          exact ih181685 _ 1 (u181674 + 1) α181757 (by omega) (qm_gk (qm_gk (qm_gk g181670 (by decide) (Or.inr rfl)) (by decide) (Or.inr rfl)) (by decide) (Or.inl (by decide))) (qm_gk (qm_ge _ _ _) (by decide) (Or.inr rfl)) (qm_ge _ _ _) (by decide) (by omega) hI181758 hF181760 (qWh_s hx181681 hx181699 hx181756 ev181691 ev181692 ev181749 ev181748 (by omega) (by omega)) (by omega) (by omega)
              exact hL181684 ((61 - 0 + 1 : Int)).toNat _ 0 0 α179874 (by omega) (qm_gk (qm_gk g179870 (by decide) (Or.inr rfl)) (by decide) (Or.inl (by decide))) (qm_gk (qm_ge _ _ _) (by decide) (Or.inr rfl)) (qm_ge _ _ _) (by decide) (by decide) hI179875 hF179876 (qWh_0 hx179878) (by omega) (by omega)
        exact hL179879 ((((2 * qS α170551 + 1).toNat : Int) + 1 : Int)).toNat _ 1 α170551 (by omega) (qm_gk g170547 (by decide) (Or.inr rfl)) (qm_ge _ _ _) (by decide) hI170552 hF170553 (qWh_i hx170555 (by omega) q0 q1)
      · skip
        refine qr_iconst 11 rfl rfl ?_
        refine qr_istore_n _ 12 rfl (by decide) rfl rfl ?_
        have hL181953 : ∀ (n : Nat) (ls : qm_L) (u181946 : Int) (α181948 : Nat → Nat → Int), 32 - u181946 < (n : Int) → qm_get ls 0 = some (.ref 86) → qm_get ls 1 = some (.int (qz u170549)) → qm_get ls 2 = some (.int (qz u181946)) → (0 ≤ u181946 ∧ u181946 ≤ 32) → qI σ α181948 κ ρ → qFr [(86, 15)] [96] σ α σ α181948 → qFi (α181948 96) (σ 86 6) u170549 u181946 → qr_W (qe L xs vb) (d + 1) qx_e188 (fun r w' => ∃ σ' α', w' = qw σ' α' κ ρ ∧ qI σ' α' κ ρ ∧ qFr [(86, 15)] [96] σ α σ' α' ∧ σ' 86 15 = 1 ∧ r = none) (12, ls, [], qw σ α181948 κ ρ, 0, 0) := by
          intro n
          induction n with
          | zero => intro ls u181946 α181948 hm g181943 g181944 g181945 hf181951 hI181949 hF181950 hx181952; exact False.elim (by omega)
          | succ n ih181954 =>
            intro ls u181946 α181948 hm g181943 g181944 g181945 hf181951 hI181949 hF181950 hx181952
            refine qr_iload_n 13 rfl g181945 rfl ?_
            refine qr_aload_n 14 rfl g181943 rfl ?_
            refine qr_get 17 rfl rfl rfl (by decide) rfl ?_
            refine qr_icmp_ge 48 20 rfl rfl rfl (qrg hf181951 (by decide) (by decide)) (qrg hz86_6 (by decide) (by decide)) (fun h181955 => ?_) (fun h181955 => ?_)
            · skip
              refine qr_iinc _ 51 rfl g181944 (by decide) rfl rfl ?_
              refine qr_goto 2 rfl rfl ?_
              exact ih170557 _ (u170549 + 1) α181948 (by omega) (qm_gk g181943 (by decide) (Or.inr rfl)) (qm_ge _ _ _) (by omega) hI181949 hF181950 (qFi_row hx181952 (by omega))
            · skip
              refine qr_aload_n 21 rfl g181943 rfl ?_
              refine qr_get 24 rfl rfl rfl (by decide) rfl ?_
              refine qr_bipush 26 rfl (by decide) rfl ?_
              refine qr_iload_n 27 rfl g181944 rfl ?_
              refine qr_imul 28 rfl rfl ?_
              refine qr_iload_n 29 rfl g181945 rfl ?_
              refine qr_iadd 30 rfl rfl ?_
              refine qr_iload_n 31 rfl g181944 rfl ?_
              refine qr_iload_n 32 rfl g181945 rfl ?_
              refine qr_icmp_ne 39 35 rfl rfl rfl (qrg hf170554 (by decide) (by decide)) (qrg hf181951 (by decide) (by decide)) (fun h181956 => ?_) (fun h181956 => ?_)
              · skip
                refine qr_bipush 41 rfl (by decide) rfl ?_
                refine qr_iastore 42 rfl (by decide) rfl (by omega) (by decide) rfl ?_
                refine qy_wA (qw_r α181948 96 (qzu (α181948 96) (((32 * u170549) + u181946) : Int).toNat 99)) rfl (fun α181957 e181958 => ?_)
                have hI181959 : qI σ α181957 κ ρ := by rw [e181958]; exact qI_r96 hI181949 _ (show 0 ≤ 99 ∧ 99 ≤ 99 by omega) (by have hw : σ 86 15 = (σ 86 15) := rfl; omega)
                have hF181960 : qFr [(86, 15)] [96] σ α σ α181957 := by rw [e181958]; exact qFr_r hF181950 96 _ (by decide)
                refine qr_iinc _ 45 rfl g181945 (by decide) rfl rfl ?_
                refine qr_goto 12 rfl rfl ?_
                exact ih181954 _ (u181946 + 1) α181957 (by omega) (qm_gk g181943 (by decide) (Or.inl (by decide))) (qm_gk g181944 (by decide) (Or.inr rfl)) (qm_ge _ _ _) (by omega) hI181959 hF181960 (by rw [(congrFun e181958 96).trans qw_r_eq]; exact qFi_set hx181952 (by omega) (by omega) (by omega) (by congr 1; omega) (by first | (rw [if_pos (by omega)]) | (rw [if_neg (by omega)])))
              · skip
                refine qr_iconst 36 rfl rfl ?_
                refine qr_goto 41 rfl rfl ?_
                refine qr_iastore 42 rfl (by decide) rfl (by omega) (by decide) rfl ?_
                refine qy_wA (qw_r α181948 96 (qzu (α181948 96) (((32 * u170549) + u181946) : Int).toNat 0)) rfl (fun α181961 e181962 => ?_)
                have hI181963 : qI σ α181961 κ ρ := by rw [e181962]; exact qI_r96 hI181949 _ (show 0 ≤ 0 ∧ 0 ≤ 99 by omega) (by have hw : σ 86 15 = (σ 86 15) := rfl; omega)
                have hF181964 : qFr [(86, 15)] [96] σ α σ α181961 := by rw [e181962]; exact qFr_r hF181950 96 _ (by decide)
                refine qr_iinc _ 45 rfl g181945 (by decide) rfl rfl ?_
                refine qr_goto 12 rfl rfl ?_
                exact ih181954 _ (u181946 + 1) α181961 (by omega) (qm_gk g181943 (by decide) (Or.inl (by decide))) (qm_gk g181944 (by decide) (Or.inr rfl)) (qm_ge _ _ _) (by omega) hI181963 hF181964 (by rw [(congrFun e181962 96).trans qw_r_eq]; exact qFi_set hx181952 (by omega) (by omega) (by omega) (by congr 1; omega) (by first | (rw [if_pos (by omega)]) | (rw [if_neg (by omega)])))
        exact hL181953 ((32 - 0 + 1 : Int)).toNat _ 0 α170551 (by omega) (qm_gk g170547 (by decide) (Or.inl (by decide))) (qm_gk g170548 (by decide) (Or.inr rfl)) (qm_ge _ _ _) (by decide) hI170552 hF170553 hx170555
  exact hL170556 ((32 - 0 + 1 : Int)).toNat _ 0 α (by omega) rfl rfl (by decide) hI hF0 qFi_0

set_option maxHeartbeats 4000000 in
set_option maxRecDepth 20000 in
/-- OneRoofModel.stepsTo -/
theorem sf_187_86 {L : Nat} {xs : Nat → Int} {vb : Bool} {d : Nat} {σ α : Nat → Nat → Int} {κ : Nat → Option Nat} {ρ : Nat} {x1 : Int} {x2 : Int} (hI : qI σ α κ ρ) (r1 : 0 ≤ x1 ∧ x1 ≤ 31) (r2 : 0 ≤ x2 ∧ x2 ≤ 31) : qm_T (qe L xs vb) (d + 3) 187 [.ref 86, .int (qz x1), .int (qz x2)] (qw σ α κ ρ) (fun r w' => ∃ σ' α', w' = qw σ' α' κ ρ ∧ qI σ' α' κ ρ ∧ qFr [(86, 15)] [96] σ α σ' α' ∧ σ' 86 15 = 1 ∧ ∃ v : Int, r = some (.int (qz v)) ∧ (0 ≤ v ∧ v ≤ 99) ∧ ((v = α' 96 (32 * x1 + x2 : Int).toNat ∧ v ≤ 9) ∨ (v = 99 ∧ 9 < α' 96 (32 * x1 + x2 : Int).toNat))) := by
  refine qr_start (d := d + 2) qv_e187 (Nat.le_of_ble_eq_true rfl) ?_
  show qr_W (qe L xs vb) (d + 2) qx_e187 _ (0, [(0, .ref 86), (1, .int (qz x1)), (2, .int (qz x2))], [], _, 0, 0)
  have hF0 := qFr_rf [(86, 15)] [96] σ α
  have hz86_15 : 0 ≤ σ 86 15 ∧ σ 86 15 ≤ 1 := hI.1 86 15
  refine qr_aload_n 1 rfl rfl rfl ?_
  refine qr_get 4 rfl rfl rfl (by decide) rfl ?_
  refine qr_if_ne 11 7 rfl rfl rfl (qrg hz86_15 (by decide) (by decide)) (fun h1 => ?_) (fun h1 => ?_)
  · skip
    refine qr_aload_n 12 rfl rfl rfl ?_
    refine qr_get 15 rfl rfl rfl (by decide) rfl ?_
    refine qr_bipush 17 rfl (by decide) rfl ?_
    refine qr_iload_n 18 rfl rfl rfl ?_
    refine qr_imul 19 rfl rfl ?_
    refine qr_iload_n 20 rfl rfl rfl ?_
    refine qr_iadd 21 rfl rfl ?_
    refine qr_iaload 22 rfl rfl (by omega) (by decide) rfl ?_
    refine qr_topI (fun v2 hv2 => ?_)
    have hs3 : 0 ≤ v2 ∧ v2 ≤ 99 := by rw [hv2]; exact hI.2.1 96 _ (show _ < 1024 by omega)
    refine qr_istore_n _ 23 rfl (by decide) rfl rfl ?_
    refine qr_iload_n 24 rfl rfl rfl ?_
    refine qr_bipush 26 rfl (by decide) rfl ?_
    refine qr_icmp_le 34 29 rfl rfl rfl (qrg hs3 (by decide) (by decide)) (by decide) (fun h4 => ?_) (fun h4 => ?_)
    · skip
      refine qr_iload_n 35 rfl rfl rfl ?_
      refine qr_retI rfl rfl (by decide) (by decide) ?_
      exact ⟨_, _, rfl, hI, hF0, (by have hw : σ 86 15 = (σ 86 15) := rfl; omega), v2, rfl, hs3, by omega⟩
    · skip
      refine qr_bipush 31 rfl (by decide) rfl ?_
      refine qr_goto 35 rfl rfl ?_
      refine qr_retI rfl rfl (by decide) (by decide) ?_
      exact ⟨_, _, rfl, hI, hF0, (by have hw : σ 86 15 = (σ 86 15) := rfl; omega), 99, rfl, (by decide), by omega⟩
  · skip
    refine qr_aload_n 8 rfl rfl rfl ?_
    have hs5 : 0 ≤ σ 86 15 ∧ σ 86 15 ≤ 1 := hI.1 86 15
    refine qr_callN 11 rfl rfl rfl (sf_188_86 (d := d + 0) hI (by omega)) ?_
    rintro _ _ ⟨σ7, α8, rfl, hI9, hG10, hw6, rfl⟩
    have hF11 : qFr [(86, 15)] [96] σ α σ7 α8 := qFr_t hF0 hG10 (by decide) (by decide)
    have hs12 : 0 ≤ σ7 86 15 ∧ σ7 86 15 ≤ 1 := hI9.1 86 15
    show qr_W (qe L xs vb) (d + 2) qx_e187 _ (11, _, [], qw σ7 α8 κ ρ, 0, 0)
    refine qr_aload_n 12 rfl rfl rfl ?_
    refine qr_get 15 rfl rfl rfl (by decide) rfl ?_
    refine qr_bipush 17 rfl (by decide) rfl ?_
    refine qr_iload_n 18 rfl rfl rfl ?_
    refine qr_imul 19 rfl rfl ?_
    refine qr_iload_n 20 rfl rfl rfl ?_
    refine qr_iadd 21 rfl rfl ?_
    refine qr_iaload 22 rfl rfl (by omega) (by decide) rfl ?_
    refine qr_topI (fun v13 hv13 => ?_)
    have hs14 : 0 ≤ v13 ∧ v13 ≤ 99 := by rw [hv13]; exact hI9.2.1 96 _ (show _ < 1024 by omega)
    refine qr_istore_n _ 23 rfl (by decide) rfl rfl ?_
    refine qr_iload_n 24 rfl rfl rfl ?_
    refine qr_bipush 26 rfl (by decide) rfl ?_
    refine qr_icmp_le 34 29 rfl rfl rfl (qrg hs14 (by decide) (by decide)) (by decide) (fun h15 => ?_) (fun h15 => ?_)
    · skip
      refine qr_iload_n 35 rfl rfl rfl ?_
      refine qr_retI rfl rfl (by decide) (by decide) ?_
      exact ⟨_, _, rfl, hI9, hF11, (by have hw : σ7 86 15 = (σ7 86 15) := rfl; omega), v13, rfl, hs14, by omega⟩
    · skip
      refine qr_bipush 31 rfl (by decide) rfl ?_
      refine qr_goto 35 rfl rfl ?_
      refine qr_retI rfl rfl (by decide) (by decide) ?_
      exact ⟨_, _, rfl, hI9, hF11, (by have hw : σ7 86 15 = (σ7 86 15) := rfl; omega), 99, rfl, (by decide), by omega⟩
end
section
set_option maxHeartbeats 4000000 in
set_option maxRecDepth 20000 in
/-- OneRoofModel.byFeud -/
theorem sf_197_86 {L : Nat} {xs : Nat → Int} {vb : Bool} {d : Nat} {σ α : Nat → Nat → Int} {κ : Nat → Option Nat} {ρ : Nat} {x1 : Int} {x2 : Int} {x3 : Int} (hI : qI σ α κ ρ) (r1 : 0 ≤ x1 ∧ x1 ≤ 39) (r2 : 0 ≤ x2 ∧ x2 ≤ 31) (r3 : 0 ≤ x3 ∧ x3 ≤ 31) : qm_T (qe L xs vb) (d + 4) 197 [.ref 86, .int (qz x1), .int (qz x2), .int (qz x3)] (qw σ α κ ρ) (fun r w' => ∃ σ' α', w' = qw σ' α' κ ρ ∧ qI σ' α' κ ρ ∧ qFr [(86, 15)] [96] σ α σ' α' ∧ ∃ v : Int, r = some (.int (qz v)) ∧ (0 ≤ v ∧ v ≤ 198)) := by
  refine qr_start (d := d + 3) qv_e197 (Nat.le_of_ble_eq_true rfl) ?_
  show qr_W (qe L xs vb) (d + 3) qx_e197 _ (0, [(0, .ref 86), (1, .int (qz x1)), (2, .int (qz x2)), (3, .int (qz x3))], [], _, 0, 0)
  have hF0 := qFr_rf [(86, 15)] [96] σ α
  refine qr_aload_n 1 rfl rfl rfl ?_
  refine qr_iload_n 2 rfl rfl rfl ?_
  refine qr_aload_n 3 rfl rfl rfl ?_
  refine qr_get 6 rfl rfl rfl (by decide) rfl ?_
  refine qr_iload_n 7 rfl rfl rfl ?_
  refine qr_iaload 8 rfl rfl (qrgi r1 (by decide) (by decide)) (by decide) rfl ?_
  refine qr_topI (fun v1 hv1 => ?_)
  have hs2 : 0 ≤ v1 ∧ v1 ≤ 31 := by rw [hv1]; exact hI.2.1 97 _ (show _ < 40 from qrgt r1 (by decide) (by decide))
  refine qr_callN 11 rfl rfl rfl (sf_187_86 (d := d + 0) hI r2 hs2) ?_
  rintro _ _ ⟨σ6, α7, rfl, hI8, hG9, hw5, v3, rfl, hv3, hp4⟩
  have hF10 : qFr [(86, 15)] [96] σ α σ6 α7 := qFr_t hF0 hG9 (by decide) (by decide)
  show qr_W (qe L xs vb) (d + 3) qx_e197 _ (11, _, [.int (qz v3)], qw σ6 α7 κ ρ, 0, 0)
  refine qr_istore _ 13 rfl (by decide) rfl rfl ?_
  refine qr_aload_n 14 rfl rfl rfl ?_
  refine qr_iload_n 15 rfl rfl rfl ?_
  refine qr_aload_n 16 rfl rfl rfl ?_
  refine qr_get 19 rfl rfl rfl (by decide) rfl ?_
  refine qr_iload_n 20 rfl rfl rfl ?_
  refine qr_iaload 21 rfl rfl (qrgi r1 (by decide) (by decide)) (by decide) rfl ?_
  refine qr_topI (fun v11 hv11 => ?_)
  have hs12 : 0 ≤ v11 ∧ v11 ≤ 31 := by rw [hv11]; exact hI8.2.1 98 _ (show _ < 40 from qrgt r1 (by decide) (by decide))
  refine qr_callN 24 rfl rfl rfl (sf_187_86 (d := d + 0) hI8 r3 hs12) ?_
  rintro _ _ ⟨σ16, α17, rfl, hI18, hG19, hw15, v13, rfl, hv13, hp14⟩
  have hF20 : qFr [(86, 15)] [96] σ α σ16 α17 := qFr_t hF10 hG19 (by decide) (by decide)
  show qr_W (qe L xs vb) (d + 3) qx_e197 _ (24, _, [.int (qz v13)], qw σ16 α17 κ ρ, 0, 0)
  refine qr_istore _ 26 rfl (by decide) rfl rfl ?_
  refine qr_iload 28 rfl rfl rfl ?_
  refine qr_aload_n 29 rfl rfl rfl ?_
  refine qr_get 32 rfl rfl rfl (by decide) rfl ?_
  refine qr_iload_n 33 rfl rfl rfl ?_
  refine qr_iaload 34 rfl rfl (qrgi r1 (by decide) (by decide)) (by decide) rfl ?_
  refine qr_topI (fun v21 hv21 => ?_)
  have hs22 : (-2147483648) ≤ v21 ∧ v21 ≤ 2147483647 := by rw [hv21]; exact hI18.2.1 100 _ (show _ < 40 from qrgt r1 (by decide) (by decide))
  refine qr_icmp_gt 56 37 rfl rfl rfl (qrg hv3 (by decide) (by decide)) hs22 (fun h23 => ?_) (fun h23 => ?_)
  · skip
    refine qr_bipush 58 rfl (by decide) rfl ?_
    refine qr_retI rfl rfl (by decide) (by decide) ?_
    exact ⟨_, _, rfl, hI18, hF20, 99, rfl, (by decide)⟩
  · skip
    refine qr_iload 39 rfl rfl rfl ?_
    refine qr_aload_n 40 rfl rfl rfl ?_
    refine qr_get 43 rfl rfl rfl (by decide) rfl ?_
    refine qr_iload_n 44 rfl rfl rfl ?_
    refine qr_iaload 45 rfl rfl (qrgi r1 (by decide) (by decide)) (by decide) rfl ?_
    refine qr_topI (fun v24 hv24 => ?_)
    have hs25 : (-2147483648) ≤ v24 ∧ v24 ≤ 2147483647 := by rw [hv24]; exact hI18.2.1 100 _ (show _ < 40 from qrgt r1 (by decide) (by decide))
    refine qr_icmp_gt 56 48 rfl rfl rfl (qrg hv13 (by decide) (by decide)) hs25 (fun h26 => ?_) (fun h26 => ?_)
    · skip
      refine qr_bipush 58 rfl (by decide) rfl ?_
      refine qr_retI rfl rfl (by decide) (by decide) ?_
      exact ⟨_, _, rfl, hI18, hF20, 99, rfl, (by decide)⟩
    · skip
      refine qr_iload 50 rfl rfl rfl ?_
      refine qr_iload 52 rfl rfl rfl ?_
      refine qr_iadd 53 rfl rfl ?_
      refine qr_goto 58 rfl rfl ?_
      refine qr_retI rfl rfl (by decide) (by decide) ?_
      exact ⟨_, _, rfl, hI18, hF20, (v3 + v13), rfl, (by omega)⟩

set_option maxHeartbeats 4000000 in
set_option maxRecDepth 20000 in
/-- OneRoofModel.nearOf -/
theorem sf_195_86 {L : Nat} {xs : Nat → Int} {vb : Bool} {d : Nat} {σ α : Nat → Nat → Int} {κ : Nat → Option Nat} {ρ : Nat} {x1 : Int} {x2 : Int} {x3 : Int} (hI : qI σ α κ ρ) (r1 : 0 ≤ x1 ∧ x1 ≤ 31) (r2 : 0 ≤ x2 ∧ x2 ≤ 31) (r3 : (-2147483648) ≤ x3 ∧ x3 ≤ 2147483647) : qm_T (qe L xs vb) (d + 5) 195 [.ref 86, .int (qz x1), .int (qz x2), .int (qz x3)] (qw σ α κ ρ) (fun r w' => ∃ σ' α', w' = qw σ' α' κ ρ ∧ qI σ' α' κ ρ ∧ qFr [(86, 15), (86, 23)] [96] σ α σ' α' ∧ ∃ v : Int, r = some (.int (qz v)) ∧ ((-2147483648) ≤ v ∧ v ≤ 2147483647)) := by
  refine qr_start (d := d + 4) qv_e195 (Nat.le_of_ble_eq_true rfl) ?_
  show qr_W (qe L xs vb) (d + 4) qx_e195 _ (0, [(0, .ref 86), (1, .int (qz x1)), (2, .int (qz x2)), (3, .int (qz x3))], [], _, 0, 0)
  have hF0 := qFr_rf [(86, 15), (86, 23)] [96] σ α
  refine qr_bipush 2 rfl (by decide) rfl ?_
  refine qr_istore _ 4 rfl (by decide) rfl rfl ?_
  refine qr_iconst 5 rfl rfl ?_
  refine qr_istore _ 7 rfl (by decide) rfl rfl ?_
  have hL1231 : ∀ (n : Nat) (ls : qm_L) (u1222 u1224 : Int) (σ1225 α1226 : Nat → Nat → Int), 40 - u1224 < (n : Int) → qm_get ls 0 = some (.ref 86) → qm_get ls 1 = some (.int (qz x1)) → qm_get ls 2 = some (.int (qz x2)) → qm_get ls 3 = some (.int (qz x3)) → qm_get ls 4 = some (.int (qz u1222)) → qm_get ls 5 = some (.int (qz u1224)) → (0 ≤ u1222 ∧ u1222 ≤ 99) → (0 ≤ u1224 ∧ u1224 ≤ 40) → qI σ1225 α1226 κ ρ → qFr [(86, 15), (86, 23)] [96] σ α σ1225 α1226 → qr_W (qe L xs vb) (d + 4) qx_e195 (fun r w' => ∃ σ' α', w' = qw σ' α' κ ρ ∧ qI σ' α' κ ρ ∧ qFr [(86, 15), (86, 23)] [96] σ α σ' α' ∧ ∃ v : Int, r = some (.int (qz v)) ∧ ((-2147483648) ≤ v ∧ v ≤ 2147483647)) (7, ls, [], qw σ1225 α1226 κ ρ, 0, 0) := by
    intro n
    induction n with
    | zero => intro ls u1222 u1224 σ1225 α1226 hm g1217 g1218 g1219 g1220 g1221 g1223 hf1229 hf1230 hI1227 hF1228; exact False.elim (by omega)
    | succ n ih1232 =>
      intro ls u1222 u1224 σ1225 α1226 hm g1217 g1218 g1219 g1220 g1221 g1223 hf1229 hf1230 hI1227 hF1228
      refine qr_iload 9 rfl g1223 rfl ?_
      refine qr_aload_n 10 rfl g1217 rfl ?_
      refine qr_get 13 rfl rfl rfl (by decide) rfl ?_
      have hs1233 : 0 ≤ σ1225 86 16 ∧ σ1225 86 16 ≤ 40 := hI1227.1 86 16
      refine qr_icmp_ge 93 16 rfl rfl rfl (qrg hf1230 (by decide) (by decide)) (qrg hs1233 (by decide) (by decide)) (fun h1234 => ?_) (fun h1234 => ?_)
      · skip
        refine qr_iload 95 rfl g1221 rfl ?_
        refine qr_retI rfl rfl (by decide) (by decide) ?_
        exact ⟨_, _, rfl, hI1227, hF1228, u1222, rfl, (qrg hf1229 (by decide) (by decide))⟩
      · skip
        refine qr_iload_n 17 rfl g1218 rfl ?_
        refine qr_iload_n 18 rfl g1219 rfl ?_
        refine qr_icmp_eq 93 21 rfl rfl rfl (qrg r1 (by decide) (by decide)) (qrg r2 (by decide) (by decide)) (fun h1235 => ?_) (fun h1235 => ?_)
        · skip
          refine qr_iload 95 rfl g1221 rfl ?_
          refine qr_retI rfl rfl (by decide) (by decide) ?_
          exact ⟨_, _, rfl, hI1227, hF1228, u1222, rfl, (qrg hf1229 (by decide) (by decide))⟩
        · skip
          refine qr_aload_n 22 rfl g1217 rfl ?_
          refine qr_iload 24 rfl g1223 rfl ?_
          refine qr_iload_n 25 rfl g1220 rfl ?_
          refine qr_callN 28 rfl rfl rfl (sf_196_86 (d := d + 3) hI1227 (by omega) r3) ?_
          rintro _ _ ⟨rfl, v1236, rfl, hv1236⟩
          show qr_W (qe L xs vb) (d + 4) qx_e195 _ (28, _, [.int (qz v1236)], qw σ1225 α1226 κ ρ, 0, 0)
          have hJ1273 : ∀ (ls : qm_L) (u1265 : Int) (σ1267 α1268 : Nat → Nat → Int), qm_get ls 0 = some (.ref 86) → qm_get ls 1 = some (.int (qz x1)) → qm_get ls 2 = some (.int (qz x2)) → qm_get ls 3 = some (.int (qz x3)) → qm_get ls 4 = some (.int (qz u1265)) → qm_get ls 5 = some (.int (qz u1224)) → (0 ≤ u1265 ∧ u1265 ≤ 99) → qI σ1267 α1268 κ ρ → qFr [(86, 15), (86, 23)] [96] σ α σ1267 α1268 → σ1267 86 16 = (σ1225 86 16) → qr_W (qe L xs vb) (d + 4) qx_e195 (fun r w' => ∃ σ' α', w' = qw σ' α' κ ρ ∧ qI σ' α' κ ρ ∧ qFr [(86, 15), (86, 23)] [96] σ α σ' α' ∧ ∃ v : Int, r = some (.int (qz v)) ∧ ((-2147483648) ≤ v ∧ v ≤ 2147483647)) (87, ls, [], qw σ1267 α1268 κ ρ, 0, 0) := by
            intro ls u1265 σ1267 α1268 g1260 g1261 g1262 g1263 g1264 g1266 hf1272 hI1269 hF1270 hk1271
            refine qr_iinc _ 90 rfl g1266 (by decide) rfl rfl ?_
            refine qr_goto 7 rfl rfl ?_
            exact ih1232 _ u1265 (u1224 + 1) σ1267 α1268 (by omega) (qm_gk g1260 (by decide) (Or.inl (by decide))) (qm_gk g1261 (by decide) (Or.inl (by decide))) (qm_gk g1262 (by decide) (Or.inl (by decide))) (qm_gk g1263 (by decide) (Or.inl (by decide))) (qm_gk g1264 (by decide) (Or.inr rfl)) (qm_ge _ _ _) hf1272 (by omega) hI1269 hF1270
          refine qr_if_ne 34 31 rfl rfl rfl (qrg hv1236 (by decide) (by decide)) (fun h1274 => ?_) (fun h1274 => ?_)
          · skip
            refine qr_aload_n 35 rfl g1217 rfl ?_
            refine qr_iload 37 rfl g1223 rfl ?_
            refine qr_iload_n 38 rfl g1218 rfl ?_
            refine qr_iload_n 39 rfl g1219 rfl ?_
            refine qr_callN 42 rfl rfl rfl (sf_197_86 (d := d + 0) hI1227 (by omega) r1 r2) ?_
            rintro _ _ ⟨σ1276, α1277, rfl, hI1278, hG1279, v1275, rfl, hv1275⟩
            have hF1280 : qFr [(86, 15), (86, 23)] [96] σ α σ1276 α1277 := qFr_t hF1228 hG1279 (by decide) (by decide)
            show qr_W (qe L xs vb) (d + 4) qx_e195 _ (42, _, [.int (qz v1275)], qw σ1276 α1277 κ ρ, 0, 0)
            refine qr_istore _ 44 rfl (by decide) rfl rfl ?_
            refine qr_aload_n 45 rfl (qm_gk g1217 (by decide) (Or.inl (by decide))) rfl ?_
            refine qr_iload 47 rfl (qm_gk g1223 (by decide) (Or.inr rfl)) rfl ?_
            refine qr_iload_n 48 rfl (qm_gk g1219 (by decide) (Or.inl (by decide))) rfl ?_
            refine qr_iload_n 49 rfl (qm_gk g1218 (by decide) (Or.inl (by decide))) rfl ?_
            refine qr_callN 52 rfl rfl rfl (sf_197_86 (d := d + 0) hI1278 (by omega) r2 r1) ?_
            rintro _ _ ⟨σ1282, α1283, rfl, hI1284, hG1285, v1281, rfl, hv1281⟩
            have hF1286 : qFr [(86, 15), (86, 23)] [96] σ α σ1282 α1283 := qFr_t hF1280 hG1285 (by decide) (by decide)
            show qr_W (qe L xs vb) (d + 4) qx_e195 _ (52, _, [.int (qz v1281)], qw σ1282 α1283 κ ρ, 0, 0)
            refine qr_istore _ 54 rfl (by decide) rfl rfl ?_
            refine qr_iload 56 rfl (qm_gk (qm_ge _ _ _) (by decide) (Or.inr rfl)) rfl ?_
            refine qr_iload 58 rfl (qm_ge _ _ _) rfl ?_
            have hJ1295 : ∀ (ls : qm_L) (u1293 : Int), qm_get ls 0 = some (.ref 86) → qm_get ls 1 = some (.int (qz x1)) → qm_get ls 2 = some (.int (qz x2)) → qm_get ls 3 = some (.int (qz x3)) → qm_get ls 4 = some (.int (qz u1222)) → qm_get ls 5 = some (.int (qz u1224)) → (0 ≤ u1293 ∧ u1293 ≤ 198) → qr_W (qe L xs vb) (d + 4) qx_e195 (fun r w' => ∃ σ' α', w' = qw σ' α' κ ρ ∧ qI σ' α' κ ρ ∧ qFr [(86, 15), (86, 23)] [96] σ α σ' α' ∧ ∃ v : Int, r = some (.int (qz v)) ∧ ((-2147483648) ≤ v ∧ v ≤ 2147483647)) (68, ls, [.int (qz u1293)], qw σ1282 α1283 κ ρ, 0, 0) := by
              intro ls u1293 g1287 g1288 g1289 g1290 g1291 g1292 hf1294
              refine qr_istore _ 70 rfl (by decide) rfl rfl ?_
              refine qr_iload 72 rfl (qm_ge _ _ _) rfl ?_
              refine qr_iload 74 rfl (qm_gk g1291 (by decide) (Or.inl (by decide))) rfl ?_
              refine qr_icmp_ge 87 77 rfl rfl rfl (qrg hf1294 (by decide) (by decide)) (qrg hf1229 (by decide) (by decide)) (fun h1296 => ?_) (fun h1296 => ?_)
              · skip
                exact hJ1273 _ u1222 σ1282 α1283 (qm_gk g1287 (by decide) (Or.inl (by decide))) (qm_gk g1288 (by decide) (Or.inl (by decide))) (qm_gk g1289 (by decide) (Or.inl (by decide))) (qm_gk g1290 (by decide) (Or.inl (by decide))) (qm_gk g1291 (by decide) (Or.inl (by decide))) (qm_gk g1292 (by decide) (Or.inl (by decide))) hf1229 hI1284 hF1286 ((hG1285.1 86 16 (by decide)).trans ((hG1279.1 86 16 (by decide)).trans rfl))
              · skip
                refine qr_iload 79 rfl (qm_ge _ _ _) rfl ?_
                refine qr_istore _ 81 rfl (by decide) rfl rfl ?_
                refine qr_aload_n 82 rfl (qm_gk (qm_gk g1287 (by decide) (Or.inl (by decide))) (by decide) (Or.inl (by decide))) rfl ?_
                refine qr_iload 84 rfl (qm_gk (qm_gk g1292 (by decide) (Or.inl (by decide))) (by decide) (Or.inl (by decide))) rfl ?_
                refine qr_put 87 rfl (by decide) rfl (Nat.le_of_ble_eq_true rfl) (Nat.le_of_ble_eq_true rfl) (Or.inl rfl) (qr_fitI rfl _) rfl ?_
                refine qy_wS (qw_s σ1282 86 23 u1224) rfl (fun σ1297 e1298 => ?_)
                have hI1299 : qI σ1297 α1283 κ ρ := by rw [e1298]; exact qI_s hI1284 86 23 rfl (show (-2147483648) ≤ u1224 ∧ u1224 ≤ 2147483647 by omega)
                have hF1300 : qFr [(86, 15), (86, 23)] [96] σ α σ1297 α1283 := by rw [e1298]; exact qFr_s hF1286 86 23 _ (by decide)
                exact hJ1273 _ u1293 σ1297 α1283 (qm_gk (qm_gk g1287 (by decide) (Or.inl (by decide))) (by decide) (Or.inl (by decide))) (qm_gk (qm_gk g1288 (by decide) (Or.inl (by decide))) (by decide) (Or.inl (by decide))) (qm_gk (qm_gk g1289 (by decide) (Or.inl (by decide))) (by decide) (Or.inl (by decide))) (qm_gk (qm_gk g1290 (by decide) (Or.inl (by decide))) (by decide) (Or.inr rfl)) (qm_ge _ _ _) (qm_gk (qm_gk g1292 (by decide) (Or.inl (by decide))) (by decide) (Or.inl (by decide))) (by omega) hI1299 hF1300 ((congrFun (congrFun e1298 86) 16).trans ((hG1285.1 86 16 (by decide)).trans ((hG1279.1 86 16 (by decide)).trans rfl)))
            refine qr_icmp_ge 66 61 rfl rfl rfl (qrg hv1275 (by decide) (by decide)) (qrg hv1281 (by decide) (by decide)) (fun h1301 => ?_) (fun h1301 => ?_)
            · skip
              refine qr_iload 68 rfl (qm_ge _ _ _) rfl ?_
              exact hJ1295 _ v1281 (qm_gk (qm_gk g1217 (by decide) (Or.inl (by decide))) (by decide) (Or.inl (by decide))) (qm_gk (qm_gk g1218 (by decide) (Or.inl (by decide))) (by decide) (Or.inl (by decide))) (qm_gk (qm_gk g1219 (by decide) (Or.inl (by decide))) (by decide) (Or.inl (by decide))) (qm_gk (qm_gk g1220 (by decide) (Or.inl (by decide))) (by decide) (Or.inl (by decide))) (qm_gk (qm_gk g1221 (by decide) (Or.inl (by decide))) (by decide) (Or.inl (by decide))) (qm_gk (qm_gk g1223 (by decide) (Or.inr rfl)) (by decide) (Or.inl (by decide))) hv1281
            · skip
              refine qr_iload 63 rfl (qm_gk (qm_ge _ _ _) (by decide) (Or.inr rfl)) rfl ?_
              refine qr_goto 68 rfl rfl ?_
              exact hJ1295 _ v1275 (qm_gk (qm_gk g1217 (by decide) (Or.inl (by decide))) (by decide) (Or.inl (by decide))) (qm_gk (qm_gk g1218 (by decide) (Or.inl (by decide))) (by decide) (Or.inl (by decide))) (qm_gk (qm_gk g1219 (by decide) (Or.inl (by decide))) (by decide) (Or.inl (by decide))) (qm_gk (qm_gk g1220 (by decide) (Or.inl (by decide))) (by decide) (Or.inl (by decide))) (qm_gk (qm_gk g1221 (by decide) (Or.inl (by decide))) (by decide) (Or.inl (by decide))) (qm_gk (qm_gk g1223 (by decide) (Or.inr rfl)) (by decide) (Or.inl (by decide))) hv1275
          · skip
            refine qr_goto 87 rfl rfl ?_
            exact hJ1273 _ u1222 σ1225 α1226 g1217 g1218 g1219 g1220 g1221 g1223 hf1229 hI1227 hF1228 (rfl)
  exact hL1231 ((40 - 0 + 1 : Int)).toNat _ 99 0 σ α (by omega) rfl rfl rfl rfl rfl rfl (by decide) (by decide) hI hF0

set_option maxHeartbeats 4000000 in
set_option maxRecDepth 20000 in
/-- OneRoofModel.near -/
theorem sf_194_86 {L : Nat} {xs : Nat → Int} {vb : Bool} {d : Nat} {σ α : Nat → Nat → Int} {κ : Nat → Option Nat} {ρ : Nat} {x1 : Int} {x2 : Int} {x3 : Int} {x4 : Int} (hI : qI σ α κ ρ) (r1 : (-2147483648) ≤ x1 ∧ x1 ≤ 2147483647) (r2 : (-2147483648) ≤ x2 ∧ x2 ≤ 2147483647) (r3 : (-2147483648) ≤ x3 ∧ x3 ≤ 2147483647) (r4 : (-2147483648) ≤ x4 ∧ x4 ≤ 2147483647) : qm_T (qe L xs vb) (d + 6) 194 [.ref 86, .int (qz x1), .int (qz x2), .int (qz x3), .int (qz x4)] (qw σ α κ ρ) (fun r w' => ∃ σ' α', w' = qw σ' α' κ ρ ∧ qI σ' α' κ ρ ∧ qFr [(86, 15), (86, 23)] [96] σ α σ' α' ∧ ∃ v : Int, r = some (.int (qz v)) ∧ ((-2147483648) ≤ v ∧ v ≤ 2147483647)) := by
  refine qr_start (d := d + 5) qv_e194 (Nat.le_of_ble_eq_true rfl) ?_
  show qr_W (qe L xs vb) (d + 5) qx_e194 _ (0, [(0, .ref 86), (1, .int (qz x1)), (2, .int (qz x2)), (3, .int (qz x3)), (4, .int (qz x4))], [], _, 0, 0)
  have hF0 := qFr_rf [(86, 15), (86, 23)] [96] σ α
  refine qr_aload_n 1 rfl rfl rfl ?_
  refine qr_iload_n 2 rfl rfl rfl ?_
  refine qr_callN 5 rfl rfl rfl (sf_180_86 (d := d + 3) hI r1) ?_
  have hs3 : 0 ≤ σ 86 6 ∧ σ 86 6 ≤ 32 := hI.1 86 6
  rintro _ _ ⟨rfl, v1, rfl, hv1, hp2⟩
  show qr_W (qe L xs vb) (d + 5) qx_e194 _ (5, _, [.int (qz v1)], qw σ α κ ρ, 0, 0)
  refine qr_if_eq 34 8 rfl rfl rfl (qrg hv1 (by decide) (by decide)) (fun h4 => ?_) (fun h4 => ?_)
  · skip
    refine qr_iconst 35 rfl rfl ?_
    refine qr_retI rfl rfl (by decide) (by decide) ?_
    exact ⟨_, _, rfl, hI, hF0, (-1), rfl, (by decide)⟩
  · skip
    refine qr_aload_n 9 rfl rfl rfl ?_
    refine qr_iload_n 10 rfl rfl rfl ?_
    refine qr_callN 13 rfl rfl rfl (sf_180_86 (d := d + 3) hI r2) ?_
    have hs7 : 0 ≤ σ 86 6 ∧ σ 86 6 ≤ 32 := hI.1 86 6
    rintro _ _ ⟨rfl, v5, rfl, hv5, hp6⟩
    show qr_W (qe L xs vb) (d + 5) qx_e194 _ (13, _, [.int (qz v5)], qw σ α κ ρ, 0, 0)
    refine qr_if_eq 34 16 rfl rfl rfl (qrg hv5 (by decide) (by decide)) (fun h8 => ?_) (fun h8 => ?_)
    · skip
      refine qr_iconst 35 rfl rfl ?_
      refine qr_retI rfl rfl (by decide) (by decide) ?_
      exact ⟨_, _, rfl, hI, hF0, (-1), rfl, (by decide)⟩
    · skip
      refine qr_iload_n 17 rfl rfl rfl ?_
      refine qr_callN 20 rfl rfl rfl (sf_192 (d := d + 3) hI r3) ?_
      rintro _ _ ⟨rfl, v9, rfl, hv9, hp10⟩
      show qr_W (qe L xs vb) (d + 5) qx_e194 _ (20, _, [.int (qz v9)], qw σ α κ ρ, 0, 0)
      refine qr_if_eq 34 23 rfl rfl rfl (qrg hv9 (by decide) (by decide)) (fun h11 => ?_) (fun h11 => ?_)
      · skip
        refine qr_iconst 35 rfl rfl ?_
        refine qr_retI rfl rfl (by decide) (by decide) ?_
        exact ⟨_, _, rfl, hI, hF0, (-1), rfl, (by decide)⟩
      · skip
        refine qr_iload 25 rfl rfl rfl ?_
        refine qr_i2l 26 rfl r4 rfl ?_
        refine qr_lconst 27 rfl rfl ?_
        refine qy_vl 0 rfl ?_
        refine qr_lconst 28 rfl rfl ?_
        refine qy_vl 1 rfl ?_
        refine qr_callN 31 rfl rfl rfl (sf_176 (d := d + 4) hI (qrg r4 (by decide) (by decide)) (by decide) (by decide)) ?_
        rintro _ _ ⟨rfl, v12, rfl, hv12, hp13⟩
        show qr_W (qe L xs vb) (d + 5) qx_e194 _ (31, _, [.int (qz v12)], qw σ α κ ρ, 0, 0)
        refine qr_if_ne 36 34 rfl rfl rfl (qrg hv12 (by decide) (by decide)) (fun h14 => ?_) (fun h14 => ?_)
        · skip
          refine qr_aload_n 37 rfl rfl rfl ?_
          refine qr_iload_n 38 rfl rfl rfl ?_
          refine qr_iload_n 39 rfl rfl rfl ?_
          refine qr_iload_n 40 rfl rfl rfl ?_
          refine qr_callN 43 rfl rfl rfl (sf_195_86 (d := d + 0) hI (by omega) (by omega) r3) ?_
          rintro _ _ ⟨σ16, α17, rfl, hI18, hG19, v15, rfl, hv15⟩
          have hF20 : qFr [(86, 15), (86, 23)] [96] σ α σ16 α17 := qFr_t hF0 hG19 (by decide) (by decide)
          show qr_W (qe L xs vb) (d + 5) qx_e194 _ (43, _, [.int (qz v15)], qw σ16 α17 κ ρ, 0, 0)
          refine qr_istore _ 45 rfl (by decide) rfl rfl ?_
          refine qr_iload 47 rfl rfl rfl ?_
          refine qr_bipush 49 rfl (by decide) rfl ?_
          refine qr_icmp_ne 57 52 rfl rfl rfl hv15 (by decide) (fun h21 => ?_) (fun h21 => ?_)
          · skip
            refine qr_iload 59 rfl rfl rfl ?_
            refine qr_if_ne 67 62 rfl rfl rfl r4 (fun h22 => ?_) (fun h22 => ?_)
            · skip
              refine qr_aload_n 68 rfl rfl rfl ?_
              refine qr_get 71 rfl rfl rfl (by decide) rfl ?_
              have hs23 : (-2147483648) ≤ σ16 86 23 ∧ σ16 86 23 ≤ 2147483647 := hI18.1 86 23
              refine qr_retI rfl rfl (by decide) (by decide) ?_
              exact ⟨_, _, rfl, hI18, hF20, (σ16 86 23), rfl, hs23⟩
            · skip
              refine qr_iload 64 rfl rfl rfl ?_
              refine qr_goto 71 rfl rfl ?_
              refine qr_retI rfl rfl (by decide) (by decide) ?_
              exact ⟨_, _, rfl, hI18, hF20, v15, rfl, hv15⟩
          · skip
            refine qr_bipush 54 rfl (by decide) rfl ?_
            refine qr_goto 71 rfl rfl ?_
            refine qr_retI rfl rfl (by decide) (by decide) ?_
            exact ⟨_, _, rfl, hI18, hF20, (-2), rfl, (by decide)⟩
        · skip
          refine qr_iconst 35 rfl rfl ?_
          refine qr_retI rfl rfl (by decide) (by decide) ?_
          exact ⟨_, _, rfl, hI, hF0, (-1), rfl, (by decide)⟩
end
section
/-! bits of longs, counted -/
def qlu (a : Int) : Nat := (ql a).toBitVec.toNat
theorem qlu_lt (a : Int) : qlu a < 18446744073709551616 := (ql a).toBitVec.isLt
theorem qlu_nn {a : Int} (h : 0 ≤ a ∧ a ≤ 9223372036854775807) : (qlu a : Int) = a := by
  have h1 : (ql a).toInt = a := ql_ti (by omega)
  have hm : (ql a).toBitVec.msb = false := by
    rw [BitVec.msb_eq_toInt, decide_eq_false_iff_not]
    show ¬ (ql a).toInt < 0
    omega
  have h2 : (ql a).toInt = ((ql a).toBitVec.toNat : Int) := BitVec.toInt_eq_toNat_of_msb hm
  unfold qlu
  omega
theorem qlu_add {v a b : Int} (h : ql v = ql (a + b)) : qlu v = (qlu a + qlu b) % 18446744073709551616 := by
  unfold qlu
  rw [h, ← ql_add, Int64.toBitVec_add, BitVec.toNat_add]
theorem qlu_sub {v a b : Int} (h : ql v = ql (a - b)) : qlu v = (18446744073709551616 - qlu b + qlu a) % 18446744073709551616 := by
  unfold qlu
  rw [h, ← ql_sub, Int64.toBitVec_sub, BitVec.toNat_sub]
theorem qlu_and {v a b : Int} (h : ql v = ql (ql_and a b)) : qlu v = qlu a &&& qlu b := by
  unfold qlu
  rw [h]
  unfold ql_and
  rw [← ql_of, Int64.toBitVec_and, BitVec.toNat_and]
theorem qlu_ushrN {v a b : Int} (k : Nat) (hb : ((qz b).toInt64.toUInt64 &&& Int64.toUInt64 63) = UInt64.ofNat k) (hk : k < 64) (h : ql v = ql (ql_ushr a b)) : qlu v = qlu a / 2 ^ k := by
  unfold qlu
  rw [h]
  unfold ql_ushr
  rw [← ql_of, hb]
  have e4 : (ql a).toUInt64.toNat = (ql a).toBitVec.toNat := rfl
  have e5 : ((ql a).toUInt64 >>> UInt64.ofNat k).toNat = (ql a).toBitVec.toNat / 2 ^ k := by
    rw [UInt64.toNat_shiftRight, e4, UInt64.toNat_ofNat_of_lt' (Nat.lt_trans hk (by decide)), Nat.mod_eq_of_lt hk, Nat.shiftRight_eq_div_pow]
  exact e5
theorem qz_lo (v : Int) : (qz v).toBitVec.toNat = qlu v % 4294967296 := by
  unfold qlu
  have h1 : (qz v).toBitVec = BitVec.ofInt 32 v := rfl
  have h2 : (ql v).toBitVec = BitVec.ofInt 64 v := rfl
  rw [h1, h2, BitVec.toNat_ofInt, BitVec.toNat_ofInt]
  omega
/-- how many of the first places of a number are set -/
def qbN (n : Nat) : Nat → Nat
  | 0 => 0
  | k + 1 => qbN n k + n / 2 ^ k % 2
theorem qbN_hi {a : Nat} (ha : a < 256) (n : Nat) : ∀ k, qbN (a + 256 * n) (8 + k) = qbN (a + 256 * n) 8 + qbN n k
  | 0 => rfl
  | k + 1 => by
    show qbN (a + 256 * n) (8 + k) + (a + 256 * n) / 2 ^ (8 + k) % 2 = qbN (a + 256 * n) 8 + (qbN n k + n / 2 ^ k % 2)
    rw [qbN_hi ha n k]
    have e : (a + 256 * n) / 2 ^ (8 + k) = n / 2 ^ k := by
      rw [Nat.pow_add, ← Nat.div_div_eq_div_mul]
      congr 1
      omega
    rw [e]
    omega
theorem qbN_8 (a n : Nat) : qbN (a + 256 * n) 8 = qbN a 8 := by
  simp only [qbN]
  omega
theorem qbN_b {a : Nat} (ha : a < 256) (n k : Nat) : qbN (a + 256 * n) (8 + k) = qbN a 8 + qbN n k := by rw [qbN_hi ha, qbN_8]
theorem qbN_le (n : Nat) : ∀ k j, k ≤ j → qbN n k ≤ qbN n j
  | k, 0, h => by
    have : k = 0 := by omega
    subst this
    exact Nat.le_refl _
  | k, j + 1, h => by
    by_cases e : k = j + 1
    · subst e
      exact Nat.le_refl _
    · have := qbN_le n k j (by omega)
      show qbN n k ≤ qbN n j + n / 2 ^ j % 2
      omega
theorem qand8 {a m : Nat} (ha : a < 256) (hm : m < 256) (n M : Nat) : (a + 256 * n) &&& (m + 256 * M) = (a &&& m) + 256 * (n &&& M) := by
  have e1 : ((a + 256 * n) &&& (m + 256 * M)) % 2 ^ 8 = a &&& m := by
    rw [Nat.and_mod_two_pow]
    congr 1 <;> omega
  have e2 : ((a + 256 * n) &&& (m + 256 * M)) / 2 ^ 8 = n &&& M := by
    rw [Nat.and_div_two_pow]
    congr 1 <;> omega
  omega
/-- the three steps of a count by bytes, over k bytes -/
def qm5 : Nat → Nat | 0 => 0 | k + 1 => 85 + 256 * qm5 k
def qm3 : Nat → Nat | 0 => 0 | k + 1 => 51 + 256 * qm3 k
def qmf : Nat → Nat | 0 => 0 | k + 1 => 15 + 256 * qmf k
def qs1 (k n : Nat) : Nat := n - (n / 2 &&& qm5 k)
def qs2 (k n : Nat) : Nat := (n &&& qm3 k) + (n / 4 &&& qm3 k)
def qs3 (k n : Nat) : Nat := (n + n / 16) &&& qmf k
theorem qd1 : ∀ a : Fin 256, ∀ t : Fin 2, ((a : Nat) / 2 + 128 * (t : Nat) &&& 85) = ((a : Nat) / 2 &&& 85) := by decide +kernel
theorem qd2 : ∀ a : Fin 256, ∀ t : Fin 4, ((a : Nat) / 4 + 64 * (t : Nat) &&& 51) = ((a : Nat) / 4 &&& 51) := by decide +kernel
theorem qd3 : ∀ a : Fin 256, ((a : Nat) &&& 15) = (a : Nat) % 16 := by decide +kernel
theorem qd4 : ∀ a : Fin 256, qs1 1 (a : Nat) < 256 ∧ qs2 1 (qs1 1 (a : Nat)) < 256 ∧ qs2 1 (qs1 1 (a : Nat)) % 16 ≤ 4 ∧ qs2 1 (qs1 1 (a : Nat)) / 16 ≤ 4 ∧ (qs2 1 (qs1 1 (a : Nat)) + qs2 1 (qs1 1 (a : Nat)) / 16) % 16 = qbN (a : Nat) 8 ∧ ((a : Nat) / 2 &&& 85) ≤ (a : Nat) := by decide +kernel
theorem qs1_s {a : Nat} (ha : a < 256) (k n : Nat) : qs1 (k + 1) (a + 256 * n) = qs1 1 a + 256 * qs1 k n := by
  have e1 : (a + 256 * n) / 2 = (a / 2 + 128 * (n % 2)) + 256 * (n / 2) := by omega
  have e2 := qd1 ⟨a, ha⟩ ⟨n % 2, Nat.mod_lt _ (by decide)⟩
  have e3 := (qd4 ⟨a, ha⟩).2.2.2.2.2
  have e4 : (n / 2 &&& qm5 k) ≤ n / 2 := Nat.and_le_left
  have e5 : qs1 1 a = a - (a / 2 &&& 85) := rfl
  rw [e5]
  unfold qs1
  rw [e1]
  show a + 256 * n - ((a / 2 + 128 * (n % 2)) + 256 * (n / 2) &&& 85 + 256 * qm5 k) = _
  rw [qand8 (by omega) (by decide)]
  simp only at e2 e3
  rw [e2]
  omega
theorem qs2_s {a : Nat} (ha : a < 256) (k n : Nat) : qs2 (k + 1) (a + 256 * n) = qs2 1 a + 256 * qs2 k n := by
  have e1 : (a + 256 * n) / 4 = (a / 4 + 64 * (n % 4)) + 256 * (n / 4) := by omega
  have e2 := qd2 ⟨a, ha⟩ ⟨n % 4, Nat.mod_lt _ (by decide)⟩
  have e5 : qs2 1 a = (a &&& 51) + (a / 4 &&& 51) := rfl
  rw [e5]
  unfold qs2
  rw [e1]
  show (a + 256 * n &&& 51 + 256 * qm3 k) + ((a / 4 + 64 * (n % 4)) + 256 * (n / 4) &&& 51 + 256 * qm3 k) = _
  rw [qand8 (by omega) (by decide), qand8 (by omega) (by decide)]
  simp only at e2
  rw [e2]
  omega
theorem qs3_s {a : Nat} (ha : a % 16 ≤ 4 ∧ a / 16 ≤ 4) (k n : Nat) (hn : n % 16 ≤ 4) : qs3 (k + 1) (a + 256 * n) = (a + a / 16) % 16 + 256 * qs3 k n := by
  have e1 : (a + 256 * n) + (a + 256 * n) / 16 = (a + a / 16 + 16 * (n % 16)) + 256 * (n + n / 16) := by omega
  unfold qs3
  rw [e1]
  show (a + a / 16 + 16 * (n % 16)) + 256 * (n + n / 16) &&& 15 + 256 * qmf k = _
  rw [qand8 (by omega) (by decide)]
  have e2 := qd3 ⟨a + a / 16 + 16 * (n % 16), by omega⟩
  simp only at e2
  rw [e2]
  omega
theorem qs12_16 {a : Nat} (ha : a < 256) (k n : Nat) : qs2 (k + 1) (qs1 (k + 1) (a + 256 * n)) = qs2 1 (qs1 1 a) + 256 * qs2 k (qs1 k n) := by
  have h := qd4 ⟨a, ha⟩
  simp only at h
  rw [qs1_s ha, qs2_s h.1]
/-- what the three steps leave: in each byte how many places of it are set -/
def qfl : Nat → Nat → Nat
  | 0, _ => 0
  | k + 1, n => qbN (n % 256) 8 + 256 * qfl k (n / 256)
theorem qfl_ok : ∀ k n, n < 256 ^ k → qs3 k (qs2 k (qs1 k n)) = qfl k n ∧ qs2 k (qs1 k n) % 16 ≤ 4
  | 0, n, h => by
    have : n = 0 := by simpa using h
    subst this
    exact ⟨rfl, Nat.zero_le _⟩
  | k + 1, n, h => by
    have hn : n = n % 256 + 256 * (n / 256) := by omega
    have ha : n % 256 < 256 := by omega
    have hq := qd4 ⟨n % 256, ha⟩
    simp only at hq
    have hk : n / 256 < 256 ^ k := by
      rw [Nat.pow_succ] at h
      exact Nat.div_lt_of_lt_mul (by omega)
    have ih := qfl_ok k (n / 256) hk
    have e := qs12_16 ha k (n / 256)
    rw [← hn] at e
    rw [e]
    refine ⟨?_, ?_⟩
    case refine_2 =>
      have q : ∀ A B : Nat, (A + 256 * B) % 16 = A % 16 := fun A B => by omega
      rw [q]
      exact hq.2.2.1
    rw [qs3_s ⟨hq.2.2.1, hq.2.2.2.1⟩ k _ ih.2, ih.1, hq.2.2.2.2.1]
    rfl
theorem qbN_8le (n : Nat) : qbN n 8 ≤ 8 := by
  simp only [qbN]
  omega
theorem qfl_sum (n : Nat) (h : n < 18446744073709551616) : ∃ p0 p1 p2 p3 p4 p5 p6 p7 : Nat, (p0 ≤ 8 ∧ p1 ≤ 8 ∧ p2 ≤ 8 ∧ p3 ≤ 8 ∧ p4 ≤ 8 ∧ p5 ≤ 8 ∧ p6 ≤ 8 ∧ p7 ≤ 8) ∧ qfl 8 n = p0 + 256 * (p1 + 256 * (p2 + 256 * (p3 + 256 * (p4 + 256 * (p5 + 256 * (p6 + 256 * (p7))))))) ∧ qbN n 64 = p0 + p1 + p2 + p3 + p4 + p5 + p6 + p7 := by
  have s : ∀ m k, qbN m (8 + k) = qbN (m % 256) 8 + qbN (m / 256) k := fun m k => by
    have h1 := qbN_b (a := m % 256) (by omega) (m / 256) k
    rw [show m % 256 + 256 * (m / 256) = m by omega] at h1
    exact h1
  have e0 : qbN n 64 = qbN (n % 256) 8 + qbN (n / 256) 56 := s _ 56
  have e1 : qbN (n / 256) 56 = qbN (n / 256 % 256) 8 + qbN (n / 256 / 256) 48 := s _ 48
  have e2 : qbN (n / 256 / 256) 48 = qbN (n / 256 / 256 % 256) 8 + qbN (n / 256 / 256 / 256) 40 := s _ 40
  have e3 : qbN (n / 256 / 256 / 256) 40 = qbN (n / 256 / 256 / 256 % 256) 8 + qbN (n / 256 / 256 / 256 / 256) 32 := s _ 32
  have e4 : qbN (n / 256 / 256 / 256 / 256) 32 = qbN (n / 256 / 256 / 256 / 256 % 256) 8 + qbN (n / 256 / 256 / 256 / 256 / 256) 24 := s _ 24
  have e5 : qbN (n / 256 / 256 / 256 / 256 / 256) 24 = qbN (n / 256 / 256 / 256 / 256 / 256 % 256) 8 + qbN (n / 256 / 256 / 256 / 256 / 256 / 256) 16 := s _ 16
  have e6 : qbN (n / 256 / 256 / 256 / 256 / 256 / 256) 16 = qbN (n / 256 / 256 / 256 / 256 / 256 / 256 % 256) 8 + qbN (n / 256 / 256 / 256 / 256 / 256 / 256 / 256) 8 := s _ 8
  have e7 : qbN (n / 256 / 256 / 256 / 256 / 256 / 256 / 256) 8 = qbN (n / 256 / 256 / 256 / 256 / 256 / 256 / 256 % 256) 8 + qbN (n / 256 / 256 / 256 / 256 / 256 / 256 / 256 / 256) 0 := s _ 0
  have e8 : qbN (n / 256 / 256 / 256 / 256 / 256 / 256 / 256 / 256) 0 = 0 := rfl
  refine ⟨qbN (n % 256) 8, qbN (n / 256 % 256) 8, qbN (n / 256 / 256 % 256) 8, qbN (n / 256 / 256 / 256 % 256) 8, qbN (n / 256 / 256 / 256 / 256 % 256) 8, qbN (n / 256 / 256 / 256 / 256 / 256 % 256) 8, qbN (n / 256 / 256 / 256 / 256 / 256 / 256 % 256) 8, qbN (n / 256 / 256 / 256 / 256 / 256 / 256 / 256 % 256) 8, ⟨qbN_8le _, qbN_8le _, qbN_8le _, qbN_8le _, qbN_8le _, qbN_8le _, qbN_8le _, qbN_8le _⟩, ?_, ?_⟩
  · simp only [qfl, Nat.mul_zero, Nat.add_zero]
  · rw [e0, e1, e2, e3, e4, e5, e6, e7, e8]
    simp only [Nat.add_assoc, Nat.add_zero]
theorem qt0 {x a v : Nat} (hx : x < 18446744073709551616) (h : a ≤ x) (g : v = (18446744073709551616 - a + x) % 18446744073709551616) : v = x - a := by omega
theorem qt1 {a b v : Nat} (h : a + b < 18446744073709551616) (g : v = (a + b) % 18446744073709551616) : v = a + b := by rw [g, Nat.mod_eq_of_lt h]
theorem qt2 {u v w c0 c1 c2 c3 c4 c5 c6 c7 : Nat} (h : c0 ≤ 8 ∧ c1 ≤ 8 ∧ c2 ≤ 8 ∧ c3 ≤ 8 ∧ c4 ≤ 8 ∧ c5 ≤ 8 ∧ c6 ≤ 8 ∧ c7 ≤ 8) (hu : u = c0 + 256 * (c1 + 256 * (c2 + 256 * (c3 + 256 * (c4 + 256 * (c5 + 256 * (c6 + 256 * (c7)))))))) (hv : v = u / 256) (hw : w = (u + v) % 18446744073709551616) : w = (c0 + c1) + 256 * ((c1 + c2) + 256 * ((c2 + c3) + 256 * ((c3 + c4) + 256 * ((c4 + c5) + 256 * ((c5 + c6) + 256 * ((c6 + c7) + 256 * (c7))))))) := by
  have e : v = c1 + 256 * (c2 + 256 * (c3 + 256 * (c4 + 256 * (c5 + 256 * (c6 + 256 * (c7)))))) := by
    rw [hv, hu]
    omega
  rw [hw, e, hu]
  omega
theorem qt3 {u v w c0 c1 c2 c3 c4 c5 c6 c7 : Nat} (h : c0 ≤ 16 ∧ c1 ≤ 16 ∧ c2 ≤ 16 ∧ c3 ≤ 16 ∧ c4 ≤ 16 ∧ c5 ≤ 16 ∧ c6 ≤ 16 ∧ c7 ≤ 16) (hu : u = c0 + 256 * (c1 + 256 * (c2 + 256 * (c3 + 256 * (c4 + 256 * (c5 + 256 * (c6 + 256 * (c7)))))))) (hv : v = u / 65536) (hw : w = (u + v) % 18446744073709551616) : w = (c0 + c2) + 256 * ((c1 + c3) + 256 * ((c2 + c4) + 256 * ((c3 + c5) + 256 * ((c4 + c6) + 256 * ((c5 + c7) + 256 * (c6 + 256 * (c7))))))) := by
  have e : v = c2 + 256 * (c3 + 256 * (c4 + 256 * (c5 + 256 * (c6 + 256 * (c7))))) := by
    rw [hv, hu]
    omega
  rw [hw, e, hu]
  omega
theorem qt4 {u v w c0 c1 c2 c3 c4 c5 c6 c7 : Nat} (h : c0 ≤ 32 ∧ c1 ≤ 32 ∧ c2 ≤ 32 ∧ c3 ≤ 32 ∧ c4 ≤ 32 ∧ c5 ≤ 32 ∧ c6 ≤ 32 ∧ c7 ≤ 32) (hu : u = c0 + 256 * (c1 + 256 * (c2 + 256 * (c3 + 256 * (c4 + 256 * (c5 + 256 * (c6 + 256 * (c7)))))))) (hv : v = u / 4294967296) (hw : w = (u + v) % 18446744073709551616) : w = (c0 + c4) + 256 * ((c1 + c5) + 256 * ((c2 + c6) + 256 * ((c3 + c7) + 256 * (c4 + 256 * (c5 + 256 * (c6 + 256 * (c7))))))) := by
  have e : v = c4 + 256 * (c5 + 256 * (c6 + 256 * (c7))) := by
    rw [hv, hu]
    omega
  rw [hw, e, hu]
  omega
theorem qpop {x v1 v2 v3 v4 v5 v6 v7 v8 v9 v10 v11 v12 v13 v14 v15 v16 v17 : Int} (h1 : ql v1 = ql (ql_ushr x 1)) (h2 : ql v2 = ql (ql_and v1 6148914691236517205)) (h3 : ql v3 = ql (x - v2)) (h4 : ql v4 = ql (ql_and v3 3689348814741910323)) (h5 : ql v5 = ql (ql_ushr v3 2)) (h6 : ql v6 = ql (ql_and v5 3689348814741910323)) (h7 : ql v7 = ql (v4 + v6)) (h8 : ql v8 = ql (ql_ushr v7 4)) (h9 : ql v9 = ql (v7 + v8)) (h10 : ql v10 = ql (ql_and v9 1085102592571150095)) (h11 : ql v11 = ql (ql_ushr v10 8)) (h12 : ql v12 = ql (v10 + v11)) (h13 : ql v13 = ql (ql_ushr v12 16)) (h14 : ql v14 = ql (v12 + v13)) (h15 : ql v15 = ql (ql_ushr v14 32)) (h16 : ql v16 = ql (v14 + v15)) (h17 : qz v17 = qz v16) : qz_and v17 127 = (qbN (qlu x) 64 : Int) := by
  have hx := qlu_lt x
  have g1 : qlu v1 = qlu x / 2 := qlu_ushrN 1 (by decide) (by decide) h1
  have g2 := qlu_and h2
  have g3 := qlu_sub h3
  have g4 := qlu_and h4
  have g5 : qlu v5 = qlu v3 / 4 := qlu_ushrN 2 (by decide) (by decide) h5
  have g6 := qlu_and h6
  have g7 := qlu_add h7
  have g8 : qlu v8 = qlu v7 / 16 := qlu_ushrN 4 (by decide) (by decide) h8
  have g9 := qlu_add h9
  have g10 := qlu_and h10
  have g11 : qlu v11 = qlu v10 / 256 := qlu_ushrN 8 (by decide) (by decide) h11
  have g12 := qlu_add h12
  have g13 : qlu v13 = qlu v12 / 65536 := qlu_ushrN 16 (by decide) (by decide) h13
  have g14 := qlu_add h14
  have g15 : qlu v15 = qlu v14 / 4294967296 := qlu_ushrN 32 (by decide) (by decide) h15
  have g16 := qlu_add h16
  rw [show qlu 6148914691236517205 = qm5 8 from by decide +kernel] at g2
  rw [show qlu 3689348814741910323 = qm3 8 from by decide +kernel] at g4 g6
  rw [show qlu 1085102592571150095 = qmf 8 from by decide +kernel] at g10
  have l2 : qlu v2 ≤ qlu x / 2 := by rw [g2, g1]; exact Nat.and_le_left
  have k3 : qlu v3 = qs1 8 (qlu x) := by
    unfold qs1
    have e : (qlu x / 2 &&& qm5 8) = qlu v2 := by rw [g2, g1]
    rw [e]
    exact qt0 hx (Nat.le_trans l2 (Nat.div_le_self _ _)) g3
  have l4 : qlu v4 ≤ qm3 8 := by rw [g4]; exact Nat.and_le_right
  have l6 : qlu v6 ≤ qm3 8 := by rw [g6]; exact Nat.and_le_right
  have k7 : qlu v7 = qs2 8 (qs1 8 (qlu x)) ∧ qlu v7 ≤ qm3 8 + qm3 8 := by
    have e7 := qt1 (Nat.lt_of_le_of_lt (Nat.add_le_add l4 l6) (by decide +kernel)) g7
    refine ⟨?_, by rw [e7]; exact Nat.add_le_add l4 l6⟩
    unfold qs2
    rw [← k3]
    have e : (qlu v3 / 4 &&& qm3 8) = qlu v6 := by rw [g6, g5]
    rw [e, ← g4, e7]
  have k10 : qlu v10 = qfl 8 (qlu x) := by
    have l8 : qlu v8 ≤ qlu v7 := by rw [g8]; exact Nat.div_le_self _ _
    have e9 := qt1 (Nat.lt_of_le_of_lt (Nat.add_le_add k7.2 (Nat.le_trans l8 k7.2)) (by decide +kernel)) g9
    rw [← (qfl_ok 8 (qlu x) hx).1, ← k7.1]
    show qlu v10 = qlu v7 + qlu v7 / 16 &&& qmf 8
    rw [g10, e9, g8]
  obtain ⟨p0, p1, p2, p3, p4, p5, p6, p7, hp, hs, hb⟩ := qfl_sum (qlu x) hx
  rw [hs] at k10
  rw [hb]
  have k12 := qt2 hp k10 g11 g12
  have k14 := qt3 (by clear g1 g2 g3 g4 g5 g6 g7 g8 g9 g10 g11 g12 g13 g14 g15 g16 k3 k7 k10 k12 l2 l4 l6 hx hb hs; omega) k12 g13 g14
  have k16 := qt4 (by clear g1 g2 g3 g4 g5 g6 g7 g8 g9 g10 g11 g12 g13 g14 g15 g16 k3 k7 k10 k12 k14 l2 l4 l6 hx hb hs; omega) k14 g15 g16
  have e17 : (qz v17).toBitVec.toNat = qlu v16 % 4294967296 := by
    rw [h17]
    exact qz_lo v16
  clear g1 g2 g3 g4 g5 g6 g7 g8 g9 g10 g11 g12 g13 g14 g15 g16 k3 k7 k10 k12 k14 l2 l4 l6 hx hb hs h1 h2 h3 h4 h5 h6 h7 h8 h9 h10 h11 h12 h13 h14 h15 h16
  have k17 : qlu v16 % 128 = (p0 + p1 + p2 + p3 + p4 + p5 + p6 + p7) % 128 := by
    rw [k16]
    omega
  have e18 : (qz v17 &&& qz 127).toBitVec.toNat = (p0 + p1 + p2 + p3 + p4 + p5 + p6 + p7) % 128 := by
    rw [Int32.toBitVec_and, BitVec.toNat_and, e17, show (qz 127).toBitVec.toNat = 2 ^ 7 - 1 from by decide +kernel, Nat.and_two_pow_sub_one_eq_mod]
    clear k16 h17
    omega
  clear k16 k17 e17 h17
  have hm : (qz v17 &&& qz 127).toBitVec.msb = false := by
    rw [BitVec.msb_eq_decide, decide_eq_false_iff_not]
    omega
  have e19 : (qz v17 &&& qz 127).toInt = ((qz v17 &&& qz 127).toBitVec.toNat : Int) := BitVec.toInt_eq_toNat_of_msb hm
  unfold qz_and
  omega
end
