section
set_option maxHeartbeats 4000000 in
set_option maxRecDepth 20000 in
/-- OneRoofModel.within -/
theorem sf_176 {L : Nat} {xs : Nat → Int} {vb : Bool} {d : Nat} {σ α : Nat → Nat → Int} {κ : Nat → Option Nat} {ρ : Nat} {x0 : Int} {x1 : Int} {x2 : Int} (hI : qI σ α κ ρ) (r0 : (-9223372036854775808) ≤ x0 ∧ x0 ≤ 9223372036854775807) (r1 : (-9223372036854775808) ≤ x1 ∧ x1 ≤ 9223372036854775807) (r2 : (-9223372036854775808) ≤ x2 ∧ x2 ≤ 9223372036854775807) : qm_T (qe L xs vb) (d + 1) 176 [.long (ql x0), .long (ql x1), .long (ql x2)] (qw σ α κ ρ) (fun r w' => w' = qw σ α κ ρ ∧ ∃ v : Int, r = some (.int (qz v)) ∧ (0 ≤ v ∧ v ≤ 1) ∧ ((v = 1 ∧ x1 ≤ x0 ∧ x0 ≤ x2) ∨ (v = 0 ∧ ¬ (x1 ≤ x0 ∧ x0 ≤ x2)))) := by
  refine qr_start (d := d + 0) qv_e176 (Nat.le_of_ble_eq_true rfl) ?_
  show qr_W (qe L xs vb) (d + 0) qx_e176 _ (0, [(0, .long (ql x0)), (2, .long (ql x1)), (4, .long (ql x2))], [], _, 0, 0)
  refine qr_lload_n 1 rfl rfl rfl ?_
  refine qr_lload_n 2 rfl rfl rfl ?_
  refine qr_lc_lt 17 6 rfl rfl rfl rfl (by omega) (by omega) (fun h1 => ?_) (fun h1 => ?_)
  · skip
    refine qr_iconst 18 rfl rfl ?_
    refine qr_retZ rfl rfl (by omega) (by decide) (by decide) ?_
    exact ⟨rfl, 0, rfl, by omega, by omega⟩
  · skip
    refine qr_lload_n 7 rfl rfl rfl ?_
    refine qr_lload 9 rfl rfl rfl ?_
    refine qr_lc_gt 17 13 rfl rfl rfl rfl (by omega) (by omega) (fun h2 => ?_) (fun h2 => ?_)
    · skip
      refine qr_iconst 18 rfl rfl ?_
      refine qr_retZ rfl rfl (by omega) (by decide) (by decide) ?_
      exact ⟨rfl, 0, rfl, by omega, by omega⟩
    · skip
      refine qr_iconst 14 rfl rfl ?_
      refine qr_goto 18 rfl rfl ?_
      refine qr_retZ rfl rfl (by omega) (by decide) (by decide) ?_
      exact ⟨rfl, 1, rfl, by omega, by omega⟩

set_option maxHeartbeats 4000000 in
set_option maxRecDepth 20000 in
/-- OneRoofModel.isHour -/
theorem sf_192 {L : Nat} {xs : Nat → Int} {vb : Bool} {d : Nat} {σ α : Nat → Nat → Int} {κ : Nat → Option Nat} {ρ : Nat} {x0 : Int} (hI : qI σ α κ ρ) (r0 : (-2147483648) ≤ x0 ∧ x0 ≤ 2147483647) : qm_T (qe L xs vb) (d + 2) 192 [.int (qz x0)] (qw σ α κ ρ) (fun r w' => w' = qw σ α κ ρ ∧ ∃ v : Int, r = some (.int (qz v)) ∧ (0 ≤ v ∧ v ≤ 1) ∧ ((v = 1 ∧ 0 ≤ x0 ∧ x0 ≤ 2399) ∨ (v = 0 ∧ ¬ (0 ≤ x0 ∧ x0 ≤ 2399)))) := by
  refine qr_start (d := d + 1) qv_e192 (Nat.le_of_ble_eq_true rfl) ?_
  show qr_W (qe L xs vb) (d + 1) qx_e192 _ (0, [(0, .int (qz x0))], [], _, 0, 0)
  refine qr_iload_n 1 rfl rfl rfl ?_
  refine qr_i2l 2 rfl (by omega) rfl ?_
  refine qr_lconst 3 rfl rfl ?_
  refine qy_vl 0 rfl ?_
  refine qr_ldc2 2399 6 rfl (by decide) rfl ?_
  refine qr_callN 9 rfl rfl rfl (sf_176 (d := d + 0) hI (by omega) (by omega) (by omega)) ?_
  rintro _ _ ⟨rfl, v1, rfl, hv1, hp2⟩
  show qr_W (qe L xs vb) (d + 1) qx_e192 _ (9, _, [.int (qz v1)], qw σ α κ ρ, 0, 0)
  refine qr_retZ rfl rfl (by omega) (by decide) (by decide) ?_
  exact ⟨rfl, v1, rfl, by omega, by omega⟩

set_option maxHeartbeats 4000000 in
set_option maxRecDepth 20000 in
/-- OneRoofModel.isShelf -/
theorem sf_178 {L : Nat} {xs : Nat → Int} {vb : Bool} {d : Nat} {σ α : Nat → Nat → Int} {κ : Nat → Option Nat} {ρ : Nat} {x0 : Int} (hI : qI σ α κ ρ) (r0 : (-2147483648) ≤ x0 ∧ x0 ≤ 2147483647) : qm_T (qe L xs vb) (d + 2) 178 [.int (qz x0)] (qw σ α κ ρ) (fun r w' => w' = qw σ α κ ρ ∧ ∃ v : Int, r = some (.int (qz v)) ∧ (0 ≤ v ∧ v ≤ 1) ∧ ((v = 1 ∧ 0 ≤ x0 ∧ x0 ≤ 5) ∨ (v = 0 ∧ ¬ (0 ≤ x0 ∧ x0 ≤ 5)))) := by
  refine qr_start (d := d + 1) qv_e178 (Nat.le_of_ble_eq_true rfl) ?_
  show qr_W (qe L xs vb) (d + 1) qx_e178 _ (0, [(0, .int (qz x0))], [], _, 0, 0)
  refine qr_iload_n 1 rfl rfl rfl ?_
  refine qr_i2l 2 rfl (by omega) rfl ?_
  refine qr_lconst 3 rfl rfl ?_
  refine qy_vl 0 rfl ?_
  refine qr_ldc2 5 6 rfl (by decide) rfl ?_
  refine qr_callN 9 rfl rfl rfl (sf_176 (d := d + 0) hI (by omega) (by omega) (by omega)) ?_
  rintro _ _ ⟨rfl, v1, rfl, hv1, hp2⟩
  show qr_W (qe L xs vb) (d + 1) qx_e178 _ (9, _, [.int (qz v1)], qw σ α κ ρ, 0, 0)
  refine qr_retZ rfl rfl (by omega) (by decide) (by decide) ?_
  exact ⟨rfl, v1, rfl, by omega, by omega⟩

set_option maxHeartbeats 4000000 in
set_option maxRecDepth 20000 in
/-- OneRoofModel.isSpan -/
theorem sf_230 {L : Nat} {xs : Nat → Int} {vb : Bool} {d : Nat} {σ α : Nat → Nat → Int} {κ : Nat → Option Nat} {ρ : Nat} {x0 : Int} (hI : qI σ α κ ρ) (r0 : (-2147483648) ≤ x0 ∧ x0 ≤ 2147483647) : qm_T (qe L xs vb) (d + 3) 230 [.int (qz x0)] (qw σ α κ ρ) (fun r w' => w' = qw σ α κ ρ ∧ ∃ v : Int, r = some (.int (qz v)) ∧ (0 ≤ v ∧ v ≤ 1) ∧ ((v = 1 ∧ 0 ≤ x0 ∧ x0 / 10000 ≤ x0 % 10000 ∧ x0 % 10000 ≤ 2399 ∧ x0 % 10000 - x0 / 10000 < 48) ∨ (v = 0 ∧ ¬ (0 ≤ x0 ∧ x0 / 10000 ≤ x0 % 10000 ∧ x0 % 10000 ≤ 2399 ∧ x0 % 10000 - x0 / 10000 < 48)))) := by
  refine qr_start (d := d + 2) qv_e230 (Nat.le_of_ble_eq_true rfl) ?_
  show qr_W (qe L xs vb) (d + 2) qx_e230 _ (0, [(0, .int (qz x0))], [], _, 0, 0)
  refine qr_iload_n 1 rfl rfl rfl ?_
  refine qr_if_lt 59 4 rfl rfl rfl (by omega) (fun h1 => ?_) (fun h1 => ?_)
  · skip
    refine qr_iconst 60 rfl rfl ?_
    refine qr_retZ rfl rfl (by omega) (by decide) (by decide) ?_
    exact ⟨rfl, 0, rfl, by omega, by omega⟩
  · skip
    refine qr_iload_n 5 rfl rfl rfl ?_
    refine qr_sipush 8 rfl (by decide) rfl ?_
    refine qr_idiv 9 rfl (by omega) (by omega) rfl ?_
    refine qr_callN 12 rfl rfl rfl (sf_192 (d := d + 0) hI (by omega)) ?_
    rintro _ _ ⟨rfl, v2, rfl, hv2, hp3⟩
    show qr_W (qe L xs vb) (d + 2) qx_e230 _ (12, _, [.int (qz v2)], qw σ α κ ρ, 0, 0)
    refine qr_if_eq 59 15 rfl rfl rfl (by omega) (fun h4 => ?_) (fun h4 => ?_)
    · skip
      refine qr_iconst 60 rfl rfl ?_
      refine qr_retZ rfl rfl (by omega) (by decide) (by decide) ?_
      exact ⟨rfl, 0, rfl, by omega, by omega⟩
    · skip
      refine qr_iload_n 16 rfl rfl rfl ?_
      refine qr_sipush 19 rfl (by decide) rfl ?_
      refine qr_irem 20 rfl (by omega) (by omega) rfl ?_
      refine qr_callN 23 rfl rfl rfl (sf_192 (d := d + 0) hI (by omega)) ?_
      rintro _ _ ⟨rfl, v5, rfl, hv5, hp6⟩
      show qr_W (qe L xs vb) (d + 2) qx_e230 _ (23, _, [.int (qz v5)], qw σ α κ ρ, 0, 0)
      refine qr_if_eq 59 26 rfl rfl rfl (by omega) (fun h7 => ?_) (fun h7 => ?_)
      · skip
        refine qr_iconst 60 rfl rfl ?_
        refine qr_retZ rfl rfl (by omega) (by decide) (by decide) ?_
        exact ⟨rfl, 0, rfl, by omega, by omega⟩
      · skip
        refine qr_iload_n 27 rfl rfl rfl ?_
        refine qr_sipush 30 rfl (by decide) rfl ?_
        refine qr_idiv 31 rfl (by omega) (by omega) rfl ?_
        refine qr_iload_n 32 rfl rfl rfl ?_
        refine qr_sipush 35 rfl (by decide) rfl ?_
        refine qr_irem 36 rfl (by omega) (by omega) rfl ?_
        refine qr_icmp_gt 59 39 rfl rfl rfl (by omega) (by omega) (fun h8 => ?_) (fun h8 => ?_)
        · skip
          refine qr_iconst 60 rfl rfl ?_
          refine qr_retZ rfl rfl (by omega) (by decide) (by decide) ?_
          exact ⟨rfl, 0, rfl, by omega, by omega⟩
        · skip
          refine qr_iload_n 40 rfl rfl rfl ?_
          refine qr_sipush 43 rfl (by decide) rfl ?_
          refine qr_irem 44 rfl (by omega) (by omega) rfl ?_
          refine qr_iload_n 45 rfl rfl rfl ?_
          refine qr_sipush 48 rfl (by decide) rfl ?_
          refine qr_idiv 49 rfl (by omega) (by omega) rfl ?_
          refine qr_isub 50 rfl rfl ?_
          refine qr_bipush 52 rfl (by decide) rfl ?_
          refine qr_icmp_ge 59 55 rfl rfl rfl (by omega) (by omega) (fun h9 => ?_) (fun h9 => ?_)
          · skip
            refine qr_iconst 60 rfl rfl ?_
            refine qr_retZ rfl rfl (by omega) (by decide) (by decide) ?_
            exact ⟨rfl, 0, rfl, by omega, by omega⟩
          · skip
            refine qr_iconst 56 rfl rfl ?_
            refine qr_goto 60 rfl rfl ?_
            refine qr_retZ rfl rfl (by omega) (by decide) (by decide) ?_
            exact ⟨rfl, 1, rfl, by omega, by omega⟩

set_option maxHeartbeats 4000000 in
set_option maxRecDepth 20000 in
/-- OneRoofModel.isPerson -/
theorem sf_180_86 {L : Nat} {xs : Nat → Int} {vb : Bool} {d : Nat} {σ α : Nat → Nat → Int} {κ : Nat → Option Nat} {ρ : Nat} {x1 : Int} (hI : qI σ α κ ρ) (r1 : (-2147483648) ≤ x1 ∧ x1 ≤ 2147483647) : qm_T (qe L xs vb) (d + 2) 180 [.ref 86, .int (qz x1)] (qw σ α κ ρ) (fun r w' => w' = qw σ α κ ρ ∧ ∃ v : Int, r = some (.int (qz v)) ∧ (0 ≤ v ∧ v ≤ 1) ∧ (σ 86 6 ≤ 32 ∧ ((v = 1 ∧ 0 ≤ x1 ∧ x1 < σ 86 6) ∨ (v = 0 ∧ ¬ (0 ≤ x1 ∧ x1 < σ 86 6))))) := by
  refine qr_start (d := d + 1) qv_e180 (Nat.le_of_ble_eq_true rfl) ?_
  show qr_W (qe L xs vb) (d + 1) qx_e180 _ (0, [(0, .ref 86), (1, .int (qz x1))], [], _, 0, 0)
  have hz86_6 : 0 ≤ σ 86 6 ∧ σ 86 6 ≤ 32 := hI.1 86 6
  refine qr_iload_n 1 rfl rfl rfl ?_
  refine qr_i2l 2 rfl (by omega) rfl ?_
  refine qr_lconst 3 rfl rfl ?_
  refine qy_vl 0 rfl ?_
  refine qr_aload_n 4 rfl rfl rfl ?_
  refine qr_get 7 rfl rfl rfl (by decide) rfl ?_
  refine qr_iconst 8 rfl rfl ?_
  refine qr_isub 9 rfl rfl ?_
  refine qr_i2l 10 rfl (by omega) rfl ?_
  refine qr_callN 13 rfl rfl rfl (sf_176 (d := d + 0) hI (by omega) (by omega) (by omega)) ?_
  rintro _ _ ⟨rfl, v1, rfl, hv1, hp2⟩
  show qr_W (qe L xs vb) (d + 1) qx_e180 _ (13, _, [.int (qz v1)], qw σ α κ ρ, 0, 0)
  refine qr_retZ rfl rfl (by omega) (by decide) (by decide) ?_
  exact ⟨rfl, v1, rfl, by omega, by omega⟩

set_option maxHeartbeats 4000000 in
set_option maxRecDepth 20000 in
/-- OneRoofModel.isPeace -/
theorem sf_200_86 {L : Nat} {xs : Nat → Int} {vb : Bool} {d : Nat} {σ α : Nat → Nat → Int} {κ : Nat → Option Nat} {ρ : Nat} {x1 : Int} (hI : qI σ α κ ρ) (r1 : (-2147483648) ≤ x1 ∧ x1 ≤ 2147483647) : qm_T (qe L xs vb) (d + 2) 200 [.ref 86, .int (qz x1)] (qw σ α κ ρ) (fun r w' => w' = qw σ α κ ρ ∧ ∃ v : Int, r = some (.int (qz v)) ∧ (0 ≤ v ∧ v ≤ 1) ∧ (σ 86 24 ≤ 60 ∧ ((v = 1 ∧ 0 ≤ x1 ∧ x1 < σ 86 24) ∨ (v = 0 ∧ ¬ (0 ≤ x1 ∧ x1 < σ 86 24))))) := by
  refine qr_start (d := d + 1) qv_e200 (Nat.le_of_ble_eq_true rfl) ?_
  show qr_W (qe L xs vb) (d + 1) qx_e200 _ (0, [(0, .ref 86), (1, .int (qz x1))], [], _, 0, 0)
  have hz86_24 : 0 ≤ σ 86 24 ∧ σ 86 24 ≤ 60 := hI.1 86 24
  refine qr_iload_n 1 rfl rfl rfl ?_
  refine qr_i2l 2 rfl (by omega) rfl ?_
  refine qr_lconst 3 rfl rfl ?_
  refine qy_vl 0 rfl ?_
  refine qr_aload_n 4 rfl rfl rfl ?_
  refine qr_get 7 rfl rfl rfl (by decide) rfl ?_
  refine qr_iconst 8 rfl rfl ?_
  refine qr_isub 9 rfl rfl ?_
  refine qr_i2l 10 rfl (by omega) rfl ?_
  refine qr_callN 13 rfl rfl rfl (sf_176 (d := d + 0) hI (by omega) (by omega) (by omega)) ?_
  rintro _ _ ⟨rfl, v1, rfl, hv1, hp2⟩
  show qr_W (qe L xs vb) (d + 1) qx_e200 _ (13, _, [.int (qz v1)], qw σ α κ ρ, 0, 0)
  refine qr_retZ rfl rfl (by omega) (by decide) (by decide) ?_
  exact ⟨rfl, v1, rfl, by omega, by omega⟩

set_option maxHeartbeats 4000000 in
set_option maxRecDepth 20000 in
/-- OneRoofModel.arePair -/
theorem sf_191_86 {L : Nat} {xs : Nat → Int} {vb : Bool} {d : Nat} {σ α : Nat → Nat → Int} {κ : Nat → Option Nat} {ρ : Nat} {x1 : Int} (hI : qI σ α κ ρ) (r1 : (-2147483648) ≤ x1 ∧ x1 ≤ 2147483647) : qm_T (qe L xs vb) (d + 3) 191 [.ref 86, .int (qz x1)] (qw σ α κ ρ) (fun r w' => w' = qw σ α κ ρ ∧ ∃ v : Int, r = some (.int (qz v)) ∧ (0 ≤ v ∧ v ≤ 1) ∧ (σ 86 6 ≤ 32 ∧ ((v = 1 ∧ 0 ≤ x1 ∧ x1 / 100 < σ 86 6 ∧ x1 % 100 < σ 86 6 ∧ ¬ x1 / 100 = x1 % 100) ∨ (v = 0 ∧ ¬ (0 ≤ x1 ∧ x1 / 100 < σ 86 6 ∧ x1 % 100 < σ 86 6 ∧ ¬ x1 / 100 = x1 % 100))))) := by
  refine qr_start (d := d + 2) qv_e191 (Nat.le_of_ble_eq_true rfl) ?_
  show qr_W (qe L xs vb) (d + 2) qx_e191 _ (0, [(0, .ref 86), (1, .int (qz x1))], [], _, 0, 0)
  have hz86_6 : 0 ≤ σ 86 6 ∧ σ 86 6 ≤ 32 := hI.1 86 6
  refine qr_iload_n 1 rfl rfl rfl ?_
  refine qr_if_lt 41 4 rfl rfl rfl (by omega) (fun h1 => ?_) (fun h1 => ?_)
  · skip
    refine qr_iconst 42 rfl rfl ?_
    refine qr_retZ rfl rfl (by omega) (by decide) (by decide) ?_
    exact ⟨rfl, 0, rfl, by omega, by omega⟩
  · skip
    refine qr_aload_n 5 rfl rfl rfl ?_
    refine qr_iload_n 6 rfl rfl rfl ?_
    refine qr_bipush 8 rfl (by decide) rfl ?_
    refine qr_idiv 9 rfl (by omega) (by omega) rfl ?_
    refine qr_callN 12 rfl rfl rfl (sf_180_86 (d := d + 0) hI (by omega)) ?_
    have hs4 : 0 ≤ σ 86 6 ∧ σ 86 6 ≤ 32 := hI.1 86 6
    rintro _ _ ⟨rfl, v2, rfl, hv2, hp3⟩
    show qr_W (qe L xs vb) (d + 2) qx_e191 _ (12, _, [.int (qz v2)], qw σ α κ ρ, 0, 0)
    refine qr_if_eq 41 15 rfl rfl rfl (by omega) (fun h5 => ?_) (fun h5 => ?_)
    · skip
      refine qr_iconst 42 rfl rfl ?_
      refine qr_retZ rfl rfl (by omega) (by decide) (by decide) ?_
      exact ⟨rfl, 0, rfl, by omega, by omega⟩
    · skip
      refine qr_aload_n 16 rfl rfl rfl ?_
      refine qr_iload_n 17 rfl rfl rfl ?_
      refine qr_bipush 19 rfl (by decide) rfl ?_
      refine qr_irem 20 rfl (by omega) (by omega) rfl ?_
      refine qr_callN 23 rfl rfl rfl (sf_180_86 (d := d + 0) hI (by omega)) ?_
      have hs8 : 0 ≤ σ 86 6 ∧ σ 86 6 ≤ 32 := hI.1 86 6
      rintro _ _ ⟨rfl, v6, rfl, hv6, hp7⟩
      show qr_W (qe L xs vb) (d + 2) qx_e191 _ (23, _, [.int (qz v6)], qw σ α κ ρ, 0, 0)
      refine qr_if_eq 41 26 rfl rfl rfl (by omega) (fun h9 => ?_) (fun h9 => ?_)
      · skip
        refine qr_iconst 42 rfl rfl ?_
        refine qr_retZ rfl rfl (by omega) (by decide) (by decide) ?_
        exact ⟨rfl, 0, rfl, by omega, by omega⟩
      · skip
        refine qr_iload_n 27 rfl rfl rfl ?_
        refine qr_bipush 29 rfl (by decide) rfl ?_
        refine qr_idiv 30 rfl (by omega) (by omega) rfl ?_
        refine qr_iload_n 31 rfl rfl rfl ?_
        refine qr_bipush 33 rfl (by decide) rfl ?_
        refine qr_irem 34 rfl (by omega) (by omega) rfl ?_
        refine qr_icmp_eq 41 37 rfl rfl rfl (by omega) (by omega) (fun h10 => ?_) (fun h10 => ?_)
        · skip
          refine qr_iconst 42 rfl rfl ?_
          refine qr_retZ rfl rfl (by omega) (by decide) (by decide) ?_
          exact ⟨rfl, 0, rfl, by omega, by omega⟩
        · skip
          refine qr_iconst 38 rfl rfl ?_
          refine qr_goto 42 rfl rfl ?_
          refine qr_retZ rfl rfl (by omega) (by decide) (by decide) ?_
          exact ⟨rfl, 1, rfl, by omega, by omega⟩

set_option maxHeartbeats 4000000 in
set_option maxRecDepth 20000 in
/-- OneRoofModel.isOne -/
theorem sf_175_86 {L : Nat} {xs : Nat → Int} {vb : Bool} {d : Nat} {σ α : Nat → Nat → Int} {κ : Nat → Option Nat} {ρ : Nat} {x1 : Int} {x2 : Int} {x3 : Int} (hI : qI σ α κ ρ) (r1 : (-2147483648) ≤ x1 ∧ x1 ≤ 2147483647) (r2 : (-2147483648) ≤ x2 ∧ x2 ≤ 2147483647) (r3 : (-2147483648) ≤ x3 ∧ x3 ≤ 2147483647) : qm_T (qe L xs vb) (d + 2) 175 [.ref 86, .int (qz x1), .int (qz x2), .int (qz x3)] (qw σ α κ ρ) (fun r w' => w' = qw σ α κ ρ ∧ ∃ v : Int, r = some (.int (qz v)) ∧ (0 ≤ v ∧ v ≤ 1) ∧ (σ 86 6 ≤ 32 ∧ ((v = 1 ∧ -1 ≤ x1 ∧ x1 < σ 86 6 ∧ 1 ≤ x2 ∧ x2 ≤ 99 ∧ 0 ≤ x3 ∧ x3 ≤ 1) ∨ (v = 0 ∧ ¬ (-1 ≤ x1 ∧ x1 < σ 86 6 ∧ 1 ≤ x2 ∧ x2 ≤ 99 ∧ 0 ≤ x3 ∧ x3 ≤ 1))))) := by
  refine qr_start (d := d + 1) qv_e175 (Nat.le_of_ble_eq_true rfl) ?_
  show qr_W (qe L xs vb) (d + 1) qx_e175 _ (0, [(0, .ref 86), (1, .int (qz x1)), (2, .int (qz x2)), (3, .int (qz x3))], [], _, 0, 0)
  have hz86_6 : 0 ≤ σ 86 6 ∧ σ 86 6 ≤ 32 := hI.1 86 6
  refine qr_iload_n 1 rfl rfl rfl ?_
  refine qr_i2l 2 rfl (by omega) rfl ?_
  refine qr_ldc2 (-1) 5 rfl (by decide) rfl ?_
  refine qr_aload_n 6 rfl rfl rfl ?_
  refine qr_get 9 rfl rfl rfl (by decide) rfl ?_
  refine qr_iconst 10 rfl rfl ?_
  refine qr_isub 11 rfl rfl ?_
  refine qr_i2l 12 rfl (by omega) rfl ?_
  refine qr_callN 15 rfl rfl rfl (sf_176 (d := d + 0) hI (by omega) (by omega) (by omega)) ?_
  rintro _ _ ⟨rfl, v1, rfl, hv1, hp2⟩
  show qr_W (qe L xs vb) (d + 1) qx_e175 _ (15, _, [.int (qz v1)], qw σ α κ ρ, 0, 0)
  refine qr_if_eq 44 18 rfl rfl rfl (by omega) (fun h3 => ?_) (fun h3 => ?_)
  · skip
    refine qr_iconst 45 rfl rfl ?_
    refine qr_retZ rfl rfl (by omega) (by decide) (by decide) ?_
    exact ⟨rfl, 0, rfl, by omega, by omega⟩
  · skip
    refine qr_iload_n 19 rfl rfl rfl ?_
    refine qr_i2l 20 rfl (by omega) rfl ?_
    refine qr_lconst 21 rfl rfl ?_
    refine qy_vl 1 rfl ?_
    refine qr_ldc2 99 24 rfl (by decide) rfl ?_
    refine qr_callN 27 rfl rfl rfl (sf_176 (d := d + 0) hI (by omega) (by omega) (by omega)) ?_
    rintro _ _ ⟨rfl, v4, rfl, hv4, hp5⟩
    show qr_W (qe L xs vb) (d + 1) qx_e175 _ (27, _, [.int (qz v4)], qw σ α κ ρ, 0, 0)
    refine qr_if_eq 44 30 rfl rfl rfl (by omega) (fun h6 => ?_) (fun h6 => ?_)
    · skip
      refine qr_iconst 45 rfl rfl ?_
      refine qr_retZ rfl rfl (by omega) (by decide) (by decide) ?_
      exact ⟨rfl, 0, rfl, by omega, by omega⟩
    · skip
      refine qr_iload_n 31 rfl rfl rfl ?_
      refine qr_i2l 32 rfl (by omega) rfl ?_
      refine qr_lconst 33 rfl rfl ?_
      refine qy_vl 0 rfl ?_
      refine qr_lconst 34 rfl rfl ?_
      refine qy_vl 1 rfl ?_
      refine qr_callN 37 rfl rfl rfl (sf_176 (d := d + 0) hI (by omega) (by omega) (by omega)) ?_
      rintro _ _ ⟨rfl, v7, rfl, hv7, hp8⟩
      show qr_W (qe L xs vb) (d + 1) qx_e175 _ (37, _, [.int (qz v7)], qw σ α κ ρ, 0, 0)
      refine qr_if_eq 44 40 rfl rfl rfl (by omega) (fun h9 => ?_) (fun h9 => ?_)
      · skip
        refine qr_iconst 45 rfl rfl ?_
        refine qr_retZ rfl rfl (by omega) (by decide) (by decide) ?_
        exact ⟨rfl, 0, rfl, by omega, by omega⟩
      · skip
        refine qr_iconst 41 rfl rfl ?_
        refine qr_goto 45 rfl rfl ?_
        refine qr_retZ rfl rfl (by omega) (by decide) (by decide) ?_
        exact ⟨rfl, 1, rfl, by omega, by omega⟩

set_option maxHeartbeats 4000000 in
set_option maxRecDepth 20000 in
/-- OneRoofModel.isDead -/
theorem sf_181_86 {L : Nat} {xs : Nat → Int} {vb : Bool} {d : Nat} {σ α : Nat → Nat → Int} {κ : Nat → Option Nat} {ρ : Nat} {x1 : Int} (hI : qI σ α κ ρ) (r1 : (-2147483648) ≤ x1 ∧ x1 ≤ 2147483647) : qm_T (qe L xs vb) (d + 1) 181 [.ref 86, .int (qz x1)] (qw σ α κ ρ) (fun r w' => w' = qw σ α κ ρ ∧ ∃ v : Int, r = some (.int (qz v)) ∧ (0 ≤ v ∧ v ≤ 1)) := by
  refine qr_start (d := d + 0) qv_e181 (Nat.le_of_ble_eq_true rfl) ?_
  show qr_W (qe L xs vb) (d + 0) qx_e181 _ (0, [(0, .ref 86), (1, .int (qz x1))], [], _, 0, 0)
  refine qr_aload_n 1 rfl rfl rfl ?_
  refine qr_get 4 rfl rfl rfl (by decide) rfl ?_
  have hs1 : (-9223372036854775808) ≤ σ 86 10 ∧ σ 86 10 ≤ 9223372036854775807 := hI.1 86 10
  refine qr_iload_n 5 rfl rfl rfl ?_
  refine qr_lshr 6 rfl rfl ?_
  refine qy_canl (fun v2 hv2 => ?_)
  refine qr_lconst 7 rfl rfl ?_
  refine qy_vl 1 rfl ?_
  refine qr_land 8 rfl rfl ?_
  refine qy_canl (fun v3 hv3 => ?_)
  refine qr_lconst 9 rfl rfl ?_
  refine qy_vl 1 rfl ?_
  refine qr_lc_ne 17 13 rfl rfl rfl rfl (by omega) (by omega) (fun h4 => ?_) (fun h4 => ?_)
  · skip
    refine qr_iconst 18 rfl rfl ?_
    refine qr_retZ rfl rfl (by omega) (by decide) (by decide) ?_
    exact ⟨rfl, 0, rfl, by omega⟩
  · skip
    refine qr_iconst 14 rfl rfl ?_
    refine qr_goto 18 rfl rfl ?_
    refine qr_retZ rfl rfl (by omega) (by decide) (by decide) ?_
    exact ⟨rfl, 1, rfl, by omega⟩

set_option maxHeartbeats 4000000 in
set_option maxRecDepth 20000 in
/-- OneRoofModel.of -/
theorem sf_179_86 {L : Nat} {xs : Nat → Int} {vb : Bool} {d : Nat} {σ α : Nat → Nat → Int} {κ : Nat → Option Nat} {ρ : Nat} {x1 : Int} {x2 : Int} (hI : qI σ α κ ρ) (r1 : (-2147483648) ≤ x1 ∧ x1 ≤ 2147483647) (r2 : (-2147483648) ≤ x2 ∧ x2 ≤ 2147483647) : qm_T (qe L xs vb) (d + 3) 179 [.ref 86, .int (qz x1), .int (qz x2)] (qw σ α κ ρ) (fun r w' => w' = qw σ α κ ρ ∧ ∃ v : Int, r = some (.int (qz v)) ∧ ((-2147483648) ≤ v ∧ v ≤ 2147483647)) := by
  refine qr_start (d := d + 2) qv_e179 (Nat.le_of_ble_eq_true rfl) ?_
  show qr_W (qe L xs vb) (d + 2) qx_e179 _ (0, [(0, .ref 86), (1, .int (qz x1)), (2, .int (qz x2))], [], _, 0, 0)
  refine qr_aload_n 1 rfl rfl rfl ?_
  refine qr_iload_n 2 rfl rfl rfl ?_
  refine qr_callN 5 rfl rfl rfl (sf_180_86 (d := d + 0) hI (by omega)) ?_
  have hs3 : 0 ≤ σ 86 6 ∧ σ 86 6 ≤ 32 := hI.1 86 6
  rintro _ _ ⟨rfl, v1, rfl, hv1, hp2⟩
  show qr_W (qe L xs vb) (d + 2) qx_e179 _ (5, _, [.int (qz v1)], qw σ α κ ρ, 0, 0)
  refine qr_if_ne 10 8 rfl rfl rfl (by omega) (fun h4 => ?_) (fun h4 => ?_)
  · skip
    refine qr_iload_n 11 rfl rfl rfl ?_
    have h5 : x2 = 0 ∨ x2 = 1 ∨ x2 = 2 ∨ x2 = 3 ∨ (x2 < 0 ∨ 3 < x2) := by omega
    rcases h5 with h5 | h5 | h5 | h5 | h5
    · skip
      refine qr_tabIn 40 rfl (by omega) (by omega) (by rw [h5]; rfl) rfl ?_
      refine qr_aload_n 41 rfl rfl rfl ?_
      refine qr_get 44 rfl rfl rfl (by decide) rfl ?_
      refine qr_iload_n 45 rfl rfl rfl ?_
      refine qr_iaload 46 rfl rfl (by omega) (by decide) rfl ?_
      refine qr_topI (fun v7 hv7 => ?_)
      have hs8 : (-1) ≤ v7 ∧ v7 ≤ 31 := by rw [hv7]; exact hI.2.1 91 _ (show _ < 32 by omega)
      have hs9 := hI.2.2.2.2.2.2.1 (x1 : Int).toNat (by omega)
      refine qr_retI rfl rfl (by decide) (by decide) ?_
      exact ⟨rfl, v7, rfl, by omega⟩
    · skip
      refine qr_tabIn 47 rfl (by omega) (by omega) (by rw [h5]; rfl) rfl ?_
      refine qr_aload_n 48 rfl rfl rfl ?_
      refine qr_get 51 rfl rfl rfl (by decide) rfl ?_
      refine qr_iload_n 52 rfl rfl rfl ?_
      refine qr_iaload 53 rfl rfl (by omega) (by decide) rfl ?_
      refine qr_topI (fun v10 hv10 => ?_)
      have hs11 : (-2147483648) ≤ v10 ∧ v10 ≤ 2147483647 := by rw [hv10]; exact hI.2.1 92 _ (show _ < 32 by omega)
      refine qr_retI rfl rfl (by decide) (by decide) ?_
      exact ⟨rfl, v10, rfl, by omega⟩
    · skip
      refine qr_tabIn 54 rfl (by omega) (by omega) (by rw [h5]; rfl) rfl ?_
      refine qr_aload_n 55 rfl rfl rfl ?_
      refine qr_get 58 rfl rfl rfl (by decide) rfl ?_
      refine qr_iconst 59 rfl rfl ?_
      refine qr_iload_n 60 rfl rfl rfl ?_
      refine qr_iadd 61 rfl rfl ?_
      refine qr_iaload 62 rfl rfl (by omega) (by decide) rfl ?_
      refine qr_topI (fun v12 hv12 => ?_)
      have hs13 : (-2147483648) ≤ v12 ∧ v12 ≤ 2147483647 := by rw [hv12]; exact hI.2.1 87 _ (show _ < 252 by omega)
      refine qr_retI rfl rfl (by decide) (by decide) ?_
      exact ⟨rfl, v12, rfl, by omega⟩
    · skip
      refine qr_tabIn 63 rfl (by omega) (by omega) (by rw [h5]; rfl) rfl ?_
      refine qr_aload_n 64 rfl rfl rfl ?_
      refine qr_iload_n 65 rfl rfl rfl ?_
      refine qr_callN 68 rfl rfl rfl (sf_181_86 (d := d + 1) hI (by omega)) ?_
      rintro _ _ ⟨rfl, v14, rfl, hv14⟩
      show qr_W (qe L xs vb) (d + 2) qx_e179 _ (68, _, [.int (qz v14)], qw σ α κ ρ, 0, 0)
      refine qr_if_eq 75 71 rfl rfl rfl (by omega) (fun h15 => ?_) (fun h15 => ?_)
      · skip
        refine qr_iconst 76 rfl rfl ?_
        refine qr_retI rfl rfl (by decide) (by decide) ?_
        exact ⟨rfl, 0, rfl, by omega⟩
      · skip
        refine qr_iconst 72 rfl rfl ?_
        refine qr_goto 76 rfl rfl ?_
        refine qr_retI rfl rfl (by decide) (by decide) ?_
        exact ⟨rfl, 1, rfl, by omega⟩
    · skip
      refine qr_tabOut 77 rfl (by omega) (by omega) rfl ?_
      refine qr_iconst 78 rfl rfl ?_
      refine qr_retI rfl rfl (by decide) (by decide) ?_
      exact ⟨rfl, (-1), rfl, by omega⟩
  · skip
    refine qr_iconst 9 rfl rfl ?_
    refine qr_retI rfl rfl (by decide) (by decide) ?_
    exact ⟨rfl, (-1), rfl, by omega⟩

set_option maxHeartbeats 4000000 in
set_option maxRecDepth 20000 in
/-- OneRoofModel.becomes -/
theorem sf_183_86 {L : Nat} {xs : Nat → Int} {vb : Bool} {d : Nat} {σ α : Nat → Nat → Int} {κ : Nat → Option Nat} {ρ : Nat} {x1 : Int} {x2 : Int} (hI : qI σ α κ ρ) (r1 : 0 ≤ x1 ∧ x1 ≤ 251) (r2 : (-2147483648) ≤ x2 ∧ x2 ≤ 2147483647) : qm_T (qe L xs vb) (d + 1) 183 [.ref 86, .int (qz x1), .int (qz x2)] (qw σ α κ ρ) (fun r w' => ∃ σ' α', w' = qw σ' α' κ ρ ∧ qI σ' α' κ ρ ∧ qFr [(86, 4), (86, 5)] [87, 88, 89, 90] σ α σ' α' ∧ ∃ v : Int, r = some (.int (qz v)) ∧ ((-2147483648) ≤ v ∧ v ≤ 2147483647)) := by
  refine qr_start (d := d + 0) qv_e183 (Nat.le_of_ble_eq_true rfl) ?_
  show qr_W (qe L xs vb) (d + 0) qx_e183 _ (0, [(0, .ref 86), (1, .int (qz x1)), (2, .int (qz x2))], [], _, 0, 0)
  have hF0 := qFr_rf [(86, 4), (86, 5)] [87, 88, 89, 90] σ α
  refine qr_aload_n 1 rfl rfl rfl ?_
  refine qr_get 4 rfl rfl rfl (by decide) rfl ?_
  refine qr_iload_n 5 rfl rfl rfl ?_
  refine qr_iaload 6 rfl rfl (by omega) (by decide) rfl ?_
  refine qr_topI (fun v1 hv1 => ?_)
  have hs2 : (-2147483648) ≤ v1 ∧ v1 ≤ 2147483647 := by rw [hv1]; exact hI.2.1 87 _ (show _ < 252 by omega)
  refine qr_istore_n _ 7 rfl (by decide) rfl rfl ?_
  refine qr_iload_n 8 rfl rfl rfl ?_
  refine qr_iload_n 9 rfl rfl rfl ?_
  refine qr_icmp_ne 14 12 rfl rfl rfl (by omega) (by omega) (fun h3 => ?_) (fun h3 => ?_)
  · skip
    refine qr_aload_n 15 rfl rfl rfl ?_
    refine qr_get 18 rfl rfl rfl (by decide) rfl ?_
    have hs4 : 0 ≤ σ 86 5 ∧ σ 86 5 ≤ 40 := hI.1 86 5
    refine qr_bipush 20 rfl (by decide) rfl ?_
    have hJ564 : ∀ (ls : qm_L) (σ559 α560 : Nat → Nat → Int), qm_get ls 0 = some (.ref 86) → qm_get ls 1 = some (.int (qz x1)) → qm_get ls 2 = some (.int (qz x2)) → qm_get ls 3 = some (.int (qz v1)) → qI σ559 α560 κ ρ → qFr [(86, 4), (86, 5)] [87, 88, 89, 90] σ α σ559 α560 → σ559 86 5 ≤ 39 → qr_W (qe L xs vb) (d + 0) qx_e183 (fun r w' => ∃ σ' α', w' = qw σ' α' κ ρ ∧ qI σ' α' κ ρ ∧ qFr [(86, 4), (86, 5)] [87, 88, 89, 90] σ α σ' α' ∧ ∃ v : Int, r = some (.int (qz v)) ∧ ((-2147483648) ≤ v ∧ v ≤ 2147483647)) (97, ls, [], qw σ559 α560 κ ρ, 0, 0) := by
      intro ls σ559 α560 g555 g556 g557 g558 hI561 hF562 hx563
      refine qr_aload_n 98 rfl g555 rfl ?_
      refine qr_get 101 rfl rfl rfl (by decide) rfl ?_
      refine qr_aload_n 102 rfl g555 rfl ?_
      refine qr_get 105 rfl rfl rfl (by decide) rfl ?_
      have hs565 : 0 ≤ σ559 86 5 ∧ σ559 86 5 ≤ 40 := hI561.1 86 5
      refine qr_iload_n 106 rfl g556 rfl ?_
      refine qr_iastore 107 rfl (by decide) rfl (by omega) (by decide) rfl ?_
      refine qy_wA (qw_r α560 88 (qzu (α560 88) ((σ559 86 5) : Int).toNat x1)) rfl (fun α566 e567 => ?_)
      have hI568 : qI σ559 α566 κ ρ := by rw [e567]; exact qI_r hI561 88 _ rfl (show 0 ≤ x1 ∧ x1 ≤ 251 by omega)
      have hF569 : qFr [(86, 4), (86, 5)] [87, 88, 89, 90] σ α σ559 α566 := by rw [e567]; exact qFr_r hF562 88 _ (by decide)
      refine qr_aload_n 108 rfl g555 rfl ?_
      refine qr_get 111 rfl rfl rfl (by decide) rfl ?_
      refine qr_aload_n 112 rfl g555 rfl ?_
      refine qr_get 115 rfl rfl rfl (by decide) rfl ?_
      refine qr_iload_n 116 rfl g558 rfl ?_
      refine qr_iastore 117 rfl (by decide) rfl (by omega) (by decide) rfl ?_
      refine qy_wA (qw_r α566 89 (qzu (α566 89) ((σ559 86 5) : Int).toNat v1)) rfl (fun α570 e571 => ?_)
      have hI572 : qI σ559 α570 κ ρ := by rw [e571]; exact qI_r hI568 89 _ rfl (show (-2147483648) ≤ v1 ∧ v1 ≤ 2147483647 by omega)
      have hF573 : qFr [(86, 4), (86, 5)] [87, 88, 89, 90] σ α σ559 α570 := by rw [e571]; exact qFr_r hF569 89 _ (by decide)
      refine qr_aload_n 118 rfl g555 rfl ?_
      refine qr_get 121 rfl rfl rfl (by decide) rfl ?_
      refine qr_aload_n 122 rfl g555 rfl ?_
      refine qr_get 125 rfl rfl rfl (by decide) rfl ?_
      refine qr_iload_n 126 rfl g557 rfl ?_
      refine qr_iastore 127 rfl (by decide) rfl (by omega) (by decide) rfl ?_
      refine qy_wA (qw_r α570 90 (qzu (α570 90) ((σ559 86 5) : Int).toNat x2)) rfl (fun α574 e575 => ?_)
      have hI576 : qI σ559 α574 κ ρ := by rw [e575]; exact qI_r hI572 90 _ rfl (show (-2147483648) ≤ x2 ∧ x2 ≤ 2147483647 by omega)
      have hF577 : qFr [(86, 4), (86, 5)] [87, 88, 89, 90] σ α σ559 α574 := by rw [e575]; exact qFr_r hF573 90 _ (by decide)
      refine qr_aload_n 128 rfl g555 rfl ?_
      refine qr_dup 129 rfl rfl rfl ?_
      refine qr_get 132 rfl rfl rfl (by decide) rfl ?_
      refine qr_iconst 133 rfl rfl ?_
      refine qr_iadd 134 rfl rfl ?_
      refine qr_put 137 rfl (by decide) rfl (Nat.le_of_ble_eq_true rfl) (Nat.le_of_ble_eq_true rfl) (Or.inl rfl) (qr_fitI rfl _) rfl ?_
      refine qy_wS (qw_s σ559 86 5 ((σ559 86 5) + 1)) rfl (fun σ578 e579 => ?_)
      have hF581 : qFr [(86, 4), (86, 5)] [87, 88, 89, 90] σ α σ578 α574 := by rw [e579]; exact qFr_s hF577 86 5 _ (by decide)
      refine qr_aload_n 138 rfl g555 rfl ?_
      refine qr_aload_n 139 rfl g555 rfl ?_
      refine qr_get 142 rfl rfl rfl (by decide) rfl ?_
      refine qy_v ((σ559 86 5) + 1) ((congrFun (congrFun e579 86) 5).trans rfl) ?_
      refine qr_put 145 rfl (by decide) rfl (Nat.le_of_ble_eq_true rfl) (Nat.le_of_ble_eq_true rfl) (Or.inl rfl) (qr_fitI rfl _) rfl ?_
      refine qy_wS (qw_s σ578 86 4 ((σ559 86 5) + 1)) rfl (fun σ582 e583 => ?_)
      have hI584 : qI σ582 α574 κ ρ := by rw [e583, e579]; exact qI_s54 hI576 (by omega)
      have hF585 : qFr [(86, 4), (86, 5)] [87, 88, 89, 90] σ α σ582 α574 := by rw [e583]; exact qFr_s hF581 86 4 _ (by decide)
      refine qr_aload_n 146 rfl g555 rfl ?_
      refine qr_get 149 rfl rfl rfl (by decide) rfl ?_
      refine qr_iload_n 150 rfl g556 rfl ?_
      refine qr_iload_n 151 rfl g557 rfl ?_
      refine qr_iastore 152 rfl (by decide) rfl (by omega) (by decide) rfl ?_
      refine qy_wA (qw_r α574 87 (qzu (α574 87) (x1 : Int).toNat x2)) rfl (fun α586 e587 => ?_)
      have hI588 : qI σ582 α586 κ ρ := by rw [e587]; exact qI_r hI584 87 _ rfl (show (-2147483648) ≤ x2 ∧ x2 ≤ 2147483647 by omega)
      have hF589 : qFr [(86, 4), (86, 5)] [87, 88, 89, 90] σ α σ582 α586 := by rw [e587]; exact qFr_r hF585 87 _ (by decide)
      refine qr_iload_n 153 rfl g558 rfl ?_
      refine qr_retI rfl rfl (by decide) (by decide) ?_
      exact ⟨_, _, rfl, hI588, hF589, v1, rfl, by omega⟩
    refine qr_icmp_ne 97 23 rfl rfl rfl (by omega) (by omega) (fun h590 => ?_) (fun h590 => ?_)
    · skip
      exact hJ564 _ σ α rfl rfl rfl rfl hI hF0 (by have hw : σ 86 5 = (σ 86 5) := rfl; omega)
    · skip
      refine qr_iconst 24 rfl rfl ?_
      refine qr_istore _ 26 rfl (by decide) rfl rfl ?_
      have hL1108 : ∀ (n : Nat) (ls : qm_L) (u1102 : Int) (α1104 : Nat → Nat → Int), 40 - u1102 < (n : Int) → qm_get ls 0 = some (.ref 86) → qm_get ls 1 = some (.int (qz x1)) → qm_get ls 2 = some (.int (qz x2)) → qm_get ls 3 = some (.int (qz v1)) → qm_get ls 4 = some (.int (qz u1102)) → (1 ≤ u1102 ∧ u1102 ≤ 40) → qI σ α1104 κ ρ → qFr [(86, 4), (86, 5)] [87, 88, 89, 90] σ α σ α1104 → qr_W (qe L xs vb) (d + 0) qx_e183 (fun r w' => ∃ σ' α', w' = qw σ' α' κ ρ ∧ qI σ' α' κ ρ ∧ qFr [(86, 4), (86, 5)] [87, 88, 89, 90] σ α σ' α' ∧ ∃ v : Int, r = some (.int (qz v)) ∧ ((-2147483648) ≤ v ∧ v ≤ 2147483647)) (26, ls, [], qw σ α1104 κ ρ, 0, 0) := by
        intro n
        induction n with
        | zero => intro ls u1102 α1104 hm g1097 g1098 g1099 g1100 g1101 hf1107 hI1105 hF1106; exact False.elim (by omega)
        | succ n ih1109 =>
          intro ls u1102 α1104 hm g1097 g1098 g1099 g1100 g1101 hf1107 hI1105 hF1106
          refine qr_iload 28 rfl g1101 rfl ?_
          refine qr_bipush 30 rfl (by decide) rfl ?_
          refine qr_icmp_ge 87 33 rfl rfl rfl (by omega) (by omega) (fun h1128 => ?_) (fun h1128 => ?_)
          · skip
            refine qr_aload_n 88 rfl g1097 rfl ?_
            refine qr_dup 89 rfl rfl rfl ?_
            refine qr_get 92 rfl rfl rfl (by decide) rfl ?_
            refine qr_iconst 93 rfl rfl ?_
            refine qr_isub 94 rfl rfl ?_
            refine qr_put 97 rfl (by decide) rfl (Nat.le_of_ble_eq_true rfl) (Nat.le_of_ble_eq_true rfl) (Or.inl rfl) (qr_fitI rfl _) rfl ?_
            refine qy_wS (qw_s σ 86 5 ((σ 86 5) - 1)) rfl (fun σ1129 e1130 => ?_)
            have hI1131 : qI σ1129 α1104 κ ρ := by rw [e1130]; exact qI_s5 hI1105 (by omega) (by have hw2 := hI1105.2.2.2.2.2.2.2.1; have hw3 : σ 86 5 = (σ 86 5) := rfl; omega)
            have hF1132 : qFr [(86, 4), (86, 5)] [87, 88, 89, 90] σ α σ1129 α1104 := by rw [e1130]; exact qFr_s hF1106 86 5 _ (by decide)
            exact hJ564 _ σ1129 α1104 g1097 g1098 g1099 g1100 hI1131 hF1132 (by have hw : σ1129 86 5 = ((σ 86 5) - 1) := (congrFun (congrFun e1130 86) 5).trans rfl; omega)
          · skip
            refine qr_aload_n 34 rfl g1097 rfl ?_
            refine qr_get 37 rfl rfl rfl (by decide) rfl ?_
            refine qr_iload 39 rfl g1101 rfl ?_
            refine qr_iconst 40 rfl rfl ?_
            refine qr_isub 41 rfl rfl ?_
            refine qr_aload_n 42 rfl g1097 rfl ?_
            refine qr_get 45 rfl rfl rfl (by decide) rfl ?_
            refine qr_iload 47 rfl g1101 rfl ?_
            refine qr_iaload 48 rfl rfl (by omega) (by decide) rfl ?_
            refine qr_topI (fun v1133 hv1133 => ?_)
            have hs1134 : 0 ≤ v1133 ∧ v1133 ≤ 251 := by rw [hv1133]; exact hI1105.2.1 88 _ (show _ < 40 by omega)
            refine qr_iastore 49 rfl (by decide) rfl (by omega) (by decide) rfl ?_
            refine qy_wA (qw_r α1104 88 (qzu (α1104 88) ((u1102 - 1) : Int).toNat v1133)) rfl (fun α1135 e1136 => ?_)
            have hI1137 : qI σ α1135 κ ρ := by rw [e1136]; exact qI_r hI1105 88 _ rfl (show 0 ≤ v1133 ∧ v1133 ≤ 251 by omega)
            have hF1138 : qFr [(86, 4), (86, 5)] [87, 88, 89, 90] σ α σ α1135 := by rw [e1136]; exact qFr_r hF1106 88 _ (by decide)
            refine qr_aload_n 50 rfl g1097 rfl ?_
            refine qr_get 53 rfl rfl rfl (by decide) rfl ?_
            refine qr_iload 55 rfl g1101 rfl ?_
            refine qr_iconst 56 rfl rfl ?_
            refine qr_isub 57 rfl rfl ?_
            refine qr_aload_n 58 rfl g1097 rfl ?_
            refine qr_get 61 rfl rfl rfl (by decide) rfl ?_
            refine qr_iload 63 rfl g1101 rfl ?_
            refine qr_iaload 64 rfl rfl (by omega) (by decide) rfl ?_
            refine qr_topI (fun v1139 hv1139 => ?_)
            have hs1140 : (-2147483648) ≤ v1139 ∧ v1139 ≤ 2147483647 := by rw [hv1139]; exact hI1137.2.1 89 _ (show _ < 40 by omega)
            refine qr_iastore 65 rfl (by decide) rfl (by omega) (by decide) rfl ?_
            refine qy_wA (qw_r α1135 89 (qzu (α1135 89) ((u1102 - 1) : Int).toNat v1139)) rfl (fun α1141 e1142 => ?_)
            have hI1143 : qI σ α1141 κ ρ := by rw [e1142]; exact qI_r hI1137 89 _ rfl (show (-2147483648) ≤ v1139 ∧ v1139 ≤ 2147483647 by omega)
            have hF1144 : qFr [(86, 4), (86, 5)] [87, 88, 89, 90] σ α σ α1141 := by rw [e1142]; exact qFr_r hF1138 89 _ (by decide)
            refine qr_aload_n 66 rfl g1097 rfl ?_
            refine qr_get 69 rfl rfl rfl (by decide) rfl ?_
            refine qr_iload 71 rfl g1101 rfl ?_
            refine qr_iconst 72 rfl rfl ?_
            refine qr_isub 73 rfl rfl ?_
            refine qr_aload_n 74 rfl g1097 rfl ?_
            refine qr_get 77 rfl rfl rfl (by decide) rfl ?_
            refine qr_iload 79 rfl g1101 rfl ?_
            refine qr_iaload 80 rfl rfl (by omega) (by decide) rfl ?_
            refine qr_topI (fun v1145 hv1145 => ?_)
            have hs1146 : (-2147483648) ≤ v1145 ∧ v1145 ≤ 2147483647 := by rw [hv1145]; exact hI1143.2.1 90 _ (show _ < 40 by omega)
            refine qr_iastore 81 rfl (by decide) rfl (by omega) (by decide) rfl ?_
            refine qy_wA (qw_r α1141 90 (qzu (α1141 90) ((u1102 - 1) : Int).toNat v1145)) rfl (fun α1147 e1148 => ?_)
            have hI1149 : qI σ α1147 κ ρ := by rw [e1148]; exact qI_r hI1143 90 _ rfl (show (-2147483648) ≤ v1145 ∧ v1145 ≤ 2147483647 by omega)
            have hF1150 : qFr [(86, 4), (86, 5)] [87, 88, 89, 90] σ α σ α1147 := by rw [e1148]; exact qFr_r hF1144 90 _ (by decide)
            refine qr_iinc _ 84 rfl g1101 (by decide) rfl rfl ?_
            refine qr_goto 26 rfl rfl ?_
            exact ih1109 _ (u1102 + 1) α1147 (by omega) (qm_gk g1097 (by decide) (Or.inl (by decide))) (qm_gk g1098 (by decide) (Or.inl (by decide))) (qm_gk g1099 (by decide) (Or.inl (by decide))) (qm_gk g1100 (by decide) (Or.inr rfl)) (qm_ge _ _ _) (by omega) hI1149 hF1150
      exact hL1108 ((40 - 1 + 1 : Int)).toNat _ 1 α (by omega) rfl rfl rfl rfl rfl (by omega) hI hF0
  · skip
    refine qr_iload_n 13 rfl rfl rfl ?_
    refine qr_retI rfl rfl (by decide) (by decide) ?_
    exact ⟨_, _, rfl, hI, hF0, v1, rfl, by omega⟩

set_option maxHeartbeats 4000000 in
set_option maxRecDepth 20000 in
/-- OneRoofModel.sword -/
theorem sf_182_86 {L : Nat} {xs : Nat → Int} {vb : Bool} {d : Nat} {σ α : Nat → Nat → Int} {κ : Nat → Option Nat} {ρ : Nat} {x1 : Int} {x2 : Int} (hI : qI σ α κ ρ) (r1 : (-2147483648) ≤ x1 ∧ x1 ≤ 2147483647) (r2 : (-2147483648) ≤ x2 ∧ x2 ≤ 2147483647) : qm_T (qe L xs vb) (d + 3) 182 [.ref 86, .int (qz x1), .int (qz x2)] (qw σ α κ ρ) (fun r w' => ∃ σ' α', w' = qw σ' α' κ ρ ∧ qI σ' α' κ ρ ∧ qFr [(86, 4), (86, 5)] [87, 88, 89, 90] σ α σ' α' ∧ ∃ v : Int, r = some (.int (qz v)) ∧ ((-2147483648) ≤ v ∧ v ≤ 2147483647)) := by
  refine qr_start (d := d + 2) qv_e182 (Nat.le_of_ble_eq_true rfl) ?_
  show qr_W (qe L xs vb) (d + 2) qx_e182 _ (0, [(0, .ref 86), (1, .int (qz x1)), (2, .int (qz x2))], [], _, 0, 0)
  have hF0 := qFr_rf [(86, 4), (86, 5)] [87, 88, 89, 90] σ α
  refine qr_aload_n 1 rfl rfl rfl ?_
  refine qr_iload_n 2 rfl rfl rfl ?_
  refine qr_callN 5 rfl rfl rfl (sf_180_86 (d := d + 0) hI (by omega)) ?_
  have hs3 : 0 ≤ σ 86 6 ∧ σ 86 6 ≤ 32 := hI.1 86 6
  rintro _ _ ⟨rfl, v1, rfl, hv1, hp2⟩
  show qr_W (qe L xs vb) (d + 2) qx_e182 _ (5, _, [.int (qz v1)], qw σ α κ ρ, 0, 0)
  refine qr_if_eq 29 8 rfl rfl rfl (by omega) (fun h4 => ?_) (fun h4 => ?_)
  · skip
    refine qr_iconst 30 rfl rfl ?_
    refine qr_retI rfl rfl (by decide) (by decide) ?_
    exact ⟨_, _, rfl, hI, hF0, (-1), rfl, by omega⟩
  · skip
    refine qr_iload_n 9 rfl rfl rfl ?_
    refine qr_i2l 10 rfl (by omega) rfl ?_
    refine qr_lconst 11 rfl rfl ?_
    refine qy_vl 0 rfl ?_
    refine qr_lconst 12 rfl rfl ?_
    refine qy_vl 1 rfl ?_
    refine qr_callN 15 rfl rfl rfl (sf_176 (d := d + 1) hI (by omega) (by omega) (by omega)) ?_
    rintro _ _ ⟨rfl, v5, rfl, hv5, hp6⟩
    show qr_W (qe L xs vb) (d + 2) qx_e182 _ (15, _, [.int (qz v5)], qw σ α κ ρ, 0, 0)
    refine qr_if_eq 29 18 rfl rfl rfl (by omega) (fun h7 => ?_) (fun h7 => ?_)
    · skip
      refine qr_iconst 30 rfl rfl ?_
      refine qr_retI rfl rfl (by decide) (by decide) ?_
      exact ⟨_, _, rfl, hI, hF0, (-1), rfl, by omega⟩
    · skip
      refine qr_aload_n 19 rfl rfl rfl ?_
      refine qr_iconst 20 rfl rfl ?_
      refine qr_iload_n 21 rfl rfl rfl ?_
      refine qr_iadd 22 rfl rfl ?_
      refine qr_iload_n 23 rfl rfl rfl ?_
      refine qr_callN 26 rfl rfl rfl (sf_183_86 (d := d + 1) hI (by omega) (by omega)) ?_
      rintro _ _ ⟨σ9, α10, rfl, hI11, hG12, v8, rfl, hv8⟩
      have hF13 : qFr [(86, 4), (86, 5)] [87, 88, 89, 90] σ α σ9 α10 := qFr_t hF0 hG12 (by decide) (by decide)
      show qr_W (qe L xs vb) (d + 2) qx_e182 _ (26, _, [.int (qz v8)], qw σ9 α10 κ ρ, 0, 0)
      refine qr_goto 30 rfl rfl ?_
      refine qr_retI rfl rfl (by decide) (by decide) ?_
      exact ⟨_, _, rfl, hI11, hF13, v8, rfl, by omega⟩

set_option maxHeartbeats 4000000 in
set_option maxRecDepth 20000 in
/-- OneRoofModel.undo -/
theorem sf_172_86 {L : Nat} {xs : Nat → Int} {vb : Bool} {d : Nat} {σ α : Nat → Nat → Int} {κ : Nat → Option Nat} {ρ : Nat}  (hI : qI σ α κ ρ)  : qm_T (qe L xs vb) (d + 1) 172 [.ref 86] (qw σ α κ ρ) (fun r w' => ∃ σ' α', w' = qw σ' α' κ ρ ∧ qI σ' α' κ ρ ∧ qFr [(86, 5)] [87] σ α σ' α' ∧ ∃ v : Int, r = some (.int (qz v)) ∧ ((-2147483648) ≤ v ∧ v ≤ 2147483647)) := by
  refine qr_start (d := d + 0) qv_e172 (Nat.le_of_ble_eq_true rfl) ?_
  show qr_W (qe L xs vb) (d + 0) qx_e172 _ (0, [(0, .ref 86)], [], _, 0, 0)
  have hF0 := qFr_rf [(86, 5)] [87] σ α
  refine qr_aload_n 1 rfl rfl rfl ?_
  refine qr_get 4 rfl rfl rfl (by decide) rfl ?_
  have hs1 : 0 ≤ σ 86 5 ∧ σ 86 5 ≤ 40 := hI.1 86 5
  refine qr_if_ne 10 7 rfl rfl rfl (by omega) (fun h2 => ?_) (fun h2 => ?_)
  · skip
    refine qr_aload_n 11 rfl rfl rfl ?_
    refine qr_dup 12 rfl rfl rfl ?_
    refine qr_get 15 rfl rfl rfl (by decide) rfl ?_
    refine qr_iconst 16 rfl rfl ?_
    refine qr_isub 17 rfl rfl ?_
    refine qr_put 20 rfl (by decide) rfl (Nat.le_of_ble_eq_true rfl) (Nat.le_of_ble_eq_true rfl) (Or.inl rfl) (qr_fitI rfl _) rfl ?_
    refine qy_wS (qw_s σ 86 5 ((σ 86 5) - 1)) rfl (fun σ3 e4 => ?_)
    have hI5 : qI σ3 α κ ρ := by rw [e4]; exact qI_s5 hI (by omega) (by have hw2 := hI.2.2.2.2.2.2.2.1; have hw3 : σ 86 5 = (σ 86 5) := rfl; omega)
    have hF6 : qFr [(86, 5)] [87] σ α σ3 α := by rw [e4]; exact qFr_s hF0 86 5 _ (by decide)
    refine qr_aload_n 21 rfl rfl rfl ?_
    refine qr_get 24 rfl rfl rfl (by decide) rfl ?_
    refine qr_aload_n 25 rfl rfl rfl ?_
    refine qr_get 28 rfl rfl rfl (by decide) rfl ?_
    refine qr_aload_n 29 rfl rfl rfl ?_
    refine qr_get 32 rfl rfl rfl (by decide) rfl ?_
    refine qy_v ((σ 86 5) - 1) ((congrFun (congrFun e4 86) 5).trans rfl) ?_
    refine qr_iaload 33 rfl rfl (by omega) (by decide) rfl ?_
    refine qr_topI (fun v7 hv7 => ?_)
    have hs8 : 0 ≤ v7 ∧ v7 ≤ 251 := by rw [hv7]; exact hI5.2.1 88 _ (show _ < 40 by omega)
    refine qr_aload_n 34 rfl rfl rfl ?_
    refine qr_get 37 rfl rfl rfl (by decide) rfl ?_
    refine qr_aload_n 38 rfl rfl rfl ?_
    refine qr_get 41 rfl rfl rfl (by decide) rfl ?_
    refine qy_v ((σ 86 5) - 1) ((congrFun (congrFun e4 86) 5).trans rfl) ?_
    refine qr_iaload 42 rfl rfl (by omega) (by decide) rfl ?_
    refine qr_topI (fun v9 hv9 => ?_)
    have hs10 : (-2147483648) ≤ v9 ∧ v9 ≤ 2147483647 := by rw [hv9]; exact hI5.2.1 89 _ (show _ < 40 by omega)
    refine qr_iastore 43 rfl (by decide) rfl (by omega) (by decide) rfl ?_
    refine qy_wA (qw_r α 87 (qzu (α 87) (v7 : Int).toNat v9)) rfl (fun α11 e12 => ?_)
    have hI13 : qI σ3 α11 κ ρ := by rw [e12]; exact qI_r hI5 87 _ rfl (show (-2147483648) ≤ v9 ∧ v9 ≤ 2147483647 by omega)
    have hF14 : qFr [(86, 5)] [87] σ α σ3 α11 := by rw [e12]; exact qFr_r hF6 87 _ (by decide)
    refine qr_aload_n 44 rfl rfl rfl ?_
    refine qr_get 47 rfl rfl rfl (by decide) rfl ?_
    refine qy_v ((σ 86 5) - 1) ((congrFun (congrFun e4 86) 5).trans rfl) ?_
    refine qr_retI rfl rfl (by decide) (by decide) ?_
    exact ⟨_, _, rfl, hI13, hF14, ((σ 86 5) - 1), rfl, by omega⟩
  · skip
    refine qr_bipush 9 rfl (by decide) rfl ?_
    refine qr_retI rfl rfl (by decide) (by decide) ?_
    exact ⟨_, _, rfl, hI, hF0, (-5), rfl, by omega⟩

set_option maxHeartbeats 4000000 in
set_option maxRecDepth 20000 in
/-- OneRoofModel.redo -/
theorem sf_173_86 {L : Nat} {xs : Nat → Int} {vb : Bool} {d : Nat} {σ α : Nat → Nat → Int} {κ : Nat → Option Nat} {ρ : Nat}  (hI : qI σ α κ ρ)  : qm_T (qe L xs vb) (d + 1) 173 [.ref 86] (qw σ α κ ρ) (fun r w' => ∃ σ' α', w' = qw σ' α' κ ρ ∧ qI σ' α' κ ρ ∧ qFr [(86, 5)] [87] σ α σ' α' ∧ ∃ v : Int, r = some (.int (qz v)) ∧ ((-2147483648) ≤ v ∧ v ≤ 2147483647)) := by
  refine qr_start (d := d + 0) qv_e173 (Nat.le_of_ble_eq_true rfl) ?_
  show qr_W (qe L xs vb) (d + 0) qx_e173 _ (0, [(0, .ref 86)], [], _, 0, 0)
  have hF0 := qFr_rf [(86, 5)] [87] σ α
  refine qr_aload_n 1 rfl rfl rfl ?_
  refine qr_get 4 rfl rfl rfl (by decide) rfl ?_
  have hs1 : 0 ≤ σ 86 5 ∧ σ 86 5 ≤ 40 := hI.1 86 5
  have hx54 := hI.2.2.2.2.2.2.2.1
  refine qr_aload_n 5 rfl rfl rfl ?_
  refine qr_get 8 rfl rfl rfl (by decide) rfl ?_
  have hs2 : 0 ≤ σ 86 4 ∧ σ 86 4 ≤ 40 := hI.1 86 4
  refine qr_icmp_ne 14 11 rfl rfl rfl (by omega) (by omega) (fun h3 => ?_) (fun h3 => ?_)
  · skip
    refine qr_aload_n 15 rfl rfl rfl ?_
    refine qr_get 18 rfl rfl rfl (by decide) rfl ?_
    refine qr_aload_n 19 rfl rfl rfl ?_
    refine qr_get 22 rfl rfl rfl (by decide) rfl ?_
    refine qr_aload_n 23 rfl rfl rfl ?_
    refine qr_get 26 rfl rfl rfl (by decide) rfl ?_
    refine qr_iaload 27 rfl rfl (by omega) (by decide) rfl ?_
    refine qr_topI (fun v4 hv4 => ?_)
    have hs5 : 0 ≤ v4 ∧ v4 ≤ 251 := by rw [hv4]; exact hI.2.1 88 _ (show _ < 40 by omega)
    refine qr_aload_n 28 rfl rfl rfl ?_
    refine qr_get 31 rfl rfl rfl (by decide) rfl ?_
    refine qr_aload_n 32 rfl rfl rfl ?_
    refine qr_get 35 rfl rfl rfl (by decide) rfl ?_
    refine qr_iaload 36 rfl rfl (by omega) (by decide) rfl ?_
    refine qr_topI (fun v6 hv6 => ?_)
    have hs7 : (-2147483648) ≤ v6 ∧ v6 ≤ 2147483647 := by rw [hv6]; exact hI.2.1 90 _ (show _ < 40 by omega)
    refine qr_iastore 37 rfl (by decide) rfl (by omega) (by decide) rfl ?_
    refine qy_wA (qw_r α 87 (qzu (α 87) (v4 : Int).toNat v6)) rfl (fun α8 e9 => ?_)
    have hI10 : qI σ α8 κ ρ := by rw [e9]; exact qI_r hI 87 _ rfl (show (-2147483648) ≤ v6 ∧ v6 ≤ 2147483647 by omega)
    have hF11 : qFr [(86, 5)] [87] σ α σ α8 := by rw [e9]; exact qFr_r hF0 87 _ (by decide)
    refine qr_aload_n 38 rfl rfl rfl ?_
    refine qr_dup 39 rfl rfl rfl ?_
    refine qr_get 42 rfl rfl rfl (by decide) rfl ?_
    refine qr_iconst 43 rfl rfl ?_
    refine qr_iadd 44 rfl rfl ?_
    refine qr_put 47 rfl (by decide) rfl (Nat.le_of_ble_eq_true rfl) (Nat.le_of_ble_eq_true rfl) (Or.inl rfl) (qr_fitI rfl _) rfl ?_
    refine qy_wS (qw_s σ 86 5 ((σ 86 5) + 1)) rfl (fun σ12 e13 => ?_)
    have hI14 : qI σ12 α8 κ ρ := by rw [e13]; exact qI_s5 hI10 (by omega) (by have hw : σ 86 4 = (σ 86 4) := rfl; have hw2 := hI10.2.2.2.2.2.2.2.1; have hw3 : σ 86 5 = (σ 86 5) := rfl; omega)
    have hF15 : qFr [(86, 5)] [87] σ α σ12 α8 := by rw [e13]; exact qFr_s hF11 86 5 _ (by decide)
    refine qr_aload_n 48 rfl rfl rfl ?_
    refine qr_get 51 rfl rfl rfl (by decide) rfl ?_
    refine qy_v (σ 86 4) ((congrFun (congrFun e13 86) 4).trans rfl) ?_
    refine qr_aload_n 52 rfl rfl rfl ?_
    refine qr_get 55 rfl rfl rfl (by decide) rfl ?_
    refine qy_v ((σ 86 5) + 1) ((congrFun (congrFun e13 86) 5).trans rfl) ?_
    refine qr_isub 56 rfl rfl ?_
    refine qr_retI rfl rfl (by decide) (by decide) ?_
    exact ⟨_, _, rfl, hI14, hF15, ((σ 86 4) - ((σ 86 5) + 1)), rfl, by omega⟩
  · skip
    refine qr_bipush 13 rfl (by decide) rfl ?_
    refine qr_retI rfl rfl (by decide) (by decide) ?_
    exact ⟨_, _, rfl, hI, hF0, (-5), rfl, by omega⟩

set_option maxHeartbeats 4000000 in
set_option maxRecDepth 20000 in
/-- OneRoofModel.areKin -/
theorem sf_185_86 {L : Nat} {xs : Nat → Int} {vb : Bool} {d : Nat} {σ α : Nat → Nat → Int} {κ : Nat → Option Nat} {ρ : Nat} {x1 : Int} {x2 : Int} (hI : qI σ α κ ρ) (r1 : (-2147483648) ≤ x1 ∧ x1 ≤ 2147483647) (r2 : (-2147483648) ≤ x2 ∧ x2 ≤ 2147483647) : qm_T (qe L xs vb) (d + 1) 185 [.ref 86, .int (qz x1), .int (qz x2)] (qw σ α κ ρ) (fun r w' => w' = qw σ α κ ρ ∧ ∃ v : Int, r = some (.int (qz v)) ∧ (0 ≤ v ∧ v ≤ 1)) := by
  refine qr_start (d := d + 0) qv_e185 (Nat.le_of_ble_eq_true rfl) ?_
  show qr_W (qe L xs vb) (d + 0) qx_e185 _ (0, [(0, .ref 86), (1, .int (qz x1)), (2, .int (qz x2))], [], _, 0, 0)
  refine qr_iconst 1 rfl rfl ?_
  refine qr_istore_n _ 2 rfl (by decide) rfl rfl ?_
  have hL432 : ∀ (n : Nat) (ls : qm_L) (u430 : Int), 61 - u430 < (n : Int) → qm_get ls 0 = some (.ref 86) → qm_get ls 1 = some (.int (qz x1)) → qm_get ls 2 = some (.int (qz x2)) → qm_get ls 3 = some (.int (qz u430)) → (0 ≤ u430 ∧ u430 ≤ 61) → qr_W (qe L xs vb) (d + 0) qx_e185 (fun r w' => w' = qw σ α κ ρ ∧ ∃ v : Int, r = some (.int (qz v)) ∧ (0 ≤ v ∧ v ≤ 1)) (2, ls, [], qw σ α κ ρ, 0, 0) := by
    intro n
    induction n with
    | zero => intro ls u430 hm g426 g427 g428 g429 hf431; exact False.elim (by omega)
    | succ n ih433 =>
      intro ls u430 hm g426 g427 g428 g429 hf431
      refine qr_iload_n 3 rfl g429 rfl ?_
      refine qr_aload_n 4 rfl g426 rfl ?_
      refine qr_get 7 rfl rfl rfl (by decide) rfl ?_
      have hs434 : 0 ≤ σ 86 11 ∧ σ 86 11 ≤ 61 := hI.1 86 11
      refine qr_icmp_ge 58 10 rfl rfl rfl (by omega) (by omega) (fun h435 => ?_) (fun h435 => ?_)
      · skip
        refine qr_iconst 59 rfl rfl ?_
        refine qr_retZ rfl rfl (by omega) (by decide) (by decide) ?_
        exact ⟨rfl, 0, rfl, by omega⟩
      · skip
        refine qr_aload_n 11 rfl g426 rfl ?_
        refine qr_get 14 rfl rfl rfl (by decide) rfl ?_
        refine qr_iload_n 15 rfl g429 rfl ?_
        refine qr_iaload 16 rfl rfl (by omega) (by decide) rfl ?_
        refine qr_topI (fun v436 hv436 => ?_)
        have hs437 : 0 ≤ v436 ∧ v436 ≤ 31 := by rw [hv436]; exact hI.2.1 94 _ (show _ < 61 by omega)
        refine qr_iload_n 17 rfl g427 rfl ?_
        refine qr_icmp_ne 30 20 rfl rfl rfl (by omega) (by omega) (fun h438 => ?_) (fun h438 => ?_)
        · skip
          refine qr_aload_n 31 rfl g426 rfl ?_
          refine qr_get 34 rfl rfl rfl (by decide) rfl ?_
          refine qr_iload_n 35 rfl g429 rfl ?_
          refine qr_iaload 36 rfl rfl (by omega) (by decide) rfl ?_
          refine qr_topI (fun v439 hv439 => ?_)
          have hs440 : 0 ≤ v439 ∧ v439 ≤ 31 := by rw [hv439]; exact hI.2.1 94 _ (show _ < 61 by omega)
          refine qr_iload_n 37 rfl g428 rfl ?_
          refine qr_icmp_ne 52 40 rfl rfl rfl (by omega) (by omega) (fun h441 => ?_) (fun h441 => ?_)
          · skip
            refine qr_iinc _ 55 rfl g429 (by decide) rfl rfl ?_
            refine qr_goto 2 rfl rfl ?_
            exact ih433 _ (u430 + 1) (by omega) (qm_gk g426 (by decide) (Or.inl (by decide))) (qm_gk g427 (by decide) (Or.inl (by decide))) (qm_gk g428 (by decide) (Or.inr rfl)) (qm_ge _ _ _) (by omega)
          · skip
            refine qr_aload_n 41 rfl g426 rfl ?_
            refine qr_get 44 rfl rfl rfl (by decide) rfl ?_
            refine qr_iload_n 45 rfl g429 rfl ?_
            refine qr_iaload 46 rfl rfl (by omega) (by decide) rfl ?_
            refine qr_topI (fun v442 hv442 => ?_)
            have hs443 : 0 ≤ v442 ∧ v442 ≤ 31 := by rw [hv442]; exact hI.2.1 95 _ (show _ < 61 by omega)
            refine qr_iload_n 47 rfl g427 rfl ?_
            refine qr_icmp_ne 52 50 rfl rfl rfl (by omega) (by omega) (fun h444 => ?_) (fun h444 => ?_)
            · skip
              refine qr_iinc _ 55 rfl g429 (by decide) rfl rfl ?_
              refine qr_goto 2 rfl rfl ?_
              exact ih433 _ (u430 + 1) (by omega) (qm_gk g426 (by decide) (Or.inl (by decide))) (qm_gk g427 (by decide) (Or.inl (by decide))) (qm_gk g428 (by decide) (Or.inr rfl)) (qm_ge _ _ _) (by omega)
            · skip
              refine qr_iconst 51 rfl rfl ?_
              refine qr_retZ rfl rfl (by omega) (by decide) (by decide) ?_
              exact ⟨rfl, 1, rfl, by omega⟩
        · skip
          refine qr_aload_n 21 rfl g426 rfl ?_
          refine qr_get 24 rfl rfl rfl (by decide) rfl ?_
          refine qr_iload_n 25 rfl g429 rfl ?_
          refine qr_iaload 26 rfl rfl (by omega) (by decide) rfl ?_
          refine qr_topI (fun v445 hv445 => ?_)
          have hs446 : 0 ≤ v445 ∧ v445 ≤ 31 := by rw [hv445]; exact hI.2.1 95 _ (show _ < 61 by omega)
          refine qr_iload_n 27 rfl g428 rfl ?_
          refine qr_icmp_eq 50 30 rfl rfl rfl (by omega) (by omega) (fun h447 => ?_) (fun h447 => ?_)
          · skip
            refine qr_iconst 51 rfl rfl ?_
            refine qr_retZ rfl rfl (by omega) (by decide) (by decide) ?_
            exact ⟨rfl, 1, rfl, by omega⟩
          · skip
            refine qr_aload_n 31 rfl g426 rfl ?_
            refine qr_get 34 rfl rfl rfl (by decide) rfl ?_
            refine qr_iload_n 35 rfl g429 rfl ?_
            refine qr_iaload 36 rfl rfl (by omega) (by decide) rfl ?_
            refine qr_topI (fun v448 hv448 => ?_)
            have hs449 : 0 ≤ v448 ∧ v448 ≤ 31 := by rw [hv448]; exact hI.2.1 94 _ (show _ < 61 by omega)
            refine qr_iload_n 37 rfl g428 rfl ?_
            refine qr_icmp_ne 52 40 rfl rfl rfl (by omega) (by omega) (fun h450 => ?_) (fun h450 => ?_)
            · skip
              refine qr_iinc _ 55 rfl g429 (by decide) rfl rfl ?_
              refine qr_goto 2 rfl rfl ?_
              exact ih433 _ (u430 + 1) (by omega) (qm_gk g426 (by decide) (Or.inl (by decide))) (qm_gk g427 (by decide) (Or.inl (by decide))) (qm_gk g428 (by decide) (Or.inr rfl)) (qm_ge _ _ _) (by omega)
            · skip
              refine qr_aload_n 41 rfl g426 rfl ?_
              refine qr_get 44 rfl rfl rfl (by decide) rfl ?_
              refine qr_iload_n 45 rfl g429 rfl ?_
              refine qr_iaload 46 rfl rfl (by omega) (by decide) rfl ?_
              refine qr_topI (fun v451 hv451 => ?_)
              have hs452 : 0 ≤ v451 ∧ v451 ≤ 31 := by rw [hv451]; exact hI.2.1 95 _ (show _ < 61 by omega)
              refine qr_iload_n 47 rfl g427 rfl ?_
              refine qr_icmp_ne 52 50 rfl rfl rfl (by omega) (by omega) (fun h453 => ?_) (fun h453 => ?_)
              · skip
                refine qr_iinc _ 55 rfl g429 (by decide) rfl rfl ?_
                refine qr_goto 2 rfl rfl ?_
                exact ih433 _ (u430 + 1) (by omega) (qm_gk g426 (by decide) (Or.inl (by decide))) (qm_gk g427 (by decide) (Or.inl (by decide))) (qm_gk g428 (by decide) (Or.inr rfl)) (qm_ge _ _ _) (by omega)
              · skip
                refine qr_iconst 51 rfl rfl ?_
                refine qr_retZ rfl rfl (by omega) (by decide) (by decide) ?_
                exact ⟨rfl, 1, rfl, by omega⟩
  exact hL432 ((61 - 0 + 1 : Int)).toNat _ 0 (by omega) rfl rfl rfl rfl (by omega)

set_option maxHeartbeats 4000000 in
set_option maxRecDepth 20000 in
/-- OneRoofModel.kin -/
theorem sf_184_86 {L : Nat} {xs : Nat → Int} {vb : Bool} {d : Nat} {σ α : Nat → Nat → Int} {κ : Nat → Option Nat} {ρ : Nat} {x1 : Int} {x2 : Int} (hI : qI σ α κ ρ) (r1 : (-2147483648) ≤ x1 ∧ x1 ≤ 2147483647) (r2 : (-2147483648) ≤ x2 ∧ x2 ≤ 2147483647) (p0 : σ 86 11 ≤ 60) : qm_T (qe L xs vb) (d + 3) 184 [.ref 86, .int (qz x1), .int (qz x2)] (qw σ α κ ρ) (fun r w' => ∃ σ' α', w' = qw σ' α' κ ρ ∧ qI σ' α' κ ρ ∧ qFr [(86, 11), (86, 15)] [94, 95] σ α σ' α' ∧ σ' 86 11 ≤ 60 ∧ ∃ v : Int, r = some (.int (qz v)) ∧ ((-2147483648) ≤ v ∧ v ≤ 2147483647)) := by
  refine qr_start (d := d + 2) qv_e184 (Nat.le_of_ble_eq_true rfl) ?_
  show qr_W (qe L xs vb) (d + 2) qx_e184 _ (0, [(0, .ref 86), (1, .int (qz x1)), (2, .int (qz x2))], [], _, 0, 0)
  have hF0 := qFr_rf [(86, 11), (86, 15)] [94, 95] σ α
  have hz86_11 : 0 ≤ σ 86 11 ∧ σ 86 11 ≤ 61 := hI.1 86 11
  have hz86_6 : 0 ≤ σ 86 6 ∧ σ 86 6 ≤ 32 := hI.1 86 6
  refine qr_aload_n 1 rfl rfl rfl ?_
  refine qr_iload_n 2 rfl rfl rfl ?_
  refine qr_callN 5 rfl rfl rfl (sf_180_86 (d := d + 0) hI (by omega)) ?_
  have hs3 : 0 ≤ σ 86 6 ∧ σ 86 6 ≤ 32 := hI.1 86 6
  rintro _ _ ⟨rfl, v1, rfl, hv1, hp2⟩
  show qr_W (qe L xs vb) (d + 2) qx_e184 _ (5, _, [.int (qz v1)], qw σ α κ ρ, 0, 0)
  refine qr_if_eq 30 8 rfl rfl rfl (by omega) (fun h4 => ?_) (fun h4 => ?_)
  · skip
    refine qr_iconst 31 rfl rfl ?_
    refine qr_retI rfl rfl (by decide) (by decide) ?_
    exact ⟨_, _, rfl, hI, hF0, (by have hw : σ 86 11 = (σ 86 11) := rfl; omega), (-1), rfl, by omega⟩
  · skip
    refine qr_aload_n 9 rfl rfl rfl ?_
    refine qr_iload_n 10 rfl rfl rfl ?_
    refine qr_callN 13 rfl rfl rfl (sf_180_86 (d := d + 0) hI (by omega)) ?_
    have hs7 : 0 ≤ σ 86 6 ∧ σ 86 6 ≤ 32 := hI.1 86 6
    rintro _ _ ⟨rfl, v5, rfl, hv5, hp6⟩
    show qr_W (qe L xs vb) (d + 2) qx_e184 _ (13, _, [.int (qz v5)], qw σ α κ ρ, 0, 0)
    refine qr_if_eq 30 16 rfl rfl rfl (by omega) (fun h8 => ?_) (fun h8 => ?_)
    · skip
      refine qr_iconst 31 rfl rfl ?_
      refine qr_retI rfl rfl (by decide) (by decide) ?_
      exact ⟨_, _, rfl, hI, hF0, (by have hw : σ 86 11 = (σ 86 11) := rfl; omega), (-1), rfl, by omega⟩
    · skip
      refine qr_iload_n 17 rfl rfl rfl ?_
      refine qr_iload_n 18 rfl rfl rfl ?_
      refine qr_icmp_eq 30 21 rfl rfl rfl (by omega) (by omega) (fun h9 => ?_) (fun h9 => ?_)
      · skip
        refine qr_iconst 31 rfl rfl ?_
        refine qr_retI rfl rfl (by decide) (by decide) ?_
        exact ⟨_, _, rfl, hI, hF0, (by have hw : σ 86 11 = (σ 86 11) := rfl; omega), (-1), rfl, by omega⟩
      · skip
        refine qr_aload_n 22 rfl rfl rfl ?_
        refine qr_iload_n 23 rfl rfl rfl ?_
        refine qr_iload_n 24 rfl rfl rfl ?_
        refine qr_callN 27 rfl rfl rfl (sf_185_86 (d := d + 1) hI (by omega) (by omega)) ?_
        rintro _ _ ⟨rfl, v10, rfl, hv10⟩
        show qr_W (qe L xs vb) (d + 2) qx_e184 _ (27, _, [.int (qz v10)], qw σ α κ ρ, 0, 0)
        refine qr_if_eq 32 30 rfl rfl rfl (by omega) (fun h11 => ?_) (fun h11 => ?_)
        · skip
          refine qr_aload_n 33 rfl rfl rfl ?_
          refine qr_get 36 rfl rfl rfl (by decide) rfl ?_
          refine qr_bipush 38 rfl (by decide) rfl ?_
          refine qr_icmp_ne 44 41 rfl rfl rfl (by omega) (by omega) (fun h12 => ?_) (fun h12 => ?_)
          · skip
            refine qr_aload_n 45 rfl rfl rfl ?_
            refine qr_get 48 rfl rfl rfl (by decide) rfl ?_
            refine qr_aload_n 49 rfl rfl rfl ?_
            refine qr_get 52 rfl rfl rfl (by decide) rfl ?_
            refine qr_iload_n 53 rfl rfl rfl ?_
            refine qr_iastore 54 rfl (by decide) rfl (by omega) (by decide) rfl ?_
            refine qy_wA (qw_r α 94 (qzu (α 94) ((σ 86 11) : Int).toNat x1)) rfl (fun α13 e14 => ?_)
            have hI15 : qI σ α13 κ ρ := by rw [e14]; exact qI_r94 hI _ (show 0 ≤ x1 ∧ x1 ≤ 31 by omega) (by omega)
            have hF16 : qFr [(86, 11), (86, 15)] [94, 95] σ α σ α13 := by rw [e14]; exact qFr_r hF0 94 _ (by decide)
            refine qr_aload_n 55 rfl rfl rfl ?_
            refine qr_get 58 rfl rfl rfl (by decide) rfl ?_
            refine qr_aload_n 59 rfl rfl rfl ?_
            refine qr_get 62 rfl rfl rfl (by decide) rfl ?_
            refine qr_iload_n 63 rfl rfl rfl ?_
            refine qr_iastore 64 rfl (by decide) rfl (by omega) (by decide) rfl ?_
            refine qy_wA (qw_r α13 95 (qzu (α13 95) ((σ 86 11) : Int).toNat x2)) rfl (fun α17 e18 => ?_)
            have hI19 : qI σ α17 κ ρ := by rw [e18]; exact qI_r95 hI15 _ (show 0 ≤ x2 ∧ x2 ≤ 31 by omega) (by omega)
            have hF20 : qFr [(86, 11), (86, 15)] [94, 95] σ α σ α17 := by rw [e18]; exact qFr_r hF16 95 _ (by decide)
            refine qr_aload_n 65 rfl rfl rfl ?_
            refine qr_iconst 66 rfl rfl ?_
            refine qr_put 69 rfl (by decide) rfl (Nat.le_of_ble_eq_true rfl) (Nat.le_of_ble_eq_true rfl) (Or.inl rfl) (qr_fitZ rfl (by omega)) rfl ?_
            refine qy_wS (qw_s σ 86 15 0) rfl (fun σ21 e22 => ?_)
            have hI23 : qI σ21 α17 κ ρ := by rw [e22]; exact qI_s15z hI19
            have hF24 : qFr [(86, 11), (86, 15)] [94, 95] σ α σ21 α17 := by rw [e22]; exact qFr_s hF20 86 15 _ (by decide)
            refine qr_aload_n 70 rfl rfl rfl ?_
            refine qr_dup 71 rfl rfl rfl ?_
            refine qr_get 74 rfl rfl rfl (by decide) rfl ?_
            refine qy_v (σ 86 11) ((congrFun (congrFun e22 86) 11).trans rfl) ?_
            refine qr_iconst 75 rfl rfl ?_
            refine qr_iadd 76 rfl rfl ?_
            refine qr_put 79 rfl (by decide) rfl (Nat.le_of_ble_eq_true rfl) (Nat.le_of_ble_eq_true rfl) (Or.inl rfl) (qr_fitI rfl _) rfl ?_
            refine qy_wS (qw_s σ21 86 11 ((σ 86 11) + 1)) rfl (fun σ25 e26 => ?_)
            have hI27 : qI σ25 α17 κ ρ := by rw [e26]; exact qI_s11 hI23 (by omega) (by have hw : σ21 86 15 = 0 := (congrFun (congrFun e22 86) 15).trans rfl; omega) (qE_new hI23 (p := x1) (q := x2) (k := (σ 86 11 : Int).toNat) (by have hw : σ21 86 11 = σ 86 11 := (congrFun (congrFun e22 86) 11).trans rfl; omega) (by rw [e18, qw_r_ne (by decide), e14, qw_r_eq]; unfold qzu; rw [if_pos rfl]) (by rw [e18, qw_r_eq]; unfold qzu; rw [if_pos rfl]) (by have hw : σ21 86 6 = σ 86 6 := (congrFun (congrFun e22 86) 6).trans rfl; omega) (by have hw : σ21 86 6 = σ 86 6 := (congrFun (congrFun e22 86) 6).trans rfl; omega))
            have hF28 : qFr [(86, 11), (86, 15)] [94, 95] σ α σ25 α17 := by rw [e26]; exact qFr_s hF24 86 11 _ (by decide)
            refine qr_aload_n 80 rfl rfl rfl ?_
            refine qr_get 83 rfl rfl rfl (by decide) rfl ?_
            refine qy_v ((σ 86 11) + 1) ((congrFun (congrFun e26 86) 11).trans rfl) ?_
            refine qr_retI rfl rfl (by decide) (by decide) ?_
            exact ⟨_, _, rfl, hI27, hF28, (by have hw : σ25 86 11 = ((σ 86 11) + 1) := (congrFun (congrFun e26 86) 11).trans rfl; omega), ((σ 86 11) + 1), rfl, by omega⟩
          · skip
            refine qr_bipush 43 rfl (by decide) rfl ?_
            refine qr_retI rfl rfl (by decide) (by decide) ?_
            exact ⟨_, _, rfl, hI, hF0, (by have hw : σ 86 11 = (σ 86 11) := rfl; omega), (-3), rfl, by omega⟩
        · skip
          refine qr_iconst 31 rfl rfl ?_
          refine qr_retI rfl rfl (by decide) (by decide) ?_
          exact ⟨_, _, rfl, hI, hF0, (by have hw : σ 86 11 = (σ 86 11) := rfl; omega), (-1), rfl, by omega⟩

set_option maxHeartbeats 4000000 in
set_option maxRecDepth 20000 in
/-- OneRoofModel.feud -/
theorem sf_190_86 {L : Nat} {xs : Nat → Int} {vb : Bool} {d : Nat} {σ α : Nat → Nat → Int} {κ : Nat → Option Nat} {ρ : Nat} {x1 : Int} {x2 : Int} {x3 : Int} (hI : qI σ α κ ρ) (r1 : (-2147483648) ≤ x1 ∧ x1 ≤ 2147483647) (r2 : (-2147483648) ≤ x2 ∧ x2 ≤ 2147483647) (r3 : (-2147483648) ≤ x3 ∧ x3 ≤ 2147483647) : qm_T (qe L xs vb) (d + 4) 190 [.ref 86, .int (qz x1), .int (qz x2), .int (qz x3)] (qw σ α κ ρ) (fun r w' => ∃ σ' α', w' = qw σ' α' κ ρ ∧ qI σ' α' κ ρ ∧ qFr [(86, 16)] [87, 97, 98, 99, 100, 101] σ α σ' α' ∧ ∃ v : Int, r = some (.int (qz v)) ∧ ((-2147483648) ≤ v ∧ v ≤ 2147483647)) := by
  refine qr_start (d := d + 3) qv_e190 (Nat.le_of_ble_eq_true rfl) ?_
  show qr_W (qe L xs vb) (d + 3) qx_e190 _ (0, [(0, .ref 86), (1, .int (qz x1)), (2, .int (qz x2)), (3, .int (qz x3))], [], _, 0, 0)
  have hF0 := qFr_rf [(86, 16)] [87, 97, 98, 99, 100, 101] σ α
  refine qr_aload_n 1 rfl rfl rfl ?_
  refine qr_iload_n 2 rfl rfl rfl ?_
  refine qr_callN 5 rfl rfl rfl (sf_191_86 (d := d + 0) hI (by omega)) ?_
  have hs3 : 0 ≤ σ 86 6 ∧ σ 86 6 ≤ 32 := hI.1 86 6
  rintro _ _ ⟨rfl, v1, rfl, hv1, hp2⟩
  show qr_W (qe L xs vb) (d + 3) qx_e190 _ (5, _, [.int (qz v1)], qw σ α κ ρ, 0, 0)
  refine qr_if_eq 27 8 rfl rfl rfl (by omega) (fun h4 => ?_) (fun h4 => ?_)
  · skip
    refine qr_iconst 28 rfl rfl ?_
    refine qr_retI rfl rfl (by decide) (by decide) ?_
    exact ⟨_, _, rfl, hI, hF0, (-1), rfl, by omega⟩
  · skip
    refine qr_iload_n 9 rfl rfl rfl ?_
    refine qr_callN 12 rfl rfl rfl (sf_192 (d := d + 1) hI (by omega)) ?_
    rintro _ _ ⟨rfl, v5, rfl, hv5, hp6⟩
    show qr_W (qe L xs vb) (d + 3) qx_e190 _ (12, _, [.int (qz v5)], qw σ α κ ρ, 0, 0)
    refine qr_if_eq 27 15 rfl rfl rfl (by omega) (fun h7 => ?_) (fun h7 => ?_)
    · skip
      refine qr_iconst 28 rfl rfl ?_
      refine qr_retI rfl rfl (by decide) (by decide) ?_
      exact ⟨_, _, rfl, hI, hF0, (-1), rfl, by omega⟩
    · skip
      refine qr_iload_n 16 rfl rfl rfl ?_
      refine qr_i2l 17 rfl (by omega) rfl ?_
      refine qr_lconst 18 rfl rfl ?_
      refine qy_vl 0 rfl ?_
      refine qr_ldc2 3999 21 rfl (by decide) rfl ?_
      refine qr_callN 24 rfl rfl rfl (sf_176 (d := d + 2) hI (by omega) (by omega) (by omega)) ?_
      rintro _ _ ⟨rfl, v8, rfl, hv8, hp9⟩
      show qr_W (qe L xs vb) (d + 3) qx_e190 _ (24, _, [.int (qz v8)], qw σ α κ ρ, 0, 0)
      refine qr_if_ne 29 27 rfl rfl rfl (by omega) (fun h10 => ?_) (fun h10 => ?_)
      · skip
        refine qr_aload_n 30 rfl rfl rfl ?_
        refine qr_get 33 rfl rfl rfl (by decide) rfl ?_
        have hs11 : 0 ≤ σ 86 16 ∧ σ 86 16 ≤ 40 := hI.1 86 16
        refine qr_bipush 35 rfl (by decide) rfl ?_
        refine qr_icmp_ne 41 38 rfl rfl rfl (by omega) (by omega) (fun h12 => ?_) (fun h12 => ?_)
        · skip
          refine qr_aload_n 42 rfl rfl rfl ?_
          refine qr_get 45 rfl rfl rfl (by decide) rfl ?_
          refine qr_aload_n 46 rfl rfl rfl ?_
          refine qr_get 49 rfl rfl rfl (by decide) rfl ?_
          refine qr_iload_n 50 rfl rfl rfl ?_
          refine qr_bipush 52 rfl (by decide) rfl ?_
          refine qr_idiv 53 rfl (by omega) (by omega) rfl ?_
          refine qr_iastore 54 rfl (by decide) rfl (by omega) (by decide) rfl ?_
          refine qy_wA (qw_r α 97 (qzu (α 97) ((σ 86 16) : Int).toNat (x1 / 100))) rfl (fun α13 e14 => ?_)
          have hI15 : qI σ α13 κ ρ := by rw [e14]; exact qI_r hI 97 _ rfl (show 0 ≤ (x1 / 100) ∧ (x1 / 100) ≤ 31 by omega)
          have hF16 : qFr [(86, 16)] [87, 97, 98, 99, 100, 101] σ α σ α13 := by rw [e14]; exact qFr_r hF0 97 _ (by decide)
          refine qr_aload_n 55 rfl rfl rfl ?_
          refine qr_get 58 rfl rfl rfl (by decide) rfl ?_
          refine qr_aload_n 59 rfl rfl rfl ?_
          refine qr_get 62 rfl rfl rfl (by decide) rfl ?_
          refine qr_iload_n 63 rfl rfl rfl ?_
          refine qr_bipush 65 rfl (by decide) rfl ?_
          refine qr_irem 66 rfl (by omega) (by omega) rfl ?_
          refine qr_iastore 67 rfl (by decide) rfl (by omega) (by decide) rfl ?_
          refine qy_wA (qw_r α13 98 (qzu (α13 98) ((σ 86 16) : Int).toNat (x1 % 100))) rfl (fun α17 e18 => ?_)
          have hI19 : qI σ α17 κ ρ := by rw [e18]; exact qI_r hI15 98 _ rfl (show 0 ≤ (x1 % 100) ∧ (x1 % 100) ≤ 31 by omega)
          have hF20 : qFr [(86, 16)] [87, 97, 98, 99, 100, 101] σ α σ α17 := by rw [e18]; exact qFr_r hF16 98 _ (by decide)
          refine qr_aload_n 68 rfl rfl rfl ?_
          refine qr_get 71 rfl rfl rfl (by decide) rfl ?_
          refine qr_aload_n 72 rfl rfl rfl ?_
          refine qr_get 75 rfl rfl rfl (by decide) rfl ?_
          refine qr_iload_n 76 rfl rfl rfl ?_
          refine qr_iastore 77 rfl (by decide) rfl (by omega) (by decide) rfl ?_
          refine qy_wA (qw_r α17 99 (qzu (α17 99) ((σ 86 16) : Int).toNat x2)) rfl (fun α21 e22 => ?_)
          have hI23 : qI σ α21 κ ρ := by rw [e22]; exact qI_r hI19 99 _ rfl (show (-2147483648) ≤ x2 ∧ x2 ≤ 2147483647 by omega)
          have hF24 : qFr [(86, 16)] [87, 97, 98, 99, 100, 101] σ α σ α21 := by rw [e22]; exact qFr_r hF20 99 _ (by decide)
          refine qr_aload_n 78 rfl rfl rfl ?_
          refine qr_get 81 rfl rfl rfl (by decide) rfl ?_
          refine qr_aload_n 82 rfl rfl rfl ?_
          refine qr_get 85 rfl rfl rfl (by decide) rfl ?_
          refine qr_iload_n 86 rfl rfl rfl ?_
          refine qr_sipush 89 rfl (by decide) rfl ?_
          refine qr_idiv 90 rfl (by omega) (by omega) rfl ?_
          refine qr_iastore 91 rfl (by decide) rfl (by omega) (by decide) rfl ?_
          refine qy_wA (qw_r α21 100 (qzu (α21 100) ((σ 86 16) : Int).toNat (x3 / 1000))) rfl (fun α25 e26 => ?_)
          have hI27 : qI σ α25 κ ρ := by rw [e26]; exact qI_r hI23 100 _ rfl (show (-2147483648) ≤ (x3 / 1000) ∧ (x3 / 1000) ≤ 2147483647 by omega)
          have hF28 : qFr [(86, 16)] [87, 97, 98, 99, 100, 101] σ α σ α25 := by rw [e26]; exact qFr_r hF24 100 _ (by decide)
          refine qr_aload_n 92 rfl rfl rfl ?_
          refine qr_get 95 rfl rfl rfl (by decide) rfl ?_
          refine qr_aload_n 96 rfl rfl rfl ?_
          as_aux_lemma =>
            refine qr_get 99 rfl rfl rfl (by decide) rfl ?_
            refine qr_iload_n 100 rfl rfl rfl ?_
            refine qr_sipush 103 rfl (by decide) rfl ?_
            refine qr_irem 104 rfl (by omega) (by omega) rfl ?_
            refine qr_iastore 105 rfl (by decide) rfl (by omega) (by decide) rfl ?_
            refine qy_wA (qw_r α25 101 (qzu (α25 101) ((σ 86 16) : Int).toNat (x3 % 1000))) rfl (fun α29 e30 => ?_)
            have hI31 : qI σ α29 κ ρ := by rw [e30]; exact qI_r hI27 101 _ rfl (show (-2147483648) ≤ (x3 % 1000) ∧ (x3 % 1000) ≤ 2147483647 by omega)
            have hF32 : qFr [(86, 16)] [87, 97, 98, 99, 100, 101] σ α σ α29 := by rw [e30]; exact qFr_r hF28 101 _ (by decide)
            refine qr_aload_n 106 rfl rfl rfl ?_
            refine qr_get 109 rfl rfl rfl (by decide) rfl ?_
            refine qr_bipush 111 rfl (by decide) rfl ?_
            refine qr_aload_n 112 rfl rfl rfl ?_
            refine qr_get 115 rfl rfl rfl (by decide) rfl ?_
            refine qr_iadd 116 rfl rfl ?_
            refine qr_sipush 119 rfl (by decide) rfl ?_
            refine qr_iastore 120 rfl (by decide) rfl (by omega) (by decide) rfl ?_
            refine qy_wA (qw_r α29 87 (qzu (α29 87) ((32 + (σ 86 16)) : Int).toNat 2400)) rfl (fun α33 e34 => ?_)
            have hI35 : qI σ α33 κ ρ := by rw [e34]; exact qI_r hI31 87 _ rfl (show (-2147483648) ≤ 2400 ∧ 2400 ≤ 2147483647 by omega)
            have hF36 : qFr [(86, 16)] [87, 97, 98, 99, 100, 101] σ α σ α33 := by rw [e34]; exact qFr_r hF32 87 _ (by decide)
            refine qr_aload_n 121 rfl rfl rfl ?_
            refine qr_dup 122 rfl rfl rfl ?_
            refine qr_get 125 rfl rfl rfl (by decide) rfl ?_
            refine qr_iconst 126 rfl rfl ?_
            refine qr_iadd 127 rfl rfl ?_
            refine qr_put 130 rfl (by decide) rfl (Nat.le_of_ble_eq_true rfl) (Nat.le_of_ble_eq_true rfl) (Or.inl rfl) (qr_fitI rfl _) rfl ?_
            refine qy_wS (qw_s σ 86 16 ((σ 86 16) + 1)) rfl (fun σ37 e38 => ?_)
            have hI39 : qI σ37 α33 κ ρ := by rw [e38]; exact qI_s hI35 86 16 rfl (show 0 ≤ ((σ 86 16) + 1) ∧ ((σ 86 16) + 1) ≤ 40 by omega)
            have hF40 : qFr [(86, 16)] [87, 97, 98, 99, 100, 101] σ α σ37 α33 := by rw [e38]; exact qFr_s hF36 86 16 _ (by decide)
            refine qr_aload_n 131 rfl rfl rfl ?_
            refine qr_get 134 rfl rfl rfl (by decide) rfl ?_
            refine qy_v ((σ 86 16) + 1) ((congrFun (congrFun e38 86) 16).trans rfl) ?_
            refine qr_iconst 135 rfl rfl ?_
            refine qr_isub 136 rfl rfl ?_
            refine qr_retI rfl rfl (by decide) (by decide) ?_
            exact ⟨_, _, rfl, hI39, hF40, (((σ 86 16) + 1) - 1), rfl, by omega⟩
        · skip
          refine qr_bipush 40 rfl (by decide) rfl ?_
          refine qr_retI rfl rfl (by decide) (by decide) ?_
          exact ⟨_, _, rfl, hI, hF0, (-3), rfl, by omega⟩
      · skip
        refine qr_iconst 28 rfl rfl ?_
        refine qr_retI rfl rfl (by decide) (by decide) ?_
        exact ⟨_, _, rfl, hI, hF0, (-1), rfl, by omega⟩

set_option maxHeartbeats 4000000 in
set_option maxRecDepth 20000 in
/-- OneRoofModel.pay -/
theorem sf_193_86 {L : Nat} {xs : Nat → Int} {vb : Bool} {d : Nat} {σ α : Nat → Nat → Int} {κ : Nat → Option Nat} {ρ : Nat} {x1 : Int} {x2 : Int} (hI : qI σ α κ ρ) (r1 : (-2147483648) ≤ x1 ∧ x1 ≤ 2147483647) (r2 : (-2147483648) ≤ x2 ∧ x2 ≤ 2147483647) : qm_T (qe L xs vb) (d + 2) 193 [.ref 86, .int (qz x1), .int (qz x2)] (qw σ α κ ρ) (fun r w' => ∃ σ' α', w' = qw σ' α' κ ρ ∧ qI σ' α' κ ρ ∧ qFr [(86, 4), (86, 5)] [87, 88, 89, 90] σ α σ' α' ∧ ∃ v : Int, r = some (.int (qz v)) ∧ ((-2147483648) ≤ v ∧ v ≤ 2147483647)) := by
  refine qr_start (d := d + 1) qv_e193 (Nat.le_of_ble_eq_true rfl) ?_
  show qr_W (qe L xs vb) (d + 1) qx_e193 _ (0, [(0, .ref 86), (1, .int (qz x1)), (2, .int (qz x2))], [], _, 0, 0)
  have hF0 := qFr_rf [(86, 4), (86, 5)] [87, 88, 89, 90] σ α
  refine qr_iload_n 1 rfl rfl rfl ?_
  refine qr_i2l 2 rfl (by omega) rfl ?_
  refine qr_lconst 3 rfl rfl ?_
  refine qy_vl 0 rfl ?_
  refine qr_aload_n 4 rfl rfl rfl ?_
  refine qr_get 7 rfl rfl rfl (by decide) rfl ?_
  have hs1 : 0 ≤ σ 86 16 ∧ σ 86 16 ≤ 40 := hI.1 86 16
  refine qr_iconst 8 rfl rfl ?_
  refine qr_isub 9 rfl rfl ?_
  refine qr_i2l 10 rfl (by omega) rfl ?_
  refine qr_callN 13 rfl rfl rfl (sf_176 (d := d + 0) hI (by omega) (by omega) (by omega)) ?_
  rintro _ _ ⟨rfl, v2, rfl, hv2, hp3⟩
  show qr_W (qe L xs vb) (d + 1) qx_e193 _ (13, _, [.int (qz v2)], qw σ α κ ρ, 0, 0)
  refine qr_if_eq 40 16 rfl rfl rfl (by omega) (fun h4 => ?_) (fun h4 => ?_)
  · skip
    refine qr_iconst 41 rfl rfl ?_
    refine qr_retI rfl rfl (by decide) (by decide) ?_
    exact ⟨_, _, rfl, hI, hF0, (-1), rfl, by omega⟩
  · skip
    refine qr_iload_n 17 rfl rfl rfl ?_
    refine qr_i2l 18 rfl (by omega) rfl ?_
    refine qr_lconst 19 rfl rfl ?_
    refine qy_vl 0 rfl ?_
    refine qr_ldc2 2400 22 rfl (by decide) rfl ?_
    refine qr_callN 25 rfl rfl rfl (sf_176 (d := d + 0) hI (by omega) (by omega) (by omega)) ?_
    rintro _ _ ⟨rfl, v5, rfl, hv5, hp6⟩
    show qr_W (qe L xs vb) (d + 1) qx_e193 _ (25, _, [.int (qz v5)], qw σ α κ ρ, 0, 0)
    refine qr_if_eq 40 28 rfl rfl rfl (by omega) (fun h7 => ?_) (fun h7 => ?_)
    · skip
      refine qr_iconst 41 rfl rfl ?_
      refine qr_retI rfl rfl (by decide) (by decide) ?_
      exact ⟨_, _, rfl, hI, hF0, (-1), rfl, by omega⟩
    · skip
      refine qr_aload_n 29 rfl rfl rfl ?_
      refine qr_bipush 31 rfl (by decide) rfl ?_
      refine qr_iload_n 32 rfl rfl rfl ?_
      refine qr_iadd 33 rfl rfl ?_
      refine qr_iload_n 34 rfl rfl rfl ?_
      refine qr_callN 37 rfl rfl rfl (sf_183_86 (d := d + 0) hI (by omega) (by omega)) ?_
      rintro _ _ ⟨σ9, α10, rfl, hI11, hG12, v8, rfl, hv8⟩
      have hF13 : qFr [(86, 4), (86, 5)] [87, 88, 89, 90] σ α σ9 α10 := qFr_t hF0 hG12 (by decide) (by decide)
      show qr_W (qe L xs vb) (d + 1) qx_e193 _ (37, _, [.int (qz v8)], qw σ9 α10 κ ρ, 0, 0)
      refine qr_goto 41 rfl rfl ?_
      refine qr_retI rfl rfl (by decide) (by decide) ?_
      exact ⟨_, _, rfl, hI11, hF13, v8, rfl, by omega⟩

set_option maxHeartbeats 4000000 in
set_option maxRecDepth 20000 in
/-- OneRoofModel.isOpen -/
theorem sf_196_86 {L : Nat} {xs : Nat → Int} {vb : Bool} {d : Nat} {σ α : Nat → Nat → Int} {κ : Nat → Option Nat} {ρ : Nat} {x1 : Int} {x2 : Int} (hI : qI σ α κ ρ) (r1 : 0 ≤ x1 ∧ x1 ≤ 39) (r2 : (-2147483648) ≤ x2 ∧ x2 ≤ 2147483647) : qm_T (qe L xs vb) (d + 1) 196 [.ref 86, .int (qz x1), .int (qz x2)] (qw σ α κ ρ) (fun r w' => w' = qw σ α κ ρ ∧ ∃ v : Int, r = some (.int (qz v)) ∧ (0 ≤ v ∧ v ≤ 1)) := by
  refine qr_start (d := d + 0) qv_e196 (Nat.le_of_ble_eq_true rfl) ?_
  show qr_W (qe L xs vb) (d + 0) qx_e196 _ (0, [(0, .ref 86), (1, .int (qz x1)), (2, .int (qz x2))], [], _, 0, 0)
  refine qr_aload_n 1 rfl rfl rfl ?_
  refine qr_get 4 rfl rfl rfl (by decide) rfl ?_
  refine qr_iload_n 5 rfl rfl rfl ?_
  refine qr_iaload 6 rfl rfl (by omega) (by decide) rfl ?_
  refine qr_topI (fun v1 hv1 => ?_)
  have hs2 : (-2147483648) ≤ v1 ∧ v1 ≤ 2147483647 := by rw [hv1]; exact hI.2.1 99 _ (show _ < 40 by omega)
  refine qr_iload_n 7 rfl rfl rfl ?_
  refine qr_icmp_gt 55 10 rfl rfl rfl (by omega) (by omega) (fun h3 => ?_) (fun h3 => ?_)
  · skip
    refine qr_iconst 56 rfl rfl ?_
    refine qr_retZ rfl rfl (by omega) (by decide) (by decide) ?_
    exact ⟨rfl, 0, rfl, by omega⟩
  · skip
    refine qr_aload_n 11 rfl rfl rfl ?_
    refine qr_get 14 rfl rfl rfl (by decide) rfl ?_
    refine qr_bipush 16 rfl (by decide) rfl ?_
    refine qr_iload_n 17 rfl rfl rfl ?_
    refine qr_iadd 18 rfl rfl ?_
    refine qr_iaload 19 rfl rfl (by omega) (by decide) rfl ?_
    refine qr_topI (fun v4 hv4 => ?_)
    have hs5 : (-2147483648) ≤ v4 ∧ v4 ≤ 2147483647 := by rw [hv4]; exact hI.2.1 87 _ (show _ < 252 by omega)
    refine qr_sipush 22 rfl (by decide) rfl ?_
    refine qr_icmp_eq 38 25 rfl rfl rfl (by omega) (by omega) (fun h6 => ?_) (fun h6 => ?_)
    · skip
      refine qr_aload_n 39 rfl rfl rfl ?_
      refine qr_get 42 rfl rfl rfl (by decide) rfl ?_
      have hs7 : (-9223372036854775808) ≤ σ 86 22 ∧ σ 86 22 ≤ 9223372036854775807 := hI.1 86 22
      refine qr_iload_n 43 rfl rfl rfl ?_
      refine qr_lshr 44 rfl rfl ?_
      refine qy_canl (fun v8 hv8 => ?_)
      refine qr_lconst 45 rfl rfl ?_
      refine qy_vl 1 rfl ?_
      refine qr_land 46 rfl rfl ?_
      refine qy_canl (fun v9 hv9 => ?_)
      refine qr_lconst 47 rfl rfl ?_
      refine qy_vl 0 rfl ?_
      refine qr_lc_ne 55 51 rfl rfl rfl rfl (by omega) (by omega) (fun h10 => ?_) (fun h10 => ?_)
      · skip
        refine qr_iconst 56 rfl rfl ?_
        refine qr_retZ rfl rfl (by omega) (by decide) (by decide) ?_
        exact ⟨rfl, 0, rfl, by omega⟩
      · skip
        refine qr_iconst 52 rfl rfl ?_
        refine qr_goto 56 rfl rfl ?_
        refine qr_retZ rfl rfl (by omega) (by decide) (by decide) ?_
        exact ⟨rfl, 1, rfl, by omega⟩
    · skip
      refine qr_iload_n 26 rfl rfl rfl ?_
      refine qr_aload_n 27 rfl rfl rfl ?_
      refine qr_get 30 rfl rfl rfl (by decide) rfl ?_
      refine qr_bipush 32 rfl (by decide) rfl ?_
      refine qr_iload_n 33 rfl rfl rfl ?_
      refine qr_iadd 34 rfl rfl ?_
      refine qr_iaload 35 rfl rfl (by omega) (by decide) rfl ?_
      refine qr_topI (fun v11 hv11 => ?_)
      have hs12 : (-2147483648) ≤ v11 ∧ v11 ≤ 2147483647 := by rw [hv11]; exact hI.2.1 87 _ (show _ < 252 by omega)
      refine qr_icmp_ge 55 38 rfl rfl rfl (by omega) (by omega) (fun h13 => ?_) (fun h13 => ?_)
      · skip
        refine qr_iconst 56 rfl rfl ?_
        refine qr_retZ rfl rfl (by omega) (by decide) (by decide) ?_
        exact ⟨rfl, 0, rfl, by omega⟩
      · skip
        refine qr_aload_n 39 rfl rfl rfl ?_
        refine qr_get 42 rfl rfl rfl (by decide) rfl ?_
        have hs14 : (-9223372036854775808) ≤ σ 86 22 ∧ σ 86 22 ≤ 9223372036854775807 := hI.1 86 22
        refine qr_iload_n 43 rfl rfl rfl ?_
        refine qr_lshr 44 rfl rfl ?_
        refine qy_canl (fun v15 hv15 => ?_)
        refine qr_lconst 45 rfl rfl ?_
        refine qy_vl 1 rfl ?_
        refine qr_land 46 rfl rfl ?_
        refine qy_canl (fun v16 hv16 => ?_)
        refine qr_lconst 47 rfl rfl ?_
        refine qy_vl 0 rfl ?_
        refine qr_lc_ne 55 51 rfl rfl rfl rfl (by omega) (by omega) (fun h17 => ?_) (fun h17 => ?_)
        · skip
          refine qr_iconst 56 rfl rfl ?_
          refine qr_retZ rfl rfl (by omega) (by decide) (by decide) ?_
          exact ⟨rfl, 0, rfl, by omega⟩
        · skip
          refine qr_iconst 52 rfl rfl ?_
          refine qr_goto 56 rfl rfl ?_
          refine qr_retZ rfl rfl (by omega) (by decide) (by decide) ?_
          exact ⟨rfl, 1, rfl, by omega⟩

set_option maxHeartbeats 4000000 in
set_option maxRecDepth 20000 in
/-- OneRoofModel.peace -/
theorem sf_198_86 {L : Nat} {xs : Nat → Int} {vb : Bool} {d : Nat} {σ α : Nat → Nat → Int} {κ : Nat → Option Nat} {ρ : Nat} {x1 : Int} {x2 : Int} {x3 : Int} {x4 : Int} (hI : qI σ α κ ρ) (r1 : (-2147483648) ≤ x1 ∧ x1 ≤ 2147483647) (r2 : (-9223372036854775808) ≤ x2 ∧ x2 ≤ 9223372036854775807) (r3 : (-2147483648) ≤ x3 ∧ x3 ≤ 2147483647) (r4 : (-2147483648) ≤ x4 ∧ x4 ≤ 2147483647) : qm_T (qe L xs vb) (d + 3) 198 [.ref 86, .int (qz x1), .long (ql x2), .int (qz x3), .int (qz x4)] (qw σ α κ ρ) (fun r w' => ∃ σ' α', w' = qw σ' α' κ ρ ∧ qI σ' α' κ ρ ∧ qFr [(86, 24)] [87, 102, 103, 104, 105] σ α σ' α' ∧ ∃ v : Int, r = some (.int (qz v)) ∧ ((-2147483648) ≤ v ∧ v ≤ 2147483647)) := by
  refine qr_start (d := d + 2) qv_e198 (Nat.le_of_ble_eq_true rfl) ?_
  show qr_W (qe L xs vb) (d + 2) qx_e198 _ (0, [(0, .ref 86), (1, .int (qz x1)), (2, .long (ql x2)), (4, .int (qz x3)), (5, .int (qz x4))], [], _, 0, 0)
  have hF0 := qFr_rf [(86, 24)] [87, 102, 103, 104, 105] σ α
  refine qr_iload_n 1 rfl rfl rfl ?_
  refine qr_if_lt 95 4 rfl rfl rfl (by omega) (fun h1 => ?_) (fun h1 => ?_)
  · skip
    refine qr_iconst 96 rfl rfl ?_
    refine qr_istore _ 98 rfl (by decide) rfl rfl ?_
    refine qr_iload 100 rfl rfl rfl ?_
    refine qr_if_ne 105 103 rfl rfl rfl (by omega) (fun h => False.elim (by omega)) (fun h2 => ?_)
    refine qr_iconst 104 rfl rfl ?_
    refine qr_retI rfl rfl (by decide) (by decide) ?_
    exact ⟨_, _, rfl, hI, hF0, (-1), rfl, by omega⟩
  · skip
    refine qr_aload_n 5 rfl rfl rfl ?_
    refine qr_iload_n 6 rfl rfl rfl ?_
    refine qr_bipush 8 rfl (by decide) rfl ?_
    refine qr_idiv 9 rfl (by omega) (by omega) rfl ?_
    refine qr_callN 12 rfl rfl rfl (sf_180_86 (d := d + 0) hI (by omega)) ?_
    have hs5 : 0 ≤ σ 86 6 ∧ σ 86 6 ≤ 32 := hI.1 86 6
    rintro _ _ ⟨rfl, v3, rfl, hv3, hp4⟩
    show qr_W (qe L xs vb) (d + 2) qx_e198 _ (12, _, [.int (qz v3)], qw σ α κ ρ, 0, 0)
    refine qr_if_eq 95 15 rfl rfl rfl (by omega) (fun h6 => ?_) (fun h6 => ?_)
    · skip
      refine qr_iconst 96 rfl rfl ?_
      refine qr_istore _ 98 rfl (by decide) rfl rfl ?_
      refine qr_iload 100 rfl rfl rfl ?_
      refine qr_if_ne 105 103 rfl rfl rfl (by omega) (fun h => False.elim (by omega)) (fun h7 => ?_)
      refine qr_iconst 104 rfl rfl ?_
      refine qr_retI rfl rfl (by decide) (by decide) ?_
      exact ⟨_, _, rfl, hI, hF0, (-1), rfl, by omega⟩
    · skip
      refine qr_iload_n 16 rfl rfl rfl ?_
      refine qr_bipush 18 rfl (by decide) rfl ?_
      refine qr_irem 19 rfl (by omega) (by omega) rfl ?_
      refine qr_iconst 20 rfl rfl ?_
      refine qr_icmp_gt 95 23 rfl rfl rfl (by omega) (by omega) (fun h8 => ?_) (fun h8 => ?_)
      · skip
        refine qr_iconst 96 rfl rfl ?_
        refine qr_istore _ 98 rfl (by decide) rfl rfl ?_
        refine qr_iload 100 rfl rfl rfl ?_
        refine qr_if_ne 105 103 rfl rfl rfl (by omega) (fun h => False.elim (by omega)) (fun h9 => ?_)
        refine qr_iconst 104 rfl rfl ?_
        refine qr_retI rfl rfl (by decide) (by decide) ?_
        exact ⟨_, _, rfl, hI, hF0, (-1), rfl, by omega⟩
      · skip
        refine qr_lload_n 24 rfl rfl rfl ?_
        refine qr_lconst 25 rfl rfl ?_
        refine qy_vl 0 rfl ?_
        refine qr_ldc2 4294967295 28 rfl (by decide) rfl ?_
        refine qr_callN 31 rfl rfl rfl (sf_176 (d := d + 1) hI (by omega) (by omega) (by omega)) ?_
        rintro _ _ ⟨rfl, v10, rfl, hv10, hp11⟩
        show qr_W (qe L xs vb) (d + 2) qx_e198 _ (31, _, [.int (qz v10)], qw σ α κ ρ, 0, 0)
        refine qr_if_eq 95 34 rfl rfl rfl (by omega) (fun h12 => ?_) (fun h12 => ?_)
        · skip
          refine qr_iconst 96 rfl rfl ?_
          refine qr_istore _ 98 rfl (by decide) rfl rfl ?_
          refine qr_iload 100 rfl rfl rfl ?_
          refine qr_if_ne 105 103 rfl rfl rfl (by omega) (fun h => False.elim (by omega)) (fun h13 => ?_)
          refine qr_iconst 104 rfl rfl ?_
          refine qr_retI rfl rfl (by decide) (by decide) ?_
          exact ⟨_, _, rfl, hI, hF0, (-1), rfl, by omega⟩
        · skip
          refine qr_iload 36 rfl rfl rfl ?_
          refine qr_if_lt 95 39 rfl rfl rfl (by omega) (fun h14 => ?_) (fun h14 => ?_)
          · skip
            refine qr_iconst 96 rfl rfl ?_
            refine qr_istore _ 98 rfl (by decide) rfl rfl ?_
            refine qr_iload 100 rfl rfl rfl ?_
            refine qr_if_ne 105 103 rfl rfl rfl (by omega) (fun h => False.elim (by omega)) (fun h15 => ?_)
            refine qr_iconst 104 rfl rfl ?_
            refine qr_retI rfl rfl (by decide) (by decide) ?_
            exact ⟨_, _, rfl, hI, hF0, (-1), rfl, by omega⟩
          · skip
            refine qr_iload 41 rfl rfl rfl ?_
            refine qr_sipush 44 rfl (by decide) rfl ?_
            refine qr_idiv 45 rfl (by omega) (by omega) rfl ?_
            refine qr_callN 48 rfl rfl rfl (sf_192 (d := d + 0) hI (by omega)) ?_
            rintro _ _ ⟨rfl, v16, rfl, hv16, hp17⟩
            show qr_W (qe L xs vb) (d + 2) qx_e198 _ (48, _, [.int (qz v16)], qw σ α κ ρ, 0, 0)
            refine qr_if_eq 95 51 rfl rfl rfl (by omega) (fun h18 => ?_) (fun h18 => ?_)
            · skip
              refine qr_iconst 96 rfl rfl ?_
              refine qr_istore _ 98 rfl (by decide) rfl rfl ?_
              refine qr_iload 100 rfl rfl rfl ?_
              refine qr_if_ne 105 103 rfl rfl rfl (by omega) (fun h => False.elim (by omega)) (fun h19 => ?_)
              refine qr_iconst 104 rfl rfl ?_
              refine qr_retI rfl rfl (by decide) (by decide) ?_
              exact ⟨_, _, rfl, hI, hF0, (-1), rfl, by omega⟩
            · skip
              refine qr_iload 53 rfl rfl rfl ?_
              refine qr_sipush 56 rfl (by decide) rfl ?_
              refine qr_irem 57 rfl (by omega) (by omega) rfl ?_
              refine qr_callN 60 rfl rfl rfl (sf_192 (d := d + 0) hI (by omega)) ?_
              rintro _ _ ⟨rfl, v20, rfl, hv20, hp21⟩
              show qr_W (qe L xs vb) (d + 2) qx_e198 _ (60, _, [.int (qz v20)], qw σ α κ ρ, 0, 0)
              refine qr_if_eq 95 63 rfl rfl rfl (by omega) (fun h22 => ?_) (fun h22 => ?_)
              · skip
                refine qr_iconst 96 rfl rfl ?_
                refine qr_istore _ 98 rfl (by decide) rfl rfl ?_
                refine qr_iload 100 rfl rfl rfl ?_
                refine qr_if_ne 105 103 rfl rfl rfl (by omega) (fun h => False.elim (by omega)) (fun h23 => ?_)
                refine qr_iconst 104 rfl rfl ?_
                refine qr_retI rfl rfl (by decide) (by decide) ?_
                exact ⟨_, _, rfl, hI, hF0, (-1), rfl, by omega⟩
              · skip
                refine qr_iload 65 rfl rfl rfl ?_
                refine qr_sipush 68 rfl (by decide) rfl ?_
                refine qr_idiv 69 rfl (by omega) (by omega) rfl ?_
                refine qr_iload 71 rfl rfl rfl ?_
                refine qr_sipush 74 rfl (by decide) rfl ?_
                refine qr_irem 75 rfl (by omega) (by omega) rfl ?_
                refine qr_icmp_gt 95 78 rfl rfl rfl (by omega) (by omega) (fun h24 => ?_) (fun h24 => ?_)
                · skip
                  refine qr_iconst 96 rfl rfl ?_
                  refine qr_istore _ 98 rfl (by decide) rfl rfl ?_
                  refine qr_iload 100 rfl rfl rfl ?_
                  refine qr_if_ne 105 103 rfl rfl rfl (by omega) (fun h => False.elim (by omega)) (fun h25 => ?_)
                  refine qr_iconst 104 rfl rfl ?_
                  refine qr_retI rfl rfl (by decide) (by decide) ?_
                  exact ⟨_, _, rfl, hI, hF0, (-1), rfl, by omega⟩
                · skip
                  refine qr_iload 80 rfl rfl rfl ?_
                  refine qr_i2l 81 rfl (by omega) rfl ?_
                  refine qr_lconst 82 rfl rfl ?_
                  refine qy_vl 0 rfl ?_
                  refine qr_ldc2 240 85 rfl (by decide) rfl ?_
                  refine qr_callN 88 rfl rfl rfl (sf_176 (d := d + 1) hI (by omega) (by omega) (by omega)) ?_
                  rintro _ _ ⟨rfl, v26, rfl, hv26, hp27⟩
                  show qr_W (qe L xs vb) (d + 2) qx_e198 _ (88, _, [.int (qz v26)], qw σ α κ ρ, 0, 0)
                  refine qr_if_eq 95 91 rfl rfl rfl (by omega) (fun h28 => ?_) (fun h28 => ?_)
                  · skip
                    refine qr_iconst 96 rfl rfl ?_
                    refine qr_istore _ 98 rfl (by decide) rfl rfl ?_
                    refine qr_iload 100 rfl rfl rfl ?_
                    refine qr_if_ne 105 103 rfl rfl rfl (by omega) (fun h => False.elim (by omega)) (fun h29 => ?_)
                    refine qr_iconst 104 rfl rfl ?_
                    refine qr_retI rfl rfl (by decide) (by decide) ?_
                    exact ⟨_, _, rfl, hI, hF0, (-1), rfl, by omega⟩
                  · skip
                    refine qr_iconst 92 rfl rfl ?_
                    refine qr_goto 96 rfl rfl ?_
                    refine qr_istore _ 98 rfl (by decide) rfl rfl ?_
                    refine qr_iload 100 rfl rfl rfl ?_
                    refine qr_if_ne 105 103 rfl rfl rfl (by omega) (fun h30 => ?_) (fun h => False.elim (by omega))
                    refine qr_aload_n 106 rfl rfl rfl ?_
                    refine qr_get 109 rfl rfl rfl (by decide) rfl ?_
                    have hs31 : 0 ≤ σ 86 24 ∧ σ 86 24 ≤ 60 := hI.1 86 24
                    as_aux_lemma =>
                      refine qr_bipush 111 rfl (by decide) rfl ?_
                      refine qr_icmp_ne 117 114 rfl rfl rfl (by omega) (by omega) (fun h32 => ?_) (fun h32 => ?_)
                      · skip
                        refine qr_aload_n 118 rfl rfl rfl ?_
                        refine qr_get 121 rfl rfl rfl (by decide) rfl ?_
                        refine qr_aload_n 122 rfl rfl rfl ?_
                        refine qr_get 125 rfl rfl rfl (by decide) rfl ?_
                        refine qr_iload_n 126 rfl rfl rfl ?_
                        refine qr_bipush 128 rfl (by decide) rfl ?_
                        refine qr_idiv 129 rfl (by omega) (by omega) rfl ?_
                        refine qr_iastore 130 rfl (by decide) rfl (by omega) (by decide) rfl ?_
                        refine qy_wA (qw_r α 102 (qzu (α 102) ((σ 86 24) : Int).toNat (x1 / 10))) rfl (fun α33 e34 => ?_)
                        have hI35 : qI σ α33 κ ρ := by rw [e34]; exact qI_r hI 102 _ rfl (show 0 ≤ (x1 / 10) ∧ (x1 / 10) ≤ 31 by omega)
                        have hF36 : qFr [(86, 24)] [87, 102, 103, 104, 105] σ α σ α33 := by rw [e34]; exact qFr_r hF0 102 _ (by decide)
                        refine qr_aload_n 131 rfl rfl rfl ?_
                        refine qr_get 134 rfl rfl rfl (by decide) rfl ?_
                        refine qr_sipush 137 rfl (by decide) rfl ?_
                        refine qr_aload_n 138 rfl rfl rfl ?_
                        refine qr_get 141 rfl rfl rfl (by decide) rfl ?_
                        refine qr_iadd 142 rfl rfl ?_
                        refine qr_iload_n 143 rfl rfl rfl ?_
                        refine qr_bipush 145 rfl (by decide) rfl ?_
                        refine qr_irem 146 rfl (by omega) (by omega) rfl ?_
                        refine qr_iastore 147 rfl (by decide) rfl (by omega) (by decide) rfl ?_
                        refine qy_wA (qw_r α33 87 (qzu (α33 87) ((192 + (σ 86 24)) : Int).toNat (x1 % 10))) rfl (fun α37 e38 => ?_)
                        have hI39 : qI σ α37 κ ρ := by rw [e38]; exact qI_r hI35 87 _ rfl (show (-2147483648) ≤ (x1 % 10) ∧ (x1 % 10) ≤ 2147483647 by omega)
                        have hF40 : qFr [(86, 24)] [87, 102, 103, 104, 105] σ α σ α37 := by rw [e38]; exact qFr_r hF36 87 _ (by decide)
                        refine qr_aload_n 148 rfl rfl rfl ?_
                        refine qr_get 151 rfl rfl rfl (by decide) rfl ?_
                        refine qr_bipush 153 rfl (by decide) rfl ?_
                        refine qr_iconst 154 rfl rfl ?_
                        refine qr_aload_n 155 rfl rfl rfl ?_
                        refine qr_get 158 rfl rfl rfl (by decide) rfl ?_
                        refine qr_imul 159 rfl rfl ?_
                        refine qr_iadd 160 rfl rfl ?_
                        refine qr_lload_n 161 rfl rfl rfl ?_
                        refine qr_ldc2 65535 164 rfl (by decide) rfl ?_
                        refine qr_land 165 rfl rfl ?_
                        refine qy_canl (fun v41 hv41 => ?_)
                        refine qr_l2i 166 rfl rfl ?_
                        refine qy_can (fun v42 hv42 => ?_)
                        refine qr_iastore 167 rfl (by decide) rfl (by omega) (by decide) rfl ?_
                        refine qy_wA (qw_r α37 87 (qzu (α37 87) ((72 + (2 * (σ 86 24))) : Int).toNat v42)) rfl (fun α43 e44 => ?_)
                        have hI45 : qI σ α43 κ ρ := by rw [e44]; exact qI_r hI39 87 _ rfl (show (-2147483648) ≤ v42 ∧ v42 ≤ 2147483647 by omega)
                        have hF46 : qFr [(86, 24)] [87, 102, 103, 104, 105] σ α σ α43 := by rw [e44]; exact qFr_r hF40 87 _ (by decide)
                        refine qr_aload_n 168 rfl rfl rfl ?_
                        refine qr_get 171 rfl rfl rfl (by decide) rfl ?_
                        refine qr_bipush 173 rfl (by decide) rfl ?_
                        refine qr_iconst 174 rfl rfl ?_
                        refine qr_aload_n 175 rfl rfl rfl ?_
                        refine qr_get 178 rfl rfl rfl (by decide) rfl ?_
                        refine qr_imul 179 rfl rfl ?_
                        refine qr_iadd 180 rfl rfl ?_
                        refine qr_iconst 181 rfl rfl ?_
                        refine qr_iadd 182 rfl rfl ?_
                        refine qr_lload_n 183 rfl rfl rfl ?_
                        refine qr_bipush 185 rfl (by decide) rfl ?_
                        refine qr_lshr 186 rfl rfl ?_
                        refine qy_canl (fun v47 hv47 => ?_)
                        refine qr_l2i 187 rfl rfl ?_
                        refine qy_can (fun v48 hv48 => ?_)
                        refine qr_iastore 188 rfl (by decide) rfl (by omega) (by decide) rfl ?_
                        refine qy_wA (qw_r α43 87 (qzu (α43 87) (((72 + (2 * (σ 86 24))) + 1) : Int).toNat v48)) rfl (fun α49 e50 => ?_)
                        have hI51 : qI σ α49 κ ρ := by rw [e50]; exact qI_r hI45 87 _ rfl (show (-2147483648) ≤ v48 ∧ v48 ≤ 2147483647 by omega)
                        have hF52 : qFr [(86, 24)] [87, 102, 103, 104, 105] σ α σ α49 := by rw [e50]; exact qFr_r hF46 87 _ (by decide)
                        refine qr_aload_n 189 rfl rfl rfl ?_
                        refine qr_get 192 rfl rfl rfl (by decide) rfl ?_
                        refine qr_aload_n 193 rfl rfl rfl ?_
                        as_aux_lemma =>
                          refine qr_get 196 rfl rfl rfl (by decide) rfl ?_
                          refine qr_iload 198 rfl rfl rfl ?_
                          refine qr_sipush 201 rfl (by decide) rfl ?_
                          refine qr_idiv 202 rfl (by omega) (by omega) rfl ?_
                          refine qr_iastore 203 rfl (by decide) rfl (by omega) (by decide) rfl ?_
                          refine qy_wA (qw_r α49 103 (qzu (α49 103) ((σ 86 24) : Int).toNat (x3 / 10000))) rfl (fun α53 e54 => ?_)
                          have hI55 : qI σ α53 κ ρ := by rw [e54]; exact qI_r hI51 103 _ rfl (show (-2147483648) ≤ (x3 / 10000) ∧ (x3 / 10000) ≤ 2147483647 by omega)
                          have hF56 : qFr [(86, 24)] [87, 102, 103, 104, 105] σ α σ α53 := by rw [e54]; exact qFr_r hF52 103 _ (by decide)
                          refine qr_aload_n 204 rfl rfl rfl ?_
                          refine qr_get 207 rfl rfl rfl (by decide) rfl ?_
                          refine qr_aload_n 208 rfl rfl rfl ?_
                          refine qr_get 211 rfl rfl rfl (by decide) rfl ?_
                          refine qr_iload 213 rfl rfl rfl ?_
                          refine qr_sipush 216 rfl (by decide) rfl ?_
                          refine qr_irem 217 rfl (by omega) (by omega) rfl ?_
                          refine qr_iastore 218 rfl (by decide) rfl (by omega) (by decide) rfl ?_
                          refine qy_wA (qw_r α53 104 (qzu (α53 104) ((σ 86 24) : Int).toNat (x3 % 10000))) rfl (fun α57 e58 => ?_)
                          have hI59 : qI σ α57 κ ρ := by rw [e58]; exact qI_r hI55 104 _ rfl (show (-2147483648) ≤ (x3 % 10000) ∧ (x3 % 10000) ≤ 2147483647 by omega)
                          have hF60 : qFr [(86, 24)] [87, 102, 103, 104, 105] σ α σ α57 := by rw [e58]; exact qFr_r hF56 104 _ (by decide)
                          refine qr_aload_n 219 rfl rfl rfl ?_
                          refine qr_get 222 rfl rfl rfl (by decide) rfl ?_
                          refine qr_aload_n 223 rfl rfl rfl ?_
                          refine qr_get 226 rfl rfl rfl (by decide) rfl ?_
                          refine qr_iload 228 rfl rfl rfl ?_
                          refine qr_iastore 229 rfl (by decide) rfl (by omega) (by decide) rfl ?_
                          refine qy_wA (qw_r α57 105 (qzu (α57 105) ((σ 86 24) : Int).toNat x4)) rfl (fun α61 e62 => ?_)
                          have hI63 : qI σ α61 κ ρ := by rw [e62]; exact qI_r hI59 105 _ rfl (show (-2147483648) ≤ x4 ∧ x4 ≤ 2147483647 by omega)
                          have hF64 : qFr [(86, 24)] [87, 102, 103, 104, 105] σ α σ α61 := by rw [e62]; exact qFr_r hF60 105 _ (by decide)
                          refine qr_aload_n 230 rfl rfl rfl ?_
                          refine qr_dup 231 rfl rfl rfl ?_
                          refine qr_get 234 rfl rfl rfl (by decide) rfl ?_
                          refine qr_iconst 235 rfl rfl ?_
                          refine qr_iadd 236 rfl rfl ?_
                          refine qr_put 239 rfl (by decide) rfl (Nat.le_of_ble_eq_true rfl) (Nat.le_of_ble_eq_true rfl) (Or.inl rfl) (qr_fitI rfl _) rfl ?_
                          refine qy_wS (qw_s σ 86 24 ((σ 86 24) + 1)) rfl (fun σ65 e66 => ?_)
                          have hI67 : qI σ65 α61 κ ρ := by rw [e66]; exact qI_s hI63 86 24 rfl (show 0 ≤ ((σ 86 24) + 1) ∧ ((σ 86 24) + 1) ≤ 60 by omega)
                          have hF68 : qFr [(86, 24)] [87, 102, 103, 104, 105] σ α σ65 α61 := by rw [e66]; exact qFr_s hF64 86 24 _ (by decide)
                          refine qr_aload_n 240 rfl rfl rfl ?_
                          refine qr_get 243 rfl rfl rfl (by decide) rfl ?_
                          refine qy_v ((σ 86 24) + 1) ((congrFun (congrFun e66 86) 24).trans rfl) ?_
                          refine qr_iconst 244 rfl rfl ?_
                          refine qr_isub 245 rfl rfl ?_
                          refine qr_retI rfl rfl (by decide) (by decide) ?_
                          exact ⟨_, _, rfl, hI67, hF68, (((σ 86 24) + 1) - 1), rfl, by omega⟩
                      · skip
                        refine qr_bipush 116 rfl (by decide) rfl ?_
                        refine qr_retI rfl rfl (by decide) (by decide) ?_
                        exact ⟨_, _, rfl, hI, hF0, (-3), rfl, by omega⟩

set_option maxHeartbeats 4000000 in
set_option maxRecDepth 20000 in
/-- OneRoofModel.kindOf -/
theorem sf_201_86 {L : Nat} {xs : Nat → Int} {vb : Bool} {d : Nat} {σ α : Nat → Nat → Int} {κ : Nat → Option Nat} {ρ : Nat} {x1 : Int} (hI : qI σ α κ ρ) (r1 : 0 ≤ x1 ∧ x1 ≤ 59) : qm_T (qe L xs vb) (d + 1) 201 [.ref 86, .int (qz x1)] (qw σ α κ ρ) (fun r w' => w' = qw σ α κ ρ ∧ ∃ v : Int, r = some (.int (qz v)) ∧ ((-2147483648) ≤ v ∧ v ≤ 2147483647)) := by
  refine qr_start (d := d + 0) qv_e201 (Nat.le_of_ble_eq_true rfl) ?_
  show qr_W (qe L xs vb) (d + 0) qx_e201 _ (0, [(0, .ref 86), (1, .int (qz x1))], [], _, 0, 0)
  refine qr_aload_n 1 rfl rfl rfl ?_
  refine qr_get 4 rfl rfl rfl (by decide) rfl ?_
  refine qr_sipush 7 rfl (by decide) rfl ?_
  refine qr_iload_n 8 rfl rfl rfl ?_
  refine qr_iadd 9 rfl rfl ?_
  refine qr_iaload 10 rfl rfl (by omega) (by decide) rfl ?_
  refine qr_topI (fun v1 hv1 => ?_)
  have hs2 : (-2147483648) ≤ v1 ∧ v1 ≤ 2147483647 := by rw [hv1]; exact hI.2.1 87 _ (show _ < 252 by omega)
  refine qr_retI rfl rfl (by decide) (by decide) ?_
  exact ⟨rfl, v1, rfl, by omega⟩

set_option maxHeartbeats 4000000 in
set_option maxRecDepth 20000 in
/-- OneRoofModel.covers -/
theorem sf_202_86 {L : Nat} {xs : Nat → Int} {vb : Bool} {d : Nat} {σ α : Nat → Nat → Int} {κ : Nat → Option Nat} {ρ : Nat} {x1 : Int} {x2 : Int} (hI : qI σ α κ ρ) (r1 : 0 ≤ x1 ∧ x1 ≤ 59) (r2 : 0 ≤ x2 ∧ x2 ≤ 31) : qm_T (qe L xs vb) (d + 1) 202 [.ref 86, .int (qz x1), .int (qz x2)] (qw σ α κ ρ) (fun r w' => w' = qw σ α κ ρ ∧ ∃ v : Int, r = some (.int (qz v)) ∧ (0 ≤ v ∧ v ≤ 1)) := by
  refine qr_start (d := d + 0) qv_e202 (Nat.le_of_ble_eq_true rfl) ?_
  show qr_W (qe L xs vb) (d + 0) qx_e202 _ (0, [(0, .ref 86), (1, .int (qz x1)), (2, .int (qz x2))], [], _, 0, 0)
  refine qr_aload_n 1 rfl rfl rfl ?_
  refine qr_get 4 rfl rfl rfl (by decide) rfl ?_
  refine qr_bipush 6 rfl (by decide) rfl ?_
  refine qr_iconst 7 rfl rfl ?_
  refine qr_iload_n 8 rfl rfl rfl ?_
  refine qr_imul 9 rfl rfl ?_
  refine qr_iadd 10 rfl rfl ?_
  refine qr_iload_n 11 rfl rfl rfl ?_
  refine qr_bipush 13 rfl (by decide) rfl ?_
  refine qr_idiv 14 rfl (by omega) (by omega) rfl ?_
  refine qr_iadd 15 rfl rfl ?_
  refine qr_iaload 16 rfl rfl (by omega) (by decide) rfl ?_
  refine qr_topI (fun v1 hv1 => ?_)
  have hs2 : (-2147483648) ≤ v1 ∧ v1 ≤ 2147483647 := by rw [hv1]; exact hI.2.1 87 _ (show _ < 252 by omega)
  refine qr_iload_n 17 rfl rfl rfl ?_
  refine qr_bipush 19 rfl (by decide) rfl ?_
  refine qr_irem 20 rfl (by omega) (by omega) rfl ?_
  refine qr_ishr 21 rfl rfl ?_
  refine qy_can (fun v3 hv3 => ?_)
  refine qr_iconst 22 rfl rfl ?_
  refine qr_iand 23 rfl rfl ?_
  refine qy_andr (by omega) (fun v4 hv4 => ?_)
  refine qr_iconst 24 rfl rfl ?_
  refine qr_icmp_ne 31 27 rfl rfl rfl (by omega) (by omega) (fun h5 => ?_) (fun h5 => ?_)
  · skip
    refine qr_iconst 32 rfl rfl ?_
    refine qr_retZ rfl rfl (by omega) (by decide) (by decide) ?_
    exact ⟨rfl, 0, rfl, by omega⟩
  · skip
    refine qr_iconst 28 rfl rfl ?_
    refine qr_goto 32 rfl rfl ?_
    refine qr_retZ rfl rfl (by omega) (by decide) (by decide) ?_
    exact ⟨rfl, 1, rfl, by omega⟩

set_option maxHeartbeats 4000000 in
set_option maxRecDepth 20000 in
/-- OneRoofModel.ofPeace -/
theorem sf_199_86 {L : Nat} {xs : Nat → Int} {vb : Bool} {d : Nat} {σ α : Nat → Nat → Int} {κ : Nat → Option Nat} {ρ : Nat} {x1 : Int} {x2 : Int} (hI : qI σ α κ ρ) (r1 : (-2147483648) ≤ x1 ∧ x1 ≤ 2147483647) (r2 : (-2147483648) ≤ x2 ∧ x2 ≤ 2147483647) : qm_T (qe L xs vb) (d + 3) 199 [.ref 86, .int (qz x1), .int (qz x2)] (qw σ α κ ρ) (fun r w' => w' = qw σ α κ ρ ∧ ∃ v : Int, r = some (.int (qz v)) ∧ ((-2147483648) ≤ v ∧ v ≤ 2147483647)) := by
  refine qr_start (d := d + 2) qv_e199 (Nat.le_of_ble_eq_true rfl) ?_
  show qr_W (qe L xs vb) (d + 2) qx_e199 _ (0, [(0, .ref 86), (1, .int (qz x1)), (2, .int (qz x2))], [], _, 0, 0)
  refine qr_aload_n 1 rfl rfl rfl ?_
  refine qr_iload_n 2 rfl rfl rfl ?_
  refine qr_callN 5 rfl rfl rfl (sf_200_86 (d := d + 0) hI (by omega)) ?_
  have hs3 : 0 ≤ σ 86 24 ∧ σ 86 24 ≤ 60 := hI.1 86 24
  rintro _ _ ⟨rfl, v1, rfl, hv1, hp2⟩
  show qr_W (qe L xs vb) (d + 2) qx_e199 _ (5, _, [.int (qz v1)], qw σ α κ ρ, 0, 0)
  refine qr_if_ne 10 8 rfl rfl rfl (by omega) (fun h4 => ?_) (fun h4 => ?_)
  · skip
    refine qr_iload_n 11 rfl rfl rfl ?_
    have h5 : x2 = 0 ∨ x2 = 1 ∨ x2 = 2 ∨ x2 = 3 ∨ x2 = 4 ∨ x2 = 5 ∨ (x2 < 0 ∨ 5 < x2) := by omega
    rcases h5 with h5 | h5 | h5 | h5 | h5 | h5 | h5
    · skip
      refine qr_tabIn 48 rfl (by omega) (by omega) (by rw [h5]; rfl) rfl ?_
      refine qr_aload_n 49 rfl rfl rfl ?_
      refine qr_iload_n 50 rfl rfl rfl ?_
      refine qr_callN 53 rfl rfl rfl (sf_201_86 (d := d + 1) hI (by omega)) ?_
      rintro _ _ ⟨rfl, v7, rfl, hv7⟩
      show qr_W (qe L xs vb) (d + 2) qx_e199 _ (53, _, [.int (qz v7)], qw σ α κ ρ, 0, 0)
      refine qr_retI rfl rfl (by decide) (by decide) ?_
      exact ⟨rfl, v7, rfl, by omega⟩
    · skip
      refine qr_tabIn 54 rfl (by omega) (by omega) (by rw [h5]; rfl) rfl ?_
      refine qr_aload_n 55 rfl rfl rfl ?_
      refine qr_get 58 rfl rfl rfl (by decide) rfl ?_
      refine qr_iload_n 59 rfl rfl rfl ?_
      refine qr_iaload 60 rfl rfl (by omega) (by decide) rfl ?_
      refine qr_topI (fun v8 hv8 => ?_)
      have hs9 : 0 ≤ v8 ∧ v8 ≤ 31 := by rw [hv8]; exact hI.2.1 102 _ (show _ < 60 by omega)
      refine qr_retI rfl rfl (by decide) (by decide) ?_
      exact ⟨rfl, v8, rfl, by omega⟩
    · skip
      refine qr_tabIn 61 rfl (by omega) (by omega) (by rw [h5]; rfl) rfl ?_
      refine qr_aload_n 62 rfl rfl rfl ?_
      refine qr_get 65 rfl rfl rfl (by decide) rfl ?_
      refine qr_iload_n 66 rfl rfl rfl ?_
      refine qr_iaload 67 rfl rfl (by omega) (by decide) rfl ?_
      refine qr_topI (fun v10 hv10 => ?_)
      have hs11 : (-2147483648) ≤ v10 ∧ v10 ≤ 2147483647 := by rw [hv10]; exact hI.2.1 103 _ (show _ < 60 by omega)
      refine qr_retI rfl rfl (by decide) (by decide) ?_
      exact ⟨rfl, v10, rfl, by omega⟩
    · skip
      refine qr_tabIn 68 rfl (by omega) (by omega) (by rw [h5]; rfl) rfl ?_
      refine qr_aload_n 69 rfl rfl rfl ?_
      refine qr_get 72 rfl rfl rfl (by decide) rfl ?_
      refine qr_iload_n 73 rfl rfl rfl ?_
      refine qr_iaload 74 rfl rfl (by omega) (by decide) rfl ?_
      refine qr_topI (fun v12 hv12 => ?_)
      have hs13 : (-2147483648) ≤ v12 ∧ v12 ≤ 2147483647 := by rw [hv12]; exact hI.2.1 104 _ (show _ < 60 by omega)
      refine qr_retI rfl rfl (by decide) (by decide) ?_
      exact ⟨rfl, v12, rfl, by omega⟩
    · skip
      refine qr_tabIn 75 rfl (by omega) (by omega) (by rw [h5]; rfl) rfl ?_
      refine qr_aload_n 76 rfl rfl rfl ?_
      refine qr_get 79 rfl rfl rfl (by decide) rfl ?_
      refine qr_iload_n 80 rfl rfl rfl ?_
      refine qr_iaload 81 rfl rfl (by omega) (by decide) rfl ?_
      refine qr_topI (fun v14 hv14 => ?_)
      have hs15 : (-2147483648) ≤ v14 ∧ v14 ≤ 2147483647 := by rw [hv14]; exact hI.2.1 105 _ (show _ < 60 by omega)
      refine qr_retI rfl rfl (by decide) (by decide) ?_
      exact ⟨rfl, v14, rfl, by omega⟩
    · skip
      refine qr_tabIn 82 rfl (by omega) (by omega) (by rw [h5]; rfl) rfl ?_
      refine qr_iconst 83 rfl rfl ?_
      refine qr_istore_n _ 84 rfl (by decide) rfl rfl ?_
      refine qr_iconst 85 rfl rfl ?_
      refine qr_istore _ 87 rfl (by decide) rfl rfl ?_
      have hL479 : ∀ (n : Nat) (ls : qm_L) (u474 u476 : Int), 32 - u476 < (n : Int) → qm_get ls 0 = some (.ref 86) → qm_get ls 1 = some (.int (qz x1)) → qm_get ls 3 = some (.int (qz u474)) → qm_get ls 4 = some (.int (qz u476)) → ((-2147483648) ≤ u474 ∧ u474 ≤ 2147483647) → (0 ≤ u476 ∧ u476 ≤ 32) → qr_W (qe L xs vb) (d + 2) qx_e199 (fun r w' => w' = qw σ α κ ρ ∧ ∃ v : Int, r = some (.int (qz v)) ∧ ((-2147483648) ≤ v ∧ v ≤ 2147483647)) (87, ls, [], qw σ α κ ρ, 0, 0) := by
        intro n
        induction n with
        | zero => intro ls u474 u476 hm g471 g472 g473 g475 hf477 hf478; exact False.elim (by omega)
        | succ n ih480 =>
          intro ls u474 u476 hm g471 g472 g473 g475 hf477 hf478
          refine qr_iload 89 rfl g475 rfl ?_
          refine qr_bipush 91 rfl (by decide) rfl ?_
          refine qr_icmp_ge 118 94 rfl rfl rfl (by omega) (by omega) (fun h481 => ?_) (fun h481 => ?_)
          · skip
            refine qr_iload_n 119 rfl g473 rfl ?_
            refine qr_retI rfl rfl (by decide) (by decide) ?_
            exact ⟨rfl, u474, rfl, by omega⟩
          · skip
            refine qr_iload_n 95 rfl g473 rfl ?_
            refine qr_aload_n 96 rfl g471 rfl ?_
            refine qr_iload_n 97 rfl g472 rfl ?_
            refine qr_iload 99 rfl g475 rfl ?_
            refine qr_callN 102 rfl rfl rfl (sf_202_86 (d := d + 1) hI (by omega) (by omega)) ?_
            rintro _ _ ⟨rfl, v482, rfl, hv482⟩
            show qr_W (qe L xs vb) (d + 2) qx_e199 _ (102, _, [.int (qz v482), .int (qz u474)], qw σ α κ ρ, 0, 0)
            have hJ488 : ∀ (ls : qm_L) (u486 : Int), qm_get ls 0 = some (.ref 86) → qm_get ls 1 = some (.int (qz x1)) → qm_get ls 4 = some (.int (qz u476)) → (0 ≤ u486 ∧ u486 ≤ 1) → qr_W (qe L xs vb) (d + 2) qx_e199 (fun r w' => w' = qw σ α κ ρ ∧ ∃ v : Int, r = some (.int (qz v)) ∧ ((-2147483648) ≤ v ∧ v ≤ 2147483647)) (110, ls, [.int (qz u486), .int (qz u474)], qw σ α κ ρ, 0, 0) := by
              intro ls u486 g483 g484 g485 hf487
              refine qr_iadd 111 rfl rfl ?_
              refine qy_can (fun v489 hv489 => ?_)
              refine qr_istore_n _ 112 rfl (by decide) rfl rfl ?_
              refine qr_iinc _ 115 rfl (qm_gk g485 (by decide) (Or.inl (by decide))) (by decide) rfl rfl ?_
              refine qr_goto 87 rfl rfl ?_
              exact ih480 _ v489 (u476 + 1) (by omega) (qm_gk (qm_gk g483 (by decide) (Or.inl (by decide))) (by decide) (Or.inl (by decide))) (qm_gk (qm_gk g484 (by decide) (Or.inl (by decide))) (by decide) (Or.inl (by decide))) (qm_gk (qm_ge _ _ _) (by decide) (Or.inr rfl)) (qm_ge _ _ _) (by omega) (by omega)
            refine qr_if_eq 109 105 rfl rfl rfl (by omega) (fun h490 => ?_) (fun h490 => ?_)
            · skip
              refine qr_iconst 110 rfl rfl ?_
              exact hJ488 _ 0 g471 g472 g475 (by omega)
            · skip
              refine qr_iconst 106 rfl rfl ?_
              refine qr_goto 110 rfl rfl ?_
              exact hJ488 _ 1 g471 g472 g475 (by omega)
      exact hL479 ((32 - 0 + 1 : Int)).toNat _ 0 0 (by omega) rfl rfl rfl rfl (by omega) (by omega)
    · skip
      refine qr_tabOut 120 rfl (by omega) (by omega) rfl ?_
      refine qr_iconst 121 rfl rfl ?_
      refine qr_retI rfl rfl (by decide) (by decide) ?_
      exact ⟨rfl, (-1), rfl, by omega⟩
  · skip
    refine qr_iconst 9 rfl rfl ?_
    refine qr_retI rfl rfl (by decide) (by decide) ?_
    exact ⟨rfl, (-1), rfl, by omega⟩

set_option maxHeartbeats 4000000 in
set_option maxRecDepth 20000 in
/-- OneRoofModel.cover -/
theorem sf_203_86 {L : Nat} {xs : Nat → Int} {vb : Bool} {d : Nat} {σ α : Nat → Nat → Int} {κ : Nat → Option Nat} {ρ : Nat} {x1 : Int} {x2 : Int} {x3 : Int} (hI : qI σ α κ ρ) (r1 : (-2147483648) ≤ x1 ∧ x1 ≤ 2147483647) (r2 : (-2147483648) ≤ x2 ∧ x2 ≤ 2147483647) (r3 : (-2147483648) ≤ x3 ∧ x3 ≤ 2147483647) : qm_T (qe L xs vb) (d + 3) 203 [.ref 86, .int (qz x1), .int (qz x2), .int (qz x3)] (qw σ α κ ρ) (fun r w' => ∃ σ' α', w' = qw σ' α' κ ρ ∧ qI σ' α' κ ρ ∧ qFr [(86, 4), (86, 5)] [87, 88, 89, 90] σ α σ' α' ∧ ∃ v : Int, r = some (.int (qz v)) ∧ ((-2147483648) ≤ v ∧ v ≤ 2147483647)) := by
  refine qr_start (d := d + 2) qv_e203 (Nat.le_of_ble_eq_true rfl) ?_
  show qr_W (qe L xs vb) (d + 2) qx_e203 _ (0, [(0, .ref 86), (1, .int (qz x1)), (2, .int (qz x2)), (3, .int (qz x3))], [], _, 0, 0)
  have hF0 := qFr_rf [(86, 4), (86, 5)] [87, 88, 89, 90] σ α
  refine qr_aload_n 1 rfl rfl rfl ?_
  refine qr_iload_n 2 rfl rfl rfl ?_
  refine qr_callN 5 rfl rfl rfl (sf_200_86 (d := d + 0) hI (by omega)) ?_
  have hs3 : 0 ≤ σ 86 24 ∧ σ 86 24 ≤ 60 := hI.1 86 24
  rintro _ _ ⟨rfl, v1, rfl, hv1, hp2⟩
  show qr_W (qe L xs vb) (d + 2) qx_e203 _ (5, _, [.int (qz v1)], qw σ α κ ρ, 0, 0)
  refine qr_if_eq 26 8 rfl rfl rfl (by omega) (fun h4 => ?_) (fun h4 => ?_)
  · skip
    refine qr_iconst 27 rfl rfl ?_
    refine qr_retI rfl rfl (by decide) (by decide) ?_
    exact ⟨_, _, rfl, hI, hF0, (-1), rfl, by omega⟩
  · skip
    refine qr_aload_n 9 rfl rfl rfl ?_
    refine qr_iload_n 10 rfl rfl rfl ?_
    refine qr_callN 13 rfl rfl rfl (sf_180_86 (d := d + 0) hI (by omega)) ?_
    have hs7 : 0 ≤ σ 86 6 ∧ σ 86 6 ≤ 32 := hI.1 86 6
    rintro _ _ ⟨rfl, v5, rfl, hv5, hp6⟩
    show qr_W (qe L xs vb) (d + 2) qx_e203 _ (13, _, [.int (qz v5)], qw σ α κ ρ, 0, 0)
    refine qr_if_eq 26 16 rfl rfl rfl (by omega) (fun h8 => ?_) (fun h8 => ?_)
    · skip
      refine qr_iconst 27 rfl rfl ?_
      refine qr_retI rfl rfl (by decide) (by decide) ?_
      exact ⟨_, _, rfl, hI, hF0, (-1), rfl, by omega⟩
    · skip
      refine qr_iload_n 17 rfl rfl rfl ?_
      refine qr_i2l 18 rfl (by omega) rfl ?_
      refine qr_lconst 19 rfl rfl ?_
      refine qy_vl 0 rfl ?_
      refine qr_lconst 20 rfl rfl ?_
      refine qy_vl 1 rfl ?_
      refine qr_callN 23 rfl rfl rfl (sf_176 (d := d + 1) hI (by omega) (by omega) (by omega)) ?_
      rintro _ _ ⟨rfl, v9, rfl, hv9, hp10⟩
      show qr_W (qe L xs vb) (d + 2) qx_e203 _ (23, _, [.int (qz v9)], qw σ α κ ρ, 0, 0)
      refine qr_if_ne 28 26 rfl rfl rfl (by omega) (fun h11 => ?_) (fun h11 => ?_)
      · skip
        refine qr_aload_n 29 rfl rfl rfl ?_
        refine qr_iload_n 30 rfl rfl rfl ?_
        refine qr_iload_n 31 rfl rfl rfl ?_
        refine qr_callN 34 rfl rfl rfl (sf_202_86 (d := d + 1) hI (by omega) (by omega)) ?_
        rintro _ _ ⟨rfl, v12, rfl, hv12⟩
        show qr_W (qe L xs vb) (d + 2) qx_e203 _ (34, _, [.int (qz v12)], qw σ α κ ρ, 0, 0)
        have hJ19 : ∀ (ls : qm_L) (u17 : Int), qm_get ls 0 = some (.ref 86) → qm_get ls 1 = some (.int (qz x1)) → qm_get ls 2 = some (.int (qz x2)) → qm_get ls 3 = some (.int (qz x3)) → (0 ≤ u17 ∧ u17 ≤ 1) → qr_W (qe L xs vb) (d + 2) qx_e203 (fun r w' => ∃ σ' α', w' = qw σ' α' κ ρ ∧ qI σ' α' κ ρ ∧ qFr [(86, 4), (86, 5)] [87, 88, 89, 90] σ α σ' α' ∧ ∃ v : Int, r = some (.int (qz v)) ∧ ((-2147483648) ≤ v ∧ v ≤ 2147483647)) (42, ls, [.int (qz u17)], qw σ α κ ρ, 0, 0) := by
          intro ls u17 g13 g14 g15 g16 hf18
          refine qr_istore _ 44 rfl (by decide) rfl rfl ?_
          refine qr_bipush 46 rfl (by decide) rfl ?_
          refine qr_iconst 47 rfl rfl ?_
          refine qr_iload_n 48 rfl (qm_gk g14 (by decide) (Or.inl (by decide))) rfl ?_
          refine qr_imul 49 rfl rfl ?_
          refine qr_iadd 50 rfl rfl ?_
          refine qr_iload_n 51 rfl (qm_gk g15 (by decide) (Or.inl (by decide))) rfl ?_
          refine qr_bipush 53 rfl (by decide) rfl ?_
          refine qr_idiv 54 rfl (by omega) (by omega) rfl ?_
          refine qr_iadd 55 rfl rfl ?_
          refine qr_istore _ 57 rfl (by decide) rfl rfl ?_
          refine qr_iload_n 58 rfl (qm_gk (qm_gk g16 (by decide) (Or.inr rfl)) (by decide) (Or.inl (by decide))) rfl ?_
          refine qr_iconst 59 rfl rfl ?_
          have hJ34 : ∀ (ls : qm_L) (u32 : Int), qm_get ls 0 = some (.ref 86) → qm_get ls 4 = some (.int (qz u17)) → qm_get ls 5 = some (.int (qz ((72 + (2 * x1)) + (x2 / 16)))) → ((-2147483648) ≤ u32 ∧ u32 ≤ 2147483647) → qr_W (qe L xs vb) (d + 2) qx_e203 (fun r w' => ∃ σ' α', w' = qw σ' α' κ ρ ∧ qI σ' α' κ ρ ∧ qFr [(86, 4), (86, 5)] [87, 88, 89, 90] σ α σ' α' ∧ ∃ v : Int, r = some (.int (qz v)) ∧ ((-2147483648) ≤ v ∧ v ≤ 2147483647)) (95, ls, [.int (qz u32)], qw σ α κ ρ, 0, 0) := by
            intro ls u32 g29 g30 g31 hf33
            refine qr_istore _ 97 rfl (by decide) rfl rfl ?_
            refine qr_aload_n 98 rfl (qm_gk g29 (by decide) (Or.inl (by decide))) rfl ?_
            refine qr_iload 100 rfl (qm_gk g31 (by decide) (Or.inr rfl)) rfl ?_
            refine qr_iload 102 rfl (qm_ge _ _ _) rfl ?_
            refine qr_callN 105 rfl rfl rfl (sf_183_86 (d := d + 1) hI (by omega) (by omega)) ?_
            rintro _ _ ⟨σ36, α37, rfl, hI38, hG39, v35, rfl, hv35⟩
            have hF40 : qFr [(86, 4), (86, 5)] [87, 88, 89, 90] σ α σ36 α37 := qFr_t hF0 hG39 (by decide) (by decide)
            show qr_W (qe L xs vb) (d + 2) qx_e203 _ (105, _, [.int (qz v35)], qw σ36 α37 κ ρ, 0, 0)
            refine qr_istore _ 107 rfl (by decide) rfl rfl ?_
            refine qr_iload 109 rfl (qm_gk (qm_gk g30 (by decide) (Or.inl (by decide))) (by decide) (Or.inl (by decide))) rfl ?_
            refine qr_retI rfl rfl (by decide) (by decide) ?_
            exact ⟨_, _, rfl, hI38, hF40, u17, rfl, by omega⟩
          refine qr_icmp_ne 79 62 rfl rfl rfl (by omega) (by omega) (fun h41 => ?_) (fun h41 => ?_)
          · skip
            refine qr_aload_n 80 rfl (qm_gk (qm_gk g13 (by decide) (Or.inl (by decide))) (by decide) (Or.inl (by decide))) rfl ?_
            refine qr_get 83 rfl rfl rfl (by decide) rfl ?_
            refine qr_iload 85 rfl (qm_ge _ _ _) rfl ?_
            refine qr_iaload 86 rfl rfl (by omega) (by decide) rfl ?_
            refine qr_topI (fun v42 hv42 => ?_)
            have hs43 : (-2147483648) ≤ v42 ∧ v42 ≤ 2147483647 := by rw [hv42]; exact hI.2.1 87 _ (show _ < 252 by omega)
            refine qr_iconst 87 rfl rfl ?_
            refine qr_iload_n 88 rfl (qm_gk (qm_gk g15 (by decide) (Or.inl (by decide))) (by decide) (Or.inl (by decide))) rfl ?_
            refine qr_bipush 90 rfl (by decide) rfl ?_
            refine qr_irem 91 rfl (by omega) (by omega) rfl ?_
            refine qr_ishl 92 rfl rfl ?_
            refine qy_can (fun v44 hv44 => ?_)
            refine qr_iconst 93 rfl rfl ?_
            refine qr_ixor 94 rfl rfl ?_
            refine qy_can (fun v45 hv45 => ?_)
            refine qr_iand 95 rfl rfl ?_
            refine qy_can (fun v46 hv46 => ?_)
            exact hJ34 _ v46 (qm_gk (qm_gk g13 (by decide) (Or.inl (by decide))) (by decide) (Or.inl (by decide))) (qm_gk (qm_ge _ _ _) (by decide) (Or.inr rfl)) (qm_ge _ _ _) (by omega)
          · skip
            refine qr_aload_n 63 rfl (qm_gk (qm_gk g13 (by decide) (Or.inl (by decide))) (by decide) (Or.inl (by decide))) rfl ?_
            refine qr_get 66 rfl rfl rfl (by decide) rfl ?_
            refine qr_iload 68 rfl (qm_ge _ _ _) rfl ?_
            refine qr_iaload 69 rfl rfl (by omega) (by decide) rfl ?_
            refine qr_topI (fun v47 hv47 => ?_)
            have hs48 : (-2147483648) ≤ v47 ∧ v47 ≤ 2147483647 := by rw [hv47]; exact hI.2.1 87 _ (show _ < 252 by omega)
            refine qr_iconst 70 rfl rfl ?_
            refine qr_iload_n 71 rfl (qm_gk (qm_gk g15 (by decide) (Or.inl (by decide))) (by decide) (Or.inl (by decide))) rfl ?_
            refine qr_bipush 73 rfl (by decide) rfl ?_
            refine qr_irem 74 rfl (by omega) (by omega) rfl ?_
            refine qr_ishl 75 rfl rfl ?_
            refine qy_can (fun v49 hv49 => ?_)
            refine qr_ior 76 rfl rfl ?_
            refine qy_can (fun v50 hv50 => ?_)
            refine qr_goto 95 rfl rfl ?_
            exact hJ34 _ v50 (qm_gk (qm_gk g13 (by decide) (Or.inl (by decide))) (by decide) (Or.inl (by decide))) (qm_gk (qm_ge _ _ _) (by decide) (Or.inr rfl)) (qm_ge _ _ _) (by omega)
        refine qr_if_eq 41 37 rfl rfl rfl (by omega) (fun h51 => ?_) (fun h51 => ?_)
        · skip
          refine qr_iconst 42 rfl rfl ?_
          exact hJ19 _ 0 rfl rfl rfl rfl (by omega)
        · skip
          refine qr_iconst 38 rfl rfl ?_
          refine qr_goto 42 rfl rfl ?_
          exact hJ19 _ 1 rfl rfl rfl rfl (by omega)
      · skip
        refine qr_iconst 27 rfl rfl ?_
        refine qr_retI rfl rfl (by decide) (by decide) ?_
        exact ⟨_, _, rfl, hI, hF0, (-1), rfl, by omega⟩

set_option maxHeartbeats 4000000 in
set_option maxRecDepth 20000 in
/-- OneRoofModel.road -/
theorem sf_241_86 {L : Nat} {xs : Nat → Int} {vb : Bool} {d : Nat} {σ α : Nat → Nat → Int} {κ : Nat → Option Nat} {ρ : Nat} {x1 : Int} {x2 : Int} (hI : qI σ α κ ρ) (r1 : (-2147483648) ≤ x1 ∧ x1 ≤ 2147483647) (r2 : (-2147483648) ≤ x2 ∧ x2 ≤ 2147483647) : qm_T (qe L xs vb) (d + 3) 241 [.ref 86, .int (qz x1), .int (qz x2)] (qw σ α κ ρ) (fun r w' => ∃ α', w' = qw σ α' κ ρ ∧ qI σ α' κ ρ ∧ qFr [] [93] σ α σ α' ∧ ∃ v : Int, r = some (.int (qz v)) ∧ ((-2147483648) ≤ v ∧ v ≤ 2147483647)) := by
  refine qr_start (d := d + 2) qv_e241 (Nat.le_of_ble_eq_true rfl) ?_
  show qr_W (qe L xs vb) (d + 2) qx_e241 _ (0, [(0, .ref 86), (1, .int (qz x1)), (2, .int (qz x2))], [], _, 0, 0)
  have hF0 := qFr_rf [] [93] σ α
  refine qr_aload_n 1 rfl rfl rfl ?_
  refine qr_iload_n 2 rfl rfl rfl ?_
  refine qr_callN 5 rfl rfl rfl (sf_180_86 (d := d + 0) hI (by omega)) ?_
  have hs3 : 0 ≤ σ 86 6 ∧ σ 86 6 ≤ 32 := hI.1 86 6
  rintro _ _ ⟨rfl, v1, rfl, hv1, hp2⟩
  show qr_W (qe L xs vb) (d + 2) qx_e241 _ (5, _, [.int (qz v1)], qw σ α κ ρ, 0, 0)
  refine qr_if_eq 20 8 rfl rfl rfl (by omega) (fun h4 => ?_) (fun h4 => ?_)
  · skip
    refine qr_iconst 21 rfl rfl ?_
    refine qr_retI rfl rfl (by decide) (by decide) ?_
    exact ⟨_, rfl, hI, hF0, (-1), rfl, by omega⟩
  · skip
    refine qr_iload_n 9 rfl rfl rfl ?_
    refine qr_i2l 10 rfl (by omega) rfl ?_
    refine qr_lconst 11 rfl rfl ?_
    refine qy_vl 0 rfl ?_
    refine qr_ldc2 3 14 rfl (by decide) rfl ?_
    refine qr_callN 17 rfl rfl rfl (sf_176 (d := d + 1) hI (by omega) (by omega) (by omega)) ?_
    rintro _ _ ⟨rfl, v5, rfl, hv5, hp6⟩
    show qr_W (qe L xs vb) (d + 2) qx_e241 _ (17, _, [.int (qz v5)], qw σ α κ ρ, 0, 0)
    refine qr_if_ne 22 20 rfl rfl rfl (by omega) (fun h7 => ?_) (fun h7 => ?_)
    · skip
      refine qr_aload_n 23 rfl rfl rfl ?_
      refine qr_get 26 rfl rfl rfl (by decide) rfl ?_
      refine qr_iload_n 27 rfl rfl rfl ?_
      refine qr_iaload 28 rfl rfl (by omega) (by decide) rfl ?_
      refine qr_topI (fun v8 hv8 => ?_)
      have hs9 : (-2147483648) ≤ v8 ∧ v8 ≤ 2147483647 := by rw [hv8]; exact hI.2.1 93 _ (show _ < 32 by omega)
      refine qr_istore_n _ 29 rfl (by decide) rfl rfl ?_
      refine qr_aload_n 30 rfl rfl rfl ?_
      refine qr_get 33 rfl rfl rfl (by decide) rfl ?_
      refine qr_iload_n 34 rfl rfl rfl ?_
      refine qr_iload_n 35 rfl rfl rfl ?_
      refine qr_iastore 36 rfl (by decide) rfl (by omega) (by decide) rfl ?_
      refine qy_wA (qw_r α 93 (qzu (α 93) (x1 : Int).toNat x2)) rfl (fun α10 e11 => ?_)
      have hI12 : qI σ α10 κ ρ := by rw [e11]; exact qI_r hI 93 _ rfl (show (-2147483648) ≤ x2 ∧ x2 ≤ 2147483647 by omega)
      have hF13 : qFr [] [93] σ α σ α10 := by rw [e11]; exact qFr_r hF0 93 _ (by decide)
      refine qr_iload_n 37 rfl rfl rfl ?_
      refine qr_retI rfl rfl (by decide) (by decide) ?_
      exact ⟨_, rfl, hI12, hF13, v8, rfl, by omega⟩
    · skip
      refine qr_iconst 21 rfl rfl ?_
      refine qr_retI rfl rfl (by decide) (by decide) ?_
      exact ⟨_, rfl, hI, hF0, (-1), rfl, by omega⟩

set_option maxHeartbeats 4000000 in
set_option maxRecDepth 20000 in
/-- OneRoofModel.isSet -/
theorem sf_225_86 {L : Nat} {xs : Nat → Int} {vb : Bool} {d : Nat} {σ α : Nat → Nat → Int} {κ : Nat → Option Nat} {ρ : Nat} {x1 : Int} (hI : qI σ α κ ρ) (r1 : (-9223372036854775808) ≤ x1 ∧ x1 ≤ 9223372036854775807) : qm_T (qe L xs vb) (d + 1) 225 [.ref 86, .long (ql x1)] (qw σ α κ ρ) (fun r w' => w' = qw σ α κ ρ ∧ ∃ v : Int, r = some (.int (qz v)) ∧ (0 ≤ v ∧ v ≤ 1)) := by
  refine qr_start (d := d + 0) qv_e225 (Nat.le_of_ble_eq_true rfl) ?_
  show qr_W (qe L xs vb) (d + 0) qx_e225 _ (0, [(0, .ref 86), (1, .long (ql x1))], [], _, 0, 0)
  refine qr_lload_n 1 rfl rfl rfl ?_
  refine qr_lconst 2 rfl rfl ?_
  refine qy_vl 0 rfl ?_
  refine qr_lc_lt 21 6 rfl rfl rfl rfl (by omega) (by omega) (fun h1 => ?_) (fun h1 => ?_)
  · skip
    refine qr_iconst 22 rfl rfl ?_
    refine qr_retZ rfl rfl (by omega) (by decide) (by decide) ?_
    exact ⟨rfl, 0, rfl, by omega⟩
  · skip
    refine qr_lload_n 7 rfl rfl rfl ?_
    refine qr_aload_n 8 rfl rfl rfl ?_
    refine qr_get 11 rfl rfl rfl (by decide) rfl ?_
    have hs2 : 0 ≤ σ 86 6 ∧ σ 86 6 ≤ 32 := hI.1 86 6
    refine qr_lshr 12 rfl rfl ?_
    refine qy_canl (fun v3 hv3 => ?_)
    refine qr_lconst 13 rfl rfl ?_
    refine qy_vl 0 rfl ?_
    refine qr_lc_ne 21 17 rfl rfl rfl rfl (by omega) (by omega) (fun h4 => ?_) (fun h4 => ?_)
    · skip
      refine qr_iconst 22 rfl rfl ?_
      refine qr_retZ rfl rfl (by omega) (by decide) (by decide) ?_
      exact ⟨rfl, 0, rfl, by omega⟩
    · skip
      refine qr_iconst 18 rfl rfl ?_
      refine qr_goto 22 rfl rfl ?_
      refine qr_retZ rfl rfl (by omega) (by decide) (by decide) ?_
      exact ⟨rfl, 1, rfl, by omega⟩

set_option maxHeartbeats 4000000 in
set_option maxRecDepth 20000 in
/-- OneRoofModel.has -/
theorem sf_226 {L : Nat} {xs : Nat → Int} {vb : Bool} {d : Nat} {σ α : Nat → Nat → Int} {κ : Nat → Option Nat} {ρ : Nat} {x0 : Int} {x1 : Int} (hI : qI σ α κ ρ) (r0 : (-9223372036854775808) ≤ x0 ∧ x0 ≤ 9223372036854775807) (r1 : (-2147483648) ≤ x1 ∧ x1 ≤ 2147483647) : qm_T (qe L xs vb) (d + 1) 226 [.long (ql x0), .int (qz x1)] (qw σ α κ ρ) (fun r w' => w' = qw σ α κ ρ ∧ ∃ v : Int, r = some (.int (qz v)) ∧ (0 ≤ v ∧ v ≤ 1)) := by
  refine qr_start (d := d + 0) qv_e226 (Nat.le_of_ble_eq_true rfl) ?_
  show qr_W (qe L xs vb) (d + 0) qx_e226 _ (0, [(0, .long (ql x0)), (2, .int (qz x1))], [], _, 0, 0)
  refine qr_lload_n 1 rfl rfl rfl ?_
  refine qr_iload_n 2 rfl rfl rfl ?_
  refine qr_lshr 3 rfl rfl ?_
  refine qy_canl (fun v1 hv1 => ?_)
  refine qr_lconst 4 rfl rfl ?_
  refine qy_vl 1 rfl ?_
  refine qr_land 5 rfl rfl ?_
  refine qy_canl (fun v2 hv2 => ?_)
  refine qr_lconst 6 rfl rfl ?_
  refine qy_vl 1 rfl ?_
  refine qr_lc_ne 14 10 rfl rfl rfl rfl (by omega) (by omega) (fun h3 => ?_) (fun h3 => ?_)
  · skip
    refine qr_iconst 15 rfl rfl ?_
    refine qr_retZ rfl rfl (by omega) (by decide) (by decide) ?_
    exact ⟨rfl, 0, rfl, by omega⟩
  · skip
    refine qr_iconst 11 rfl rfl ?_
    refine qr_goto 15 rfl rfl ?_
    refine qr_retZ rfl rfl (by omega) (by decide) (by decide) ?_
    exact ⟨rfl, 1, rfl, by omega⟩

set_option maxHeartbeats 4000000 in
set_option maxRecDepth 20000 in
/-- OneRoofModel.byteAt -/
theorem sf_220_86 {L : Nat} {xs : Nat → Int} {vb : Bool} {d : Nat} {σ α : Nat → Nat → Int} {κ : Nat → Option Nat} {ρ : Nat}  (hI : qI σ α κ ρ)  : qm_T (qe L xs vb) (d + 1) 220 [.ref 86] (qw σ α κ ρ) (fun r w' => w' = qw σ α κ ρ ∧ ∃ v : Int, r = some (.int (qz v)) ∧ ((-2147483648) ≤ v ∧ v ≤ 2147483647) ∧ (v = 0 ∨ σ 86 36 < σ 86 37)) := by
  refine qr_start (d := d + 0) qv_e220 (Nat.le_of_ble_eq_true rfl) ?_
  show qr_W (qe L xs vb) (d + 0) qx_e220 _ (0, [(0, .ref 86)], [], _, 0, 0)
  have hz86_36 : 0 ≤ σ 86 36 ∧ σ 86 36 ≤ 120 := hI.1 86 36
  have hz86_37 : 0 ≤ σ 86 37 ∧ σ 86 37 ≤ 120 := hI.1 86 37
  refine qr_aload_n 1 rfl rfl rfl ?_
  refine qr_get 4 rfl rfl rfl (by decide) rfl ?_
  refine qr_aload_n 5 rfl rfl rfl ?_
  refine qr_get 8 rfl rfl rfl (by decide) rfl ?_
  refine qr_icmp_ge 47 11 rfl rfl rfl (by omega) (by omega) (fun h1 => ?_) (fun h1 => ?_)
  · skip
    refine qr_iconst 48 rfl rfl ?_
    refine qr_retI rfl rfl (by decide) (by decide) ?_
    exact ⟨rfl, 0, rfl, by omega, by omega⟩
  · skip
    refine qr_aload_n 12 rfl rfl rfl ?_
    refine qr_get 15 rfl rfl rfl (by decide) rfl ?_
    have hs2 : (-1) ≤ σ 86 35 ∧ σ 86 35 ≤ 120 := hI.1 86 35
    refine qr_if_ge 30 18 rfl rfl rfl (by omega) (fun h3 => ?_) (fun h3 => ?_)
    · skip
      refine qr_aload_n 31 rfl rfl rfl ?_
      refine qr_get 34 rfl rfl rfl (by decide) rfl ?_
      refine qr_aload_n 35 rfl rfl rfl ?_
      refine qr_get 38 rfl rfl rfl (by decide) rfl ?_
      refine qr_aload_n 39 rfl rfl rfl ?_
      refine qr_get 42 rfl rfl rfl (by decide) rfl ?_
      refine qr_iadd 43 rfl rfl ?_
      refine qr_iaload 44 rfl rfl (by omega) (by decide) rfl ?_
      refine qr_topI (fun v4 hv4 => ?_)
      have hs5 : (-2147483648) ≤ v4 ∧ v4 ≤ 2147483647 := by rw [hv4]; exact hI.2.1 107 _ (show _ < 240 by omega)
      refine qr_goto 48 rfl rfl ?_
      refine qr_retI rfl rfl (by decide) (by decide) ?_
      exact ⟨rfl, v4, rfl, by omega, by omega⟩
    · skip
      refine qr_aload_n 19 rfl rfl rfl ?_
      refine qr_get 22 rfl rfl rfl (by decide) rfl ?_
      refine qr_aload_n 23 rfl rfl rfl ?_
      refine qr_get 26 rfl rfl rfl (by decide) rfl ?_
      refine qr_iaload 27 rfl rfl (by omega) (by decide) rfl ?_
      refine qr_topI (fun v6 hv6 => ?_)
      have hs7 : (-2147483648) ≤ v6 ∧ v6 ≤ 2147483647 := by rw [hv6]; exact hI.2.1 106 _ (show _ < 120 by omega)
      refine qr_goto 48 rfl rfl ?_
      refine qr_retI rfl rfl (by decide) (by decide) ?_
      exact ⟨rfl, v6, rfl, by omega, by omega⟩

set_option maxHeartbeats 4000000 in
set_option maxRecDepth 20000 in
/-- OneRoofModel.wrong -/
theorem sf_221_86 {L : Nat} {xs : Nat → Int} {vb : Bool} {d : Nat} {σ α : Nat → Nat → Int} {κ : Nat → Option Nat} {ρ : Nat}  (hI : qI σ α κ ρ)  : qm_T (qe L xs vb) (d + 1) 221 [.ref 86] (qw σ α κ ρ) (fun r w' => ∃ σ', w' = qw σ' α κ ρ ∧ qI σ' α κ ρ ∧ qFr [(86, 38)] [] σ α σ' α ∧ ∃ v : Int, r = some (.int (qz v)) ∧ (0 ≤ v ∧ v ≤ 0)) := by
  refine qr_start (d := d + 0) qv_e221 (Nat.le_of_ble_eq_true rfl) ?_
  show qr_W (qe L xs vb) (d + 0) qx_e221 _ (0, [(0, .ref 86)], [], _, 0, 0)
  have hF0 := qFr_rf [(86, 38)] [] σ α
  refine qr_aload_n 1 rfl rfl rfl ?_
  refine qr_aload_n 2 rfl rfl rfl ?_
  refine qr_get 5 rfl rfl rfl (by decide) rfl ?_
  have hs1 : (-1) ≤ σ 86 38 ∧ σ 86 38 ≤ 120 := hI.1 86 38
  refine qr_if_ge 15 8 rfl rfl rfl (by omega) (fun h2 => ?_) (fun h2 => ?_)
  · skip
    refine qr_aload_n 16 rfl rfl rfl ?_
    refine qr_get 19 rfl rfl rfl (by decide) rfl ?_
    refine qr_put 22 rfl (by decide) rfl (Nat.le_of_ble_eq_true rfl) (Nat.le_of_ble_eq_true rfl) (Or.inl rfl) (qr_fitI rfl _) rfl ?_
    refine qy_wS (qw_s σ 86 38 (σ 86 38)) rfl (fun σ3 e4 => ?_)
    have hI5 : qI σ3 α κ ρ := by rw [e4]; exact qI_s hI 86 38 rfl (show (-1) ≤ (σ 86 38) ∧ (σ 86 38) ≤ 120 by omega)
    have hF6 : qFr [(86, 38)] [] σ α σ3 α := by rw [e4]; exact qFr_s hF0 86 38 _ (by decide)
    refine qr_iconst 23 rfl rfl ?_
    refine qr_retI rfl rfl (by decide) (by decide) ?_
    exact ⟨_, rfl, hI5, hF6, 0, rfl, by omega⟩
  · skip
    refine qr_aload_n 9 rfl rfl rfl ?_
    refine qr_get 12 rfl rfl rfl (by decide) rfl ?_
    have hs7 : 0 ≤ σ 86 36 ∧ σ 86 36 ≤ 120 := hI.1 86 36
    refine qr_goto 19 rfl rfl ?_
    refine qr_put 22 rfl (by decide) rfl (Nat.le_of_ble_eq_true rfl) (Nat.le_of_ble_eq_true rfl) (Or.inl rfl) (qr_fitI rfl _) rfl ?_
    refine qy_wS (qw_s σ 86 38 (σ 86 36)) rfl (fun σ8 e9 => ?_)
    have hI10 : qI σ8 α κ ρ := by rw [e9]; exact qI_s hI 86 38 rfl (show (-1) ≤ (σ 86 36) ∧ (σ 86 36) ≤ 120 by omega)
    have hF11 : qFr [(86, 38)] [] σ α σ8 α := by rw [e9]; exact qFr_s hF0 86 38 _ (by decide)
    refine qr_iconst 23 rfl rfl ?_
    refine qr_retI rfl rfl (by decide) (by decide) ?_
    exact ⟨_, rfl, hI10, hF11, 0, rfl, by omega⟩

set_option maxHeartbeats 4000000 in
set_option maxRecDepth 20000 in
/-- OneRoofModel.peopleOf -/
theorem sf_237_86 {L : Nat} {xs : Nat → Int} {vb : Bool} {d : Nat} {σ α : Nat → Nat → Int} {κ : Nat → Option Nat} {ρ : Nat} {x1 : Int} (hI : qI σ α κ ρ) (r1 : (-2147483648) ≤ x1 ∧ x1 ≤ 2147483647) : qm_T (qe L xs vb) (d + 1) 237 [.ref 86, .int (qz x1)] (qw σ α κ ρ) (fun r w' => w' = qw σ α κ ρ ∧ ∃ v : Int, r = some (.long (ql v)) ∧ ((-9223372036854775808) ≤ v ∧ v ≤ 9223372036854775807)) := by
  refine qr_start (d := d + 0) qv_e237 (Nat.le_of_ble_eq_true rfl) ?_
  show qr_W (qe L xs vb) (d + 0) qx_e237 _ (0, [(0, .ref 86), (1, .int (qz x1))], [], _, 0, 0)
  refine qr_lconst 1 rfl rfl ?_
  refine qy_vl 0 rfl ?_
  refine qr_lstore_n _ 2 rfl (by decide) rfl rfl ?_
  refine qr_iconst 3 rfl rfl ?_
  refine qr_istore _ 5 rfl (by decide) rfl rfl ?_
  have hL279 : ∀ (n : Nat) (ls : qm_L) (u274 u276 : Int), 32 - u276 < (n : Int) → qm_get ls 0 = some (.ref 86) → qm_get ls 1 = some (.int (qz x1)) → qm_get ls 2 = some (.long (ql u274)) → qm_get ls 4 = some (.int (qz u276)) → ((-9223372036854775808) ≤ u274 ∧ u274 ≤ 9223372036854775807) → (0 ≤ u276 ∧ u276 ≤ 32) → qr_W (qe L xs vb) (d + 0) qx_e237 (fun r w' => w' = qw σ α κ ρ ∧ ∃ v : Int, r = some (.long (ql v)) ∧ ((-9223372036854775808) ≤ v ∧ v ≤ 9223372036854775807)) (5, ls, [], qw σ α κ ρ, 0, 0) := by
    intro n
    induction n with
    | zero => intro ls u274 u276 hm g271 g272 g273 g275 hf277 hf278; exact False.elim (by omega)
    | succ n ih280 =>
      intro ls u274 u276 hm g271 g272 g273 g275 hf277 hf278
      refine qr_iload 7 rfl g275 rfl ?_
      refine qr_aload_n 8 rfl g271 rfl ?_
      refine qr_get 11 rfl rfl rfl (by decide) rfl ?_
      have hs281 : 0 ≤ σ 86 43 ∧ σ 86 43 ≤ 32 := hI.1 86 43
      refine qr_icmp_ge 46 14 rfl rfl rfl (by omega) (by omega) (fun h282 => ?_) (fun h282 => ?_)
      · skip
        refine qr_lload_n 47 rfl g273 rfl ?_
        refine qr_retL rfl rfl (by decide) (by decide) ?_
        exact ⟨rfl, u274, rfl, by omega⟩
      · skip
        refine qr_lload_n 15 rfl g273 rfl ?_
        refine qr_iload_n 16 rfl g272 rfl ?_
        refine qr_iload 18 rfl g275 rfl ?_
        refine qr_ishr 19 rfl rfl ?_
        refine qy_can (fun v283 hv283 => ?_)
        refine qr_iconst 20 rfl rfl ?_
        refine qr_iand 21 rfl rfl ?_
        refine qy_andr (by omega) (fun v284 hv284 => ?_)
        refine qr_iconst 22 rfl rfl ?_
        have hJ293 : ∀ (ls : qm_L) (u291 : Int), qm_get ls 0 = some (.ref 86) → qm_get ls 1 = some (.int (qz x1)) → qm_get ls 4 = some (.int (qz u276)) → ((-9223372036854775808) ≤ u291 ∧ u291 ≤ 9223372036854775807) → qr_W (qe L xs vb) (d + 0) qx_e237 (fun r w' => w' = qw σ α κ ρ ∧ ∃ v : Int, r = some (.long (ql v)) ∧ ((-9223372036854775808) ≤ v ∧ v ≤ 9223372036854775807)) (38, ls, [.long (ql u291), .long (ql u274)], qw σ α κ ρ, 0, 0) := by
          intro ls u291 g288 g289 g290 hf292
          refine qr_lor 39 rfl rfl ?_
          refine qy_canl (fun v294 hv294 => ?_)
          refine qr_lstore_n _ 40 rfl (by decide) rfl rfl ?_
          refine qr_iinc _ 43 rfl (qm_gk2 g290 (by decide) (by decide) (Or.inl (by decide))) (by decide) rfl rfl ?_
          refine qr_goto 5 rfl rfl ?_
          exact ih280 _ v294 (u276 + 1) (by omega) (qm_gk (qm_gk2 g288 (by decide) (by decide) (Or.inl (by decide))) (by decide) (Or.inl (by decide))) (qm_gk (qm_gk2 g289 (by decide) (by decide) (Or.inr rfl)) (by decide) (Or.inl (by decide))) (qm_gk (qm_ge2 _ _ _) (by decide) (Or.inl (by decide))) (qm_ge _ _ _) (by omega) (by omega)
        refine qr_icmp_ne 37 25 rfl rfl rfl (by omega) (by omega) (fun h295 => ?_) (fun h295 => ?_)
        · skip
          refine qr_lconst 38 rfl rfl ?_
          refine qy_vl 0 rfl ?_
          exact hJ293 _ 0 g271 g272 g275 (by omega)
        · skip
          refine qr_lconst 26 rfl rfl ?_
          refine qy_vl 1 rfl ?_
          refine qr_aload_n 27 rfl g271 rfl ?_
          refine qr_get 30 rfl rfl rfl (by decide) rfl ?_
          refine qr_iload 32 rfl g275 rfl ?_
          refine qr_iaload 33 rfl rfl (by omega) (by decide) rfl ?_
          refine qr_topI (fun v296 hv296 => ?_)
          have hs297 : 0 ≤ v296 ∧ v296 ≤ 31 := by rw [hv296]; exact hI.2.1 110 _ (show _ < 32 by omega)
          refine qr_lshl 34 rfl rfl ?_
          refine qy_canl (fun v298 hv298 => ?_)
          refine qr_goto 38 rfl rfl ?_
          exact hJ293 _ v298 g271 g272 g275 (by omega)
  exact hL279 ((32 - 0 + 1 : Int)).toNat _ 0 0 (by omega) rfl rfl rfl rfl (by omega) (by omega)

set_option maxHeartbeats 4000000 in
set_option maxRecDepth 20000 in
/-- OneRoofModel.trace -/
theorem sf_261_86 {L : Nat} {xs : Nat → Int} {vb : Bool} {d : Nat} {σ α : Nat → Nat → Int} {κ : Nat → Option Nat} {ρ : Nat} {x1 : Int} (hI : qI σ α κ ρ) (r1 : (-2147483648) ≤ x1 ∧ x1 ≤ 2147483647) : qm_T (qe L xs vb) (d + 1) 261 [.ref 86, .int (qz x1)] (qw σ α κ ρ) (fun r w' => w' = qw σ α κ ρ ∧ ∃ v : Int, r = some (.int (qz v)) ∧ ((-2147483648) ≤ v ∧ v ≤ 2147483647)) := by
  refine qr_start (d := d + 0) qv_e261 (Nat.le_of_ble_eq_true rfl) ?_
  show qr_W (qe L xs vb) (d + 0) qx_e261 _ (0, [(0, .ref 86), (1, .int (qz x1))], [], _, 0, 0)
  refine qr_iload_n 1 rfl rfl rfl ?_
  refine qr_if_lt 27 4 rfl rfl rfl (by omega) (fun h1 => ?_) (fun h1 => ?_)
  · skip
    refine qr_iconst 28 rfl rfl ?_
    refine qr_retI rfl rfl (by decide) (by decide) ?_
    exact ⟨rfl, (-1), rfl, by omega⟩
  · skip
    refine qr_iload_n 5 rfl rfl rfl ?_
    refine qr_aload_n 6 rfl rfl rfl ?_
    refine qr_get 9 rfl rfl rfl (by decide) rfl ?_
    have hs2 : (-2147483648) ≤ σ 86 56 ∧ σ 86 56 ≤ 2147483647 := hI.1 86 56
    refine qr_icmp_ge 27 12 rfl rfl rfl (by omega) (by omega) (fun h3 => ?_) (fun h3 => ?_)
    · skip
      refine qr_iconst 28 rfl rfl ?_
      refine qr_retI rfl rfl (by decide) (by decide) ?_
      exact ⟨rfl, (-1), rfl, by omega⟩
    · skip
      refine qr_iload_n 13 rfl rfl rfl ?_
      refine qr_bipush 15 rfl (by decide) rfl ?_
      refine qr_icmp_ge 27 18 rfl rfl rfl (by omega) (by omega) (fun h4 => ?_) (fun h4 => ?_)
      · skip
        refine qr_iconst 28 rfl rfl ?_
        refine qr_retI rfl rfl (by decide) (by decide) ?_
        exact ⟨rfl, (-1), rfl, by omega⟩
      · skip
        refine qr_aload_n 19 rfl rfl rfl ?_
        refine qr_get 22 rfl rfl rfl (by decide) rfl ?_
        refine qr_iload_n 23 rfl rfl rfl ?_
        refine qr_iaload 24 rfl rfl (by omega) (by decide) rfl ?_
        refine qr_topI (fun v5 hv5 => ?_)
        have hs6 : (-2147483648) ≤ v5 ∧ v5 ≤ 2147483647 := by rw [hv5]; exact hI.2.1 120 _ (show _ < 24 by omega)
        refine qr_goto 28 rfl rfl ?_
        refine qr_retI rfl rfl (by decide) (by decide) ?_
        exact ⟨rfl, v5, rfl, by omega⟩

set_option maxHeartbeats 4000000 in
set_option maxRecDepth 20000 in
/-- OneRoofModel.keep -/
theorem sf_262_86 {L : Nat} {xs : Nat → Int} {vb : Bool} {d : Nat} {σ α : Nat → Nat → Int} {κ : Nat → Option Nat} {ρ : Nat} {x1 : Int} {x2 : Int} (hI : qI σ α κ ρ) (r1 : (-2147483648) ≤ x1 ∧ x1 ≤ 2147483647) (r2 : (-2147483648) ≤ x2 ∧ x2 ≤ 2147483647) : qm_T (qe L xs vb) (d + 3) 262 [.ref 86, .int (qz x1), .int (qz x2)] (qw σ α κ ρ) (fun r w' => ∃ α', w' = qw σ α' κ ρ ∧ qI σ α' κ ρ ∧ qFr [] [121, 122] σ α σ α' ∧ ∃ v : Int, r = some (.int (qz v)) ∧ ((-2147483648) ≤ v ∧ v ≤ 2147483647)) := by
  refine qr_start (d := d + 2) qv_e262 (Nat.le_of_ble_eq_true rfl) ?_
  show qr_W (qe L xs vb) (d + 2) qx_e262 _ (0, [(0, .ref 86), (1, .int (qz x1)), (2, .int (qz x2))], [], _, 0, 0)
  have hF0 := qFr_rf [] [121, 122] σ α
  refine qr_iload_n 1 rfl rfl rfl ?_
  refine qr_callN 4 rfl rfl rfl (sf_178 (d := d + 0) hI (by omega)) ?_
  rintro _ _ ⟨rfl, v1, rfl, hv1, hp2⟩
  show qr_W (qe L xs vb) (d + 2) qx_e262 _ (4, _, [.int (qz v1)], qw σ α κ ρ, 0, 0)
  refine qr_if_eq 20 7 rfl rfl rfl (by omega) (fun h3 => ?_) (fun h3 => ?_)
  · skip
    refine qr_iconst 21 rfl rfl ?_
    refine qr_retI rfl rfl (by decide) (by decide) ?_
    exact ⟨_, rfl, hI, hF0, (-1), rfl, by omega⟩
  · skip
    refine qr_iload_n 8 rfl rfl rfl ?_
    refine qr_iconst 9 rfl rfl ?_
    refine qr_icmp_eq 22 12 rfl rfl rfl (by omega) (by omega) (fun h4 => ?_) (fun h4 => ?_)
    · skip
      refine qr_aload_n 23 rfl rfl rfl ?_
      refine qr_get 26 rfl rfl rfl (by decide) rfl ?_
      refine qr_iload_n 27 rfl rfl rfl ?_
      refine qr_iload_n 28 rfl rfl rfl ?_
      refine qr_iastore 29 rfl (by decide) rfl (by omega) (by decide) rfl ?_
      refine qy_wA (qw_r α 121 (qzu (α 121) (x1 : Int).toNat x2)) rfl (fun α5 e6 => ?_)
      have hI7 : qI σ α5 κ ρ := by rw [e6]; exact qI_r hI 121 _ rfl (show (-1) ≤ x2 ∧ x2 ≤ 64 by omega)
      have hF8 : qFr [] [121, 122] σ α σ α5 := by rw [e6]; exact qFr_r hF0 121 _ (by decide)
      refine qr_aload_n 30 rfl rfl rfl ?_
      refine qr_get 33 rfl rfl rfl (by decide) rfl ?_
      refine qr_iload_n 34 rfl rfl rfl ?_
      refine qr_iconst 35 rfl rfl ?_
      refine qr_iastore 36 rfl (by decide) rfl (by omega) (by decide) rfl ?_
      refine qy_wA (qw_r α5 122 (qzu (α5 122) (x1 : Int).toNat 0)) rfl (fun α9 e10 => ?_)
      have hI11 : qI σ α9 κ ρ := by rw [e10]; exact qI_r hI7 122 _ rfl (show 0 ≤ 0 ∧ 0 ≤ 60 by omega)
      have hF12 : qFr [] [121, 122] σ α σ α9 := by rw [e10]; exact qFr_r hF8 122 _ (by decide)
      refine qr_iconst 37 rfl rfl ?_
      refine qr_retI rfl rfl (by decide) (by decide) ?_
      exact ⟨_, rfl, hI11, hF12, 1, rfl, by omega⟩
    · skip
      refine qr_aload_n 13 rfl rfl rfl ?_
      refine qr_iload_n 14 rfl rfl rfl ?_
      refine qr_callN 17 rfl rfl rfl (sf_200_86 (d := d + 0) hI (by omega)) ?_
      have hs15 : 0 ≤ σ 86 24 ∧ σ 86 24 ≤ 60 := hI.1 86 24
      rintro _ _ ⟨rfl, v13, rfl, hv13, hp14⟩
      show qr_W (qe L xs vb) (d + 2) qx_e262 _ (17, _, [.int (qz v13)], qw σ α κ ρ, 0, 0)
      refine qr_if_ne 22 20 rfl rfl rfl (by omega) (fun h16 => ?_) (fun h16 => ?_)
      · skip
        refine qr_aload_n 23 rfl rfl rfl ?_
        refine qr_get 26 rfl rfl rfl (by decide) rfl ?_
        refine qr_iload_n 27 rfl rfl rfl ?_
        refine qr_iload_n 28 rfl rfl rfl ?_
        refine qr_iastore 29 rfl (by decide) rfl (by omega) (by decide) rfl ?_
        refine qy_wA (qw_r α 121 (qzu (α 121) (x1 : Int).toNat x2)) rfl (fun α17 e18 => ?_)
        have hI19 : qI σ α17 κ ρ := by rw [e18]; exact qI_r hI 121 _ rfl (show (-1) ≤ x2 ∧ x2 ≤ 64 by omega)
        have hF20 : qFr [] [121, 122] σ α σ α17 := by rw [e18]; exact qFr_r hF0 121 _ (by decide)
        refine qr_aload_n 30 rfl rfl rfl ?_
        refine qr_get 33 rfl rfl rfl (by decide) rfl ?_
        refine qr_iload_n 34 rfl rfl rfl ?_
        refine qr_iconst 35 rfl rfl ?_
        refine qr_iastore 36 rfl (by decide) rfl (by omega) (by decide) rfl ?_
        refine qy_wA (qw_r α17 122 (qzu (α17 122) (x1 : Int).toNat 0)) rfl (fun α21 e22 => ?_)
        have hI23 : qI σ α21 κ ρ := by rw [e22]; exact qI_r hI19 122 _ rfl (show 0 ≤ 0 ∧ 0 ≤ 60 by omega)
        have hF24 : qFr [] [121, 122] σ α σ α21 := by rw [e22]; exact qFr_r hF20 122 _ (by decide)
        refine qr_iconst 37 rfl rfl ?_
        refine qr_retI rfl rfl (by decide) (by decide) ?_
        exact ⟨_, rfl, hI23, hF24, 1, rfl, by omega⟩
      · skip
        refine qr_iconst 21 rfl rfl ?_
        refine qr_retI rfl rfl (by decide) (by decide) ?_
        exact ⟨_, rfl, hI, hF0, (-1), rfl, by omega⟩

set_option maxHeartbeats 4000000 in
set_option maxRecDepth 20000 in
/-- OneRoofModel.row -/
theorem sf_263_86 {L : Nat} {xs : Nat → Int} {vb : Bool} {d : Nat} {σ α : Nat → Nat → Int} {κ : Nat → Option Nat} {ρ : Nat} {x1 : Int} {x2 : Int} {x3 : Int} (hI : qI σ α κ ρ) (r1 : (-2147483648) ≤ x1 ∧ x1 ≤ 2147483647) (r2 : (-2147483648) ≤ x2 ∧ x2 ≤ 2147483647) (r3 : (-2147483648) ≤ x3 ∧ x3 ≤ 2147483647) : qm_T (qe L xs vb) (d + 3) 263 [.ref 86, .int (qz x1), .int (qz x2), .int (qz x3)] (qw σ α κ ρ) (fun r w' => ∃ α', w' = qw σ α' κ ρ ∧ qI σ α' κ ρ ∧ qFr [] [121, 122, 123] σ α σ α' ∧ ∃ v : Int, r = some (.int (qz v)) ∧ ((-2147483648) ≤ v ∧ v ≤ 2147483647)) := by
  refine qr_start (d := d + 2) qv_e263 (Nat.le_of_ble_eq_true rfl) ?_
  show qr_W (qe L xs vb) (d + 2) qx_e263 _ (0, [(0, .ref 86), (1, .int (qz x1)), (2, .int (qz x2)), (3, .int (qz x3))], [], _, 0, 0)
  have hF0 := qFr_rf [] [121, 122, 123] σ α
  refine qr_iload_n 1 rfl rfl rfl ?_
  refine qr_callN 4 rfl rfl rfl (sf_178 (d := d + 0) hI (by omega)) ?_
  rintro _ _ ⟨rfl, v1, rfl, hv1, hp2⟩
  show qr_W (qe L xs vb) (d + 2) qx_e263 _ (4, _, [.int (qz v1)], qw σ α κ ρ, 0, 0)
  refine qr_if_eq 25 7 rfl rfl rfl (by omega) (fun h3 => ?_) (fun h3 => ?_)
  · skip
    refine qr_iconst 26 rfl rfl ?_
    refine qr_retI rfl rfl (by decide) (by decide) ?_
    exact ⟨_, rfl, hI, hF0, (-1), rfl, by omega⟩
  · skip
    refine qr_iload_n 8 rfl rfl rfl ?_
    refine qr_i2l 9 rfl (by omega) rfl ?_
    refine qr_lconst 10 rfl rfl ?_
    refine qy_vl 0 rfl ?_
    refine qr_ldc2 4 13 rfl (by decide) rfl ?_
    refine qr_callN 16 rfl rfl rfl (sf_176 (d := d + 1) hI (by omega) (by omega) (by omega)) ?_
    rintro _ _ ⟨rfl, v4, rfl, hv4, hp5⟩
    show qr_W (qe L xs vb) (d + 2) qx_e263 _ (16, _, [.int (qz v4)], qw σ α κ ρ, 0, 0)
    refine qr_if_eq 25 19 rfl rfl rfl (by omega) (fun h6 => ?_) (fun h6 => ?_)
    · skip
      refine qr_iconst 26 rfl rfl ?_
      refine qr_retI rfl rfl (by decide) (by decide) ?_
      exact ⟨_, rfl, hI, hF0, (-1), rfl, by omega⟩
    · skip
      refine qr_iload_n 20 rfl rfl rfl ?_
      refine qr_bipush 22 rfl (by decide) rfl ?_
      refine qr_icmp_le 27 25 rfl rfl rfl (by omega) (by omega) (fun h7 => ?_) (fun h7 => ?_)
      · skip
        refine qr_iload_n 28 rfl rfl rfl ?_
        refine qr_if_ge 34 31 rfl rfl rfl (by omega) (fun h8 => ?_) (fun h8 => ?_)
        · skip
          refine qr_aload_n 35 rfl rfl rfl ?_
          refine qr_get 38 rfl rfl rfl (by decide) rfl ?_
          refine qr_iload_n 39 rfl rfl rfl ?_
          refine qr_bipush 41 rfl (by decide) rfl ?_
          refine qr_iload_n 42 rfl rfl rfl ?_
          refine qr_iadd 43 rfl rfl ?_
          refine qr_iastore 44 rfl (by decide) rfl (by omega) (by decide) rfl ?_
          refine qy_wA (qw_r α 121 (qzu (α 121) (x1 : Int).toNat (60 + x2))) rfl (fun α9 e10 => ?_)
          have hI11 : qI σ α9 κ ρ := by rw [e10]; exact qI_r hI 121 _ rfl (show (-1) ≤ (60 + x2) ∧ (60 + x2) ≤ 64 by omega)
          have hF12 : qFr [] [121, 122, 123] σ α σ α9 := by rw [e10]; exact qFr_r hF0 121 _ (by decide)
          refine qr_aload_n 45 rfl rfl rfl ?_
          refine qr_get 48 rfl rfl rfl (by decide) rfl ?_
          refine qr_iload_n 49 rfl rfl rfl ?_
          refine qr_iload_n 50 rfl rfl rfl ?_
          refine qr_iastore 51 rfl (by decide) rfl (by omega) (by decide) rfl ?_
          refine qy_wA (qw_r α9 122 (qzu (α9 122) (x1 : Int).toNat x3)) rfl (fun α13 e14 => ?_)
          have hI15 : qI σ α13 κ ρ := by rw [e14]; exact qI_r hI11 122 _ rfl (show 0 ≤ x3 ∧ x3 ≤ 60 by omega)
          have hF16 : qFr [] [121, 122, 123] σ α σ α13 := by rw [e14]; exact qFr_r hF12 122 _ (by decide)
          refine qr_bipush 53 rfl (by decide) rfl ?_
          refine qr_iload_n 54 rfl rfl rfl ?_
          refine qr_imul 55 rfl rfl ?_
          refine qr_istore _ 57 rfl (by decide) rfl rfl ?_
          have hL83 : ∀ (n : Nat) (ls : qm_L) (u76 : Int) (α78 : Nat → Nat → Int), 360 - u76 < (n : Int) → qm_get ls 0 = some (.ref 86) → qm_get ls 1 = some (.int (qz x1)) → qm_get ls 4 = some (.int (qz u76)) → (0 ≤ u76 ∧ u76 ≤ 360) → qI σ α78 κ ρ → qFr [] [121, 122, 123] σ α σ α78 → (60 * x1) ≤ u76 → qr_W (qe L xs vb) (d + 2) qx_e263 (fun r w' => ∃ α', w' = qw σ α' κ ρ ∧ qI σ α' κ ρ ∧ qFr [] [121, 122, 123] σ α σ α' ∧ ∃ v : Int, r = some (.int (qz v)) ∧ ((-2147483648) ≤ v ∧ v ≤ 2147483647)) (57, ls, [], qw σ α78 κ ρ, 0, 0) := by
            intro n
            induction n with
            | zero => intro ls u76 α78 hm g73 g74 g75 hf81 hI79 hF80 hx82; exact False.elim (by omega)
            | succ n ih84 =>
              intro ls u76 α78 hm g73 g74 g75 hf81 hI79 hF80 hx82
              refine qr_iload 59 rfl g75 rfl ?_
              refine qr_bipush 61 rfl (by decide) rfl ?_
              refine qr_iload_n 62 rfl g74 rfl ?_
              refine qr_imul 63 rfl rfl ?_
              refine qr_bipush 65 rfl (by decide) rfl ?_
              refine qr_iadd 66 rfl rfl ?_
              refine qr_icmp_ge 83 69 rfl rfl rfl (by omega) (by omega) (fun h85 => ?_) (fun h85 => ?_)
              · skip
                refine qr_iconst 84 rfl rfl ?_
                refine qr_retI rfl rfl (by decide) (by decide) ?_
                exact ⟨_, rfl, hI79, hF80, 1, rfl, by omega⟩
              · skip
                refine qr_aload_n 70 rfl g73 rfl ?_
                refine qr_get 73 rfl rfl rfl (by decide) rfl ?_
                refine qr_iload 75 rfl g75 rfl ?_
                refine qr_lconst 76 rfl rfl ?_
                refine qy_vl 0 rfl ?_
                refine qr_lastore 77 rfl (by decide) rfl (by omega) (by decide) rfl ?_
                refine qy_wA (qw_r α78 123 (qzu (α78 123) (u76 : Int).toNat 0)) rfl (fun α86 e87 => ?_)
                have hI88 : qI σ α86 κ ρ := by rw [e87]; exact qI_r hI79 123 _ rfl (show (-9223372036854775808) ≤ 0 ∧ 0 ≤ 9223372036854775807 by omega)
                have hF89 : qFr [] [121, 122, 123] σ α σ α86 := by rw [e87]; exact qFr_r hF80 123 _ (by decide)
                refine qr_iinc _ 80 rfl g75 (by decide) rfl rfl ?_
                refine qr_goto 57 rfl rfl ?_
                exact ih84 _ (u76 + 1) α86 (by omega) (qm_gk g73 (by decide) (Or.inl (by decide))) (qm_gk g74 (by decide) (Or.inl (by decide))) (qm_ge _ _ _) (by omega) hI88 hF89 (by omega)
          exact hL83 ((360 - (60 * x1) + 1 : Int)).toNat _ (60 * x1) α13 (by omega) rfl rfl rfl (by omega) hI15 hF16 (by omega)
        · skip
          refine qr_bipush 33 rfl (by decide) rfl ?_
          refine qr_retI rfl rfl (by decide) (by decide) ?_
          exact ⟨_, rfl, hI, hF0, (-14), rfl, by omega⟩
      · skip
        refine qr_iconst 26 rfl rfl ?_
        refine qr_retI rfl rfl (by decide) (by decide) ?_
        exact ⟨_, rfl, hI, hF0, (-1), rfl, by omega⟩

set_option maxHeartbeats 4000000 in
set_option maxRecDepth 20000 in
/-- OneRoofModel.refusal -/
theorem sf_265_86 {L : Nat} {xs : Nat → Int} {vb : Bool} {d : Nat} {σ α : Nat → Nat → Int} {κ : Nat → Option Nat} {ρ : Nat} {x1 : Int} {x2 : Int} (hI : qI σ α κ ρ) (r1 : (-2147483648) ≤ x1 ∧ x1 ≤ 2147483647) (r2 : (-2147483648) ≤ x2 ∧ x2 ≤ 2147483647) : qm_T (qe L xs vb) (d + 3) 265 [.ref 86, .int (qz x1), .int (qz x2)] (qw σ α κ ρ) (fun r w' => w' = qw σ α κ ρ ∧ ∃ v : Int, r = some (.int (qz v)) ∧ ((-2147483648) ≤ v ∧ v ≤ 2147483647) ∧ (v = 0 → 0 ≤ x1 ∧ x1 ≤ 5 ∧ 0 ≤ x2 ∧ x2 < 60)) := by
  refine qr_start (d := d + 2) qv_e265 (Nat.le_of_ble_eq_true rfl) ?_
  show qr_W (qe L xs vb) (d + 2) qx_e265 _ (0, [(0, .ref 86), (1, .int (qz x1)), (2, .int (qz x2))], [], _, 0, 0)
  refine qr_iload_n 1 rfl rfl rfl ?_
  refine qr_callN 4 rfl rfl rfl (sf_178 (d := d + 0) hI (by omega)) ?_
  rintro _ _ ⟨rfl, v1, rfl, hv1, hp2⟩
  show qr_W (qe L xs vb) (d + 2) qx_e265 _ (4, _, [.int (qz v1)], qw σ α κ ρ, 0, 0)
  refine qr_if_ne 9 7 rfl rfl rfl (by omega) (fun h3 => ?_) (fun h3 => ?_)
  · skip
    refine qr_aload_n 10 rfl rfl rfl ?_
    refine qr_get 13 rfl rfl rfl (by decide) rfl ?_
    refine qr_iload_n 14 rfl rfl rfl ?_
    refine qr_iaload 15 rfl rfl (by omega) (by decide) rfl ?_
    refine qr_topI (fun v4 hv4 => ?_)
    have hs5 : (-1) ≤ v4 ∧ v4 ≤ 64 := by rw [hv4]; exact hI.2.1 121 _ (show _ < 6 by omega)
    refine qr_if_ge 21 18 rfl rfl rfl (by omega) (fun h6 => ?_) (fun h6 => ?_)
    · skip
      refine qr_aload_n 22 rfl rfl rfl ?_
      refine qr_get 25 rfl rfl rfl (by decide) rfl ?_
      refine qr_iload_n 26 rfl rfl rfl ?_
      refine qr_iaload 27 rfl rfl (by omega) (by decide) rfl ?_
      refine qr_topI (fun v7 hv7 => ?_)
      have hs8 : (-1) ≤ v7 ∧ v7 ≤ 64 := by rw [hv7]; exact hI.2.1 121 _ (show _ < 6 by omega)
      refine qr_bipush 29 rfl (by decide) rfl ?_
      refine qr_icmp_ge 35 32 rfl rfl rfl (by omega) (by omega) (fun h9 => ?_) (fun h9 => ?_)
      · skip
        refine qr_iload_n 36 rfl rfl rfl ?_
        refine qr_if_lt 53 39 rfl rfl rfl (by omega) (fun h10 => ?_) (fun h10 => ?_)
        · skip
          refine qr_bipush 55 rfl (by decide) rfl ?_
          refine qr_retI rfl rfl (by decide) (by decide) ?_
          exact ⟨rfl, (-13), rfl, by omega, by omega⟩
        · skip
          refine qr_iload_n 40 rfl rfl rfl ?_
          refine qr_aload_n 41 rfl rfl rfl ?_
          refine qr_get 44 rfl rfl rfl (by decide) rfl ?_
          refine qr_iload_n 45 rfl rfl rfl ?_
          refine qr_iaload 46 rfl rfl (by omega) (by decide) rfl ?_
          refine qr_topI (fun v11 hv11 => ?_)
          have hs12 : 0 ≤ v11 ∧ v11 ≤ 60 := by rw [hv11]; exact hI.2.1 122 _ (show _ < 6 by omega)
          refine qr_icmp_ge 53 49 rfl rfl rfl (by omega) (by omega) (fun h13 => ?_) (fun h13 => ?_)
          · skip
            refine qr_bipush 55 rfl (by decide) rfl ?_
            refine qr_retI rfl rfl (by decide) (by decide) ?_
            exact ⟨rfl, (-13), rfl, by omega, by omega⟩
          · skip
            refine qr_iconst 50 rfl rfl ?_
            refine qr_goto 55 rfl rfl ?_
            refine qr_retI rfl rfl (by decide) (by decide) ?_
            exact ⟨rfl, 0, rfl, by omega, by omega⟩
      · skip
        refine qr_bipush 34 rfl (by decide) rfl ?_
        refine qr_retI rfl rfl (by decide) (by decide) ?_
        exact ⟨rfl, (-12), rfl, by omega, by omega⟩
    · skip
      refine qr_bipush 20 rfl (by decide) rfl ?_
      refine qr_retI rfl rfl (by decide) (by decide) ?_
      exact ⟨rfl, (-11), rfl, by omega, by omega⟩
  · skip
    refine qr_iconst 8 rfl rfl ?_
    refine qr_retI rfl rfl (by decide) (by decide) ?_
    exact ⟨rfl, (-1), rfl, by omega, by omega⟩

set_option maxHeartbeats 4000000 in
set_option maxRecDepth 20000 in
/-- OneRoofModel.asSort -/
theorem sf_266 {L : Nat} {xs : Nat → Int} {vb : Bool} {d : Nat} {σ α : Nat → Nat → Int} {κ : Nat → Option Nat} {ρ : Nat} {x0 : Int} {x1 : Int} (hI : qI σ α κ ρ) (r0 : (-2147483648) ≤ x0 ∧ x0 ≤ 2147483647) (r1 : (-9223372036854775808) ≤ x1 ∧ x1 ≤ 9223372036854775807) : qm_T (qe L xs vb) (d + 1) 266 [.int (qz x0), .long (ql x1)] (qw σ α κ ρ) (fun r w' => w' = qw σ α κ ρ ∧ ∃ v : Int, r = some (.long (ql v)) ∧ ((-9223372036854775808) ≤ v ∧ v ≤ 9223372036854775807)) := by
  refine qr_start (d := d + 0) qv_e266 (Nat.le_of_ble_eq_true rfl) ?_
  show qr_W (qe L xs vb) (d + 0) qx_e266 _ (0, [(0, .int (qz x0)), (1, .long (ql x1))], [], _, 0, 0)
  refine qr_iload_n 1 rfl rfl rfl ?_
  refine qr_if_ne 11 4 rfl rfl rfl (by omega) (fun h1 => ?_) (fun h1 => ?_)
  · skip
    refine qr_iload_n 12 rfl rfl rfl ?_
    refine qr_iconst 13 rfl rfl ?_
    refine qr_icmp_ne 23 16 rfl rfl rfl (by omega) (by omega) (fun h2 => ?_) (fun h2 => ?_)
    · skip
      refine qr_iload_n 24 rfl rfl rfl ?_
      refine qr_iconst 25 rfl rfl ?_
      refine qr_icmp_ne 34 28 rfl rfl rfl (by omega) (by omega) (fun h3 => ?_) (fun h3 => ?_)
      · skip
        refine qr_iload_n 35 rfl rfl rfl ?_
        refine qr_iconst 36 rfl rfl ?_
        refine qr_icmp_ne 53 39 rfl rfl rfl (by omega) (by omega) (fun h4 => ?_) (fun h4 => ?_)
        · skip
          refine qr_lload_n 54 rfl rfl rfl ?_
          refine qr_retL rfl rfl (by decide) (by decide) ?_
          exact ⟨rfl, x1, rfl, by omega⟩
        · skip
          refine qr_lload_n 40 rfl rfl rfl ?_
          refine qr_lconst 41 rfl rfl ?_
          refine qy_vl 0 rfl ?_
          refine qr_lc_eq 49 45 rfl rfl rfl rfl (by omega) (by omega) (fun h5 => ?_) (fun h5 => ?_)
          · skip
            refine qr_lconst 50 rfl rfl ?_
            refine qy_vl 0 rfl ?_
            refine qr_goto 54 rfl rfl ?_
            refine qr_retL rfl rfl (by decide) (by decide) ?_
            exact ⟨rfl, 0, rfl, by omega⟩
          · skip
            refine qr_lconst 46 rfl rfl ?_
            refine qy_vl 1 rfl ?_
            refine qr_goto 54 rfl rfl ?_
            refine qr_retL rfl rfl (by decide) (by decide) ?_
            exact ⟨rfl, 1, rfl, by omega⟩
      · skip
        refine qr_lload_n 29 rfl rfl rfl ?_
        refine qr_l2i 30 rfl rfl ?_
        refine qy_can (fun v6 hv6 => ?_)
        refine qr_i2l 31 rfl (by omega) rfl ?_
        refine qr_goto 54 rfl rfl ?_
        refine qr_retL rfl rfl (by decide) (by decide) ?_
        exact ⟨rfl, v6, rfl, by omega⟩
    · skip
      refine qr_lload_n 17 rfl rfl rfl ?_
      refine qr_l2i 18 rfl rfl ?_
      refine qy_can (fun v7 hv7 => ?_)
      refine qr_i2s 19 rfl rfl ?_
      refine qy_can (fun v8 hv8 => ?_)
      refine qr_i2l 20 rfl (by omega) rfl ?_
      refine qr_goto 54 rfl rfl ?_
      refine qr_retL rfl rfl (by decide) (by decide) ?_
      exact ⟨rfl, v8, rfl, by omega⟩
  · skip
    refine qr_lload_n 5 rfl rfl rfl ?_
    refine qr_l2i 6 rfl rfl ?_
    refine qy_can (fun v9 hv9 => ?_)
    refine qr_i2b 7 rfl rfl ?_
    refine qy_can (fun v10 hv10 => ?_)
    refine qr_i2l 8 rfl (by omega) rfl ?_
    refine qr_goto 54 rfl rfl ?_
    refine qr_retL rfl rfl (by decide) (by decide) ?_
    exact ⟨rfl, v10, rfl, by omega⟩

set_option maxHeartbeats 4000000 in
set_option maxRecDepth 20000 in
/-- OneRoofModel.put -/
theorem sf_264_86 {L : Nat} {xs : Nat → Int} {vb : Bool} {d : Nat} {σ α : Nat → Nat → Int} {κ : Nat → Option Nat} {ρ : Nat} {x1 : Int} {x2 : Int} {x3 : Int} (hI : qI σ α κ ρ) (r1 : (-2147483648) ≤ x1 ∧ x1 ≤ 2147483647) (r2 : (-2147483648) ≤ x2 ∧ x2 ≤ 2147483647) (r3 : (-9223372036854775808) ≤ x3 ∧ x3 ≤ 9223372036854775807) : qm_T (qe L xs vb) (d + 4) 264 [.ref 86, .int (qz x1), .int (qz x2), .long (ql x3)] (qw σ α κ ρ) (fun r w' => ∃ α', w' = qw σ α' κ ρ ∧ qI σ α' κ ρ ∧ qFr [] [123] σ α σ α' ∧ ∃ v : Int, r = some (.int (qz v)) ∧ ((-2147483648) ≤ v ∧ v ≤ 2147483647)) := by
  refine qr_start (d := d + 3) qv_e264 (Nat.le_of_ble_eq_true rfl) ?_
  show qr_W (qe L xs vb) (d + 3) qx_e264 _ (0, [(0, .ref 86), (1, .int (qz x1)), (2, .int (qz x2)), (3, .long (ql x3))], [], _, 0, 0)
  have hF0 := qFr_rf [] [123] σ α
  refine qr_aload_n 1 rfl rfl rfl ?_
  refine qr_iload_n 2 rfl rfl rfl ?_
  refine qr_iload_n 3 rfl rfl rfl ?_
  refine qr_callN 6 rfl rfl rfl (sf_265_86 (d := d + 0) hI (by omega) (by omega)) ?_
  rintro _ _ ⟨rfl, v1, rfl, hv1, hp2⟩
  show qr_W (qe L xs vb) (d + 3) qx_e264 _ (6, _, [.int (qz v1)], qw σ α κ ρ, 0, 0)
  refine qr_istore _ 8 rfl (by decide) rfl rfl ?_
  refine qr_iload 10 rfl rfl rfl ?_
  have hJ15 : ∀ (ls : qm_L) (α12 : Nat → Nat → Int), qm_get ls 5 = some (.int (qz v1)) → qI σ α12 κ ρ → qFr [] [123] σ α σ α12 → qr_W (qe L xs vb) (d + 3) qx_e264 (fun r w' => ∃ α', w' = qw σ α' κ ρ ∧ qI σ α' κ ρ ∧ qFr [] [123] σ α σ α' ∧ ∃ v : Int, r = some (.int (qz v)) ∧ ((-2147483648) ≤ v ∧ v ≤ 2147483647)) (37, ls, [], qw σ α12 κ ρ, 0, 0) := by
    intro ls α12 g10 hI13 hF14
    refine qr_iload 39 rfl g10 rfl ?_
    refine qr_if_ne 46 42 rfl rfl rfl (by omega) (fun h16 => ?_) (fun h16 => ?_)
    · skip
      refine qr_iload 48 rfl g10 rfl ?_
      refine qr_retI rfl rfl (by decide) (by decide) ?_
      exact ⟨_, rfl, hI13, hF14, v1, rfl, by omega⟩
    · skip
      refine qr_iconst 43 rfl rfl ?_
      refine qr_goto 48 rfl rfl ?_
      refine qr_retI rfl rfl (by decide) (by decide) ?_
      exact ⟨_, rfl, hI13, hF14, 1, rfl, by omega⟩
  refine qr_if_ne 37 13 rfl rfl rfl (by omega) (fun h17 => ?_) (fun h17 => ?_)
  · skip
    exact hJ15 _ α rfl hI hF0
  · skip
    refine qr_aload_n 14 rfl rfl rfl ?_
    refine qr_get 17 rfl rfl rfl (by decide) rfl ?_
    refine qr_bipush 19 rfl (by decide) rfl ?_
    refine qr_iload_n 20 rfl rfl rfl ?_
    refine qr_imul 21 rfl rfl ?_
    refine qr_iload_n 22 rfl rfl rfl ?_
    refine qr_iadd 23 rfl rfl ?_
    refine qr_aload_n 24 rfl rfl rfl ?_
    refine qr_get 27 rfl rfl rfl (by decide) rfl ?_
    refine qr_iload_n 28 rfl rfl rfl ?_
    refine qr_iaload 29 rfl rfl (by omega) (by decide) rfl ?_
    refine qr_topI (fun v18 hv18 => ?_)
    have hs19 : (-1) ≤ v18 ∧ v18 ≤ 64 := by rw [hv18]; exact hI.2.1 121 _ (show _ < 6 by omega)
    refine qr_bipush 31 rfl (by decide) rfl ?_
    refine qr_isub 32 rfl rfl ?_
    refine qr_lload_n 33 rfl rfl rfl ?_
    refine qr_callN 36 rfl rfl rfl (sf_266 (d := d + 2) hI (by omega) (by omega)) ?_
    rintro _ _ ⟨rfl, v20, rfl, hv20⟩
    show qr_W (qe L xs vb) (d + 3) qx_e264 _ (36, _, [.long (ql v20), .int (qz ((60 * x1) + x2)), .ref 123], qw σ α κ ρ, 0, 0)
    refine qr_lastore 37 rfl (by decide) rfl (by omega) (by decide) rfl ?_
    refine qy_wA (qw_r α 123 (qzu (α 123) (((60 * x1) + x2) : Int).toNat v20)) rfl (fun α21 e22 => ?_)
    have hI23 : qI σ α21 κ ρ := by rw [e22]; exact qI_r hI 123 _ rfl (show (-9223372036854775808) ≤ v20 ∧ v20 ≤ 9223372036854775807 by omega)
    have hF24 : qFr [] [123] σ α σ α21 := by rw [e22]; exact qFr_r hF0 123 _ (by decide)
    exact hJ15 _ α21 rfl hI23 hF24

set_option maxHeartbeats 4000000 in
set_option maxRecDepth 20000 in
/-- OneRoofModel.element -/
theorem sf_267_86 {L : Nat} {xs : Nat → Int} {vb : Bool} {d : Nat} {σ α : Nat → Nat → Int} {κ : Nat → Option Nat} {ρ : Nat} {x1 : Int} {x2 : Int} (hI : qI σ α κ ρ) (r1 : (-2147483648) ≤ x1 ∧ x1 ≤ 2147483647) (r2 : (-2147483648) ≤ x2 ∧ x2 ≤ 2147483647) : qm_T (qe L xs vb) (d + 4) 267 [.ref 86, .int (qz x1), .int (qz x2)] (qw σ α κ ρ) (fun r w' => w' = qw σ α κ ρ ∧ ∃ v : Int, r = some (.long (ql v)) ∧ ((-9223372036854775808) ≤ v ∧ v ≤ 9223372036854775807)) := by
  refine qr_start (d := d + 3) qv_e267 (Nat.le_of_ble_eq_true rfl) ?_
  show qr_W (qe L xs vb) (d + 3) qx_e267 _ (0, [(0, .ref 86), (1, .int (qz x1)), (2, .int (qz x2))], [], _, 0, 0)
  refine qr_aload_n 1 rfl rfl rfl ?_
  refine qr_iload_n 2 rfl rfl rfl ?_
  refine qr_iload_n 3 rfl rfl rfl ?_
  refine qr_callN 6 rfl rfl rfl (sf_265_86 (d := d + 0) hI (by omega) (by omega)) ?_
  rintro _ _ ⟨rfl, v1, rfl, hv1, hp2⟩
  show qr_W (qe L xs vb) (d + 3) qx_e267 _ (6, _, [.int (qz v1)], qw σ α κ ρ, 0, 0)
  refine qr_if_eq 15 9 rfl rfl rfl (by omega) (fun h3 => ?_) (fun h3 => ?_)
  · skip
    refine qr_aload_n 16 rfl rfl rfl ?_
    refine qr_get 19 rfl rfl rfl (by decide) rfl ?_
    refine qr_bipush 21 rfl (by decide) rfl ?_
    refine qr_iload_n 22 rfl rfl rfl ?_
    refine qr_imul 23 rfl rfl ?_
    refine qr_iload_n 24 rfl rfl rfl ?_
    refine qr_iadd 25 rfl rfl ?_
    refine qr_laload 26 rfl (by decide) rfl (by omega) (by decide) rfl ?_
    refine qr_topL (fun v4 hv4 => ?_)
    have hs5 : (-9223372036854775808) ≤ v4 ∧ v4 ≤ 9223372036854775807 := by rw [hv4]; exact hI.2.1 123 _ (show _ < 360 by omega)
    refine qr_retL rfl rfl (by decide) (by decide) ?_
    exact ⟨rfl, v4, rfl, by omega⟩
  · skip
    refine qr_ldc2 (-9223372036854775808) 12 rfl (by decide) rfl ?_
    refine qr_goto 26 rfl rfl ?_
    refine qr_retL rfl rfl (by decide) (by decide) ?_
    exact ⟨rfl, (-9223372036854775808), rfl, by omega⟩

set_option maxHeartbeats 4000000 in
set_option maxRecDepth 20000 in
/-- OneRoofModel.shift -/
theorem sf_268_86 {L : Nat} {xs : Nat → Int} {vb : Bool} {d : Nat} {σ α : Nat → Nat → Int} {κ : Nat → Option Nat} {ρ : Nat} {x1 : Int} {x2 : Int} {x3 : Int} {x4 : Int} {x5 : Int} (hI : qI σ α κ ρ) (r1 : (-2147483648) ≤ x1 ∧ x1 ≤ 2147483647) (r2 : (-2147483648) ≤ x2 ∧ x2 ≤ 2147483647) (r3 : (-2147483648) ≤ x3 ∧ x3 ≤ 2147483647) (r4 : (-2147483648) ≤ x4 ∧ x4 ≤ 2147483647) (r5 : (-2147483648) ≤ x5 ∧ x5 ≤ 2147483647) : qm_T (qe L xs vb) (d + 3) 268 [.ref 86, .int (qz x1), .int (qz x2), .int (qz x3), .int (qz x4), .int (qz x5)] (qw σ α κ ρ) (fun r w' => ∃ α', w' = qw σ α' κ ρ ∧ qI σ α' κ ρ ∧ qFr [] [123, 124] σ α σ α' ∧ ∃ v : Int, r = some (.int (qz v)) ∧ ((-2147483648) ≤ v ∧ v ≤ 2147483647)) := by
  refine qr_start (d := d + 2) qv_e268 (Nat.le_of_ble_eq_true rfl) ?_
  show qr_W (qe L xs vb) (d + 2) qx_e268 _ (0, [(0, .ref 86), (1, .int (qz x1)), (2, .int (qz x2)), (3, .int (qz x3)), (4, .int (qz x4)), (5, .int (qz x5))], [], _, 0, 0)
  have hF0 := qFr_rf [] [123, 124] σ α
  refine qr_iload_n 1 rfl rfl rfl ?_
  refine qr_callN 4 rfl rfl rfl (sf_178 (d := d + 0) hI (by omega)) ?_
  rintro _ _ ⟨rfl, v1, rfl, hv1, hp2⟩
  show qr_W (qe L xs vb) (d + 2) qx_e268 _ (4, _, [.int (qz v1)], qw σ α κ ρ, 0, 0)
  refine qr_if_eq 14 7 rfl rfl rfl (by omega) (fun h3 => ?_) (fun h3 => ?_)
  · skip
    refine qr_iconst 15 rfl rfl ?_
    refine qr_retI rfl rfl (by decide) (by decide) ?_
    exact ⟨_, rfl, hI, hF0, (-1), rfl, by omega⟩
  · skip
    refine qr_iload_n 8 rfl rfl rfl ?_
    refine qr_callN 11 rfl rfl rfl (sf_178 (d := d + 0) hI (by omega)) ?_
    rintro _ _ ⟨rfl, v4, rfl, hv4, hp5⟩
    show qr_W (qe L xs vb) (d + 2) qx_e268 _ (11, _, [.int (qz v4)], qw σ α κ ρ, 0, 0)
    refine qr_if_ne 16 14 rfl rfl rfl (by omega) (fun h6 => ?_) (fun h6 => ?_)
    · skip
      refine qr_aload_n 17 rfl rfl rfl ?_
      refine qr_get 20 rfl rfl rfl (by decide) rfl ?_
      refine qr_iload_n 21 rfl rfl rfl ?_
      refine qr_iaload 22 rfl rfl (by omega) (by decide) rfl ?_
      refine qr_topI (fun v7 hv7 => ?_)
      have hs8 : (-1) ≤ v7 ∧ v7 ≤ 64 := by rw [hv7]; exact hI.2.1 121 _ (show _ < 6 by omega)
      refine qr_if_lt 34 25 rfl rfl rfl (by omega) (fun h9 => ?_) (fun h9 => ?_)
      · skip
        refine qr_bipush 36 rfl (by decide) rfl ?_
        refine qr_retI rfl rfl (by decide) (by decide) ?_
        exact ⟨_, rfl, hI, hF0, (-11), rfl, by omega⟩
      · skip
        refine qr_aload_n 26 rfl rfl rfl ?_
        refine qr_get 29 rfl rfl rfl (by decide) rfl ?_
        refine qr_iload_n 30 rfl rfl rfl ?_
        refine qr_iaload 31 rfl rfl (by omega) (by decide) rfl ?_
        refine qr_topI (fun v10 hv10 => ?_)
        have hs11 : (-1) ≤ v10 ∧ v10 ≤ 64 := by rw [hv10]; exact hI.2.1 121 _ (show _ < 6 by omega)
        refine qr_if_ge 37 34 rfl rfl rfl (by omega) (fun h12 => ?_) (fun h12 => ?_)
        · skip
          refine qr_aload_n 38 rfl rfl rfl ?_
          refine qr_get 41 rfl rfl rfl (by decide) rfl ?_
          refine qr_iload_n 42 rfl rfl rfl ?_
          refine qr_iaload 43 rfl rfl (by omega) (by decide) rfl ?_
          refine qr_topI (fun v13 hv13 => ?_)
          have hs14 : (-1) ≤ v13 ∧ v13 ≤ 64 := by rw [hv13]; exact hI.2.1 121 _ (show _ < 6 by omega)
          refine qr_bipush 45 rfl (by decide) rfl ?_
          refine qr_icmp_lt 63 48 rfl rfl rfl (by omega) (by omega) (fun h15 => ?_) (fun h15 => ?_)
          · skip
            refine qr_bipush 65 rfl (by decide) rfl ?_
            refine qr_retI rfl rfl (by decide) (by decide) ?_
            exact ⟨_, rfl, hI, hF0, (-12), rfl, by omega⟩
          · skip
            refine qr_aload_n 49 rfl rfl rfl ?_
            refine qr_get 52 rfl rfl rfl (by decide) rfl ?_
            refine qr_iload_n 53 rfl rfl rfl ?_
            refine qr_iaload 54 rfl rfl (by omega) (by decide) rfl ?_
            refine qr_topI (fun v16 hv16 => ?_)
            have hs17 : (-1) ≤ v16 ∧ v16 ≤ 64 := by rw [hv16]; exact hI.2.1 121 _ (show _ < 6 by omega)
            refine qr_aload_n 55 rfl rfl rfl ?_
            refine qr_get 58 rfl rfl rfl (by decide) rfl ?_
            refine qr_iload_n 59 rfl rfl rfl ?_
            refine qr_iaload 60 rfl rfl (by omega) (by decide) rfl ?_
            refine qr_topI (fun v18 hv18 => ?_)
            have hs19 : (-1) ≤ v18 ∧ v18 ≤ 64 := by rw [hv18]; exact hI.2.1 121 _ (show _ < 6 by omega)
            refine qr_icmp_eq 66 63 rfl rfl rfl (by omega) (by omega) (fun h20 => ?_) (fun h20 => ?_)
            · skip
              refine qr_iload 68 rfl rfl rfl ?_
              refine qr_if_lt 107 71 rfl rfl rfl (by omega) (fun h21 => ?_) (fun h21 => ?_)
              · skip
                refine qr_bipush 109 rfl (by decide) rfl ?_
                refine qr_retI rfl rfl (by decide) (by decide) ?_
                exact ⟨_, rfl, hI, hF0, (-13), rfl, by omega⟩
              · skip
                refine qr_iload_n 72 rfl rfl rfl ?_
                refine qr_if_lt 107 75 rfl rfl rfl (by omega) (fun h22 => ?_) (fun h22 => ?_)
                · skip
                  refine qr_bipush 109 rfl (by decide) rfl ?_
                  refine qr_retI rfl rfl (by decide) (by decide) ?_
                  exact ⟨_, rfl, hI, hF0, (-13), rfl, by omega⟩
                · skip
                  refine qr_iload 77 rfl rfl rfl ?_
                  refine qr_if_lt 107 80 rfl rfl rfl (by omega) (fun h23 => ?_) (fun h23 => ?_)
                  · skip
                    refine qr_bipush 109 rfl (by decide) rfl ?_
                    refine qr_retI rfl rfl (by decide) (by decide) ?_
                    exact ⟨_, rfl, hI, hF0, (-13), rfl, by omega⟩
                  · skip
                    refine qr_iload_n 81 rfl rfl rfl ?_
                    refine qr_aload_n 82 rfl rfl rfl ?_
                    refine qr_get 85 rfl rfl rfl (by decide) rfl ?_
                    refine qr_iload_n 86 rfl rfl rfl ?_
                    refine qr_iaload 87 rfl rfl (by omega) (by decide) rfl ?_
                    refine qr_topI (fun v24 hv24 => ?_)
                    have hs25 : 0 ≤ v24 ∧ v24 ≤ 60 := by rw [hv24]; exact hI.2.1 122 _ (show _ < 6 by omega)
                    refine qr_iload 89 rfl rfl rfl ?_
                    refine qr_isub 90 rfl rfl ?_
                    refine qr_icmp_gt 107 93 rfl rfl rfl (by omega) (by omega) (fun h26 => ?_) (fun h26 => ?_)
                    · skip
                      refine qr_bipush 109 rfl (by decide) rfl ?_
                      refine qr_retI rfl rfl (by decide) (by decide) ?_
                      exact ⟨_, rfl, hI, hF0, (-13), rfl, by omega⟩
                    · skip
                      refine qr_iload 95 rfl rfl rfl ?_
                      refine qr_aload_n 96 rfl rfl rfl ?_
                      refine qr_get 99 rfl rfl rfl (by decide) rfl ?_
                      refine qr_iload_n 100 rfl rfl rfl ?_
                      refine qr_iaload 101 rfl rfl (by omega) (by decide) rfl ?_
                      refine qr_topI (fun v27 hv27 => ?_)
                      have hs28 : 0 ≤ v27 ∧ v27 ≤ 60 := by rw [hv27]; exact hI.2.1 122 _ (show _ < 6 by omega)
                      as_aux_lemma =>
                        refine qr_iload 103 rfl rfl rfl ?_
                        refine qr_isub 104 rfl rfl ?_
                        refine qr_icmp_le 110 107 rfl rfl rfl (by omega) (by omega) (fun h29 => ?_) (fun h29 => ?_)
                        · skip
                          refine qr_iconst 111 rfl rfl ?_
                          refine qr_istore _ 113 rfl (by decide) rfl rfl ?_
                          have hL4297 : ∀ (n : Nat) (ls : qm_L) (u4291 : Int) (α4293 : Nat → Nat → Int), 60 - u4291 < (n : Int) → qm_get ls 0 = some (.ref 86) → qm_get ls 1 = some (.int (qz x1)) → qm_get ls 2 = some (.int (qz x2)) → qm_get ls 3 = some (.int (qz x3)) → qm_get ls 4 = some (.int (qz x4)) → qm_get ls 5 = some (.int (qz x5)) → qm_get ls 6 = some (.int (qz u4291)) → (0 ≤ u4291 ∧ u4291 ≤ 60) → qI σ α4293 κ ρ → qFr [] [123, 124] σ α σ α4293 → qr_W (qe L xs vb) (d + 2) qx_e268 (fun r w' => ∃ α', w' = qw σ α' κ ρ ∧ qI σ α' κ ρ ∧ qFr [] [123, 124] σ α σ α' ∧ ∃ v : Int, r = some (.int (qz v)) ∧ ((-2147483648) ≤ v ∧ v ≤ 2147483647)) (113, ls, [], qw σ α4293 κ ρ, 0, 0) := by
                            intro n
                            induction n with
                            | zero => intro ls u4291 α4293 hm g4284 g4285 g4286 g4287 g4288 g4289 g4290 hf4296 hI4294 hF4295; exact False.elim (by omega)
                            | succ n ih4298 =>
                              intro ls u4291 α4293 hm g4284 g4285 g4286 g4287 g4288 g4289 g4290 hf4296 hI4294 hF4295
                              refine qr_iload 115 rfl g4290 rfl ?_
                              refine qr_iload 117 rfl g4289 rfl ?_
                              refine qr_icmp_ge 147 120 rfl rfl rfl (by omega) (by omega) (fun h4305 => ?_) (fun h4305 => ?_)
                              · skip
                                refine qr_iconst 148 rfl rfl ?_
                                refine qr_istore _ 150 rfl (by decide) rfl rfl ?_
                                have hL4557 : ∀ (n : Nat) (ls : qm_L) (u4551 : Int) (α4553 : Nat → Nat → Int), 60 - u4551 < (n : Int) → qm_get ls 0 = some (.ref 86) → qm_get ls 3 = some (.int (qz x3)) → qm_get ls 4 = some (.int (qz x4)) → qm_get ls 5 = some (.int (qz x5)) → qm_get ls 6 = some (.int (qz u4551)) → (0 ≤ u4551 ∧ u4551 ≤ 60) → qI σ α4553 κ ρ → qFr [] [123, 124] σ α σ α4553 → qr_W (qe L xs vb) (d + 2) qx_e268 (fun r w' => ∃ α', w' = qw σ α' κ ρ ∧ qI σ α' κ ρ ∧ qFr [] [123, 124] σ α σ α' ∧ ∃ v : Int, r = some (.int (qz v)) ∧ ((-2147483648) ≤ v ∧ v ≤ 2147483647)) (150, ls, [], qw σ α4553 κ ρ, 0, 0) := by
                                  intro n
                                  induction n with
                                  | zero => intro ls u4551 α4553 hm g4546 g4547 g4548 g4549 g4550 hf4556 hI4554 hF4555; exact False.elim (by omega)
                                  | succ n ih4558 =>
                                    intro ls u4551 α4553 hm g4546 g4547 g4548 g4549 g4550 hf4556 hI4554 hF4555
                                    refine qr_iload 152 rfl g4550 rfl ?_
                                    refine qr_iload 154 rfl g4549 rfl ?_
                                    refine qr_icmp_ge 185 157 rfl rfl rfl (by omega) (by omega) (fun h4559 => ?_) (fun h4559 => ?_)
                                    · skip
                                      refine qr_iload 187 rfl g4549 rfl ?_
                                      refine qr_retI rfl rfl (by decide) (by decide) ?_
                                      exact ⟨_, rfl, hI4554, hF4555, x5, rfl, by omega⟩
                                    · skip
                                      refine qr_aload_n 158 rfl g4546 rfl ?_
                                      refine qr_get 161 rfl rfl rfl (by decide) rfl ?_
                                      refine qr_bipush 163 rfl (by decide) rfl ?_
                                      refine qr_iload_n 164 rfl g4547 rfl ?_
                                      refine qr_imul 165 rfl rfl ?_
                                      refine qr_iload 167 rfl g4548 rfl ?_
                                      refine qr_iadd 168 rfl rfl ?_
                                      refine qr_iload 170 rfl g4550 rfl ?_
                                      refine qr_iadd 171 rfl rfl ?_
                                      refine qr_aload_n 172 rfl g4546 rfl ?_
                                      refine qr_get 175 rfl rfl rfl (by decide) rfl ?_
                                      refine qr_iload 177 rfl g4550 rfl ?_
                                      refine qr_laload 178 rfl (by decide) rfl (by omega) (by decide) rfl ?_
                                      refine qr_topL (fun v4560 hv4560 => ?_)
                                      have hs4561 : (-9223372036854775808) ≤ v4560 ∧ v4560 ≤ 9223372036854775807 := by rw [hv4560]; exact hI4554.2.1 124 _ (show _ < 60 by omega)
                                      refine qr_lastore 179 rfl (by decide) rfl (by omega) (by decide) rfl ?_
                                      refine qy_wA (qw_r α4553 123 (qzu (α4553 123) ((((60 * x3) + x4) + u4551) : Int).toNat v4560)) rfl (fun α4562 e4563 => ?_)
                                      have hI4564 : qI σ α4562 κ ρ := by rw [e4563]; exact qI_r hI4554 123 _ rfl (show (-9223372036854775808) ≤ v4560 ∧ v4560 ≤ 9223372036854775807 by omega)
                                      have hF4565 : qFr [] [123, 124] σ α σ α4562 := by rw [e4563]; exact qFr_r hF4555 123 _ (by decide)
                                      refine qr_iinc _ 182 rfl g4550 (by decide) rfl rfl ?_
                                      refine qr_goto 150 rfl rfl ?_
                                      exact ih4558 _ (u4551 + 1) α4562 (by omega) (qm_gk g4546 (by decide) (Or.inl (by decide))) (qm_gk g4547 (by decide) (Or.inl (by decide))) (qm_gk g4548 (by decide) (Or.inl (by decide))) (qm_gk g4549 (by decide) (Or.inr rfl)) (qm_ge _ _ _) (by omega) hI4564 hF4565
                                exact hL4557 ((60 - 0 + 1 : Int)).toNat _ 0 α4293 (by omega) (qm_gk g4284 (by decide) (Or.inl (by decide))) (qm_gk g4287 (by decide) (Or.inl (by decide))) (qm_gk g4288 (by decide) (Or.inl (by decide))) (qm_gk g4289 (by decide) (Or.inr rfl)) (qm_ge _ _ _) (by omega) hI4294 hF4295
                              · skip
                                refine qr_aload_n 121 rfl g4284 rfl ?_
                                refine qr_get 124 rfl rfl rfl (by decide) rfl ?_
                                refine qr_iload 126 rfl g4290 rfl ?_
                                refine qr_aload_n 127 rfl g4284 rfl ?_
                                refine qr_get 130 rfl rfl rfl (by decide) rfl ?_
                                refine qr_bipush 132 rfl (by decide) rfl ?_
                                refine qr_iload_n 133 rfl g4285 rfl ?_
                                refine qr_imul 134 rfl rfl ?_
                                refine qr_iload_n 135 rfl g4286 rfl ?_
                                refine qr_iadd 136 rfl rfl ?_
                                refine qr_iload 138 rfl g4290 rfl ?_
                                refine qr_iadd 139 rfl rfl ?_
                                refine qr_laload 140 rfl (by decide) rfl (by omega) (by decide) rfl ?_
                                refine qr_topL (fun v4566 hv4566 => ?_)
                                have hs4567 : (-9223372036854775808) ≤ v4566 ∧ v4566 ≤ 9223372036854775807 := by rw [hv4566]; exact hI4294.2.1 123 _ (show _ < 360 by omega)
                                refine qr_lastore 141 rfl (by decide) rfl (by omega) (by decide) rfl ?_
                                refine qy_wA (qw_r α4293 124 (qzu (α4293 124) (u4291 : Int).toNat v4566)) rfl (fun α4568 e4569 => ?_)
                                have hI4570 : qI σ α4568 κ ρ := by rw [e4569]; exact qI_r hI4294 124 _ rfl (show (-9223372036854775808) ≤ v4566 ∧ v4566 ≤ 9223372036854775807 by omega)
                                have hF4571 : qFr [] [123, 124] σ α σ α4568 := by rw [e4569]; exact qFr_r hF4295 124 _ (by decide)
                                refine qr_iinc _ 144 rfl g4290 (by decide) rfl rfl ?_
                                refine qr_goto 113 rfl rfl ?_
                                exact ih4298 _ (u4291 + 1) α4568 (by omega) (qm_gk g4284 (by decide) (Or.inl (by decide))) (qm_gk g4285 (by decide) (Or.inl (by decide))) (qm_gk g4286 (by decide) (Or.inl (by decide))) (qm_gk g4287 (by decide) (Or.inl (by decide))) (qm_gk g4288 (by decide) (Or.inl (by decide))) (qm_gk g4289 (by decide) (Or.inr rfl)) (qm_ge _ _ _) (by omega) hI4570 hF4571
                          exact hL4297 ((60 - 0 + 1 : Int)).toNat _ 0 α (by omega) rfl rfl rfl rfl rfl rfl rfl (by omega) hI hF0
                        · skip
                          refine qr_bipush 109 rfl (by decide) rfl ?_
                          refine qr_retI rfl rfl (by decide) (by decide) ?_
                          exact ⟨_, rfl, hI, hF0, (-13), rfl, by omega⟩
            · skip
              refine qr_bipush 65 rfl (by decide) rfl ?_
              refine qr_retI rfl rfl (by decide) (by decide) ?_
              exact ⟨_, rfl, hI, hF0, (-12), rfl, by omega⟩
        · skip
          refine qr_bipush 36 rfl (by decide) rfl ?_
          refine qr_retI rfl rfl (by decide) (by decide) ?_
          exact ⟨_, rfl, hI, hF0, (-11), rfl, by omega⟩
    · skip
      refine qr_iconst 15 rfl rfl ?_
      refine qr_retI rfl rfl (by decide) (by decide) ?_
      exact ⟨_, rfl, hI, hF0, (-1), rfl, by omega⟩

set_option maxHeartbeats 4000000 in
set_option maxRecDepth 20000 in
/-- OneRoofModel.above -/
theorem sf_270 {L : Nat} {xs : Nat → Int} {vb : Bool} {d : Nat} {σ α : Nat → Nat → Int} {κ : Nat → Option Nat} {ρ : Nat} {x0 : Int} (hI : qI σ α κ ρ) (r0 : (-2147483648) ≤ x0 ∧ x0 ≤ 2147483647) : qm_T (qe L xs vb) (d + 1) 270 [.int (qz x0)] (qw σ α κ ρ) (fun r w' => w' = qw σ α κ ρ ∧ ∃ v : Int, r = some (.int (qz v)) ∧ ((-2147483648) ≤ v ∧ v ≤ 2147483647) ∧ (v = 0 ∨ (x0 = 2 ∧ v = 1) ∨ (x0 = 5 ∧ v = 4))) := by
  refine qr_start (d := d + 0) qv_e270 (Nat.le_of_ble_eq_true rfl) ?_
  show qr_W (qe L xs vb) (d + 0) qx_e270 _ (0, [(0, .int (qz x0))], [], _, 0, 0)
  refine qr_iload_n 1 rfl rfl rfl ?_
  refine qr_iconst 2 rfl rfl ?_
  refine qr_icmp_ne 9 5 rfl rfl rfl (by omega) (by omega) (fun h1 => ?_) (fun h1 => ?_)
  · skip
    refine qr_iload_n 10 rfl rfl rfl ?_
    refine qr_iconst 11 rfl rfl ?_
    refine qr_icmp_ne 18 14 rfl rfl rfl (by omega) (by omega) (fun h2 => ?_) (fun h2 => ?_)
    · skip
      refine qr_iconst 19 rfl rfl ?_
      refine qr_retI rfl rfl (by decide) (by decide) ?_
      exact ⟨rfl, 0, rfl, by omega, by omega⟩
    · skip
      refine qr_iconst 15 rfl rfl ?_
      refine qr_goto 19 rfl rfl ?_
      refine qr_retI rfl rfl (by decide) (by decide) ?_
      exact ⟨rfl, 4, rfl, by omega, by omega⟩
  · skip
    refine qr_iconst 6 rfl rfl ?_
    refine qr_goto 19 rfl rfl ?_
    refine qr_retI rfl rfl (by decide) (by decide) ?_
    exact ⟨rfl, 1, rfl, by omega, by omega⟩

set_option maxHeartbeats 4000000 in
set_option maxRecDepth 20000 in
/-- OneRoofModel.taken -/
theorem sf_269_86 {L : Nat} {xs : Nat → Int} {vb : Bool} {d : Nat} {σ α : Nat → Nat → Int} {κ : Nat → Option Nat} {ρ : Nat} {x1 : Int} {x2 : Int} (hI : qI σ α κ ρ) (r1 : (-2147483648) ≤ x1 ∧ x1 ≤ 2147483647) (r2 : (-2147483648) ≤ x2 ∧ x2 ≤ 2147483647) : qm_T (qe L xs vb) (d + 3) 269 [.ref 86, .int (qz x1), .int (qz x2)] (qw σ α κ ρ) (fun r w' => w' = qw σ α κ ρ ∧ ∃ v : Int, r = some (.int (qz v)) ∧ ((-2147483648) ≤ v ∧ v ≤ 2147483647)) := by
  refine qr_start (d := d + 2) qv_e269 (Nat.le_of_ble_eq_true rfl) ?_
  show qr_W (qe L xs vb) (d + 2) qx_e269 _ (0, [(0, .ref 86), (1, .int (qz x1)), (2, .int (qz x2))], [], _, 0, 0)
  refine qr_iload_n 1 rfl rfl rfl ?_
  refine qr_callN 4 rfl rfl rfl (sf_178 (d := d + 0) hI (by omega)) ?_
  rintro _ _ ⟨rfl, v1, rfl, hv1, hp2⟩
  show qr_W (qe L xs vb) (d + 2) qx_e269 _ (4, _, [.int (qz v1)], qw σ α κ ρ, 0, 0)
  refine qr_if_eq 19 7 rfl rfl rfl (by omega) (fun h3 => ?_) (fun h3 => ?_)
  · skip
    refine qr_iconst 20 rfl rfl ?_
    refine qr_retI rfl rfl (by decide) (by decide) ?_
    exact ⟨rfl, (-1), rfl, by omega⟩
  · skip
    refine qr_iload_n 8 rfl rfl rfl ?_
    refine qr_i2l 9 rfl (by omega) rfl ?_
    refine qr_lconst 10 rfl rfl ?_
    refine qy_vl 0 rfl ?_
    refine qr_ldc2 6 13 rfl (by decide) rfl ?_
    refine qr_callN 16 rfl rfl rfl (sf_176 (d := d + 1) hI (by omega) (by omega) (by omega)) ?_
    rintro _ _ ⟨rfl, v4, rfl, hv4, hp5⟩
    show qr_W (qe L xs vb) (d + 2) qx_e269 _ (16, _, [.int (qz v4)], qw σ α κ ρ, 0, 0)
    refine qr_if_ne 21 19 rfl rfl rfl (by omega) (fun h6 => ?_) (fun h6 => ?_)
    · skip
      refine qr_aload_n 22 rfl rfl rfl ?_
      refine qr_get 25 rfl rfl rfl (by decide) rfl ?_
      refine qr_iload_n 26 rfl rfl rfl ?_
      refine qr_iaload 27 rfl rfl (by omega) (by decide) rfl ?_
      refine qr_topI (fun v7 hv7 => ?_)
      have hs8 : (-1) ≤ v7 ∧ v7 ≤ 64 := by rw [hv7]; exact hI.2.1 121 _ (show _ < 6 by omega)
      refine qr_if_ge 33 30 rfl rfl rfl (by omega) (fun h9 => ?_) (fun h9 => ?_)
      · skip
        refine qr_aload_n 34 rfl rfl rfl ?_
        refine qr_get 37 rfl rfl rfl (by decide) rfl ?_
        refine qr_iload_n 38 rfl rfl rfl ?_
        refine qr_iaload 39 rfl rfl (by omega) (by decide) rfl ?_
        refine qr_topI (fun v10 hv10 => ?_)
        have hs11 : (-1) ≤ v10 ∧ v10 ≤ 64 := by rw [hv10]; exact hI.2.1 121 _ (show _ < 6 by omega)
        refine qr_bipush 41 rfl (by decide) rfl ?_
        refine qr_icmp_lt 47 44 rfl rfl rfl (by omega) (by omega) (fun h12 => ?_) (fun h12 => ?_)
        · skip
          refine qr_aload_n 48 rfl rfl rfl ?_
          refine qr_aload_n 49 rfl rfl rfl ?_
          refine qr_get 52 rfl rfl rfl (by decide) rfl ?_
          refine qr_iload_n 53 rfl rfl rfl ?_
          refine qr_iaload 54 rfl rfl (by omega) (by decide) rfl ?_
          refine qr_topI (fun v13 hv13 => ?_)
          have hs14 : (-1) ≤ v13 ∧ v13 ≤ 64 := by rw [hv13]; exact hI.2.1 121 _ (show _ < 6 by omega)
          refine qr_callN 57 rfl rfl rfl (sf_201_86 (d := d + 1) hI (by omega)) ?_
          rintro _ _ ⟨rfl, v15, rfl, hv15⟩
          show qr_W (qe L xs vb) (d + 2) qx_e269 _ (57, _, [.int (qz v15)], qw σ α κ ρ, 0, 0)
          refine qr_istore_n _ 58 rfl (by decide) rfl rfl ?_
          have hL86 : ∀ (n : Nat) (ls : qm_L) (u84 : Int), (u84.toNat : Int) < (n : Int) → qm_get ls 0 = some (.ref 86) → qm_get ls 1 = some (.int (qz x1)) → qm_get ls 2 = some (.int (qz x2)) → qm_get ls 3 = some (.int (qz u84)) → ((-2147483648) ≤ u84 ∧ u84 ≤ 2147483647) → qr_W (qe L xs vb) (d + 2) qx_e269 (fun r w' => w' = qw σ α κ ρ ∧ ∃ v : Int, r = some (.int (qz v)) ∧ ((-2147483648) ≤ v ∧ v ≤ 2147483647)) (58, ls, [], qw σ α κ ρ, 0, 0) := by
            intro n
            induction n with
            | zero => intro ls u84 hm g80 g81 g82 g83 hf85; exact False.elim (by omega)
            | succ n ih87 =>
              intro ls u84 hm g80 g81 g82 g83 hf85
              refine qr_iload_n 59 rfl g83 rfl ?_
              refine qr_iload_n 60 rfl g82 rfl ?_
              have hJ96 : ∀ (ls : qm_L) (u94 : Int), qm_get ls 0 = some (.ref 86) → qm_get ls 1 = some (.int (qz x1)) → qm_get ls 2 = some (.int (qz x2)) → qm_get ls 3 = some (.int (qz u94)) → ((-2147483648) ≤ u94 ∧ u94 ≤ 6) → qr_W (qe L xs vb) (d + 2) qx_e269 (fun r w' => w' = qw σ α κ ρ ∧ ∃ v : Int, r = some (.int (qz v)) ∧ ((-2147483648) ≤ v ∧ v ≤ 2147483647)) (75, ls, [], qw σ α κ ρ, 0, 0) := by
                intro ls u94 g90 g91 g92 g93 hf95
                refine qr_iload_n 76 rfl g93 rfl ?_
                refine qr_iload_n 77 rfl g92 rfl ?_
                refine qr_icmp_ne 93 80 rfl rfl rfl (by omega) (by omega) (fun h97 => ?_) (fun h97 => ?_)
                · skip
                  refine qr_bipush 95 rfl (by decide) rfl ?_
                  refine qr_retI rfl rfl (by decide) (by decide) ?_
                  exact ⟨rfl, (-12), rfl, by omega⟩
                · skip
                  refine qr_aload_n 81 rfl g90 rfl ?_
                  refine qr_aload_n 82 rfl g90 rfl ?_
                  refine qr_get 85 rfl rfl rfl (by decide) rfl ?_
                  refine qr_iload_n 86 rfl g91 rfl ?_
                  refine qr_iaload 87 rfl rfl (by omega) (by decide) rfl ?_
                  refine qr_topI (fun v98 hv98 => ?_)
                  have hs99 : (-1) ≤ v98 ∧ v98 ≤ 64 := by rw [hv98]; exact hI.2.1 121 _ (show _ < 6 by omega)
                  refine qr_callN 90 rfl rfl rfl (sf_201_86 (d := d + 1) hI (by omega)) ?_
                  rintro _ _ ⟨rfl, v100, rfl, hv100⟩
                  show qr_W (qe L xs vb) (d + 2) qx_e269 _ (90, _, [.int (qz v100)], qw σ α κ ρ, 0, 0)
                  refine qr_goto 95 rfl rfl ?_
                  refine qr_retI rfl rfl (by decide) (by decide) ?_
                  exact ⟨rfl, v100, rfl, by omega⟩
              refine qr_icmp_eq 75 63 rfl rfl rfl (by omega) (by omega) (fun h101 => ?_) (fun h101 => ?_)
              · skip
                exact hJ96 _ u84 g80 g81 g82 g83 (by omega)
              · skip
                refine qr_iload_n 64 rfl g83 rfl ?_
                refine qr_if_le 75 67 rfl rfl rfl (by omega) (fun h102 => ?_) (fun h102 => ?_)
                · skip
                  exact hJ96 _ u84 g80 g81 g82 g83 (by omega)
                · skip
                  refine qr_iload_n 68 rfl g83 rfl ?_
                  refine qr_callN 71 rfl rfl rfl (sf_270 (d := d + 1) hI (by omega)) ?_
                  rintro _ _ ⟨rfl, v103, rfl, hv103, hp104⟩
                  show qr_W (qe L xs vb) (d + 2) qx_e269 _ (71, _, [.int (qz v103)], qw σ α κ ρ, 0, 0)
                  refine qr_istore_n _ 72 rfl (by decide) rfl rfl ?_
                  refine qr_goto 58 rfl rfl ?_
                  exact ih87 _ v103 (by omega) (qm_gk g80 (by decide) (Or.inl (by decide))) (qm_gk g81 (by decide) (Or.inl (by decide))) (qm_gk g82 (by decide) (Or.inr rfl)) (qm_ge _ _ _) (by omega)
          exact hL86 (((v15.toNat : Int) + 1 : Int)).toNat _ v15 (by omega) rfl rfl rfl rfl (by omega)
        · skip
          refine qr_bipush 46 rfl (by decide) rfl ?_
          refine qr_retI rfl rfl (by decide) (by decide) ?_
          exact ⟨rfl, (-12), rfl, by omega⟩
      · skip
        refine qr_bipush 32 rfl (by decide) rfl ?_
        refine qr_retI rfl rfl (by decide) (by decide) ?_
        exact ⟨rfl, (-11), rfl, by omega⟩
    · skip
      refine qr_iconst 20 rfl rfl ?_
      refine qr_retI rfl rfl (by decide) (by decide) ?_
      exact ⟨rfl, (-1), rfl, by omega⟩

set_option maxHeartbeats 4000000 in
set_option maxRecDepth 20000 in
/-- OneRoofModel.blow -/
theorem sf_250_86 {L : Nat} {xs : Nat → Int} {vb : Bool} {d : Nat} {σ α : Nat → Nat → Int} {κ : Nat → Option Nat} {ρ : Nat} {x1 : Int} (hI : qI σ α κ ρ) (r1 : (-2147483648) ≤ x1 ∧ x1 ≤ 2147483647) : qm_T (qe L xs vb) (d + 1) 250 [.ref 86, .int (qz x1)] (qw σ α κ ρ) (fun r w' => w' = qw σ α κ ρ ∧ ∃ v : Int, r = some (.int (qz v)) ∧ ((-2147483648) ≤ v ∧ v ≤ 2147483647)) := by
  refine qr_start (d := d + 0) qv_e250 (Nat.le_of_ble_eq_true rfl) ?_
  show qr_W (qe L xs vb) (d + 0) qx_e250 _ (0, [(0, .ref 86), (1, .int (qz x1))], [], _, 0, 0)
  refine qr_iload_n 1 rfl rfl rfl ?_
  refine qr_if_lt 31 4 rfl rfl rfl (by omega) (fun h1 => ?_) (fun h1 => ?_)
  · skip
    refine qr_iconst 32 rfl rfl ?_
    refine qr_retI rfl rfl (by decide) (by decide) ?_
    exact ⟨rfl, (-1), rfl, by omega⟩
  · skip
    refine qr_iload_n 5 rfl rfl rfl ?_
    refine qr_aload_n 6 rfl rfl rfl ?_
    refine qr_get 9 rfl rfl rfl (by decide) rfl ?_
    have hs2 : 0 ≤ σ 86 50 ∧ σ 86 50 ≤ 31 := hI.1 86 50
    refine qr_icmp_ge 31 12 rfl rfl rfl (by omega) (by omega) (fun h3 => ?_) (fun h3 => ?_)
    · skip
      refine qr_iconst 32 rfl rfl ?_
      refine qr_retI rfl rfl (by decide) (by decide) ?_
      exact ⟨rfl, (-1), rfl, by omega⟩
    · skip
      refine qr_bipush 14 rfl (by decide) rfl ?_
      refine qr_aload_n 15 rfl rfl rfl ?_
      refine qr_get 18 rfl rfl rfl (by decide) rfl ?_
      refine qr_iload_n 19 rfl rfl rfl ?_
      refine qr_iaload 20 rfl rfl (by omega) (by decide) rfl ?_
      refine qr_topI (fun v4 hv4 => ?_)
      have hs5 : 0 ≤ v4 ∧ v4 ≤ 31 := by rw [hv4]; exact hI.2.1 115 _ (show _ < 31 by omega)
      refine qr_imul 21 rfl rfl ?_
      refine qr_aload_n 22 rfl rfl rfl ?_
      refine qr_get 25 rfl rfl rfl (by decide) rfl ?_
      refine qr_iload_n 26 rfl rfl rfl ?_
      refine qr_iaload 27 rfl rfl (by omega) (by decide) rfl ?_
      refine qr_topI (fun v6 hv6 => ?_)
      have hs7 : 0 ≤ v6 ∧ v6 ≤ 31 := by rw [hv6]; exact hI.2.1 116 _ (show _ < 31 by omega)
      refine qr_iadd 28 rfl rfl ?_
      refine qr_goto 32 rfl rfl ?_
      refine qr_retI rfl rfl (by decide) (by decide) ?_
      exact ⟨rfl, ((100 * v4) + v6), rfl, by omega⟩

set_option maxHeartbeats 4000000 in
set_option maxRecDepth 20000 in
/-- OneRoofModel.alive -/
theorem sf_251_86 {L : Nat} {xs : Nat → Int} {vb : Bool} {d : Nat} {σ α : Nat → Nat → Int} {κ : Nat → Option Nat} {ρ : Nat}  (hI : qI σ α κ ρ)  : qm_T (qe L xs vb) (d + 1) 251 [.ref 86] (qw σ α κ ρ) (fun r w' => w' = qw σ α κ ρ ∧ ∃ v : Int, r = some (.long (ql v)) ∧ ((-9223372036854775808) ≤ v ∧ v ≤ 9223372036854775807)) := by
  refine qr_start (d := d + 0) qv_e251 (Nat.le_of_ble_eq_true rfl) ?_
  show qr_W (qe L xs vb) (d + 0) qx_e251 _ (0, [(0, .ref 86)], [], _, 0, 0)
  refine qr_aload_n 1 rfl rfl rfl ?_
  refine qr_get 4 rfl rfl rfl (by decide) rfl ?_
  have hs1 : (-9223372036854775808) ≤ σ 86 51 ∧ σ 86 51 ≤ 9223372036854775807 := hI.1 86 51
  refine qr_retL rfl rfl (by decide) (by decide) ?_
  exact ⟨rfl, (σ 86 51), rfl, by omega⟩
end
section
set_option maxHeartbeats 4000000 in
set_option maxRecDepth 20000 in
/-- OneRoofModel.isLordOf -/
theorem sf_207_86 {L : Nat} {xs : Nat → Int} {vb : Bool} {d : Nat} {σ α : Nat → Nat → Int} {κ : Nat → Option Nat} {ρ : Nat} {x1 : Int} {x2 : Int} (hI : qI σ α κ ρ) (r1 : (-2147483648) ≤ x1 ∧ x1 ≤ 2147483647) (r2 : 0 ≤ x2 ∧ x2 ≤ 31) (p0 : 1 ≤ σ 86 6) : qm_T (qe L xs vb) (d + 1) 207 [.ref 86, .int (qz x1), .int (qz x2)] (qw σ α κ ρ) (fun r w' => w' = qw σ α κ ρ ∧ ∃ v : Int, r = some (.int (qz v)) ∧ (0 ≤ v ∧ v ≤ 1)) := by
  refine qr_start (d := d + 0) qv_e207 (Nat.le_of_ble_eq_true rfl) ?_
  show qr_W (qe L xs vb) (d + 0) qx_e207 _ (0, [(0, .ref 86), (1, .int (qz x1)), (2, .int (qz x2))], [], _, 0, 0)
  have hz86_6 : 0 ≤ σ 86 6 ∧ σ 86 6 ≤ 32 := hI.1 86 6
  refine qr_aload_n 1 rfl rfl rfl ?_
  refine qr_get 4 rfl rfl rfl (by decide) rfl ?_
  refine qr_iload_n 5 rfl rfl rfl ?_
  refine qr_iaload 6 rfl rfl (by omega) (by decide) rfl ?_
  refine qr_topI (fun v1 hv1 => ?_)
  have hs2 : (-1) ≤ v1 ∧ v1 ≤ 31 := by rw [hv1]; exact hI.2.1 91 _ (show _ < 32 by omega)
  have hs3 := hI.2.2.2.2.2.2.1 (x2 : Int).toNat (by omega)
  refine qr_istore_n _ 7 rfl (by decide) rfl rfl ?_
  have hL37 : ∀ (n : Nat) (ls : qm_L) (u35 : Int), u35 + 1 < (n : Int) → qm_get ls 0 = some (.ref 86) → qm_get ls 1 = some (.int (qz x1)) → qm_get ls 3 = some (.int (qz u35)) → ((-1) ≤ u35 ∧ u35 ≤ 31) → qr_W (qe L xs vb) (d + 0) qx_e207 (fun r w' => w' = qw σ α κ ρ ∧ ∃ v : Int, r = some (.int (qz v)) ∧ (0 ≤ v ∧ v ≤ 1)) (7, ls, [], qw σ α κ ρ, 0, 0) := by
    intro n
    induction n with
    | zero => intro ls u35 hm g32 g33 g34 hf36; exact False.elim (by omega)
    | succ n ih38 =>
      intro ls u35 hm g32 g33 g34 hf36
      refine qr_iload_n 8 rfl g34 rfl ?_
      refine qr_if_lt 28 11 rfl rfl rfl (by omega) (fun h39 => ?_) (fun h39 => ?_)
      · skip
        refine qr_iconst 29 rfl rfl ?_
        refine qr_retZ rfl rfl (by omega) (by decide) (by decide) ?_
        exact ⟨rfl, 0, rfl, by omega⟩
      · skip
        refine qr_iload_n 12 rfl g34 rfl ?_
        refine qr_iload_n 13 rfl g33 rfl ?_
        refine qr_icmp_ne 18 16 rfl rfl rfl (by omega) (by omega) (fun h40 => ?_) (fun h40 => ?_)
        · skip
          refine qr_aload_n 19 rfl g32 rfl ?_
          refine qr_get 22 rfl rfl rfl (by decide) rfl ?_
          refine qr_iload_n 23 rfl g34 rfl ?_
          refine qr_iaload 24 rfl rfl (by omega) (by decide) rfl ?_
          refine qr_topI (fun v41 hv41 => ?_)
          have hs42 : (-1) ≤ v41 ∧ v41 ≤ 31 := by rw [hv41]; exact hI.2.1 91 _ (show _ < 32 by omega)
          have hs43 := hI.2.2.2.2.2.2.1 (u35 : Int).toNat (by omega)
          refine qr_istore_n _ 25 rfl (by decide) rfl rfl ?_
          refine qr_goto 7 rfl rfl ?_
          exact ih38 _ v41 (by omega) (qm_gk g32 (by decide) (Or.inl (by decide))) (qm_gk g33 (by decide) (Or.inl (by decide))) (qm_ge _ _ _) (by omega)
        · skip
          refine qr_iconst 17 rfl rfl ?_
          refine qr_retZ rfl rfl (by omega) (by decide) (by decide) ?_
          exact ⟨rfl, 1, rfl, by omega⟩
  exact hL37 ((v1 + 1 + 1 : Int)).toNat _ v1 (by omega) rfl rfl rfl (by omega)

set_option maxHeartbeats 4000000 in
set_option maxRecDepth 20000 in
/-- OneRoofModel.isUnderGiver -/
theorem sf_206_86 {L : Nat} {xs : Nat → Int} {vb : Bool} {d : Nat} {σ α : Nat → Nat → Int} {κ : Nat → Option Nat} {ρ : Nat} {x1 : Int} {x2 : Int} (hI : qI σ α κ ρ) (r1 : 0 ≤ x1 ∧ x1 ≤ 59) (r2 : 0 ≤ x2 ∧ x2 ≤ 31) (p0 : 1 ≤ σ 86 6) : qm_T (qe L xs vb) (d + 2) 206 [.ref 86, .int (qz x1), .int (qz x2)] (qw σ α κ ρ) (fun r w' => w' = qw σ α κ ρ ∧ ∃ v : Int, r = some (.int (qz v)) ∧ (0 ≤ v ∧ v ≤ 1)) := by
  refine qr_start (d := d + 1) qv_e206 (Nat.le_of_ble_eq_true rfl) ?_
  show qr_W (qe L xs vb) (d + 1) qx_e206 _ (0, [(0, .ref 86), (1, .int (qz x1)), (2, .int (qz x2))], [], _, 0, 0)
  have hz86_6 : 0 ≤ σ 86 6 ∧ σ 86 6 ≤ 32 := hI.1 86 6
  refine qr_iload_n 1 rfl rfl rfl ?_
  refine qr_aload_n 2 rfl rfl rfl ?_
  refine qr_get 5 rfl rfl rfl (by decide) rfl ?_
  refine qr_iload_n 6 rfl rfl rfl ?_
  refine qr_iaload 7 rfl rfl (by omega) (by decide) rfl ?_
  refine qr_topI (fun v1 hv1 => ?_)
  have hs2 : 0 ≤ v1 ∧ v1 ≤ 31 := by rw [hv1]; exact hI.2.1 102 _ (show _ < 60 by omega)
  refine qr_icmp_eq 24 10 rfl rfl rfl (by omega) (by omega) (fun h3 => ?_) (fun h3 => ?_)
  · skip
    refine qr_iconst 25 rfl rfl ?_
    refine qr_goto 29 rfl rfl ?_
    refine qr_retZ rfl rfl (by omega) (by decide) (by decide) ?_
    exact ⟨rfl, 1, rfl, by omega⟩
  · skip
    refine qr_aload_n 11 rfl rfl rfl ?_
    refine qr_aload_n 12 rfl rfl rfl ?_
    refine qr_get 15 rfl rfl rfl (by decide) rfl ?_
    refine qr_iload_n 16 rfl rfl rfl ?_
    refine qr_iaload 17 rfl rfl (by omega) (by decide) rfl ?_
    refine qr_topI (fun v4 hv4 => ?_)
    have hs5 : 0 ≤ v4 ∧ v4 ≤ 31 := by rw [hv4]; exact hI.2.1 102 _ (show _ < 60 by omega)
    refine qr_iload_n 18 rfl rfl rfl ?_
    refine qr_callN 21 rfl rfl rfl (sf_207_86 (d := d + 0) hI (by omega) (by omega) (by omega)) ?_
    rintro _ _ ⟨rfl, v6, rfl, hv6⟩
    show qr_W (qe L xs vb) (d + 1) qx_e206 _ (21, _, [.int (qz v6)], qw σ α κ ρ, 0, 0)
    refine qr_if_eq 28 24 rfl rfl rfl (by omega) (fun h7 => ?_) (fun h7 => ?_)
    · skip
      refine qr_iconst 29 rfl rfl ?_
      refine qr_retZ rfl rfl (by omega) (by decide) (by decide) ?_
      exact ⟨rfl, 0, rfl, by omega⟩
    · skip
      refine qr_iconst 25 rfl rfl ?_
      refine qr_goto 29 rfl rfl ?_
      refine qr_retZ rfl rfl (by omega) (by decide) (by decide) ?_
      exact ⟨rfl, 1, rfl, by omega⟩

set_option maxHeartbeats 4000000 in
set_option maxRecDepth 20000 in
/-- OneRoofModel.holdsNow -/
theorem sf_205_86 {L : Nat} {xs : Nat → Int} {vb : Bool} {d : Nat} {σ α : Nat → Nat → Int} {κ : Nat → Option Nat} {ρ : Nat} {x1 : Int} {x2 : Int} {x3 : Int} {x4 : Int} (hI : qI σ α κ ρ) (r1 : 0 ≤ x1 ∧ x1 ≤ 59) (r2 : 0 ≤ x2 ∧ x2 ≤ 31) (r3 : 0 ≤ x3 ∧ x3 ≤ 31) (r4 : (-2147483648) ≤ x4 ∧ x4 ≤ 2147483647) (p0 : 1 ≤ σ 86 6) : qm_T (qe L xs vb) (d + 3) 205 [.ref 86, .int (qz x1), .int (qz x2), .int (qz x3), .int (qz x4)] (qw σ α κ ρ) (fun r w' => w' = qw σ α κ ρ ∧ ∃ v : Int, r = some (.int (qz v)) ∧ (0 ≤ v ∧ v ≤ 1)) := by
  refine qr_start (d := d + 2) qv_e205 (Nat.le_of_ble_eq_true rfl) ?_
  show qr_W (qe L xs vb) (d + 2) qx_e205 _ (0, [(0, .ref 86), (1, .int (qz x1)), (2, .int (qz x2)), (3, .int (qz x3)), (4, .int (qz x4))], [], _, 0, 0)
  have hz86_6 : 0 ≤ σ 86 6 ∧ σ 86 6 ≤ 32 := hI.1 86 6
  refine qr_aload_n 1 rfl rfl rfl ?_
  refine qr_iload_n 2 rfl rfl rfl ?_
  refine qr_callN 5 rfl rfl rfl (sf_201_86 (d := d + 1) hI (by omega)) ?_
  rintro _ _ ⟨rfl, v1, rfl, hv1⟩
  show qr_W (qe L xs vb) (d + 2) qx_e205 _ (5, _, [.int (qz v1)], qw σ α κ ρ, 0, 0)
  refine qr_istore _ 7 rfl (by decide) rfl rfl ?_
  refine qr_iload 9 rfl rfl rfl ?_
  refine qr_bipush 11 rfl (by decide) rfl ?_
  refine qr_icmp_eq 66 14 rfl rfl rfl (by omega) (by omega) (fun h2 => ?_) (fun h2 => ?_)
  · skip
    refine qr_iconst 67 rfl rfl ?_
    refine qr_retZ rfl rfl (by omega) (by decide) (by decide) ?_
    exact ⟨rfl, 0, rfl, by omega⟩
  · skip
    refine qr_aload_n 15 rfl rfl rfl ?_
    refine qr_get 18 rfl rfl rfl (by decide) rfl ?_
    have hs3 : (-9223372036854775808) ≤ σ 86 29 ∧ σ 86 29 ≤ 9223372036854775807 := hI.1 86 29
    refine qr_iload_n 19 rfl rfl rfl ?_
    refine qr_lshr 20 rfl rfl ?_
    refine qy_canl (fun v4 hv4 => ?_)
    refine qr_lconst 21 rfl rfl ?_
    refine qy_vl 1 rfl ?_
    refine qr_land 22 rfl rfl ?_
    refine qy_canl (fun v5 hv5 => ?_)
    refine qr_lconst 23 rfl rfl ?_
    refine qy_vl 1 rfl ?_
    refine qr_lc_eq 66 27 rfl rfl rfl rfl (by omega) (by omega) (fun h6 => ?_) (fun h6 => ?_)
    · skip
      refine qr_iconst 67 rfl rfl ?_
      refine qr_retZ rfl rfl (by omega) (by decide) (by decide) ?_
      exact ⟨rfl, 0, rfl, by omega⟩
    · skip
      refine qr_iload 29 rfl rfl rfl ?_
      refine qr_aload_n 30 rfl rfl rfl ?_
      refine qr_get 33 rfl rfl rfl (by decide) rfl ?_
      refine qr_iload_n 34 rfl rfl rfl ?_
      refine qr_iaload 35 rfl rfl (by omega) (by decide) rfl ?_
      refine qr_topI (fun v7 hv7 => ?_)
      have hs8 : (-2147483648) ≤ v7 ∧ v7 ≤ 2147483647 := by rw [hv7]; exact hI.2.1 103 _ (show _ < 60 by omega)
      refine qr_icmp_lt 66 38 rfl rfl rfl (by omega) (by omega) (fun h9 => ?_) (fun h9 => ?_)
      · skip
        refine qr_iconst 67 rfl rfl ?_
        refine qr_retZ rfl rfl (by omega) (by decide) (by decide) ?_
        exact ⟨rfl, 0, rfl, by omega⟩
      · skip
        refine qr_iload 40 rfl rfl rfl ?_
        refine qr_aload_n 41 rfl rfl rfl ?_
        refine qr_get 44 rfl rfl rfl (by decide) rfl ?_
        refine qr_iload_n 45 rfl rfl rfl ?_
        refine qr_iaload 46 rfl rfl (by omega) (by decide) rfl ?_
        refine qr_topI (fun v10 hv10 => ?_)
        have hs11 : (-2147483648) ≤ v10 ∧ v10 ≤ 2147483647 := by rw [hv10]; exact hI.2.1 104 _ (show _ < 60 by omega)
        refine qr_iload 48 rfl rfl rfl ?_
        refine qr_iconst 49 rfl rfl ?_
        have hJ21 : ∀ (ls : qm_L) (u19 : Int), qm_get ls 0 = some (.ref 86) → qm_get ls 1 = some (.int (qz x1)) → qm_get ls 2 = some (.int (qz x2)) → qm_get ls 3 = some (.int (qz x3)) → qm_get ls 5 = some (.int (qz v1)) → ((-2147483648) ≤ u19 ∧ u19 ≤ 2147483647) → qr_W (qe L xs vb) (d + 2) qx_e205 (fun r w' => w' = qw σ α κ ρ ∧ ∃ v : Int, r = some (.int (qz v)) ∧ (0 ≤ v ∧ v ≤ 1)) (62, ls, [.int (qz u19), .int (qz v10), .int (qz x4)], qw σ α κ ρ, 0, 0) := by
          intro ls u19 g14 g15 g16 g17 g18 hf20
          refine qr_iadd 63 rfl rfl ?_
          refine qy_can (fun v22 hv22 => ?_)
          refine qr_icmp_le 68 66 rfl rfl rfl (by omega) (by omega) (fun h23 => ?_) (fun h23 => ?_)
          · skip
            refine qr_aload_n 69 rfl g14 rfl ?_
            refine qr_iload_n 70 rfl g15 rfl ?_
            refine qr_iload_n 71 rfl g16 rfl ?_
            refine qr_callN 74 rfl rfl rfl (sf_202_86 (d := d + 1) hI (by omega) (by omega)) ?_
            rintro _ _ ⟨rfl, v24, rfl, hv24⟩
            show qr_W (qe L xs vb) (d + 2) qx_e205 _ (74, _, [.int (qz v24)], qw σ α κ ρ, 0, 0)
            refine qr_istore _ 76 rfl (by decide) rfl rfl ?_
            refine qr_aload_n 77 rfl (qm_gk g14 (by decide) (Or.inl (by decide))) rfl ?_
            refine qr_iload_n 78 rfl (qm_gk g15 (by decide) (Or.inl (by decide))) rfl ?_
            refine qr_iload_n 79 rfl (qm_gk g17 (by decide) (Or.inl (by decide))) rfl ?_
            refine qr_callN 82 rfl rfl rfl (sf_202_86 (d := d + 1) hI (by omega) (by omega)) ?_
            rintro _ _ ⟨rfl, v25, rfl, hv25⟩
            show qr_W (qe L xs vb) (d + 2) qx_e205 _ (82, _, [.int (qz v25)], qw σ α κ ρ, 0, 0)
            refine qr_istore _ 84 rfl (by decide) rfl rfl ?_
            refine qr_iload 86 rfl (qm_gk (qm_gk g18 (by decide) (Or.inr rfl)) (by decide) (Or.inl (by decide))) rfl ?_
            have h26 : v1 = 1 ∨ v1 = 2 ∨ v1 = 3 ∨ v1 = 4 ∨ v1 = 5 ∨ (v1 < 1 ∨ 5 < v1) := by omega
            rcases h26 with h26 | h26 | h26 | h26 | h26 | h26
            · skip
              refine qr_tabIn 120 rfl (by omega) (by omega) (by rw [h26]; rfl) rfl ?_
              refine qr_iload 122 rfl (qm_gk (qm_ge _ _ _) (by decide) (Or.inr rfl)) rfl ?_
              refine qr_if_eq 130 125 rfl rfl rfl (by omega) (fun h28 => ?_) (fun h28 => ?_)
              · skip
                refine qr_iload 132 rfl (qm_gk (qm_ge _ _ _) (by decide) (Or.inr rfl)) rfl ?_
                refine qr_if_eq 145 135 rfl rfl rfl (by omega) (fun h29 => ?_) (fun h => False.elim (by omega))
                refine qr_iload 147 rfl (qm_ge _ _ _) rfl ?_
                refine qr_if_eq 164 150 rfl rfl rfl (by omega) (fun h30 => ?_) (fun h30 => ?_)
                · skip
                  refine qr_iconst 165 rfl rfl ?_
                  refine qr_retZ rfl rfl (by omega) (by decide) (by decide) ?_
                  exact ⟨rfl, 0, rfl, by omega⟩
                · skip
                  refine qr_iload_n 151 rfl (qm_gk (qm_gk g16 (by decide) (Or.inl (by decide))) (by decide) (Or.inl (by decide))) rfl ?_
                  refine qr_aload_n 152 rfl (qm_gk (qm_gk g14 (by decide) (Or.inl (by decide))) (by decide) (Or.inl (by decide))) rfl ?_
                  refine qr_get 155 rfl rfl rfl (by decide) rfl ?_
                  refine qr_iload_n 156 rfl (qm_gk (qm_gk g15 (by decide) (Or.inl (by decide))) (by decide) (Or.inl (by decide))) rfl ?_
                  refine qr_iaload 157 rfl rfl (by omega) (by decide) rfl ?_
                  refine qr_topI (fun v31 hv31 => ?_)
                  have hs32 : 0 ≤ v31 ∧ v31 ≤ 31 := by rw [hv31]; exact hI.2.1 102 _ (show _ < 60 by omega)
                  refine qr_icmp_ne 164 160 rfl rfl rfl (by omega) (by omega) (fun h33 => ?_) (fun h33 => ?_)
                  · skip
                    refine qr_iconst 165 rfl rfl ?_
                    refine qr_retZ rfl rfl (by omega) (by decide) (by decide) ?_
                    exact ⟨rfl, 0, rfl, by omega⟩
                  · skip
                    refine qr_iconst 161 rfl rfl ?_
                    refine qr_goto 165 rfl rfl ?_
                    refine qr_retZ rfl rfl (by omega) (by decide) (by decide) ?_
                    exact ⟨rfl, 1, rfl, by omega⟩
              · skip
                refine qr_iload 127 rfl (qm_ge _ _ _) rfl ?_
                refine qr_if_ne 160 130 rfl rfl rfl (by omega) (fun h34 => ?_) (fun h34 => ?_)
                · skip
                  refine qr_iconst 161 rfl rfl ?_
                  refine qr_goto 165 rfl rfl ?_
                  refine qr_retZ rfl rfl (by omega) (by decide) (by decide) ?_
                  exact ⟨rfl, 1, rfl, by omega⟩
                · skip
                  refine qr_iload 132 rfl (qm_gk (qm_ge _ _ _) (by decide) (Or.inr rfl)) rfl ?_
                  refine qr_if_eq 145 135 rfl rfl rfl (by omega) (fun h => False.elim (by omega)) (fun h35 => ?_)
                  refine qr_iload_n 136 rfl (qm_gk (qm_gk g17 (by decide) (Or.inl (by decide))) (by decide) (Or.inl (by decide))) rfl ?_
                  refine qr_aload_n 137 rfl (qm_gk (qm_gk g14 (by decide) (Or.inl (by decide))) (by decide) (Or.inl (by decide))) rfl ?_
                  refine qr_get 140 rfl rfl rfl (by decide) rfl ?_
                  refine qr_iload_n 141 rfl (qm_gk (qm_gk g15 (by decide) (Or.inl (by decide))) (by decide) (Or.inl (by decide))) rfl ?_
                  refine qr_iaload 142 rfl rfl (by omega) (by decide) rfl ?_
                  refine qr_topI (fun v36 hv36 => ?_)
                  have hs37 : 0 ≤ v36 ∧ v36 ≤ 31 := by rw [hv36]; exact hI.2.1 102 _ (show _ < 60 by omega)
                  refine qr_icmp_eq 160 145 rfl rfl rfl (by omega) (by omega) (fun h38 => ?_) (fun h38 => ?_)
                  · skip
                    refine qr_iconst 161 rfl rfl ?_
                    refine qr_goto 165 rfl rfl ?_
                    refine qr_retZ rfl rfl (by omega) (by decide) (by decide) ?_
                    exact ⟨rfl, 1, rfl, by omega⟩
                  · skip
                    refine qr_iload 147 rfl (qm_ge _ _ _) rfl ?_
                    refine qr_if_eq 164 150 rfl rfl rfl (by omega) (fun h39 => ?_) (fun h => False.elim (by omega))
                    refine qr_iconst 165 rfl rfl ?_
                    refine qr_retZ rfl rfl (by omega) (by decide) (by decide) ?_
                    exact ⟨rfl, 0, rfl, by omega⟩
            · skip
              refine qr_tabIn 120 rfl (by omega) (by omega) (by rw [h26]; rfl) rfl ?_
              refine qr_iload 122 rfl (qm_gk (qm_ge _ _ _) (by decide) (Or.inr rfl)) rfl ?_
              refine qr_if_eq 130 125 rfl rfl rfl (by omega) (fun h40 => ?_) (fun h40 => ?_)
              · skip
                refine qr_iload 132 rfl (qm_gk (qm_ge _ _ _) (by decide) (Or.inr rfl)) rfl ?_
                refine qr_if_eq 145 135 rfl rfl rfl (by omega) (fun h41 => ?_) (fun h => False.elim (by omega))
                refine qr_iload 147 rfl (qm_ge _ _ _) rfl ?_
                refine qr_if_eq 164 150 rfl rfl rfl (by omega) (fun h42 => ?_) (fun h42 => ?_)
                · skip
                  refine qr_iconst 165 rfl rfl ?_
                  refine qr_retZ rfl rfl (by omega) (by decide) (by decide) ?_
                  exact ⟨rfl, 0, rfl, by omega⟩
                · skip
                  refine qr_iload_n 151 rfl (qm_gk (qm_gk g16 (by decide) (Or.inl (by decide))) (by decide) (Or.inl (by decide))) rfl ?_
                  refine qr_aload_n 152 rfl (qm_gk (qm_gk g14 (by decide) (Or.inl (by decide))) (by decide) (Or.inl (by decide))) rfl ?_
                  refine qr_get 155 rfl rfl rfl (by decide) rfl ?_
                  refine qr_iload_n 156 rfl (qm_gk (qm_gk g15 (by decide) (Or.inl (by decide))) (by decide) (Or.inl (by decide))) rfl ?_
                  refine qr_iaload 157 rfl rfl (by omega) (by decide) rfl ?_
                  refine qr_topI (fun v43 hv43 => ?_)
                  have hs44 : 0 ≤ v43 ∧ v43 ≤ 31 := by rw [hv43]; exact hI.2.1 102 _ (show _ < 60 by omega)
                  refine qr_icmp_ne 164 160 rfl rfl rfl (by omega) (by omega) (fun h45 => ?_) (fun h45 => ?_)
                  · skip
                    refine qr_iconst 165 rfl rfl ?_
                    refine qr_retZ rfl rfl (by omega) (by decide) (by decide) ?_
                    exact ⟨rfl, 0, rfl, by omega⟩
                  · skip
                    refine qr_iconst 161 rfl rfl ?_
                    refine qr_goto 165 rfl rfl ?_
                    refine qr_retZ rfl rfl (by omega) (by decide) (by decide) ?_
                    exact ⟨rfl, 1, rfl, by omega⟩
              · skip
                refine qr_iload 127 rfl (qm_ge _ _ _) rfl ?_
                refine qr_if_ne 160 130 rfl rfl rfl (by omega) (fun h46 => ?_) (fun h46 => ?_)
                · skip
                  refine qr_iconst 161 rfl rfl ?_
                  refine qr_goto 165 rfl rfl ?_
                  refine qr_retZ rfl rfl (by omega) (by decide) (by decide) ?_
                  exact ⟨rfl, 1, rfl, by omega⟩
                · skip
                  refine qr_iload 132 rfl (qm_gk (qm_ge _ _ _) (by decide) (Or.inr rfl)) rfl ?_
                  refine qr_if_eq 145 135 rfl rfl rfl (by omega) (fun h => False.elim (by omega)) (fun h47 => ?_)
                  refine qr_iload_n 136 rfl (qm_gk (qm_gk g17 (by decide) (Or.inl (by decide))) (by decide) (Or.inl (by decide))) rfl ?_
                  refine qr_aload_n 137 rfl (qm_gk (qm_gk g14 (by decide) (Or.inl (by decide))) (by decide) (Or.inl (by decide))) rfl ?_
                  refine qr_get 140 rfl rfl rfl (by decide) rfl ?_
                  refine qr_iload_n 141 rfl (qm_gk (qm_gk g15 (by decide) (Or.inl (by decide))) (by decide) (Or.inl (by decide))) rfl ?_
                  refine qr_iaload 142 rfl rfl (by omega) (by decide) rfl ?_
                  refine qr_topI (fun v48 hv48 => ?_)
                  have hs49 : 0 ≤ v48 ∧ v48 ≤ 31 := by rw [hv48]; exact hI.2.1 102 _ (show _ < 60 by omega)
                  refine qr_icmp_eq 160 145 rfl rfl rfl (by omega) (by omega) (fun h50 => ?_) (fun h50 => ?_)
                  · skip
                    refine qr_iconst 161 rfl rfl ?_
                    refine qr_goto 165 rfl rfl ?_
                    refine qr_retZ rfl rfl (by omega) (by decide) (by decide) ?_
                    exact ⟨rfl, 1, rfl, by omega⟩
                  · skip
                    refine qr_iload 147 rfl (qm_ge _ _ _) rfl ?_
                    refine qr_if_eq 164 150 rfl rfl rfl (by omega) (fun h51 => ?_) (fun h => False.elim (by omega))
                    refine qr_iconst 165 rfl rfl ?_
                    refine qr_retZ rfl rfl (by omega) (by decide) (by decide) ?_
                    exact ⟨rfl, 0, rfl, by omega⟩
            · skip
              refine qr_tabIn 166 rfl (by omega) (by omega) (by rw [h26]; rfl) rfl ?_
              refine qr_iload 168 rfl (qm_gk (qm_ge _ _ _) (by decide) (Or.inr rfl)) rfl ?_
              refine qr_if_ne 176 171 rfl rfl rfl (by omega) (fun h52 => ?_) (fun h52 => ?_)
              · skip
                refine qr_iconst 177 rfl rfl ?_
                refine qr_goto 181 rfl rfl ?_
                refine qr_retZ rfl rfl (by omega) (by decide) (by decide) ?_
                exact ⟨rfl, 1, rfl, by omega⟩
              · skip
                refine qr_iload 173 rfl (qm_ge _ _ _) rfl ?_
                refine qr_if_eq 180 176 rfl rfl rfl (by omega) (fun h53 => ?_) (fun h53 => ?_)
                · skip
                  refine qr_iconst 181 rfl rfl ?_
                  refine qr_retZ rfl rfl (by omega) (by decide) (by decide) ?_
                  exact ⟨rfl, 0, rfl, by omega⟩
                · skip
                  refine qr_iconst 177 rfl rfl ?_
                  refine qr_goto 181 rfl rfl ?_
                  refine qr_retZ rfl rfl (by omega) (by decide) (by decide) ?_
                  exact ⟨rfl, 1, rfl, by omega⟩
            · skip
              refine qr_tabIn 182 rfl (by omega) (by omega) (by rw [h26]; rfl) rfl ?_
              refine qr_iload 184 rfl (qm_gk (qm_ge _ _ _) (by decide) (Or.inr rfl)) rfl ?_
              refine qr_if_eq 196 187 rfl rfl rfl (by omega) (fun h54 => ?_) (fun h54 => ?_)
              · skip
                refine qr_iconst 197 rfl rfl ?_
                refine qr_retZ rfl rfl (by omega) (by decide) (by decide) ?_
                exact ⟨rfl, 0, rfl, by omega⟩
              · skip
                refine qr_iload 189 rfl (qm_ge _ _ _) rfl ?_
                refine qr_if_eq 196 192 rfl rfl rfl (by omega) (fun h55 => ?_) (fun h55 => ?_)
                · skip
                  refine qr_iconst 197 rfl rfl ?_
                  refine qr_retZ rfl rfl (by omega) (by decide) (by decide) ?_
                  exact ⟨rfl, 0, rfl, by omega⟩
                · skip
                  refine qr_iconst 193 rfl rfl ?_
                  refine qr_goto 197 rfl rfl ?_
                  refine qr_retZ rfl rfl (by omega) (by decide) (by decide) ?_
                  exact ⟨rfl, 1, rfl, by omega⟩
            · skip
              refine qr_tabIn 198 rfl (by omega) (by omega) (by rw [h26]; rfl) rfl ?_
              refine qr_iconst 199 rfl rfl ?_
              refine qr_retZ rfl rfl (by omega) (by decide) (by decide) ?_
              exact ⟨rfl, 1, rfl, by omega⟩
            · skip
              refine qr_tabOut 200 rfl (by omega) (by omega) rfl ?_
              refine qr_aload_n 201 rfl (qm_gk (qm_gk g14 (by decide) (Or.inl (by decide))) (by decide) (Or.inl (by decide))) rfl ?_
              refine qr_iload_n 202 rfl (qm_gk (qm_gk g15 (by decide) (Or.inl (by decide))) (by decide) (Or.inl (by decide))) rfl ?_
              refine qr_iload_n 203 rfl (qm_gk (qm_gk g16 (by decide) (Or.inl (by decide))) (by decide) (Or.inl (by decide))) rfl ?_
              refine qr_callN 206 rfl rfl rfl (sf_206_86 (d := d + 0) hI (by omega) (by omega) (by omega)) ?_
              rintro _ _ ⟨rfl, v56, rfl, hv56⟩
              show qr_W (qe L xs vb) (d + 2) qx_e205 _ (206, _, [.int (qz v56)], qw σ α κ ρ, 0, 0)
              refine qr_if_eq 222 209 rfl rfl rfl (by omega) (fun h57 => ?_) (fun h57 => ?_)
              · skip
                refine qr_iconst 223 rfl rfl ?_
                refine qr_retZ rfl rfl (by omega) (by decide) (by decide) ?_
                exact ⟨rfl, 0, rfl, by omega⟩
              · skip
                refine qr_aload_n 210 rfl (qm_gk (qm_gk g14 (by decide) (Or.inl (by decide))) (by decide) (Or.inl (by decide))) rfl ?_
                refine qr_iload_n 211 rfl (qm_gk (qm_gk g15 (by decide) (Or.inl (by decide))) (by decide) (Or.inl (by decide))) rfl ?_
                refine qr_iload_n 212 rfl (qm_gk (qm_gk g17 (by decide) (Or.inl (by decide))) (by decide) (Or.inl (by decide))) rfl ?_
                refine qr_callN 215 rfl rfl rfl (sf_206_86 (d := d + 0) hI (by omega) (by omega) (by omega)) ?_
                rintro _ _ ⟨rfl, v58, rfl, hv58⟩
                show qr_W (qe L xs vb) (d + 2) qx_e205 _ (215, _, [.int (qz v58)], qw σ α κ ρ, 0, 0)
                refine qr_if_eq 222 218 rfl rfl rfl (by omega) (fun h59 => ?_) (fun h59 => ?_)
                · skip
                  refine qr_iconst 223 rfl rfl ?_
                  refine qr_retZ rfl rfl (by omega) (by decide) (by decide) ?_
                  exact ⟨rfl, 0, rfl, by omega⟩
                · skip
                  refine qr_iconst 219 rfl rfl ?_
                  refine qr_goto 223 rfl rfl ?_
                  refine qr_retZ rfl rfl (by omega) (by decide) (by decide) ?_
                  exact ⟨rfl, 1, rfl, by omega⟩
          · skip
            refine qr_iconst 67 rfl rfl ?_
            refine qr_retZ rfl rfl (by omega) (by decide) (by decide) ?_
            exact ⟨rfl, 0, rfl, by omega⟩
        refine qr_icmp_ne 61 52 rfl rfl rfl (by omega) (by omega) (fun h60 => ?_) (fun h60 => ?_)
        · skip
          refine qr_iconst 62 rfl rfl ?_
          exact hJ21 _ 0 rfl rfl rfl rfl rfl (by omega)
        · skip
          refine qr_aload_n 53 rfl rfl rfl ?_
          refine qr_get 56 rfl rfl rfl (by decide) rfl ?_
          refine qr_iload_n 57 rfl rfl rfl ?_
          refine qr_iaload 58 rfl rfl (by omega) (by decide) rfl ?_
          refine qr_topI (fun v61 hv61 => ?_)
          have hs62 : (-2147483648) ≤ v61 ∧ v61 ≤ 2147483647 := by rw [hv61]; exact hI.2.1 105 _ (show _ < 60 by omega)
          refine qr_goto 62 rfl rfl ?_
          exact hJ21 _ v61 rfl rfl rfl rfl rfl (by omega)

set_option maxHeartbeats 4000000 in
set_option maxRecDepth 20000 in
/-- OneRoofModel.manyBetween -/
theorem sf_209_86 {L : Nat} {xs : Nat → Int} {vb : Bool} {d : Nat} {σ α : Nat → Nat → Int} {κ : Nat → Option Nat} {ρ : Nat} {x1 : Int} {x2 : Int} {x3 : Int} (hI : qI σ α κ ρ) (r1 : 0 ≤ x1 ∧ x1 ≤ 31) (r2 : 0 ≤ x2 ∧ x2 ≤ 31) (r3 : (-2147483648) ≤ x3 ∧ x3 ≤ 2147483647) (p0 : 1 ≤ σ 86 6) : qm_T (qe L xs vb) (d + 4) 209 [.ref 86, .int (qz x1), .int (qz x2), .int (qz x3)] (qw σ α κ ρ) (fun r w' => ∃ σ', w' = qw σ' α κ ρ ∧ qI σ' α κ ρ ∧ qFr [(86, 30)] [] σ α σ' α ∧ ∃ v : Int, r = some (.int (qz v)) ∧ ((-2147483648) ≤ v ∧ v ≤ 2147483647)) := by
  refine qr_start (d := d + 3) qv_e209 (Nat.le_of_ble_eq_true rfl) ?_
  show qr_W (qe L xs vb) (d + 3) qx_e209 _ (0, [(0, .ref 86), (1, .int (qz x1)), (2, .int (qz x2)), (3, .int (qz x3))], [], _, 0, 0)
  have hF0 := qFr_rf [(86, 30)] [] σ α
  have hz86_6 : 0 ≤ σ 86 6 ∧ σ 86 6 ≤ 32 := hI.1 86 6
  refine qr_iconst 1 rfl rfl ?_
  refine qr_istore _ 3 rfl (by decide) rfl rfl ?_
  refine qr_iconst 4 rfl rfl ?_
  refine qr_istore _ 6 rfl (by decide) rfl rfl ?_
  have hL1426 : ∀ (n : Nat) (ls : qm_L) (u1416 u1418 : Int) (σ1419 : Nat → Nat → Int), 60 - u1418 < (n : Int) → qm_get ls 0 = some (.ref 86) → qm_get ls 1 = some (.int (qz x1)) → qm_get ls 2 = some (.int (qz x2)) → qm_get ls 3 = some (.int (qz x3)) → qm_get ls 4 = some (.int (qz u1416)) → qm_get ls 5 = some (.int (qz u1418)) → ((-2147483648) ≤ u1416 ∧ u1416 ≤ 2147483647) → (0 ≤ u1418 ∧ u1418 ≤ 60) → qI σ1419 α κ ρ → qFr [(86, 30)] [] σ α σ1419 α → σ1419 86 6 = (σ 86 6) → qr_W (qe L xs vb) (d + 3) qx_e209 (fun r w' => ∃ σ', w' = qw σ' α κ ρ ∧ qI σ' α κ ρ ∧ qFr [(86, 30)] [] σ α σ' α ∧ ∃ v : Int, r = some (.int (qz v)) ∧ ((-2147483648) ≤ v ∧ v ≤ 2147483647)) (6, ls, [], qw σ1419 α κ ρ, 0, 0) := by
    intro n
    induction n with
    | zero => intro ls u1416 u1418 σ1419 hm g1411 g1412 g1413 g1414 g1415 g1417 hf1424 hf1425 hI1421 hF1422 hk1423; exact False.elim (by omega)
    | succ n ih1427 =>
      intro ls u1416 u1418 σ1419 hm g1411 g1412 g1413 g1414 g1415 g1417 hf1424 hf1425 hI1421 hF1422 hk1423
      refine qr_iload 8 rfl g1417 rfl ?_
      refine qr_aload_n 9 rfl g1411 rfl ?_
      refine qr_get 12 rfl rfl rfl (by decide) rfl ?_
      have hs1428 : 0 ≤ σ1419 86 24 ∧ σ1419 86 24 ≤ 60 := hI1421.1 86 24
      refine qr_icmp_ge 42 15 rfl rfl rfl (by omega) (by omega) (fun h1429 => ?_) (fun h1429 => ?_)
      · skip
        refine qr_iload 44 rfl g1415 rfl ?_
        refine qr_retI rfl rfl (by decide) (by decide) ?_
        exact ⟨_, rfl, hI1421, hF1422, u1416, rfl, by omega⟩
      · skip
        refine qr_aload_n 16 rfl g1411 rfl ?_
        refine qr_iload 18 rfl g1417 rfl ?_
        refine qr_iload_n 19 rfl g1412 rfl ?_
        refine qr_iload_n 20 rfl g1413 rfl ?_
        refine qr_iload_n 21 rfl g1414 rfl ?_
        refine qr_callN 24 rfl rfl rfl (sf_205_86 (d := d + 0) hI1421 (by omega) (by omega) (by omega) (by omega) (by omega)) ?_
        rintro _ _ ⟨rfl, v1430, rfl, hv1430⟩
        show qr_W (qe L xs vb) (d + 3) qx_e209 _ (24, _, [.int (qz v1430)], qw σ1419 α κ ρ, 0, 0)
        have hJ1450 : ∀ (ls : qm_L) (u1441 : Int) (σ1443 : Nat → Nat → Int), qm_get ls 0 = some (.ref 86) → qm_get ls 1 = some (.int (qz x1)) → qm_get ls 2 = some (.int (qz x2)) → qm_get ls 3 = some (.int (qz x3)) → qm_get ls 4 = some (.int (qz u1441)) → qm_get ls 5 = some (.int (qz u1418)) → ((-2147483648) ≤ u1441 ∧ u1441 ≤ 2147483647) → qI σ1443 α κ ρ → qFr [(86, 30)] [] σ α σ1443 α → σ1443 86 6 = (σ 86 6) → σ1443 86 24 = (σ1419 86 24) → qr_W (qe L xs vb) (d + 3) qx_e209 (fun r w' => ∃ σ', w' = qw σ' α κ ρ ∧ qI σ' α κ ρ ∧ qFr [(86, 30)] [] σ α σ' α ∧ ∃ v : Int, r = some (.int (qz v)) ∧ ((-2147483648) ≤ v ∧ v ≤ 2147483647)) (36, ls, [], qw σ1443 α κ ρ, 0, 0) := by
          intro ls u1441 σ1443 g1436 g1437 g1438 g1439 g1440 g1442 hf1449 hI1445 hF1446 hk1447 hk1448
          refine qr_iinc _ 39 rfl g1442 (by decide) rfl rfl ?_
          refine qr_goto 6 rfl rfl ?_
          exact ih1427 _ u1441 (u1418 + 1) σ1443 (by omega) (qm_gk g1436 (by decide) (Or.inl (by decide))) (qm_gk g1437 (by decide) (Or.inl (by decide))) (qm_gk g1438 (by decide) (Or.inl (by decide))) (qm_gk g1439 (by decide) (Or.inl (by decide))) (qm_gk g1440 (by decide) (Or.inr rfl)) (qm_ge _ _ _) (by omega) (by omega) hI1445 hF1446 ((hk1447).trans rfl)
        refine qr_if_eq 36 27 rfl rfl rfl (by omega) (fun h1451 => ?_) (fun h1451 => ?_)
        · skip
          exact hJ1450 _ u1416 σ1419 g1411 g1412 g1413 g1414 g1415 g1417 (by omega) hI1421 hF1422 ((hk1423).trans rfl) (rfl)
        · skip
          refine qy_iincC 30 rfl g1415 (by decide) rfl (fun v1452 hv1452 => ?_)
          refine qr_aload_n 31 rfl (qm_gk g1411 (by decide) (Or.inl (by decide))) rfl ?_
          refine qr_iload 33 rfl (qm_gk g1417 (by decide) (Or.inl (by decide))) rfl ?_
          refine qr_put 36 rfl (by decide) rfl (Nat.le_of_ble_eq_true rfl) (Nat.le_of_ble_eq_true rfl) (Or.inl rfl) (qr_fitI rfl _) rfl ?_
          refine qy_wS (qw_s σ1419 86 30 u1418) rfl (fun σ1453 e1454 => ?_)
          have hI1455 : qI σ1453 α κ ρ := by rw [e1454]; exact qI_s hI1421 86 30 rfl (show (-2147483648) ≤ u1418 ∧ u1418 ≤ 2147483647 by omega)
          have hF1456 : qFr [(86, 30)] [] σ α σ1453 α := by rw [e1454]; exact qFr_s hF1422 86 30 _ (by decide)
          exact hJ1450 _ v1452 σ1453 (qm_gk g1411 (by decide) (Or.inl (by decide))) (qm_gk g1412 (by decide) (Or.inl (by decide))) (qm_gk g1413 (by decide) (Or.inl (by decide))) (qm_gk g1414 (by decide) (Or.inr rfl)) (qm_ge _ _ _) (qm_gk g1417 (by decide) (Or.inl (by decide))) (by omega) hI1455 hF1456 ((congrFun (congrFun e1454 86) 6).trans ((hk1423).trans rfl)) ((congrFun (congrFun e1454 86) 24).trans rfl)
  exact hL1426 ((60 - 0 + 1 : Int)).toNat _ 0 0 σ (by omega) rfl rfl rfl rfl rfl rfl (by omega) (by omega) hI hF0 (rfl)

set_option maxHeartbeats 4000000 in
set_option maxRecDepth 20000 in
/-- OneRoofModel.holds -/
theorem sf_204_86 {L : Nat} {xs : Nat → Int} {vb : Bool} {d : Nat} {σ α : Nat → Nat → Int} {κ : Nat → Option Nat} {ρ : Nat} {x1 : Int} {x2 : Int} {x3 : Int} (hI : qI σ α κ ρ) (r1 : (-2147483648) ≤ x1 ∧ x1 ≤ 2147483647) (r2 : (-2147483648) ≤ x2 ∧ x2 ≤ 2147483647) (r3 : (-2147483648) ≤ x3 ∧ x3 ≤ 2147483647) : qm_T (qe L xs vb) (d + 4) 204 [.ref 86, .int (qz x1), .int (qz x2), .int (qz x3)] (qw σ α κ ρ) (fun r w' => w' = qw σ α κ ρ ∧ ∃ v : Int, r = some (.int (qz v)) ∧ ((-2147483648) ≤ v ∧ v ≤ 2147483647)) := by
  refine qr_start (d := d + 3) qv_e204 (Nat.le_of_ble_eq_true rfl) ?_
  show qr_W (qe L xs vb) (d + 3) qx_e204 _ (0, [(0, .ref 86), (1, .int (qz x1)), (2, .int (qz x2)), (3, .int (qz x3))], [], _, 0, 0)
  refine qr_aload_n 1 rfl rfl rfl ?_
  refine qr_iload_n 2 rfl rfl rfl ?_
  refine qr_callN 5 rfl rfl rfl (sf_200_86 (d := d + 1) hI (by omega)) ?_
  have hs3 : 0 ≤ σ 86 24 ∧ σ 86 24 ≤ 60 := hI.1 86 24
  rintro _ _ ⟨rfl, v1, rfl, hv1, hp2⟩
  show qr_W (qe L xs vb) (d + 3) qx_e204 _ (5, _, [.int (qz v1)], qw σ α κ ρ, 0, 0)
  refine qr_if_eq 48 8 rfl rfl rfl (by omega) (fun h4 => ?_) (fun h4 => ?_)
  · skip
    refine qr_iconst 49 rfl rfl ?_
    refine qr_retI rfl rfl (by decide) (by decide) ?_
    exact ⟨rfl, (-1), rfl, by omega⟩
  · skip
    refine qr_aload_n 9 rfl rfl rfl ?_
    refine qr_iload_n 10 rfl rfl rfl ?_
    refine qr_callN 13 rfl rfl rfl (sf_191_86 (d := d + 0) hI (by omega)) ?_
    have hs7 : 0 ≤ σ 86 6 ∧ σ 86 6 ≤ 32 := hI.1 86 6
    rintro _ _ ⟨rfl, v5, rfl, hv5, hp6⟩
    show qr_W (qe L xs vb) (d + 3) qx_e204 _ (13, _, [.int (qz v5)], qw σ α κ ρ, 0, 0)
    refine qr_if_eq 48 16 rfl rfl rfl (by omega) (fun h8 => ?_) (fun h8 => ?_)
    · skip
      refine qr_iconst 49 rfl rfl ?_
      refine qr_retI rfl rfl (by decide) (by decide) ?_
      exact ⟨rfl, (-1), rfl, by omega⟩
    · skip
      refine qr_iload_n 17 rfl rfl rfl ?_
      refine qr_callN 20 rfl rfl rfl (sf_192 (d := d + 1) hI (by omega)) ?_
      rintro _ _ ⟨rfl, v9, rfl, hv9, hp10⟩
      show qr_W (qe L xs vb) (d + 3) qx_e204 _ (20, _, [.int (qz v9)], qw σ α κ ρ, 0, 0)
      refine qr_if_eq 48 23 rfl rfl rfl (by omega) (fun h11 => ?_) (fun h11 => ?_)
      · skip
        refine qr_iconst 49 rfl rfl ?_
        refine qr_retI rfl rfl (by decide) (by decide) ?_
        exact ⟨rfl, (-1), rfl, by omega⟩
      · skip
        refine qr_aload_n 24 rfl rfl rfl ?_
        refine qr_iload_n 25 rfl rfl rfl ?_
        refine qr_iload_n 26 rfl rfl rfl ?_
        refine qr_bipush 28 rfl (by decide) rfl ?_
        refine qr_idiv 29 rfl (by omega) (by omega) rfl ?_
        refine qr_iload_n 30 rfl rfl rfl ?_
        refine qr_bipush 32 rfl (by decide) rfl ?_
        refine qr_irem 33 rfl (by omega) (by omega) rfl ?_
        refine qr_iload_n 34 rfl rfl rfl ?_
        refine qr_callN 37 rfl rfl rfl (sf_205_86 (d := d + 0) hI (by omega) (by omega) (by omega) (by omega) (by omega)) ?_
        rintro _ _ ⟨rfl, v12, rfl, hv12⟩
        show qr_W (qe L xs vb) (d + 3) qx_e204 _ (37, _, [.int (qz v12)], qw σ α κ ρ, 0, 0)
        refine qr_if_eq 44 40 rfl rfl rfl (by omega) (fun h13 => ?_) (fun h13 => ?_)
        · skip
          refine qr_iconst 45 rfl rfl ?_
          refine qr_goto 49 rfl rfl ?_
          refine qr_retI rfl rfl (by decide) (by decide) ?_
          exact ⟨rfl, 0, rfl, by omega⟩
        · skip
          refine qr_iconst 41 rfl rfl ?_
          refine qr_goto 49 rfl rfl ?_
          refine qr_retI rfl rfl (by decide) (by decide) ?_
          exact ⟨rfl, 1, rfl, by omega⟩

set_option maxHeartbeats 4000000 in
set_option maxRecDepth 20000 in
/-- OneRoofModel.between -/
theorem sf_208_86 {L : Nat} {xs : Nat → Int} {vb : Bool} {d : Nat} {σ α : Nat → Nat → Int} {κ : Nat → Option Nat} {ρ : Nat} {x1 : Int} {x2 : Int} (hI : qI σ α κ ρ) (r1 : (-2147483648) ≤ x1 ∧ x1 ≤ 2147483647) (r2 : (-2147483648) ≤ x2 ∧ x2 ≤ 2147483647) : qm_T (qe L xs vb) (d + 5) 208 [.ref 86, .int (qz x1), .int (qz x2)] (qw σ α κ ρ) (fun r w' => ∃ σ', w' = qw σ' α κ ρ ∧ qI σ' α κ ρ ∧ qFr [(86, 30)] [] σ α σ' α ∧ ∃ v : Int, r = some (.int (qz v)) ∧ ((-2147483648) ≤ v ∧ v ≤ 2147483647)) := by
  refine qr_start (d := d + 4) qv_e208 (Nat.le_of_ble_eq_true rfl) ?_
  show qr_W (qe L xs vb) (d + 4) qx_e208 _ (0, [(0, .ref 86), (1, .int (qz x1)), (2, .int (qz x2))], [], _, 0, 0)
  have hF0 := qFr_rf [(86, 30)] [] σ α
  refine qr_aload_n 1 rfl rfl rfl ?_
  refine qr_iload_n 2 rfl rfl rfl ?_
  refine qr_callN 5 rfl rfl rfl (sf_191_86 (d := d + 1) hI (by omega)) ?_
  have hs3 : 0 ≤ σ 86 6 ∧ σ 86 6 ≤ 32 := hI.1 86 6
  rintro _ _ ⟨rfl, v1, rfl, hv1, hp2⟩
  show qr_W (qe L xs vb) (d + 4) qx_e208 _ (5, _, [.int (qz v1)], qw σ α κ ρ, 0, 0)
  refine qr_if_eq 31 8 rfl rfl rfl (by omega) (fun h4 => ?_) (fun h4 => ?_)
  · skip
    refine qr_iconst 32 rfl rfl ?_
    refine qr_retI rfl rfl (by decide) (by decide) ?_
    exact ⟨_, rfl, hI, hF0, (-1), rfl, by omega⟩
  · skip
    refine qr_iload_n 9 rfl rfl rfl ?_
    refine qr_callN 12 rfl rfl rfl (sf_192 (d := d + 2) hI (by omega)) ?_
    rintro _ _ ⟨rfl, v5, rfl, hv5, hp6⟩
    show qr_W (qe L xs vb) (d + 4) qx_e208 _ (12, _, [.int (qz v5)], qw σ α κ ρ, 0, 0)
    refine qr_if_eq 31 15 rfl rfl rfl (by omega) (fun h7 => ?_) (fun h7 => ?_)
    · skip
      refine qr_iconst 32 rfl rfl ?_
      refine qr_retI rfl rfl (by decide) (by decide) ?_
      exact ⟨_, rfl, hI, hF0, (-1), rfl, by omega⟩
    · skip
      refine qr_aload_n 16 rfl rfl rfl ?_
      refine qr_iload_n 17 rfl rfl rfl ?_
      refine qr_bipush 19 rfl (by decide) rfl ?_
      refine qr_idiv 20 rfl (by omega) (by omega) rfl ?_
      refine qr_iload_n 21 rfl rfl rfl ?_
      refine qr_bipush 23 rfl (by decide) rfl ?_
      refine qr_irem 24 rfl (by omega) (by omega) rfl ?_
      refine qr_iload_n 25 rfl rfl rfl ?_
      refine qr_callN 28 rfl rfl rfl (sf_209_86 (d := d + 0) hI (by omega) (by omega) (by omega) (by omega)) ?_
      rintro _ _ ⟨σ9, rfl, hI10, hG11, v8, rfl, hv8⟩
      have hF12 : qFr [(86, 30)] [] σ α σ9 α := qFr_t hF0 hG11 (by decide) (by decide)
      show qr_W (qe L xs vb) (d + 4) qx_e208 _ (28, _, [.int (qz v8)], qw σ9 α κ ρ, 0, 0)
      refine qr_goto 32 rfl rfl ?_
      refine qr_retI rfl rfl (by decide) (by decide) ?_
      exact ⟨_, rfl, hI10, hF12, v8, rfl, by omega⟩

set_option maxHeartbeats 4000000 in
set_option maxRecDepth 20000 in
/-- OneRoofModel.proof -/
theorem sf_210_86 {L : Nat} {xs : Nat → Int} {vb : Bool} {d : Nat} {σ α : Nat → Nat → Int} {κ : Nat → Option Nat} {ρ : Nat} {x1 : Int} {x2 : Int} (hI : qI σ α κ ρ) (r1 : (-2147483648) ≤ x1 ∧ x1 ≤ 2147483647) (r2 : (-2147483648) ≤ x2 ∧ x2 ≤ 2147483647) : qm_T (qe L xs vb) (d + 5) 210 [.ref 86, .int (qz x1), .int (qz x2)] (qw σ α κ ρ) (fun r w' => ∃ σ', w' = qw σ' α κ ρ ∧ qI σ' α κ ρ ∧ qFr [(86, 30)] [] σ α σ' α ∧ ∃ v : Int, r = some (.int (qz v)) ∧ ((-2147483648) ≤ v ∧ v ≤ 2147483647)) := by
  refine qr_start (d := d + 4) qv_e210 (Nat.le_of_ble_eq_true rfl) ?_
  show qr_W (qe L xs vb) (d + 4) qx_e210 _ (0, [(0, .ref 86), (1, .int (qz x1)), (2, .int (qz x2))], [], _, 0, 0)
  have hF0 := qFr_rf [(86, 30)] [] σ α
  refine qr_aload_n 1 rfl rfl rfl ?_
  refine qr_iload_n 2 rfl rfl rfl ?_
  refine qr_callN 5 rfl rfl rfl (sf_191_86 (d := d + 1) hI (by omega)) ?_
  have hs3 : 0 ≤ σ 86 6 ∧ σ 86 6 ≤ 32 := hI.1 86 6
  rintro _ _ ⟨rfl, v1, rfl, hv1, hp2⟩
  show qr_W (qe L xs vb) (d + 4) qx_e210 _ (5, _, [.int (qz v1)], qw σ α κ ρ, 0, 0)
  refine qr_if_eq 15 8 rfl rfl rfl (by omega) (fun h4 => ?_) (fun h4 => ?_)
  · skip
    refine qr_iconst 16 rfl rfl ?_
    refine qr_retI rfl rfl (by decide) (by decide) ?_
    exact ⟨_, rfl, hI, hF0, (-1), rfl, by omega⟩
  · skip
    refine qr_iload_n 9 rfl rfl rfl ?_
    refine qr_callN 12 rfl rfl rfl (sf_192 (d := d + 2) hI (by omega)) ?_
    rintro _ _ ⟨rfl, v5, rfl, hv5, hp6⟩
    show qr_W (qe L xs vb) (d + 4) qx_e210 _ (12, _, [.int (qz v5)], qw σ α κ ρ, 0, 0)
    refine qr_if_ne 17 15 rfl rfl rfl (by omega) (fun h7 => ?_) (fun h7 => ?_)
    · skip
      refine qr_aload_n 18 rfl rfl rfl ?_
      refine qr_iload_n 19 rfl rfl rfl ?_
      refine qr_bipush 21 rfl (by decide) rfl ?_
      refine qr_idiv 22 rfl (by omega) (by omega) rfl ?_
      refine qr_iload_n 23 rfl rfl rfl ?_
      refine qr_bipush 25 rfl (by decide) rfl ?_
      refine qr_irem 26 rfl (by omega) (by omega) rfl ?_
      refine qr_iload_n 27 rfl rfl rfl ?_
      refine qr_callN 30 rfl rfl rfl (sf_209_86 (d := d + 0) hI (by omega) (by omega) (by omega) (by omega)) ?_
      rintro _ _ ⟨σ9, rfl, hI10, hG11, v8, rfl, hv8⟩
      have hF12 : qFr [(86, 30)] [] σ α σ9 α := qFr_t hF0 hG11 (by decide) (by decide)
      show qr_W (qe L xs vb) (d + 4) qx_e210 _ (30, _, [.int (qz v8)], qw σ9 α κ ρ, 0, 0)
      refine qr_iconst 31 rfl rfl ?_
      refine qr_icmp_ne 41 34 rfl rfl rfl (by omega) (by omega) (fun h13 => ?_) (fun h13 => ?_)
      · skip
        refine qr_bipush 43 rfl (by decide) rfl ?_
        refine qr_retI rfl rfl (by decide) (by decide) ?_
        exact ⟨_, rfl, hI10, hF12, (-2), rfl, by omega⟩
      · skip
        refine qr_aload_n 35 rfl rfl rfl ?_
        refine qr_get 38 rfl rfl rfl (by decide) rfl ?_
        have hs14 : (-2147483648) ≤ σ9 86 30 ∧ σ9 86 30 ≤ 2147483647 := hI10.1 86 30
        refine qr_goto 43 rfl rfl ?_
        refine qr_retI rfl rfl (by decide) (by decide) ?_
        exact ⟨_, rfl, hI10, hF12, (σ9 86 30), rfl, by omega⟩
    · skip
      refine qr_iconst 16 rfl rfl ?_
      refine qr_retI rfl rfl (by decide) (by decide) ?_
      exact ⟨_, rfl, hI, hF0, (-1), rfl, by omega⟩
end
section
section QYL
variable {X : qm_X} {d : Nat} {x : qs_Ent} {Q : Option Value → qm_W → Prop} {pc : Nat} {ls : qm_L} {st : List Value} {w : qm_W} {c n : Nat}
theorem qy_low {a : Int} (h : (-2147483648 ≤ a ∧ a ≤ 2147483647) ∧ ¬ a = 0) (k : ∀ v : Int, ((-2147483648 ≤ v ∧ v ≤ 2147483647) ∧ ((qz v).toBitVec.toNat : Int) < ((qz a).toBitVec.toNat : Int)) → qr_W X d x Q (pc, ls, .int (qz v) :: st, w, c, n)) : qr_W X d x Q (pc, ls, .int (qz (qz_and a (a - 1))) :: st, w, c, n) := by
  refine k _ ⟨qz_rng _, ?_⟩
  have e1 : qz (qz_and a (a - 1)) = qz a &&& (qz a - qz 1) := by unfold qz_and; rw [← qz_of, qz_sub]
  have e2 : (qz a).toBitVec.toNat ≠ 0 := fun h0 => h.2 (by
    have h1 : (qz a).toBitVec = 0#32 := BitVec.eq_of_toNat_eq h0
    have h2 : (qz a).toInt = a := qz_ti h.1
    have h3 : (qz a).toInt = (qz a).toBitVec.toInt := rfl
    rw [h1] at h3
    rw [← h2, h3]
    rfl)
  have e3 : (qz a &&& (qz a - qz 1)).toBitVec.toNat ≤ (qz a - qz 1).toBitVec.toNat := by rw [Int32.toBitVec_and, BitVec.toNat_and]; exact Nat.and_le_right
  have e4 : (qz a - qz 1).toBitVec.toNat = (4294967296 - 1 + (qz a).toBitVec.toNat) % 4294967296 := by rw [Int32.toBitVec_sub, BitVec.toNat_sub]; rfl
  have e5 : (qz a).toBitVec.toNat < 4294967296 := (qz a).toBitVec.isLt
  rw [e1]
  omega
theorem qy_lowl {a : Int} (h : (-9223372036854775808 ≤ a ∧ a ≤ 9223372036854775807) ∧ ¬ a = 0) (k : ∀ v : Int, ((-9223372036854775808 ≤ v ∧ v ≤ 9223372036854775807) ∧ ((ql v).toBitVec.toNat : Int) < ((ql a).toBitVec.toNat : Int)) → qr_W X d x Q (pc, ls, .long (ql v) :: st, w, c, n)) : qr_W X d x Q (pc, ls, .long (ql (ql_and a (a - 1))) :: st, w, c, n) := by
  refine k _ ⟨ql_rng _, ?_⟩
  have e1 : ql (ql_and a (a - 1)) = ql a &&& (ql a - ql 1) := by unfold ql_and; rw [← ql_of, ql_sub]
  have e2 : (ql a).toBitVec.toNat ≠ 0 := fun h0 => h.2 (by
    have h1 : (ql a).toBitVec = 0#64 := BitVec.eq_of_toNat_eq h0
    have h2 : (ql a).toInt = a := ql_ti h.1
    have h3 : (ql a).toInt = (ql a).toBitVec.toInt := rfl
    rw [h1] at h3
    rw [← h2, h3]
    rfl)
  have e3 : (ql a &&& (ql a - ql 1)).toBitVec.toNat ≤ (ql a - ql 1).toBitVec.toNat := by rw [Int64.toBitVec_and, BitVec.toNat_and]; exact Nat.and_le_right
  have e4 : (ql a - ql 1).toBitVec.toNat = (18446744073709551616 - 1 + (ql a).toBitVec.toNat) % 18446744073709551616 := by rw [Int64.toBitVec_sub, BitVec.toNat_sub]; rfl
  have e5 : (ql a).toBitVec.toNat < 18446744073709551616 := (ql a).toBitVec.isLt
  rw [e1]
  omega
end QYL

set_option maxHeartbeats 4000000 in
set_option maxRecDepth 20000 in
/-- OneRoofModel.bitsOf -/
theorem sf_236 {L : Nat} {xs : Nat → Int} {vb : Bool} {d : Nat} {σ α : Nat → Nat → Int} {κ : Nat → Option Nat} {ρ : Nat} {x0 : Int} (hI : qI σ α κ ρ) (r0 : (-2147483648) ≤ x0 ∧ x0 ≤ 2147483647) : qm_T (qe L xs vb) (d + 1) 236 [.int (qz x0)] (qw σ α κ ρ) (fun r w' => w' = qw σ α κ ρ ∧ ∃ v : Int, r = some (.int (qz v)) ∧ ((-2147483648) ≤ v ∧ v ≤ 2147483647)) := by
  refine qr_start (d := d + 0) qv_e236 (Nat.le_of_ble_eq_true rfl) ?_
  show qr_W (qe L xs vb) (d + 0) qx_e236 _ (0, [(0, .int (qz x0))], [], _, 0, 0)
  refine qr_iconst 1 rfl rfl ?_
  refine qr_istore_n _ 2 rfl (by decide) rfl rfl ?_
  refine qr_iload_n 3 rfl rfl rfl ?_
  refine qr_istore_n _ 4 rfl (by decide) rfl rfl ?_
  have hL262 : ∀ (n : Nat) (ls : qm_L) (u257 u259 : Int), ((qz u259).toBitVec.toNat : Int) < (n : Int) → qm_get ls 1 = some (.int (qz u257)) → qm_get ls 2 = some (.int (qz u259)) → ((-2147483648) ≤ u257 ∧ u257 ≤ 2147483647) → ((-2147483648) ≤ u259 ∧ u259 ≤ 2147483647) → qr_W (qe L xs vb) (d + 0) qx_e236 (fun r w' => w' = qw σ α κ ρ ∧ ∃ v : Int, r = some (.int (qz v)) ∧ ((-2147483648) ≤ v ∧ v ≤ 2147483647)) (4, ls, [], qw σ α κ ρ, 0, 0) := by
    intro n
    induction n with
    | zero => intro ls u257 u259 hm g256 g258 hf260 hf261; exact False.elim (by omega)
    | succ n ih263 =>
      intro ls u257 u259 hm g256 g258 hf260 hf261
      refine qr_iload_n 5 rfl g258 rfl ?_
      refine qr_if_eq 20 8 rfl rfl rfl (by omega) (fun h264 => ?_) (fun h264 => ?_)
      · skip
        refine qr_iload_n 21 rfl g256 rfl ?_
        refine qr_retI rfl rfl (by decide) (by decide) ?_
        exact ⟨rfl, u257, rfl, by omega⟩
      · skip
        refine qy_iincC 11 rfl g256 (by decide) rfl (fun v265 hv265 => ?_)
        refine qr_iload_n 12 rfl (qm_gk g258 (by decide) (Or.inl (by decide))) rfl ?_
        refine qr_iload_n 13 rfl (qm_gk g258 (by decide) (Or.inl (by decide))) rfl ?_
        refine qr_iconst 14 rfl rfl ?_
        refine qr_isub 15 rfl rfl ?_
        refine qr_iand 16 rfl rfl ?_
        refine qy_low (by omega) (fun v266 hv266 => ?_)
        refine qr_istore_n _ 17 rfl (by decide) rfl rfl ?_
        refine qr_goto 4 rfl rfl ?_
        exact ih263 _ v265 v266 (by omega) (qm_gk (qm_ge _ _ _) (by decide) (Or.inr rfl)) (qm_ge _ _ _) (by omega) (by omega)
  exact hL262 ((((qz x0).toBitVec.toNat : Int) + 1 : Int)).toNat _ 0 x0 (by omega) rfl rfl (by omega) (by omega)

set_option maxHeartbeats 4000000 in
set_option maxRecDepth 20000 in
/-- OneRoofModel.bitsIn -/
theorem sf_253 {L : Nat} {xs : Nat → Int} {vb : Bool} {d : Nat} {σ α : Nat → Nat → Int} {κ : Nat → Option Nat} {ρ : Nat} {x0 : Int} (hI : qI σ α κ ρ) (r0 : (-9223372036854775808) ≤ x0 ∧ x0 ≤ 9223372036854775807) : qm_T (qe L xs vb) (d + 1) 253 [.long (ql x0)] (qw σ α κ ρ) (fun r w' => w' = qw σ α κ ρ ∧ ∃ v : Int, r = some (.int (qz v)) ∧ ((-2147483648) ≤ v ∧ v ≤ 2147483647)) := by
  refine qr_start (d := d + 0) qv_e253 (Nat.le_of_ble_eq_true rfl) ?_
  show qr_W (qe L xs vb) (d + 0) qx_e253 _ (0, [(0, .long (ql x0))], [], _, 0, 0)
  refine qr_iconst 1 rfl rfl ?_
  refine qr_istore_n _ 2 rfl (by decide) rfl rfl ?_
  refine qr_lload_n 3 rfl rfl rfl ?_
  refine qr_lstore_n _ 4 rfl (by decide) rfl rfl ?_
  have hL262 : ∀ (n : Nat) (ls : qm_L) (u257 u259 : Int), ((ql u259).toBitVec.toNat : Int) < (n : Int) → qm_get ls 2 = some (.int (qz u257)) → qm_get ls 3 = some (.long (ql u259)) → ((-2147483648) ≤ u257 ∧ u257 ≤ 2147483647) → ((-9223372036854775808) ≤ u259 ∧ u259 ≤ 9223372036854775807) → qr_W (qe L xs vb) (d + 0) qx_e253 (fun r w' => w' = qw σ α κ ρ ∧ ∃ v : Int, r = some (.int (qz v)) ∧ ((-2147483648) ≤ v ∧ v ≤ 2147483647)) (4, ls, [], qw σ α κ ρ, 0, 0) := by
    intro n
    induction n with
    | zero => intro ls u257 u259 hm g256 g258 hf260 hf261; exact False.elim (by omega)
    | succ n ih263 =>
      intro ls u257 u259 hm g256 g258 hf260 hf261
      refine qr_lload_n 5 rfl g258 rfl ?_
      refine qr_lconst 6 rfl rfl ?_
      refine qy_vl 0 rfl ?_
      refine qr_lc_eq 22 10 rfl rfl rfl rfl (by omega) (by omega) (fun h264 => ?_) (fun h264 => ?_)
      · skip
        refine qr_iload_n 23 rfl g256 rfl ?_
        refine qr_retI rfl rfl (by decide) (by decide) ?_
        exact ⟨rfl, u257, rfl, by omega⟩
      · skip
        refine qy_iincC 13 rfl g256 (by decide) rfl (fun v265 hv265 => ?_)
        refine qr_lload_n 14 rfl (qm_gk g258 (by decide) (Or.inl (by decide))) rfl ?_
        refine qr_lload_n 15 rfl (qm_gk g258 (by decide) (Or.inl (by decide))) rfl ?_
        refine qr_lconst 16 rfl rfl ?_
        refine qy_vl 1 rfl ?_
        refine qr_lsub 17 rfl rfl ?_
        refine qr_land 18 rfl rfl ?_
        refine qy_lowl (by omega) (fun v266 hv266 => ?_)
        refine qr_lstore_n _ 19 rfl (by decide) rfl rfl ?_
        refine qr_goto 4 rfl rfl ?_
        exact ih263 _ v265 v266 (by omega) (qm_gk2 (qm_ge _ _ _) (by decide) (by decide) (Or.inr rfl)) (qm_ge2 _ _ _) (by omega) (by omega)
  exact hL262 ((((ql x0).toBitVec.toNat : Int) + 1 : Int)).toNat _ 0 x0 (by omega) rfl rfl (by omega) (by omega)

set_option maxHeartbeats 4000000 in
set_option maxRecDepth 20000 in
/-- OneRoofModel.count -/
theorem sf_271_86 {L : Nat} {xs : Nat → Int} {vb : Bool} {d : Nat} {σ α : Nat → Nat → Int} {κ : Nat → Option Nat} {ρ : Nat} {x1 : Int} (hI : qI σ α κ ρ) (r1 : (-2147483648) ≤ x1 ∧ x1 ≤ 2147483647) : qm_T (qe L xs vb) (d + 2) 271 [.ref 86, .int (qz x1)] (qw σ α κ ρ) (fun r w' => w' = qw σ α κ ρ ∧ ∃ v : Int, r = some (.int (qz v)) ∧ ((-2147483648) ≤ v ∧ v ≤ 2147483647)) := by
  refine qr_start (d := d + 1) qv_e271 (Nat.le_of_ble_eq_true rfl) ?_
  show qr_W (qe L xs vb) (d + 1) qx_e271 _ (0, [(0, .ref 86), (1, .int (qz x1))], [], _, 0, 0)
  refine qr_iload_n 1 rfl rfl rfl ?_
  have h1 : x1 = 0 ∨ x1 = 1 ∨ x1 = 2 ∨ x1 = 3 ∨ x1 = 4 ∨ x1 = 5 ∨ x1 = 6 ∨ x1 = 7 ∨ (x1 < 0 ∨ 7 < x1) := by omega
  rcases h1 with h1 | h1 | h1 | h1 | h1 | h1 | h1 | h1 | h1
  · skip
    refine qr_tabIn 48 rfl (by omega) (by omega) (by rw [h1]; rfl) rfl ?_
    refine qr_aload_n 49 rfl rfl rfl ?_
    refine qr_get 52 rfl rfl rfl (by decide) rfl ?_
    have hs3 : 0 ≤ σ 86 6 ∧ σ 86 6 ≤ 32 := hI.1 86 6
    refine qr_retI rfl rfl (by decide) (by decide) ?_
    exact ⟨rfl, (σ 86 6), rfl, by omega⟩
  · skip
    refine qr_tabIn 53 rfl (by omega) (by omega) (by rw [h1]; rfl) rfl ?_
    refine qr_aload_n 54 rfl rfl rfl ?_
    refine qr_get 57 rfl rfl rfl (by decide) rfl ?_
    have hs4 : 0 ≤ σ 86 11 ∧ σ 86 11 ≤ 61 := hI.1 86 11
    refine qr_retI rfl rfl (by decide) (by decide) ?_
    exact ⟨rfl, (σ 86 11), rfl, by omega⟩
  · skip
    refine qr_tabIn 58 rfl (by omega) (by omega) (by rw [h1]; rfl) rfl ?_
    refine qr_aload_n 59 rfl rfl rfl ?_
    refine qr_get 62 rfl rfl rfl (by decide) rfl ?_
    have hs5 : 0 ≤ σ 86 16 ∧ σ 86 16 ≤ 40 := hI.1 86 16
    refine qr_retI rfl rfl (by decide) (by decide) ?_
    exact ⟨rfl, (σ 86 16), rfl, by omega⟩
  · skip
    refine qr_tabIn 63 rfl (by omega) (by omega) (by rw [h1]; rfl) rfl ?_
    refine qr_aload_n 64 rfl rfl rfl ?_
    refine qr_get 67 rfl rfl rfl (by decide) rfl ?_
    have hs6 : 0 ≤ σ 86 24 ∧ σ 86 24 ≤ 60 := hI.1 86 24
    refine qr_retI rfl rfl (by decide) (by decide) ?_
    exact ⟨rfl, (σ 86 24), rfl, by omega⟩
  · skip
    refine qr_tabIn 68 rfl (by omega) (by omega) (by rw [h1]; rfl) rfl ?_
    refine qr_aload_n 69 rfl rfl rfl ?_
    refine qr_get 72 rfl rfl rfl (by decide) rfl ?_
    have hs7 : 0 ≤ σ 86 32 ∧ σ 86 32 ≤ 120 := hI.1 86 32
    refine qr_retI rfl rfl (by decide) (by decide) ?_
    exact ⟨rfl, (σ 86 32), rfl, by omega⟩
  · skip
    refine qr_tabIn 73 rfl (by omega) (by omega) (by rw [h1]; rfl) rfl ?_
    refine qr_aload_n 74 rfl rfl rfl ?_
    refine qr_get 77 rfl rfl rfl (by decide) rfl ?_
    have hs8 : 0 ≤ σ 86 5 ∧ σ 86 5 ≤ 40 := hI.1 86 5
    refine qr_retI rfl rfl (by decide) (by decide) ?_
    exact ⟨rfl, (σ 86 5), rfl, by omega⟩
  · skip
    refine qr_tabIn 78 rfl (by omega) (by omega) (by rw [h1]; rfl) rfl ?_
    refine qr_aload_n 79 rfl rfl rfl ?_
    refine qr_get 82 rfl rfl rfl (by decide) rfl ?_
    have hs9 : (-9223372036854775808) ≤ σ 86 10 ∧ σ 86 10 ≤ 9223372036854775807 := hI.1 86 10
    refine qr_callN 85 rfl rfl rfl (sf_253 (d := d + 0) hI (by omega)) ?_
    rintro _ _ ⟨rfl, v10, rfl, hv10⟩
    show qr_W (qe L xs vb) (d + 1) qx_e271 _ (85, _, [.int (qz v10)], qw σ α κ ρ, 0, 0)
    refine qr_retI rfl rfl (by decide) (by decide) ?_
    exact ⟨rfl, v10, rfl, by omega⟩
  · skip
    refine qr_tabIn 86 rfl (by omega) (by omega) (by rw [h1]; rfl) rfl ?_
    refine qr_aload_n 87 rfl rfl rfl ?_
    refine qr_get 90 rfl rfl rfl (by decide) rfl ?_
    have hs11 : (-2147483648) ≤ σ 86 56 ∧ σ 86 56 ≤ 2147483647 := hI.1 86 56
    refine qr_retI rfl rfl (by decide) (by decide) ?_
    exact ⟨rfl, (σ 86 56), rfl, by omega⟩
  · skip
    refine qr_tabOut 91 rfl (by omega) (by omega) rfl ?_
    refine qr_iconst 92 rfl rfl ?_
    refine qr_retI rfl rfl (by decide) (by decide) ?_
    exact ⟨rfl, (-1), rfl, by omega⟩
end
