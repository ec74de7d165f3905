section
set_option maxHeartbeats 4000000 in
set_option maxRecDepth 20000 in
/-- OneRoof$Peaces.standsAt -/
theorem sf_77_34 {L : Nat} {xs : Nat → Int} {vb : Bool} {d : Nat} {σ α : Nat → Nat → Int} {κ : Nat → Option Nat} {ρ : Nat} {x1 : Int} {x2 : Int} (hI : qI σ α κ ρ) (r1 : 0 ≤ x1 ∧ x1 ≤ 59) (r2 : (-2147483648) ≤ x2 ∧ x2 ≤ 2147483647) : qm_T (qe L xs vb) (d + 1) 77 [.ref 34, .int (qz x1), .int (qz x2)] (qw σ α κ ρ) (fun r w' => w' = qw σ α κ ρ ∧ ∃ v : Int, r = some (.int (qz v)) ∧ (0 ≤ v ∧ v ≤ 1)) := by
  refine qr_start (d := d + 0) qv_e77 (Nat.le_of_ble_eq_true rfl) ?_
  show qr_W (qe L xs vb) (d + 0) qx_e77 _ (0, [(0, .ref 34), (1, .int (qz x1)), (2, .int (qz x2))], [], _, 0, 0)
  refine qr_aload_n 1 rfl rfl rfl ?_
  refine qr_get 4 rfl rfl rfl (by decide) rfl ?_
  refine qr_iload_n 5 rfl rfl rfl ?_
  refine qr_iaload 6 rfl rfl (qrgi r1 (by decide) (by decide)) (by decide) rfl ?_
  refine qr_topI (fun v1 hv1 => ?_)
  have hs2 : (-2147483648) ≤ v1 ∧ v1 ≤ 2147483647 := by rw [hv1]; exact hI.2.1 37 _ (show _ < 60 from qrgt r1 (by decide) (by decide))
  refine qr_iload_n 7 rfl rfl rfl ?_
  refine qr_icmp_gt 24 10 rfl rfl rfl hs2 r2 (fun h3 => ?_) (fun h3 => ?_)
  · skip
    refine qr_iconst 25 rfl rfl ?_
    refine qr_retZ rfl rfl (Or.inl rfl) (by decide) (by decide) ?_
    exact ⟨rfl, 0, rfl, (by decide)⟩
  · skip
    refine qr_iload_n 11 rfl rfl rfl ?_
    refine qr_aload_n 12 rfl rfl rfl ?_
    refine qr_get 15 rfl rfl rfl (by decide) rfl ?_
    refine qr_iload_n 16 rfl rfl rfl ?_
    refine qr_iaload 17 rfl rfl (qrgi r1 (by decide) (by decide)) (by decide) rfl ?_
    refine qr_topI (fun v4 hv4 => ?_)
    have hs5 : (-2147483648) ≤ v4 ∧ v4 ≤ 2147483647 := by rw [hv4]; exact hI.2.1 40 _ (show _ < 60 from qrgt r1 (by decide) (by decide))
    refine qr_icmp_gt 24 20 rfl rfl rfl r2 hs5 (fun h6 => ?_) (fun h6 => ?_)
    · skip
      refine qr_iconst 25 rfl rfl ?_
      refine qr_retZ rfl rfl (Or.inl rfl) (by decide) (by decide) ?_
      exact ⟨rfl, 0, rfl, (by decide)⟩
    · skip
      refine qr_iconst 21 rfl rfl ?_
      refine qr_goto 25 rfl rfl ?_
      refine qr_retZ rfl rfl (Or.inr rfl) (by decide) (by decide) ?_
      exact ⟨rfl, 1, rfl, (by decide)⟩

set_option maxHeartbeats 4000000 in
set_option maxRecDepth 20000 in
/-- OneRoof$Peaces.turnsAt -/
theorem sf_103_34 {L : Nat} {xs : Nat → Int} {vb : Bool} {d : Nat} {σ α : Nat → Nat → Int} {κ : Nat → Option Nat} {ρ : Nat} {x1 : Int} (hI : qI σ α κ ρ) (r1 : (-2147483648) ≤ x1 ∧ x1 ≤ 2147483647) : qm_T (qe L xs vb) (d + 1) 103 [.ref 34, .int (qz x1)] (qw σ α κ ρ) (fun r w' => w' = qw σ α κ ρ ∧ ∃ v : Int, r = some (.int (qz v)) ∧ (0 ≤ v ∧ v ≤ 1)) := by
  refine qr_start (d := d + 0) qv_e103 (Nat.le_of_ble_eq_true rfl) ?_
  show qr_W (qe L xs vb) (d + 0) qx_e103 _ (0, [(0, .ref 34), (1, .int (qz x1))], [], _, 0, 0)
  refine qr_iconst 1 rfl rfl ?_
  refine qr_istore_n _ 2 rfl (by decide) rfl rfl ?_
  have hL246 : ∀ (n : Nat) (ls : qm_L) (u244 : Int), 60 - u244 < (n : Int) → qm_get ls 0 = some (.ref 34) → qm_get ls 1 = some (.int (qz x1)) → qm_get ls 2 = some (.int (qz u244)) → (0 ≤ u244 ∧ u244 ≤ 60) → qr_W (qe L xs vb) (d + 0) qx_e103 (fun r w' => w' = qw σ α κ ρ ∧ ∃ v : Int, r = some (.int (qz v)) ∧ (0 ≤ v ∧ v ≤ 1)) (2, ls, [], qw σ α κ ρ, 0, 0) := by
    intro n
    induction n with
    | zero => intro ls u244 hm g241 g242 g243 hf245; exact False.elim (by omega)
    | succ n ih247 =>
      intro ls u244 hm g241 g242 g243 hf245
      refine qr_iload_n 3 rfl g243 rfl ?_
      refine qr_aload_n 4 rfl g241 rfl ?_
      refine qr_get 7 rfl rfl rfl (by decide) rfl ?_
      have hs248 : 0 ≤ σ 34 7 ∧ σ 34 7 ≤ 60 := hI.1 34 7
      refine qr_icmp_ge 40 10 rfl rfl rfl (qrg hf245 (by decide) (by decide)) (qrg hs248 (by decide) (by decide)) (fun h249 => ?_) (fun h249 => ?_)
      · skip
        refine qr_iconst 41 rfl rfl ?_
        refine qr_retZ rfl rfl (Or.inl rfl) (by decide) (by decide) ?_
        exact ⟨rfl, 0, rfl, (by decide)⟩
      · skip
        refine qr_aload_n 11 rfl g241 rfl ?_
        refine qr_get 14 rfl rfl rfl (by decide) rfl ?_
        refine qr_iload_n 15 rfl g243 rfl ?_
        refine qr_iaload 16 rfl rfl (by omega) (by decide) rfl ?_
        refine qr_topI (fun v250 hv250 => ?_)
        have hs251 : (-2147483648) ≤ v250 ∧ v250 ≤ 2147483647 := by rw [hv250]; exact hI.2.1 37 _ (show _ < 60 by omega)
        refine qr_iload_n 17 rfl g242 rfl ?_
        refine qr_icmp_eq 32 20 rfl rfl rfl hs251 r1 (fun h252 => ?_) (fun h252 => ?_)
        · skip
          refine qr_iconst 33 rfl rfl ?_
          refine qr_retZ rfl rfl (Or.inr rfl) (by decide) (by decide) ?_
          exact ⟨rfl, 1, rfl, (by decide)⟩
        · skip
          refine qr_aload_n 21 rfl g241 rfl ?_
          refine qr_get 24 rfl rfl rfl (by decide) rfl ?_
          refine qr_iload_n 25 rfl g243 rfl ?_
          refine qr_iaload 26 rfl rfl (by omega) (by decide) rfl ?_
          refine qr_topI (fun v253 hv253 => ?_)
          have hs254 : (-2147483648) ≤ v253 ∧ v253 ≤ 2147483647 := by rw [hv253]; exact hI.2.1 40 _ (show _ < 60 by omega)
          refine qr_iconst 27 rfl rfl ?_
          refine qr_iadd 28 rfl rfl ?_
          refine qy_can (fun v255 hv255 => ?_)
          refine qr_iload_n 29 rfl g242 rfl ?_
          refine qr_icmp_ne 34 32 rfl rfl rfl hv255 r1 (fun h256 => ?_) (fun h256 => ?_)
          · skip
            refine qr_iinc _ 37 rfl g243 (by decide) rfl rfl ?_
            refine qr_goto 2 rfl rfl ?_
            exact ih247 _ (u244 + 1) (by omega) (qm_gk g241 (by decide) (Or.inl (by decide))) (qm_gk g242 (by decide) (Or.inr rfl)) (qm_ge _ _ _) (by omega)
          · skip
            refine qr_iconst 33 rfl rfl ?_
            refine qr_retZ rfl rfl (Or.inr rfl) (by decide) (by decide) ?_
            exact ⟨rfl, 1, rfl, (by decide)⟩
  exact hL246 ((60 - 0 + 1 : Int)).toNat _ 0 (by omega) rfl rfl rfl (by decide)

set_option maxHeartbeats 4000000 in
set_option maxRecDepth 20000 in
/-- OneRoof$Peaces.reaches -/
theorem sf_78_34_17 {L : Nat} {xs : Nat → Int} {vb : Bool} {d : Nat} {σ α : Nat → Nat → Int} {κ : Nat → Option Nat} {ρ : Nat} {x1 : Int} {x2 : Int} {x3 : Int} (hI : qI σ α κ ρ) (r1 : 0 ≤ x1 ∧ x1 ≤ 59) (r2 : 0 ≤ x2 ∧ x2 ≤ 31) (r3 : 0 ≤ x3 ∧ x3 ≤ 31) : qm_T (qe L xs vb) (d + 1) 78 [.ref 34, .int (qz x1), .int (qz x2), .int (qz x3), .ref 17] (qw σ α κ ρ) (fun r w' => w' = qw σ α κ ρ ∧ ∃ v : Int, r = some (.int (qz v)) ∧ (0 ≤ v ∧ v ≤ 1)) := by
  refine qr_start (d := d + 0) qv_e78 (Nat.le_of_ble_eq_true rfl) ?_
  show qr_W (qe L xs vb) (d + 0) qx_e78 _ (0, [(0, .ref 34), (1, .int (qz x1)), (2, .int (qz x2)), (3, .int (qz x3)), (4, .ref 17)], [], _, 0, 0)
  refine qr_lconst 1 rfl rfl ?_
  refine qy_vl 1 rfl ?_
  refine qr_iload_n 2 rfl rfl rfl ?_
  refine qr_lshl 3 rfl rfl ?_
  refine qy_canl (fun v1 hv1 => ?_)
  refine qr_lconst 4 rfl rfl ?_
  refine qy_vl 1 rfl ?_
  refine qr_iload_n 5 rfl rfl rfl ?_
  refine qr_lshl 6 rfl rfl ?_
  refine qy_canl (fun v2 hv2 => ?_)
  refine qr_lor 7 rfl rfl ?_
  refine qy_canl (fun v3 hv3 => ?_)
  refine qr_lstore _ 9 rfl (by decide) rfl rfl ?_
  refine qr_lconst 10 rfl rfl ?_
  refine qy_vl 1 rfl ?_
  refine qr_aload_n 11 rfl rfl rfl ?_
  refine qr_get 14 rfl rfl rfl (by decide) rfl ?_
  refine qr_iload_n 15 rfl rfl rfl ?_
  refine qr_iaload 16 rfl rfl (qrgi r1 (by decide) (by decide)) (by decide) rfl ?_
  refine qr_topI (fun v4 hv4 => ?_)
  have hs5 : (-2147483648) ≤ v4 ∧ v4 ≤ 2147483647 := by rw [hv4]; exact hI.2.1 36 _ (show _ < 60 from qrgt r1 (by decide) (by decide))
  refine qr_lshl 17 rfl rfl ?_
  refine qy_canl (fun v6 hv6 => ?_)
  refine qr_lstore _ 19 rfl (by decide) rfl rfl ?_
  refine qr_aload_n 20 rfl rfl rfl ?_
  refine qr_get 23 rfl rfl rfl (by decide) rfl ?_
  refine qr_iload_n 24 rfl rfl rfl ?_
  refine qr_laload 25 rfl (by decide) rfl (qrgi r1 (by decide) (by decide)) (by decide) rfl ?_
  refine qr_topL (fun v7 hv7 => ?_)
  have hs8 : (-9223372036854775808) ≤ v7 ∧ v7 ≤ 9223372036854775807 := by rw [hv7]; exact hI.2.1 41 _ (show _ < 60 from qrgt r1 (by decide) (by decide))
  refine qr_lstore _ 27 rfl (by decide) rfl rfl ?_
  refine qr_aload_n 28 rfl rfl rfl ?_
  refine qr_get 31 rfl rfl rfl (by decide) rfl ?_
  refine qr_iload_n 32 rfl rfl rfl ?_
  refine qr_iaload 33 rfl rfl (qrgi r1 (by decide) (by decide)) (by decide) rfl ?_
  refine qr_topI (fun v9 hv9 => ?_)
  have hs10 : (-2147483648) ≤ v9 ∧ v9 ≤ 2147483647 := by rw [hv9]; exact hI.2.1 35 _ (show _ < 60 from qrgt r1 (by decide) (by decide))
  have h11 : v9 = 0 ∨ v9 = 1 ∨ v9 = 2 ∨ v9 = 3 ∨ v9 = 4 ∨ v9 = 5 ∨ (v9 < 0 ∨ 5 < v9) := by omega
  rcases h11 with h11 | h11 | h11 | h11 | h11 | h11 | h11
  · skip
    refine qr_tabIn 72 rfl hs10 (by rw [h11]; decide) (by rw [h11]; rfl) rfl ?_
    refine qr_aload 74 rfl rfl rfl ?_
    refine qr_get 77 rfl rfl rfl (by decide) rfl ?_
    refine qr_iload_n 78 rfl rfl rfl ?_
    refine qr_laload 79 rfl (by decide) rfl (qrgi r2 (by decide) (by decide)) (by decide) rfl ?_
    refine qr_topL (fun v13 hv13 => ?_)
    have hs14 : (-9223372036854775808) ≤ v13 ∧ v13 ≤ 9223372036854775807 := by rw [hv13]; exact hI.2.1 22 _ (show _ < 32 from qrgt r2 (by decide) (by decide))
    refine qr_aload 81 rfl rfl rfl ?_
    refine qr_get 84 rfl rfl rfl (by decide) rfl ?_
    refine qr_iload_n 85 rfl rfl rfl ?_
    refine qr_laload 86 rfl (by decide) rfl (qrgi r3 (by decide) (by decide)) (by decide) rfl ?_
    refine qr_topL (fun v15 hv15 => ?_)
    have hs16 : (-9223372036854775808) ≤ v15 ∧ v15 ≤ 9223372036854775807 := by rw [hv15]; exact hI.2.1 22 _ (show _ < 32 from qrgt r3 (by decide) (by decide))
    refine qr_land 87 rfl rfl ?_
    refine qy_canl (fun v17 hv17 => ?_)
    refine qr_lload 89 rfl rfl rfl ?_
    refine qr_land 90 rfl rfl ?_
    refine qy_canl (fun v18 hv18 => ?_)
    refine qr_lconst 91 rfl rfl ?_
    refine qy_vl 0 rfl ?_
    refine qr_lc_eq 99 95 rfl rfl rfl rfl hv18 (by decide) (fun h19 => ?_) (fun h19 => ?_)
    · skip
      refine qr_iconst 100 rfl rfl ?_
      refine qr_retZ rfl rfl (Or.inl rfl) (by decide) (by decide) ?_
      exact ⟨rfl, 0, rfl, (by decide)⟩
    · skip
      refine qr_iconst 96 rfl rfl ?_
      refine qr_goto 100 rfl rfl ?_
      refine qr_retZ rfl rfl (Or.inr rfl) (by decide) (by decide) ?_
      exact ⟨rfl, 1, rfl, (by decide)⟩
  · skip
    refine qr_tabIn 101 rfl hs10 (by rw [h11]; decide) (by rw [h11]; rfl) rfl ?_
    refine qr_lload 103 rfl rfl rfl ?_
    refine qr_lload 105 rfl rfl rfl ?_
    refine qr_lor 106 rfl rfl ?_
    refine qy_canl (fun v20 hv20 => ?_)
    refine qr_lload 108 rfl rfl rfl ?_
    refine qr_land 109 rfl rfl ?_
    refine qy_canl (fun v21 hv21 => ?_)
    refine qr_lload 111 rfl rfl rfl ?_
    refine qr_lc_ne 119 115 rfl rfl rfl rfl hv21 hv3 (fun h22 => ?_) (fun h22 => ?_)
    · skip
      refine qr_iconst 120 rfl rfl ?_
      refine qr_retZ rfl rfl (Or.inl rfl) (by decide) (by decide) ?_
      exact ⟨rfl, 0, rfl, (by decide)⟩
    · skip
      refine qr_iconst 116 rfl rfl ?_
      refine qr_goto 120 rfl rfl ?_
      refine qr_retZ rfl rfl (Or.inr rfl) (by decide) (by decide) ?_
      exact ⟨rfl, 1, rfl, (by decide)⟩
  · skip
    refine qr_tabIn 101 rfl hs10 (by rw [h11]; decide) (by rw [h11]; rfl) rfl ?_
    refine qr_lload 103 rfl rfl rfl ?_
    refine qr_lload 105 rfl rfl rfl ?_
    refine qr_lor 106 rfl rfl ?_
    refine qy_canl (fun v23 hv23 => ?_)
    refine qr_lload 108 rfl rfl rfl ?_
    refine qr_land 109 rfl rfl ?_
    refine qy_canl (fun v24 hv24 => ?_)
    refine qr_lload 111 rfl rfl rfl ?_
    refine qr_lc_ne 119 115 rfl rfl rfl rfl hv24 hv3 (fun h25 => ?_) (fun h25 => ?_)
    · skip
      refine qr_iconst 120 rfl rfl ?_
      refine qr_retZ rfl rfl (Or.inl rfl) (by decide) (by decide) ?_
      exact ⟨rfl, 0, rfl, (by decide)⟩
    · skip
      refine qr_iconst 116 rfl rfl ?_
      refine qr_goto 120 rfl rfl ?_
      refine qr_retZ rfl rfl (Or.inr rfl) (by decide) (by decide) ?_
      exact ⟨rfl, 1, rfl, (by decide)⟩
  · skip
    refine qr_tabIn 121 rfl hs10 (by rw [h11]; decide) (by rw [h11]; rfl) rfl ?_
    refine qr_lload 123 rfl rfl rfl ?_
    refine qr_lload 125 rfl rfl rfl ?_
    refine qr_land 126 rfl rfl ?_
    refine qy_canl (fun v26 hv26 => ?_)
    refine qr_lconst 127 rfl rfl ?_
    refine qy_vl 0 rfl ?_
    refine qr_lc_eq 135 131 rfl rfl rfl rfl hv26 (by decide) (fun h27 => ?_) (fun h27 => ?_)
    · skip
      refine qr_iconst 136 rfl rfl ?_
      refine qr_retZ rfl rfl (Or.inl rfl) (by decide) (by decide) ?_
      exact ⟨rfl, 0, rfl, (by decide)⟩
    · skip
      refine qr_iconst 132 rfl rfl ?_
      refine qr_goto 136 rfl rfl ?_
      refine qr_retZ rfl rfl (Or.inr rfl) (by decide) (by decide) ?_
      exact ⟨rfl, 1, rfl, (by decide)⟩
  · skip
    refine qr_tabIn 137 rfl hs10 (by rw [h11]; decide) (by rw [h11]; rfl) rfl ?_
    refine qr_lload 139 rfl rfl rfl ?_
    refine qr_lload 141 rfl rfl rfl ?_
    refine qr_land 142 rfl rfl ?_
    refine qy_canl (fun v28 hv28 => ?_)
    refine qr_lload 144 rfl rfl rfl ?_
    refine qr_lc_ne 152 148 rfl rfl rfl rfl hv28 hv3 (fun h29 => ?_) (fun h29 => ?_)
    · skip
      refine qr_iconst 153 rfl rfl ?_
      refine qr_retZ rfl rfl (Or.inl rfl) (by decide) (by decide) ?_
      exact ⟨rfl, 0, rfl, (by decide)⟩
    · skip
      refine qr_iconst 149 rfl rfl ?_
      refine qr_goto 153 rfl rfl ?_
      refine qr_retZ rfl rfl (Or.inr rfl) (by decide) (by decide) ?_
      exact ⟨rfl, 1, rfl, (by decide)⟩
  · skip
    refine qr_tabIn 154 rfl hs10 (by rw [h11]; decide) (by rw [h11]; rfl) rfl ?_
    refine qr_iconst 155 rfl rfl ?_
    refine qr_retZ rfl rfl (Or.inr rfl) (by decide) (by decide) ?_
    exact ⟨rfl, 1, rfl, (by decide)⟩
  · skip
    refine qr_tabOut 156 rfl hs10 (by omega) rfl ?_
    refine qr_iconst 157 rfl rfl ?_
    refine qr_retZ rfl rfl (Or.inl rfl) (by decide) (by decide) ?_
    exact ⟨rfl, 0, rfl, (by decide)⟩

set_option maxHeartbeats 4000000 in
set_option maxRecDepth 20000 in
/-- OneRoof$Peaces.holding -/
theorem sf_80_34_17 {L : Nat} {xs : Nat → Int} {vb : Bool} {d : Nat} {σ α : Nat → Nat → Int} {κ : Nat → Option Nat} {ρ : Nat} {x1 : Int} {x2 : Int} {x3 : Int} (hI : qI σ α κ ρ) (r1 : 0 ≤ x1 ∧ x1 ≤ 31) (r2 : 0 ≤ x2 ∧ x2 ≤ 31) (r3 : (-2147483648) ≤ x3 ∧ x3 ≤ 2147483647) : qm_T (qe L xs vb) (d + 2) 80 [.ref 34, .int (qz x1), .int (qz x2), .int (qz x3), .ref 17] (qw σ α κ ρ) (fun r w' => w' = qw σ α κ ρ ∧ ∃ v : Int, r = some (.long (ql v)) ∧ ((-9223372036854775808) ≤ v ∧ v ≤ 9223372036854775807)) := by
  refine qr_start (d := d + 1) qv_e80 (Nat.le_of_ble_eq_true rfl) ?_
  show qr_W (qe L xs vb) (d + 1) qx_e80 _ (0, [(0, .ref 34), (1, .int (qz x1)), (2, .int (qz x2)), (3, .int (qz x3)), (4, .ref 17)], [], _, 0, 0)
  refine qr_lconst 1 rfl rfl ?_
  refine qy_vl 0 rfl ?_
  refine qr_lstore _ 3 rfl (by decide) rfl rfl ?_
  refine qr_iconst 4 rfl rfl ?_
  refine qr_istore _ 6 rfl (by decide) rfl rfl ?_
  have hL492 : ∀ (n : Nat) (ls : qm_L) (u487 u489 : Int), 60 - u489 < (n : Int) → qm_get ls 0 = some (.ref 34) → qm_get ls 1 = some (.int (qz x1)) → qm_get ls 2 = some (.int (qz x2)) → qm_get ls 3 = some (.int (qz x3)) → qm_get ls 4 = some (.ref 17) → qm_get ls 5 = some (.long (ql u487)) → qm_get ls 7 = some (.int (qz u489)) → ((-9223372036854775808) ≤ u487 ∧ u487 ≤ 9223372036854775807) → (0 ≤ u489 ∧ u489 ≤ 60) → qr_W (qe L xs vb) (d + 1) qx_e80 (fun r w' => w' = qw σ α κ ρ ∧ ∃ v : Int, r = some (.long (ql v)) ∧ ((-9223372036854775808) ≤ v ∧ v ≤ 9223372036854775807)) (6, ls, [], qw σ α κ ρ, 0, 0) := by
    intro n
    induction n with
    | zero => intro ls u487 u489 hm g481 g482 g483 g484 g485 g486 g488 hf490 hf491; exact False.elim (by omega)
    | succ n ih493 =>
      intro ls u487 u489 hm g481 g482 g483 g484 g485 g486 g488 hf490 hf491
      refine qr_iload 8 rfl g488 rfl ?_
      refine qr_aload_n 9 rfl g481 rfl ?_
      refine qr_get 12 rfl rfl rfl (by decide) rfl ?_
      have hs494 : 0 ≤ σ 34 7 ∧ σ 34 7 ≤ 60 := hI.1 34 7
      refine qr_icmp_ge 53 15 rfl rfl rfl (qrg hf491 (by decide) (by decide)) (qrg hs494 (by decide) (by decide)) (fun h495 => ?_) (fun h495 => ?_)
      · skip
        refine qr_lload 55 rfl g486 rfl ?_
        refine qr_retL rfl rfl (by decide) (by decide) ?_
        exact ⟨rfl, u487, rfl, hf490⟩
      · skip
        refine qr_aload_n 16 rfl g481 rfl ?_
        refine qr_iload 18 rfl g488 rfl ?_
        refine qr_iload_n 19 rfl g484 rfl ?_
        refine qr_callN 22 rfl rfl rfl (sf_77_34 (d := d + 0) hI (by omega) r3) ?_
        rintro _ _ ⟨rfl, v496, rfl, hv496⟩
        show qr_W (qe L xs vb) (d + 1) qx_e80 _ (22, _, [.int (qz v496)], qw σ α κ ρ, 0, 0)
        have hJ509 : ∀ (ls : qm_L) (u506 : Int), qm_get ls 0 = some (.ref 34) → qm_get ls 1 = some (.int (qz x1)) → qm_get ls 2 = some (.int (qz x2)) → qm_get ls 3 = some (.int (qz x3)) → qm_get ls 4 = some (.ref 17) → qm_get ls 5 = some (.long (ql u506)) → qm_get ls 7 = some (.int (qz u489)) → ((-9223372036854775808) ≤ u506 ∧ u506 ≤ 9223372036854775807) → qr_W (qe L xs vb) (d + 1) qx_e80 (fun r w' => w' = qw σ α κ ρ ∧ ∃ v : Int, r = some (.long (ql v)) ∧ ((-9223372036854775808) ≤ v ∧ v ≤ 9223372036854775807)) (47, ls, [], qw σ α κ ρ, 0, 0) := by
          intro ls u506 g500 g501 g502 g503 g504 g505 g507 hf508
          refine qr_iinc _ 50 rfl g507 (by decide) rfl rfl ?_
          refine qr_goto 6 rfl rfl ?_
          exact ih493 _ u506 (u489 + 1) (by omega) (qm_gk g500 (by decide) (Or.inl (by decide))) (qm_gk g501 (by decide) (Or.inl (by decide))) (qm_gk g502 (by decide) (Or.inl (by decide))) (qm_gk g503 (by decide) (Or.inl (by decide))) (qm_gk g504 (by decide) (Or.inl (by decide))) (qm_gk g505 (by decide) (Or.inl (by decide))) (qm_ge _ _ _) hf508 (by omega)
        refine qr_if_eq 47 25 rfl rfl rfl (qrg hv496 (by decide) (by decide)) (fun h510 => ?_) (fun h510 => ?_)
        · skip
          exact hJ509 _ u487 g481 g482 g483 g484 g485 g486 g488 hf490
        · skip
          refine qr_aload_n 26 rfl g481 rfl ?_
          refine qr_iload 28 rfl g488 rfl ?_
          refine qr_iload_n 29 rfl g482 rfl ?_
          refine qr_iload_n 30 rfl g483 rfl ?_
          refine qr_aload 32 rfl g485 rfl ?_
          refine qr_callN 35 rfl rfl rfl (sf_78_34_17 (d := d + 0) hI (by omega) r1 r2) ?_
          rintro _ _ ⟨rfl, v511, rfl, hv511⟩
          show qr_W (qe L xs vb) (d + 1) qx_e80 _ (35, _, [.int (qz v511)], qw σ α κ ρ, 0, 0)
          refine qr_if_eq 47 38 rfl rfl rfl (qrg hv511 (by decide) (by decide)) (fun h512 => ?_) (fun h512 => ?_)
          · skip
            exact hJ509 _ u487 g481 g482 g483 g484 g485 g486 g488 hf490
          · skip
            refine qr_lload 40 rfl g486 rfl ?_
            refine qr_lconst 41 rfl rfl ?_
            refine qy_vl 1 rfl ?_
            refine qr_iload 43 rfl g488 rfl ?_
            refine qr_lshl 44 rfl rfl ?_
            refine qy_canl (fun v513 hv513 => ?_)
            refine qr_lor 45 rfl rfl ?_
            refine qy_canl (fun v514 hv514 => ?_)
            refine qr_lstore _ 47 rfl (by decide) rfl rfl ?_
            exact hJ509 _ v514 (qm_gk2 g481 (by decide) (by decide) (Or.inl (by decide))) (qm_gk2 g482 (by decide) (by decide) (Or.inl (by decide))) (qm_gk2 g483 (by decide) (by decide) (Or.inl (by decide))) (qm_gk2 g484 (by decide) (by decide) (Or.inl (by decide))) (qm_gk2 g485 (by decide) (by decide) (Or.inr rfl)) (qm_ge2 _ _ _) (qm_gk2 g488 (by decide) (by decide) (Or.inl (by decide))) hv514
  exact hL492 ((60 - 0 + 1 : Int)).toNat _ 0 0 (by omega) rfl rfl rfl rfl rfl rfl rfl (by decide) (by decide)

set_option maxHeartbeats 4000000 in
set_option maxRecDepth 20000 in
/-- OneRoof.of -/
theorem sf_49_16 {L : Nat} {xs : Nat → Int} {vb : Bool} {d : Nat} {σ α : Nat → Nat → Int} {κ : Nat → Option Nat} {ρ : Nat} {x1 : Int} {x2 : Int} (hI : qI σ α κ ρ) (r1 : (-2147483648) ≤ x1 ∧ x1 ≤ 2147483647) (r2 : (-2147483648) ≤ x2 ∧ x2 ≤ 2147483647) : qm_T (qe L xs vb) (d + 2) 49 [.ref 16, .int (qz x1), .int (qz x2)] (qw σ α κ ρ) (fun r w' => w' = qw σ α κ ρ ∧ ∃ v : Int, r = some (.int (qz v)) ∧ ((-2147483648) ≤ v ∧ v ≤ 2147483647)) := by
  refine qr_start (d := d + 1) qv_e49 (Nat.le_of_ble_eq_true rfl) ?_
  show qr_W (qe L xs vb) (d + 1) qx_e49 _ (0, [(0, .ref 16), (1, .int (qz x1)), (2, .int (qz x2))], [], _, 0, 0)
  refine qr_aload_n 1 rfl rfl rfl ?_
  refine qr_get 4 rfl rfl rfl (by decide) rfl ?_
  refine qr_iload_n 5 rfl rfl rfl ?_
  refine qr_callN 8 rfl rfl rfl (sf_40_17 (d := d + 0) hI r1) ?_
  have hs3 : 0 ≤ σ 17 6 ∧ σ 17 6 ≤ 32 := hI.1 17 6
  rintro _ _ ⟨rfl, v1, rfl, hv1, hp2⟩
  show qr_W (qe L xs vb) (d + 1) qx_e49 _ (8, _, [.int (qz v1)], qw σ α κ ρ, 0, 0)
  refine qr_if_ne 13 11 rfl rfl rfl (qrg hv1 (by decide) (by decide)) (fun h4 => ?_) (fun h4 => ?_)
  · skip
    refine qr_iload_n 14 rfl rfl rfl ?_
    have h5 : x2 = 0 ∨ x2 = 1 ∨ x2 = 2 ∨ x2 = 3 ∨ (x2 < 0 ∨ 3 < x2) := by omega
    rcases h5 with h5 | h5 | h5 | h5 | h5
    · skip
      refine qr_tabIn 44 rfl r2 (by rw [h5]; decide) (by rw [h5]; rfl) rfl ?_
      refine qr_aload_n 45 rfl rfl rfl ?_
      refine qr_get 48 rfl rfl rfl (by decide) rfl ?_
      refine qr_get 51 rfl rfl rfl (by decide) rfl ?_
      refine qr_iload_n 52 rfl rfl rfl ?_
      refine qr_iaload 53 rfl rfl (by omega) (by decide) rfl ?_
      refine qr_topI (fun v7 hv7 => ?_)
      have hs8 : (-1) ≤ v7 ∧ v7 ≤ 31 := by rw [hv7]; exact hI.2.1 18 _ (show _ < 32 by omega)
      refine qr_retI rfl rfl (by decide) (by decide) ?_
      exact ⟨rfl, v7, rfl, (qrg hs8 (by decide) (by decide))⟩
    · skip
      refine qr_tabIn 54 rfl r2 (by rw [h5]; decide) (by rw [h5]; rfl) rfl ?_
      refine qr_aload_n 55 rfl rfl rfl ?_
      refine qr_get 58 rfl rfl rfl (by decide) rfl ?_
      refine qr_get 61 rfl rfl rfl (by decide) rfl ?_
      refine qr_iload_n 62 rfl rfl rfl ?_
      refine qr_iaload 63 rfl rfl (by omega) (by decide) rfl ?_
      refine qr_topI (fun v9 hv9 => ?_)
      have hs10 : 0 ≤ v9 ∧ v9 ≤ 99 := by rw [hv9]; exact hI.2.1 19 _ (show _ < 32 by omega)
      refine qr_retI rfl rfl (by decide) (by decide) ?_
      exact ⟨rfl, v9, rfl, (qrg hs10 (by decide) (by decide))⟩
    · skip
      refine qr_tabIn 64 rfl r2 (by rw [h5]; decide) (by rw [h5]; rfl) rfl ?_
      refine qr_aload_n 65 rfl rfl rfl ?_
      refine qr_get 68 rfl rfl rfl (by decide) rfl ?_
      refine qr_get 71 rfl rfl rfl (by decide) rfl ?_
      refine qr_iload_n 72 rfl rfl rfl ?_
      refine qr_iaload 73 rfl rfl (by omega) (by decide) rfl ?_
      refine qr_topI (fun v11 hv11 => ?_)
      have hs12 : (-2147483648) ≤ v11 ∧ v11 ≤ 2147483647 := by rw [hv11]; exact hI.2.1 20 _ (show _ < 32 by omega)
      refine qr_retI rfl rfl (by decide) (by decide) ?_
      exact ⟨rfl, v11, rfl, hs12⟩
    · skip
      refine qr_tabIn 74 rfl r2 (by rw [h5]; decide) (by rw [h5]; rfl) rfl ?_
      refine qr_aload_n 75 rfl rfl rfl ?_
      refine qr_get 78 rfl rfl rfl (by decide) rfl ?_
      refine qr_get 81 rfl rfl rfl (by decide) rfl ?_
      have hs13 : (-9223372036854775808) ≤ σ 17 5 ∧ σ 17 5 ≤ 9223372036854775807 := hI.1 17 5
      refine qr_iload_n 82 rfl rfl rfl ?_
      refine qr_callN 85 rfl rfl rfl (sf_50 (d := d + 0) hI hs13 r1) ?_
      rintro _ _ ⟨rfl, v14, rfl, hv14⟩
      show qr_W (qe L xs vb) (d + 1) qx_e49 _ (85, _, [.int (qz v14)], qw σ α κ ρ, 0, 0)
      refine qr_if_eq 92 88 rfl rfl rfl (qrg hv14 (by decide) (by decide)) (fun h15 => ?_) (fun h15 => ?_)
      · skip
        refine qr_iconst 93 rfl rfl ?_
        refine qr_retI rfl rfl (by decide) (by decide) ?_
        exact ⟨rfl, 0, rfl, (by decide)⟩
      · skip
        refine qr_iconst 89 rfl rfl ?_
        refine qr_goto 93 rfl rfl ?_
        refine qr_retI rfl rfl (by decide) (by decide) ?_
        exact ⟨rfl, 1, rfl, (by decide)⟩
    · skip
      refine qr_tabOut 94 rfl r2 (by omega) rfl ?_
      refine qr_iconst 95 rfl rfl ?_
      refine qr_retI rfl rfl (by decide) (by decide) ?_
      exact ⟨rfl, (-1), rfl, (by decide)⟩
  · skip
    refine qr_iconst 12 rfl rfl ?_
    refine qr_retI rfl rfl (by decide) (by decide) ?_
    exact ⟨rfl, (-1), rfl, (by decide)⟩

set_option maxHeartbeats 4000000 in
set_option maxRecDepth 20000 in
/-- OneRoof.near -/
theorem sf_65_16 {L : Nat} {xs : Nat → Int} {vb : Bool} {d : Nat} {σ α : Nat → Nat → Int} {κ : Nat → Option Nat} {ρ : Nat} {x1 : Int} {x2 : Int} {x3 : Int} {x4 : Int} (hI : qI σ α κ ρ) (r1 : (-2147483648) ≤ x1 ∧ x1 ≤ 2147483647) (r2 : (-2147483648) ≤ x2 ∧ x2 ≤ 2147483647) (r3 : (-2147483648) ≤ x3 ∧ x3 ≤ 2147483647) (r4 : (-2147483648) ≤ x4 ∧ x4 ≤ 2147483647) : qm_T (qe L xs vb) (d + 3) 65 [.ref 16, .int (qz x1), .int (qz x2), .int (qz x3), .int (qz x4)] (qw σ α κ ρ) (fun r w' => w' = qw σ α κ ρ ∧ ∃ v : Int, r = some (.int (qz v)) ∧ ((-2147483648) ≤ v ∧ v ≤ 2147483647)) := by
  refine qr_start (d := d + 2) qv_e65 (Nat.le_of_ble_eq_true rfl) ?_
  show qr_W (qe L xs vb) (d + 2) qx_e65 _ (0, [(0, .ref 16), (1, .int (qz x1)), (2, .int (qz x2)), (3, .int (qz x3)), (4, .int (qz x4))], [], _, 0, 0)
  refine qr_aload_n 1 rfl rfl rfl ?_
  refine qr_get 4 rfl rfl rfl (by decide) rfl ?_
  refine qr_iload_n 5 rfl rfl rfl ?_
  refine qr_callN 8 rfl rfl rfl (sf_40_17 (d := d + 1) hI r1) ?_
  have hs3 : 0 ≤ σ 17 6 ∧ σ 17 6 ≤ 32 := hI.1 17 6
  rintro _ _ ⟨rfl, v1, rfl, hv1, hp2⟩
  show qr_W (qe L xs vb) (d + 2) qx_e65 _ (8, _, [.int (qz v1)], qw σ α κ ρ, 0, 0)
  refine qr_if_eq 37 11 rfl rfl rfl (qrg hv1 (by decide) (by decide)) (fun h4 => ?_) (fun h4 => ?_)
  · skip
    refine qr_iconst 38 rfl rfl ?_
    refine qr_retI rfl rfl (by decide) (by decide) ?_
    exact ⟨rfl, (-1), rfl, (by decide)⟩
  · skip
    refine qr_aload_n 12 rfl rfl rfl ?_
    refine qr_get 15 rfl rfl rfl (by decide) rfl ?_
    refine qr_iload_n 16 rfl rfl rfl ?_
    refine qr_callN 19 rfl rfl rfl (sf_40_17 (d := d + 1) hI r2) ?_
    have hs7 : 0 ≤ σ 17 6 ∧ σ 17 6 ≤ 32 := hI.1 17 6
    rintro _ _ ⟨rfl, v5, rfl, hv5, hp6⟩
    show qr_W (qe L xs vb) (d + 2) qx_e65 _ (19, _, [.int (qz v5)], qw σ α κ ρ, 0, 0)
    refine qr_if_eq 37 22 rfl rfl rfl (qrg hv5 (by decide) (by decide)) (fun h8 => ?_) (fun h8 => ?_)
    · skip
      refine qr_iconst 38 rfl rfl ?_
      refine qr_retI rfl rfl (by decide) (by decide) ?_
      exact ⟨rfl, (-1), rfl, (by decide)⟩
    · skip
      refine qr_iload_n 23 rfl rfl rfl ?_
      refine qr_callN 26 rfl rfl rfl (sf_62 (d := d + 1) hI r3) ?_
      rintro _ _ ⟨rfl, v9, rfl, hv9, hp10⟩
      show qr_W (qe L xs vb) (d + 2) qx_e65 _ (26, _, [.int (qz v9)], qw σ α κ ρ, 0, 0)
      refine qr_if_eq 37 29 rfl rfl rfl (qrg hv9 (by decide) (by decide)) (fun h11 => ?_) (fun h11 => ?_)
      · skip
        refine qr_iconst 38 rfl rfl ?_
        refine qr_retI rfl rfl (by decide) (by decide) ?_
        exact ⟨rfl, (-1), rfl, (by decide)⟩
      · skip
        refine qr_iload 31 rfl rfl rfl ?_
        refine qr_callN 34 rfl rfl rfl (sf_41 (d := d + 1) hI r4) ?_
        rintro _ _ ⟨rfl, v12, rfl, hv12, hp13⟩
        show qr_W (qe L xs vb) (d + 2) qx_e65 _ (34, _, [.int (qz v12)], qw σ α κ ρ, 0, 0)
        refine qr_if_ne 39 37 rfl rfl rfl (qrg hv12 (by decide) (by decide)) (fun h14 => ?_) (fun h14 => ?_)
        · skip
          refine qr_iload_n 40 rfl rfl rfl ?_
          refine qr_iload_n 41 rfl rfl rfl ?_
          refine qr_icmp_ne 47 44 rfl rfl rfl r1 r2 (fun h15 => ?_) (fun h15 => ?_)
          · skip
            refine qr_aload_n 48 rfl rfl rfl ?_
            refine qr_get 51 rfl rfl rfl (by decide) rfl ?_
            refine qr_iload_n 52 rfl rfl rfl ?_
            refine qr_iload_n 53 rfl rfl rfl ?_
            refine qr_iload_n 54 rfl rfl rfl ?_
            refine qr_aload_n 55 rfl rfl rfl ?_
            refine qr_get 58 rfl rfl rfl (by decide) rfl ?_
            refine qr_callN 61 rfl rfl rfl (sf_66_27_23 (d := d + 0) hI (by omega) (by omega) r3) ?_
            rintro _ _ ⟨rfl, v16, rfl, hv16⟩
            show qr_W (qe L xs vb) (d + 2) qx_e65 _ (61, _, [.int (qz v16)], qw σ α κ ρ, 0, 0)
            refine qr_istore _ 63 rfl (by decide) rfl rfl ?_
            refine qr_iload 65 rfl rfl rfl ?_
            refine qr_sipush 68 rfl (by decide) rfl ?_
            refine qr_icmp_lt 74 71 rfl rfl rfl (qrg hv16 (by decide) (by decide)) (by decide) (fun h17 => ?_) (fun h17 => ?_)
            · skip
              refine qr_iload 76 rfl rfl rfl ?_
              refine qr_if_ne 87 79 rfl rfl rfl r4 (fun h18 => ?_) (fun h18 => ?_)
              · skip
                refine qr_iload 89 rfl rfl rfl ?_
                refine qr_bipush 91 rfl (by decide) rfl ?_
                refine qr_irem 92 rfl (qrg hv16 (by decide) (by decide)) (by decide) rfl ?_
                refine qr_retI rfl rfl (by decide) (by decide) ?_
                exact ⟨rfl, (v16 % 64), rfl, (by omega)⟩
              · skip
                refine qr_iload 81 rfl rfl rfl ?_
                refine qr_bipush 83 rfl (by decide) rfl ?_
                refine qr_idiv 84 rfl (qrg hv16 (by decide) (by decide)) (by decide) rfl ?_
                refine qr_goto 92 rfl rfl ?_
                refine qr_retI rfl rfl (by decide) (by decide) ?_
                exact ⟨rfl, (v16 / 64), rfl, (by omega)⟩
            · skip
              refine qr_bipush 73 rfl (by decide) rfl ?_
              refine qr_retI rfl rfl (by decide) (by decide) ?_
              exact ⟨rfl, (-2), rfl, (by decide)⟩
          · skip
            refine qr_bipush 46 rfl (by decide) rfl ?_
            refine qr_retI rfl rfl (by decide) (by decide) ?_
            exact ⟨rfl, (-2), rfl, (by decide)⟩
        · skip
          refine qr_iconst 38 rfl rfl ?_
          refine qr_retI rfl rfl (by decide) (by decide) ?_
          exact ⟨rfl, (-1), rfl, (by decide)⟩

set_option maxHeartbeats 4000000 in
set_option maxRecDepth 20000 in
/-- OneRoof.ofPeace -/
theorem sf_72_16 {L : Nat} {xs : Nat → Int} {vb : Bool} {d : Nat} {σ α : Nat → Nat → Int} {κ : Nat → Option Nat} {ρ : Nat} {x1 : Int} {x2 : Int} (hI : qI σ α κ ρ) (r1 : (-2147483648) ≤ x1 ∧ x1 ≤ 2147483647) (r2 : (-2147483648) ≤ x2 ∧ x2 ≤ 2147483647) : qm_T (qe L xs vb) (d + 2) 72 [.ref 16, .int (qz x1), .int (qz x2)] (qw σ α κ ρ) (fun r w' => w' = qw σ α κ ρ ∧ ∃ v : Int, r = some (.int (qz v)) ∧ ((-2147483648) ≤ v ∧ v ≤ 2147483647)) := by
  refine qr_start (d := d + 1) qv_e72 (Nat.le_of_ble_eq_true rfl) ?_
  show qr_W (qe L xs vb) (d + 1) qx_e72 _ (0, [(0, .ref 16), (1, .int (qz x1)), (2, .int (qz x2))], [], _, 0, 0)
  refine qr_aload_n 1 rfl rfl rfl ?_
  refine qr_get 4 rfl rfl rfl (by decide) rfl ?_
  refine qr_iload_n 5 rfl rfl rfl ?_
  refine qr_callN 8 rfl rfl rfl (sf_73_34 (d := d + 0) hI r1) ?_
  have hs3 : 0 ≤ σ 34 7 ∧ σ 34 7 ≤ 60 := hI.1 34 7
  rintro _ _ ⟨rfl, v1, rfl, hv1, hp2⟩
  show qr_W (qe L xs vb) (d + 1) qx_e72 _ (8, _, [.int (qz v1)], qw σ α κ ρ, 0, 0)
  refine qr_if_ne 13 11 rfl rfl rfl (qrg hv1 (by decide) (by decide)) (fun h4 => ?_) (fun h4 => ?_)
  · skip
    refine qr_iload_n 14 rfl rfl rfl ?_
    have h5 : x2 = 0 ∨ x2 = 1 ∨ x2 = 2 ∨ x2 = 3 ∨ x2 = 4 ∨ x2 = 5 ∨ (x2 < 0 ∨ 5 < x2) := by omega
    rcases h5 with h5 | h5 | h5 | h5 | h5 | h5 | h5
    · skip
      refine qr_tabIn 52 rfl r2 (by rw [h5]; decide) (by rw [h5]; rfl) rfl ?_
      refine qr_aload_n 53 rfl rfl rfl ?_
      refine qr_get 56 rfl rfl rfl (by decide) rfl ?_
      refine qr_get 59 rfl rfl rfl (by decide) rfl ?_
      refine qr_iload_n 60 rfl rfl rfl ?_
      refine qr_iaload 61 rfl rfl (by omega) (by decide) rfl ?_
      refine qr_topI (fun v7 hv7 => ?_)
      have hs8 : (-2147483648) ≤ v7 ∧ v7 ≤ 2147483647 := by rw [hv7]; exact hI.2.1 35 _ (show _ < 60 by omega)
      refine qr_retI rfl rfl (by decide) (by decide) ?_
      exact ⟨rfl, v7, rfl, hs8⟩
    · skip
      refine qr_tabIn 62 rfl r2 (by rw [h5]; decide) (by rw [h5]; rfl) rfl ?_
      refine qr_aload_n 63 rfl rfl rfl ?_
      refine qr_get 66 rfl rfl rfl (by decide) rfl ?_
      refine qr_get 69 rfl rfl rfl (by decide) rfl ?_
      refine qr_iload_n 70 rfl rfl rfl ?_
      refine qr_iaload 71 rfl rfl (by omega) (by decide) rfl ?_
      refine qr_topI (fun v9 hv9 => ?_)
      have hs10 : (-2147483648) ≤ v9 ∧ v9 ≤ 2147483647 := by rw [hv9]; exact hI.2.1 36 _ (show _ < 60 by omega)
      refine qr_retI rfl rfl (by decide) (by decide) ?_
      exact ⟨rfl, v9, rfl, hs10⟩
    · skip
      refine qr_tabIn 72 rfl r2 (by rw [h5]; decide) (by rw [h5]; rfl) rfl ?_
      refine qr_aload_n 73 rfl rfl rfl ?_
      refine qr_get 76 rfl rfl rfl (by decide) rfl ?_
      refine qr_get 79 rfl rfl rfl (by decide) rfl ?_
      refine qr_iload_n 80 rfl rfl rfl ?_
      refine qr_iaload 81 rfl rfl (by omega) (by decide) rfl ?_
      refine qr_topI (fun v11 hv11 => ?_)
      have hs12 : (-2147483648) ≤ v11 ∧ v11 ≤ 2147483647 := by rw [hv11]; exact hI.2.1 37 _ (show _ < 60 by omega)
      refine qr_retI rfl rfl (by decide) (by decide) ?_
      exact ⟨rfl, v11, rfl, hs12⟩
    · skip
      refine qr_tabIn 82 rfl r2 (by rw [h5]; decide) (by rw [h5]; rfl) rfl ?_
      refine qr_aload_n 83 rfl rfl rfl ?_
      refine qr_get 86 rfl rfl rfl (by decide) rfl ?_
      refine qr_get 89 rfl rfl rfl (by decide) rfl ?_
      refine qr_iload_n 90 rfl rfl rfl ?_
      refine qr_iaload 91 rfl rfl (by omega) (by decide) rfl ?_
      refine qr_topI (fun v13 hv13 => ?_)
      have hs14 : (-2147483648) ≤ v13 ∧ v13 ≤ 2147483647 := by rw [hv13]; exact hI.2.1 38 _ (show _ < 60 by omega)
      refine qr_retI rfl rfl (by decide) (by decide) ?_
      exact ⟨rfl, v13, rfl, hs14⟩
    · skip
      refine qr_tabIn 92 rfl r2 (by rw [h5]; decide) (by rw [h5]; rfl) rfl ?_
      refine qr_aload_n 93 rfl rfl rfl ?_
      refine qr_get 96 rfl rfl rfl (by decide) rfl ?_
      refine qr_get 99 rfl rfl rfl (by decide) rfl ?_
      refine qr_iload_n 100 rfl rfl rfl ?_
      refine qr_iaload 101 rfl rfl (by omega) (by decide) rfl ?_
      refine qr_topI (fun v15 hv15 => ?_)
      have hs16 : (-2147483648) ≤ v15 ∧ v15 ≤ 2147483647 := by rw [hv15]; exact hI.2.1 39 _ (show _ < 60 by omega)
      refine qr_retI rfl rfl (by decide) (by decide) ?_
      exact ⟨rfl, v15, rfl, hs16⟩
    · skip
      refine qr_tabIn 102 rfl r2 (by rw [h5]; decide) (by rw [h5]; rfl) rfl ?_
      refine qr_aload_n 103 rfl rfl rfl ?_
      refine qr_get 106 rfl rfl rfl (by decide) rfl ?_
      refine qr_get 109 rfl rfl rfl (by decide) rfl ?_
      refine qr_iload_n 110 rfl rfl rfl ?_
      refine qr_laload 111 rfl (by decide) rfl (by omega) (by decide) rfl ?_
      refine qr_topL (fun v17 hv17 => ?_)
      have hs18 : (-9223372036854775808) ≤ v17 ∧ v17 ≤ 9223372036854775807 := by rw [hv17]; exact hI.2.1 41 _ (show _ < 60 by omega)
      refine qr_callN 114 rfl rfl rfl (sf_74 (d := d + 0) hI hs18) ?_
      rintro _ _ ⟨rfl, v19, rfl, hv19⟩
      show qr_W (qe L xs vb) (d + 1) qx_e72 _ (114, _, [.int (qz v19)], qw σ α κ ρ, 0, 0)
      refine qr_retI rfl rfl (by decide) (by decide) ?_
      exact ⟨rfl, v19, rfl, hv19⟩
    · skip
      refine qr_tabOut 115 rfl r2 (by omega) rfl ?_
      refine qr_iconst 116 rfl rfl ?_
      refine qr_retI rfl rfl (by decide) (by decide) ?_
      exact ⟨rfl, (-1), rfl, (by decide)⟩
  · skip
    refine qr_iconst 12 rfl rfl ?_
    refine qr_retI rfl rfl (by decide) (by decide) ?_
    exact ⟨rfl, (-1), rfl, (by decide)⟩

set_option maxHeartbeats 4000000 in
set_option maxRecDepth 20000 in
/-- OneRoof.holds -/
theorem sf_76_16 {L : Nat} {xs : Nat → Int} {vb : Bool} {d : Nat} {σ α : Nat → Nat → Int} {κ : Nat → Option Nat} {ρ : Nat} {x1 : Int} {x2 : Int} {x3 : Int} (hI : qI σ α κ ρ) (r1 : (-2147483648) ≤ x1 ∧ x1 ≤ 2147483647) (r2 : (-2147483648) ≤ x2 ∧ x2 ≤ 2147483647) (r3 : (-2147483648) ≤ x3 ∧ x3 ≤ 2147483647) : qm_T (qe L xs vb) (d + 3) 76 [.ref 16, .int (qz x1), .int (qz x2), .int (qz x3)] (qw σ α κ ρ) (fun r w' => w' = qw σ α κ ρ ∧ ∃ v : Int, r = some (.int (qz v)) ∧ ((-2147483648) ≤ v ∧ v ≤ 2147483647)) := by
  refine qr_start (d := d + 2) qv_e76 (Nat.le_of_ble_eq_true rfl) ?_
  show qr_W (qe L xs vb) (d + 2) qx_e76 _ (0, [(0, .ref 16), (1, .int (qz x1)), (2, .int (qz x2)), (3, .int (qz x3))], [], _, 0, 0)
  refine qr_aload_n 1 rfl rfl rfl ?_
  refine qr_get 4 rfl rfl rfl (by decide) rfl ?_
  refine qr_iload_n 5 rfl rfl rfl ?_
  refine qr_callN 8 rfl rfl rfl (sf_73_34 (d := d + 1) hI r1) ?_
  have hs3 : 0 ≤ σ 34 7 ∧ σ 34 7 ≤ 60 := hI.1 34 7
  rintro _ _ ⟨rfl, v1, rfl, hv1, hp2⟩
  show qr_W (qe L xs vb) (d + 2) qx_e76 _ (8, _, [.int (qz v1)], qw σ α κ ρ, 0, 0)
  refine qr_if_eq 29 11 rfl rfl rfl (qrg hv1 (by decide) (by decide)) (fun h4 => ?_) (fun h4 => ?_)
  · skip
    refine qr_iconst 30 rfl rfl ?_
    refine qr_retI rfl rfl (by decide) (by decide) ?_
    exact ⟨rfl, (-1), rfl, (by decide)⟩
  · skip
    refine qr_aload_n 12 rfl rfl rfl ?_
    refine qr_get 15 rfl rfl rfl (by decide) rfl ?_
    refine qr_iload_n 16 rfl rfl rfl ?_
    refine qr_callN 19 rfl rfl rfl (sf_61_17 (d := d + 0) hI r2) ?_
    have hs7 : 0 ≤ σ 17 6 ∧ σ 17 6 ≤ 32 := hI.1 17 6
    rintro _ _ ⟨rfl, v5, rfl, hv5, hp6⟩
    show qr_W (qe L xs vb) (d + 2) qx_e76 _ (19, _, [.int (qz v5)], qw σ α κ ρ, 0, 0)
    refine qr_if_eq 29 22 rfl rfl rfl (qrg hv5 (by decide) (by decide)) (fun h8 => ?_) (fun h8 => ?_)
    · skip
      refine qr_iconst 30 rfl rfl ?_
      refine qr_retI rfl rfl (by decide) (by decide) ?_
      exact ⟨rfl, (-1), rfl, (by decide)⟩
    · skip
      refine qr_iload_n 23 rfl rfl rfl ?_
      refine qr_callN 26 rfl rfl rfl (sf_62 (d := d + 1) hI r3) ?_
      rintro _ _ ⟨rfl, v9, rfl, hv9, hp10⟩
      show qr_W (qe L xs vb) (d + 2) qx_e76 _ (26, _, [.int (qz v9)], qw σ α κ ρ, 0, 0)
      refine qr_if_ne 31 29 rfl rfl rfl (qrg hv9 (by decide) (by decide)) (fun h11 => ?_) (fun h11 => ?_)
      · skip
        refine qr_aload_n 32 rfl rfl rfl ?_
        refine qr_get 35 rfl rfl rfl (by decide) rfl ?_
        refine qr_iload_n 36 rfl rfl rfl ?_
        refine qr_iload_n 37 rfl rfl rfl ?_
        refine qr_callN 40 rfl rfl rfl (sf_77_34 (d := d + 1) hI (by omega) r3) ?_
        rintro _ _ ⟨rfl, v12, rfl, hv12⟩
        show qr_W (qe L xs vb) (d + 2) qx_e76 _ (40, _, [.int (qz v12)], qw σ α κ ρ, 0, 0)
        refine qr_if_eq 70 43 rfl rfl rfl (qrg hv12 (by decide) (by decide)) (fun h13 => ?_) (fun h13 => ?_)
        · skip
          refine qr_iconst 71 rfl rfl ?_
          refine qr_retI rfl rfl (by decide) (by decide) ?_
          exact ⟨rfl, 0, rfl, (by decide)⟩
        · skip
          refine qr_aload_n 44 rfl rfl rfl ?_
          refine qr_get 47 rfl rfl rfl (by decide) rfl ?_
          refine qr_iload_n 48 rfl rfl rfl ?_
          refine qr_iload_n 49 rfl rfl rfl ?_
          refine qr_bipush 51 rfl (by decide) rfl ?_
          refine qr_idiv 52 rfl (by omega) (by decide) rfl ?_
          refine qr_iload_n 53 rfl rfl rfl ?_
          refine qr_bipush 55 rfl (by decide) rfl ?_
          refine qr_irem 56 rfl (by omega) (by decide) rfl ?_
          refine qr_aload_n 57 rfl rfl rfl ?_
          refine qr_get 60 rfl rfl rfl (by decide) rfl ?_
          refine qr_callN 63 rfl rfl rfl (sf_78_34_17 (d := d + 1) hI (by omega) (by omega) (by omega)) ?_
          rintro _ _ ⟨rfl, v14, rfl, hv14⟩
          show qr_W (qe L xs vb) (d + 2) qx_e76 _ (63, _, [.int (qz v14)], qw σ α κ ρ, 0, 0)
          refine qr_if_eq 70 66 rfl rfl rfl (qrg hv14 (by decide) (by decide)) (fun h15 => ?_) (fun h15 => ?_)
          · skip
            refine qr_iconst 71 rfl rfl ?_
            refine qr_retI rfl rfl (by decide) (by decide) ?_
            exact ⟨rfl, 0, rfl, (by decide)⟩
          · skip
            refine qr_iconst 67 rfl rfl ?_
            refine qr_goto 71 rfl rfl ?_
            refine qr_retI rfl rfl (by decide) (by decide) ?_
            exact ⟨rfl, 1, rfl, (by decide)⟩
      · skip
        refine qr_iconst 30 rfl rfl ?_
        refine qr_retI rfl rfl (by decide) (by decide) ?_
        exact ⟨rfl, (-1), rfl, (by decide)⟩

set_option maxHeartbeats 4000000 in
set_option maxRecDepth 20000 in
/-- OneRoof.between -/
theorem sf_79_16 {L : Nat} {xs : Nat → Int} {vb : Bool} {d : Nat} {σ α : Nat → Nat → Int} {κ : Nat → Option Nat} {ρ : Nat} {x1 : Int} {x2 : Int} (hI : qI σ α κ ρ) (r1 : (-2147483648) ≤ x1 ∧ x1 ≤ 2147483647) (r2 : (-2147483648) ≤ x2 ∧ x2 ≤ 2147483647) : qm_T (qe L xs vb) (d + 3) 79 [.ref 16, .int (qz x1), .int (qz x2)] (qw σ α κ ρ) (fun r w' => w' = qw σ α κ ρ ∧ ∃ v : Int, r = some (.int (qz v)) ∧ ((-2147483648) ≤ v ∧ v ≤ 2147483647)) := by
  refine qr_start (d := d + 2) qv_e79 (Nat.le_of_ble_eq_true rfl) ?_
  show qr_W (qe L xs vb) (d + 2) qx_e79 _ (0, [(0, .ref 16), (1, .int (qz x1)), (2, .int (qz x2))], [], _, 0, 0)
  refine qr_aload_n 1 rfl rfl rfl ?_
  refine qr_get 4 rfl rfl rfl (by decide) rfl ?_
  refine qr_iload_n 5 rfl rfl rfl ?_
  refine qr_callN 8 rfl rfl rfl (sf_61_17 (d := d + 0) hI r1) ?_
  have hs3 : 0 ≤ σ 17 6 ∧ σ 17 6 ≤ 32 := hI.1 17 6
  rintro _ _ ⟨rfl, v1, rfl, hv1, hp2⟩
  show qr_W (qe L xs vb) (d + 2) qx_e79 _ (8, _, [.int (qz v1)], qw σ α κ ρ, 0, 0)
  refine qr_if_eq 18 11 rfl rfl rfl (qrg hv1 (by decide) (by decide)) (fun h4 => ?_) (fun h4 => ?_)
  · skip
    refine qr_iconst 19 rfl rfl ?_
    refine qr_retI rfl rfl (by decide) (by decide) ?_
    exact ⟨rfl, (-1), rfl, (by decide)⟩
  · skip
    refine qr_iload_n 12 rfl rfl rfl ?_
    refine qr_callN 15 rfl rfl rfl (sf_62 (d := d + 1) hI r2) ?_
    rintro _ _ ⟨rfl, v5, rfl, hv5, hp6⟩
    show qr_W (qe L xs vb) (d + 2) qx_e79 _ (15, _, [.int (qz v5)], qw σ α κ ρ, 0, 0)
    refine qr_if_ne 20 18 rfl rfl rfl (qrg hv5 (by decide) (by decide)) (fun h7 => ?_) (fun h7 => ?_)
    · skip
      refine qr_aload_n 21 rfl rfl rfl ?_
      refine qr_get 24 rfl rfl rfl (by decide) rfl ?_
      refine qr_iload_n 25 rfl rfl rfl ?_
      refine qr_bipush 27 rfl (by decide) rfl ?_
      refine qr_idiv 28 rfl (by omega) (by decide) rfl ?_
      refine qr_iload_n 29 rfl rfl rfl ?_
      refine qr_bipush 31 rfl (by decide) rfl ?_
      refine qr_irem 32 rfl (by omega) (by decide) rfl ?_
      refine qr_iload_n 33 rfl rfl rfl ?_
      refine qr_aload_n 34 rfl rfl rfl ?_
      refine qr_get 37 rfl rfl rfl (by decide) rfl ?_
      refine qr_callN 40 rfl rfl rfl (sf_80_34_17 (d := d + 0) hI (by omega) (by omega) r2) ?_
      rintro _ _ ⟨rfl, v8, rfl, hv8⟩
      show qr_W (qe L xs vb) (d + 2) qx_e79 _ (40, _, [.long (ql v8)], qw σ α κ ρ, 0, 0)
      refine qr_callN 43 rfl rfl rfl (sf_74 (d := d + 1) hI hv8) ?_
      rintro _ _ ⟨rfl, v9, rfl, hv9⟩
      show qr_W (qe L xs vb) (d + 2) qx_e79 _ (43, _, [.int (qz v9)], qw σ α κ ρ, 0, 0)
      refine qr_retI rfl rfl (by decide) (by decide) ?_
      exact ⟨rfl, v9, rfl, hv9⟩
    · skip
      refine qr_iconst 19 rfl rfl ?_
      refine qr_retI rfl rfl (by decide) (by decide) ?_
      exact ⟨rfl, (-1), rfl, (by decide)⟩

set_option maxHeartbeats 4000000 in
set_option maxRecDepth 20000 in
/-- OneRoof.proof -/
theorem sf_81_16 {L : Nat} {xs : Nat → Int} {vb : Bool} {d : Nat} {σ α : Nat → Nat → Int} {κ : Nat → Option Nat} {ρ : Nat} {x1 : Int} {x2 : Int} (hI : qI σ α κ ρ) (r1 : (-2147483648) ≤ x1 ∧ x1 ≤ 2147483647) (r2 : (-2147483648) ≤ x2 ∧ x2 ≤ 2147483647) : qm_T (qe L xs vb) (d + 3) 81 [.ref 16, .int (qz x1), .int (qz x2)] (qw σ α κ ρ) (fun r w' => w' = qw σ α κ ρ ∧ ∃ v : Int, r = some (.int (qz v)) ∧ ((-2147483648) ≤ v ∧ v ≤ 2147483647)) := by
  refine qr_start (d := d + 2) qv_e81 (Nat.le_of_ble_eq_true rfl) ?_
  show qr_W (qe L xs vb) (d + 2) qx_e81 _ (0, [(0, .ref 16), (1, .int (qz x1)), (2, .int (qz x2))], [], _, 0, 0)
  refine qr_aload_n 1 rfl rfl rfl ?_
  refine qr_get 4 rfl rfl rfl (by decide) rfl ?_
  refine qr_iload_n 5 rfl rfl rfl ?_
  refine qr_callN 8 rfl rfl rfl (sf_61_17 (d := d + 0) hI r1) ?_
  have hs3 : 0 ≤ σ 17 6 ∧ σ 17 6 ≤ 32 := hI.1 17 6
  rintro _ _ ⟨rfl, v1, rfl, hv1, hp2⟩
  show qr_W (qe L xs vb) (d + 2) qx_e81 _ (8, _, [.int (qz v1)], qw σ α κ ρ, 0, 0)
  refine qr_if_eq 18 11 rfl rfl rfl (qrg hv1 (by decide) (by decide)) (fun h4 => ?_) (fun h4 => ?_)
  · skip
    refine qr_iconst 19 rfl rfl ?_
    refine qr_retI rfl rfl (by decide) (by decide) ?_
    exact ⟨rfl, (-1), rfl, (by decide)⟩
  · skip
    refine qr_iload_n 12 rfl rfl rfl ?_
    refine qr_callN 15 rfl rfl rfl (sf_62 (d := d + 1) hI r2) ?_
    rintro _ _ ⟨rfl, v5, rfl, hv5, hp6⟩
    show qr_W (qe L xs vb) (d + 2) qx_e81 _ (15, _, [.int (qz v5)], qw σ α κ ρ, 0, 0)
    refine qr_if_ne 20 18 rfl rfl rfl (qrg hv5 (by decide) (by decide)) (fun h7 => ?_) (fun h7 => ?_)
    · skip
      refine qr_aload_n 21 rfl rfl rfl ?_
      refine qr_get 24 rfl rfl rfl (by decide) rfl ?_
      refine qr_iload_n 25 rfl rfl rfl ?_
      refine qr_bipush 27 rfl (by decide) rfl ?_
      refine qr_idiv 28 rfl (by omega) (by decide) rfl ?_
      refine qr_iload_n 29 rfl rfl rfl ?_
      refine qr_bipush 31 rfl (by decide) rfl ?_
      refine qr_irem 32 rfl (by omega) (by decide) rfl ?_
      refine qr_iload_n 33 rfl rfl rfl ?_
      refine qr_aload_n 34 rfl rfl rfl ?_
      refine qr_get 37 rfl rfl rfl (by decide) rfl ?_
      refine qr_callN 40 rfl rfl rfl (sf_80_34_17 (d := d + 0) hI (by omega) (by omega) r2) ?_
      rintro _ _ ⟨rfl, v8, rfl, hv8⟩
      show qr_W (qe L xs vb) (d + 2) qx_e81 _ (40, _, [.long (ql v8)], qw σ α κ ρ, 0, 0)
      refine qr_lstore_n _ 41 rfl (by decide) rfl rfl ?_
      refine qr_lload_n 42 rfl rfl rfl ?_
      refine qr_callN 45 rfl rfl rfl (sf_74 (d := d + 1) hI hv8) ?_
      rintro _ _ ⟨rfl, v9, rfl, hv9⟩
      show qr_W (qe L xs vb) (d + 2) qx_e81 _ (45, _, [.int (qz v9)], qw σ α κ ρ, 0, 0)
      refine qr_iconst 46 rfl rfl ?_
      refine qr_icmp_ne 56 49 rfl rfl rfl hv9 (by decide) (fun h10 => ?_) (fun h10 => ?_)
      · skip
        refine qr_bipush 58 rfl (by decide) rfl ?_
        refine qr_retI rfl rfl (by decide) (by decide) ?_
        exact ⟨rfl, (-2), rfl, (by decide)⟩
      · skip
        refine qr_lload_n 50 rfl rfl rfl ?_
        refine qr_callN 53 rfl rfl rfl (sf_82 (d := d + 0) hI hv8) ?_
        rintro _ _ ⟨rfl, v11, rfl, hv11⟩
        show qr_W (qe L xs vb) (d + 2) qx_e81 _ (53, _, [.int (qz v11)], qw σ α κ ρ, 0, 0)
        refine qr_goto 58 rfl rfl ?_
        refine qr_retI rfl rfl (by decide) (by decide) ?_
        exact ⟨rfl, v11, rfl, hv11⟩
    · skip
      refine qr_iconst 19 rfl rfl ?_
      refine qr_retI rfl rfl (by decide) (by decide) ?_
      exact ⟨rfl, (-1), rfl, (by decide)⟩

set_option maxHeartbeats 4000000 in
set_option maxRecDepth 20000 in
/-- OneRoof$Custom.asks -/
theorem sf_91_50 {L : Nat} {xs : Nat → Int} {vb : Bool} {d : Nat} {σ α : Nat → Nat → Int} {κ : Nat → Option Nat} {ρ : Nat} {x1 : Int} (hI : qI σ α κ ρ) (r1 : (-2147483648) ≤ x1 ∧ x1 ≤ 2147483647) : qm_T (qe L xs vb) (d + 2) 91 [.ref 50, .int (qz x1)] (qw σ α κ ρ) (fun r w' => w' = qw σ α κ ρ ∧ ∃ v : Int, r = some (.int (qz v)) ∧ (0 ≤ v ∧ v ≤ 1)) := by
  refine qr_start (d := d + 1) qv_e91 (Nat.le_of_ble_eq_true rfl) ?_
  show qr_W (qe L xs vb) (d + 1) qx_e91 _ (0, [(0, .ref 50), (1, .int (qz x1))], [], _, 0, 0)
  refine qr_aload_n 1 rfl rfl rfl ?_
  refine qr_get 4 rfl rfl rfl (by decide) rfl ?_
  have hs1 : (-2147483648) ≤ σ 50 6 ∧ σ 50 6 ≤ 2147483647 := hI.1 50 6
  refine qr_i2l 5 rfl hs1 rfl ?_
  refine qr_iload_n 6 rfl rfl rfl ?_
  refine qr_callN 9 rfl rfl rfl (sf_50 (d := d + 0) hI (qrg hs1 (by decide) (by decide)) r1) ?_
  rintro _ _ ⟨rfl, v2, rfl, hv2⟩
  show qr_W (qe L xs vb) (d + 1) qx_e91 _ (9, _, [.int (qz v2)], qw σ α κ ρ, 0, 0)
  refine qr_retZ rfl rfl (by omega) (by decide) (by decide) ?_
  exact ⟨rfl, v2, rfl, hv2⟩

set_option maxHeartbeats 4000000 in
set_option maxRecDepth 20000 in
/-- OneRoof$Custom.asks -/
theorem sf_91_54 {L : Nat} {xs : Nat → Int} {vb : Bool} {d : Nat} {σ α : Nat → Nat → Int} {κ : Nat → Option Nat} {ρ : Nat} {x1 : Int} (hI : qI σ α κ ρ) (r1 : (-2147483648) ≤ x1 ∧ x1 ≤ 2147483647) : qm_T (qe L xs vb) (d + 2) 91 [.ref 54, .int (qz x1)] (qw σ α κ ρ) (fun r w' => w' = qw σ α κ ρ ∧ ∃ v : Int, r = some (.int (qz v)) ∧ (0 ≤ v ∧ v ≤ 1)) := by
  refine qr_start (d := d + 1) qv_e91 (Nat.le_of_ble_eq_true rfl) ?_
  show qr_W (qe L xs vb) (d + 1) qx_e91 _ (0, [(0, .ref 54), (1, .int (qz x1))], [], _, 0, 0)
  refine qr_aload_n 1 rfl rfl rfl ?_
  refine qr_get 4 rfl rfl rfl (by decide) rfl ?_
  have hs1 : (-2147483648) ≤ σ 54 6 ∧ σ 54 6 ≤ 2147483647 := hI.1 54 6
  refine qr_i2l 5 rfl hs1 rfl ?_
  refine qr_iload_n 6 rfl rfl rfl ?_
  refine qr_callN 9 rfl rfl rfl (sf_50 (d := d + 0) hI (qrg hs1 (by decide) (by decide)) r1) ?_
  rintro _ _ ⟨rfl, v2, rfl, hv2⟩
  show qr_W (qe L xs vb) (d + 1) qx_e91 _ (9, _, [.int (qz v2)], qw σ α κ ρ, 0, 0)
  refine qr_retZ rfl rfl (by omega) (by decide) (by decide) ?_
  exact ⟨rfl, v2, rfl, hv2⟩

set_option maxHeartbeats 4000000 in
set_option maxRecDepth 20000 in
/-- OneRoof$Custom.asks -/
theorem sf_91_82 {L : Nat} {xs : Nat → Int} {vb : Bool} {d : Nat} {σ α : Nat → Nat → Int} {κ : Nat → Option Nat} {ρ : Nat} {x1 : Int} (hI : qI σ α κ ρ) (r1 : (-2147483648) ≤ x1 ∧ x1 ≤ 2147483647) : qm_T (qe L xs vb) (d + 2) 91 [.ref 82, .int (qz x1)] (qw σ α κ ρ) (fun r w' => w' = qw σ α κ ρ ∧ ∃ v : Int, r = some (.int (qz v)) ∧ (0 ≤ v ∧ v ≤ 1)) := by
  refine qr_start (d := d + 1) qv_e91 (Nat.le_of_ble_eq_true rfl) ?_
  show qr_W (qe L xs vb) (d + 1) qx_e91 _ (0, [(0, .ref 82), (1, .int (qz x1))], [], _, 0, 0)
  refine qr_aload_n 1 rfl rfl rfl ?_
  refine qr_get 4 rfl rfl rfl (by decide) rfl ?_
  have hs1 : (-2147483648) ≤ σ 82 6 ∧ σ 82 6 ≤ 2147483647 := hI.1 82 6
  refine qr_i2l 5 rfl hs1 rfl ?_
  refine qr_iload_n 6 rfl rfl rfl ?_
  refine qr_callN 9 rfl rfl rfl (sf_50 (d := d + 0) hI (qrg hs1 (by decide) (by decide)) r1) ?_
  rintro _ _ ⟨rfl, v2, rfl, hv2⟩
  show qr_W (qe L xs vb) (d + 1) qx_e91 _ (9, _, [.int (qz v2)], qw σ α κ ρ, 0, 0)
  refine qr_retZ rfl rfl (by omega) (by decide) (by decide) ?_
  exact ⟨rfl, v2, rfl, hv2⟩

set_option maxHeartbeats 4000000 in
set_option maxRecDepth 20000 in
/-- OneRoof$Custom.joined -/
theorem sf_98 {L : Nat} {xs : Nat → Int} {vb : Bool} {d : Nat} {σ α : Nat → Nat → Int} {κ : Nat → Option Nat} {ρ : Nat} {x0 : Int} {x1 : Int} {x2 : Int} (hI : qI σ α κ ρ) (r0 : (-2147483648) ≤ x0 ∧ x0 ≤ 2147483647) (r1 : (-2147483648) ≤ x1 ∧ x1 ≤ 2147483647) (r2 : (-2147483648) ≤ x2 ∧ x2 ≤ 2147483647) : qm_T (qe L xs vb) (d + 1) 98 [.int (qz x0), .int (qz x1), .int (qz x2)] (qw σ α κ ρ) (fun r w' => w' = qw σ α κ ρ ∧ ∃ v : Int, r = some (.int (qz v)) ∧ ((-2147483648) ≤ v ∧ v ≤ 2147483647)) := by
  refine qr_start (d := d + 0) qv_e98 (Nat.le_of_ble_eq_true rfl) ?_
  show qr_W (qe L xs vb) (d + 0) qx_e98 _ (0, [(0, .int (qz x0)), (1, .int (qz x1)), (2, .int (qz x2))], [], _, 0, 0)
  refine qr_iload_n 1 rfl rfl rfl ?_
  have h1 : x0 = 37 ∨ x0 = 38 ∨ x0 = 42 ∨ x0 = 43 ∨ x0 = 45 ∨ x0 = 47 ∨ x0 = 60 ∨ x0 = 61 ∨ x0 = 62 ∨ x0 = 124 ∨ (¬ x0 = 37 ∧ ¬ x0 = 38 ∧ ¬ x0 = 42 ∧ ¬ x0 = 43 ∧ ¬ x0 = 45 ∧ ¬ x0 = 47 ∧ ¬ x0 = 60 ∧ ¬ x0 = 61 ∧ ¬ x0 = 62 ∧ ¬ x0 = 124) := by omega
  rcases h1 with h1 | h1 | h1 | h1 | h1 | h1 | h1 | h1 | h1 | h1 | h1
  · skip
    refine qr_look (off := 176) 177 rfl (by omega) (by decide) (by rw [h1]; decide) rfl ?_
    refine qr_iload_n 178 rfl rfl rfl ?_
    refine qr_if_ne 185 181 rfl rfl rfl r2 (fun h3 => ?_) (fun h3 => ?_)
    · skip
      refine qr_iload_n 186 rfl rfl rfl ?_
      refine qr_iload_n 187 rfl rfl rfl ?_
      refine qr_iremW 188 rfl (by omega) rfl ?_
      refine qy_can (fun v4 hv4 => ?_)
      refine qr_retI rfl rfl (by decide) (by decide) ?_
      exact ⟨rfl, v4, rfl, hv4⟩
    · skip
      refine qr_iconst 182 rfl rfl ?_
      refine qr_goto 188 rfl rfl ?_
      refine qr_retI rfl rfl (by decide) (by decide) ?_
      exact ⟨rfl, 0, rfl, (by decide)⟩
  · skip
    refine qr_look (off := 105) 106 rfl (by omega) (by decide) (by rw [h1]; decide) rfl ?_
    refine qr_iload_n 107 rfl rfl rfl ?_
    refine qr_if_eq 118 110 rfl rfl rfl r1 (fun h5 => ?_) (fun h5 => ?_)
    · skip
      refine qr_iconst 119 rfl rfl ?_
      refine qr_retI rfl rfl (by decide) (by decide) ?_
      exact ⟨rfl, 0, rfl, (by decide)⟩
    · skip
      refine qr_iload_n 111 rfl rfl rfl ?_
      refine qr_if_eq 118 114 rfl rfl rfl r2 (fun h6 => ?_) (fun h6 => ?_)
      · skip
        refine qr_iconst 119 rfl rfl ?_
        refine qr_retI rfl rfl (by decide) (by decide) ?_
        exact ⟨rfl, 0, rfl, (by decide)⟩
      · skip
        refine qr_iconst 115 rfl rfl ?_
        refine qr_goto 119 rfl rfl ?_
        refine qr_retI rfl rfl (by decide) (by decide) ?_
        exact ⟨rfl, 1, rfl, (by decide)⟩
  · skip
    refine qr_look (off := 160) 161 rfl (by omega) (by decide) (by rw [h1]; decide) rfl ?_
    refine qr_iload_n 162 rfl rfl rfl ?_
    refine qr_iload_n 163 rfl rfl rfl ?_
    refine qr_imul 164 rfl rfl ?_
    refine qy_can (fun v7 hv7 => ?_)
    refine qr_retI rfl rfl (by decide) (by decide) ?_
    exact ⟨rfl, v7, rfl, hv7⟩
  · skip
    refine qr_look (off := 152) 153 rfl (by omega) (by decide) (by rw [h1]; decide) rfl ?_
    refine qr_iload_n 154 rfl rfl rfl ?_
    refine qr_iload_n 155 rfl rfl rfl ?_
    refine qr_iadd 156 rfl rfl ?_
    refine qy_can (fun v8 hv8 => ?_)
    refine qr_retI rfl rfl (by decide) (by decide) ?_
    exact ⟨rfl, v8, rfl, hv8⟩
  · skip
    refine qr_look (off := 156) 157 rfl (by omega) (by decide) (by rw [h1]; decide) rfl ?_
    refine qr_iload_n 158 rfl rfl rfl ?_
    refine qr_iload_n 159 rfl rfl rfl ?_
    refine qr_isub 160 rfl rfl ?_
    refine qy_can (fun v9 hv9 => ?_)
    refine qr_retI rfl rfl (by decide) (by decide) ?_
    exact ⟨rfl, v9, rfl, hv9⟩
  · skip
    refine qr_look (off := 164) 165 rfl (by omega) (by decide) (by rw [h1]; decide) rfl ?_
    refine qr_iload_n 166 rfl rfl rfl ?_
    refine qr_if_ne 173 169 rfl rfl rfl r2 (fun h10 => ?_) (fun h10 => ?_)
    · skip
      refine qr_iload_n 174 rfl rfl rfl ?_
      refine qr_iload_n 175 rfl rfl rfl ?_
      refine qr_idivW 176 rfl (by omega) rfl ?_
      refine qy_can (fun v11 hv11 => ?_)
      refine qr_retI rfl rfl (by decide) (by decide) ?_
      exact ⟨rfl, v11, rfl, hv11⟩
    · skip
      refine qr_iconst 170 rfl rfl ?_
      refine qr_goto 176 rfl rfl ?_
      refine qr_retI rfl rfl (by decide) (by decide) ?_
      exact ⟨rfl, 0, rfl, (by decide)⟩
  · skip
    refine qr_look (off := 119) 120 rfl (by omega) (by decide) (by rw [h1]; decide) rfl ?_
    refine qr_iload_n 121 rfl rfl rfl ?_
    refine qr_iload_n 122 rfl rfl rfl ?_
    refine qr_icmp_ge 129 125 rfl rfl rfl r1 r2 (fun h12 => ?_) (fun h12 => ?_)
    · skip
      refine qr_iconst 130 rfl rfl ?_
      refine qr_retI rfl rfl (by decide) (by decide) ?_
      exact ⟨rfl, 0, rfl, (by decide)⟩
    · skip
      refine qr_iconst 126 rfl rfl ?_
      refine qr_goto 130 rfl rfl ?_
      refine qr_retI rfl rfl (by decide) (by decide) ?_
      exact ⟨rfl, 1, rfl, (by decide)⟩
  · skip
    refine qr_look (off := 130) 131 rfl (by omega) (by decide) (by rw [h1]; decide) rfl ?_
    refine qr_iload_n 132 rfl rfl rfl ?_
    refine qr_iload_n 133 rfl rfl rfl ?_
    refine qr_icmp_ne 140 136 rfl rfl rfl r1 r2 (fun h13 => ?_) (fun h13 => ?_)
    · skip
      refine qr_iconst 141 rfl rfl ?_
      refine qr_retI rfl rfl (by decide) (by decide) ?_
      exact ⟨rfl, 0, rfl, (by decide)⟩
    · skip
      refine qr_iconst 137 rfl rfl ?_
      refine qr_goto 141 rfl rfl ?_
      refine qr_retI rfl rfl (by decide) (by decide) ?_
      exact ⟨rfl, 1, rfl, (by decide)⟩
  · skip
    refine qr_look (off := 141) 142 rfl (by omega) (by decide) (by rw [h1]; decide) rfl ?_
    refine qr_iload_n 143 rfl rfl rfl ?_
    refine qr_iload_n 144 rfl rfl rfl ?_
    refine qr_icmp_le 151 147 rfl rfl rfl r1 r2 (fun h14 => ?_) (fun h14 => ?_)
    · skip
      refine qr_iconst 152 rfl rfl ?_
      refine qr_retI rfl rfl (by decide) (by decide) ?_
      exact ⟨rfl, 0, rfl, (by decide)⟩
    · skip
      refine qr_iconst 148 rfl rfl ?_
      refine qr_goto 152 rfl rfl ?_
      refine qr_retI rfl rfl (by decide) (by decide) ?_
      exact ⟨rfl, 1, rfl, (by decide)⟩
  · skip
    refine qr_look (off := 91) 92 rfl (by omega) (by decide) (by rw [h1]; decide) rfl ?_
    refine qr_iload_n 93 rfl rfl rfl ?_
    refine qr_if_ne 100 96 rfl rfl rfl r1 (fun h15 => ?_) (fun h15 => ?_)
    · skip
      refine qr_iconst 101 rfl rfl ?_
      refine qr_goto 105 rfl rfl ?_
      refine qr_retI rfl rfl (by decide) (by decide) ?_
      exact ⟨rfl, 1, rfl, (by decide)⟩
    · skip
      refine qr_iload_n 97 rfl rfl rfl ?_
      refine qr_if_eq 104 100 rfl rfl rfl r2 (fun h16 => ?_) (fun h16 => ?_)
      · skip
        refine qr_iconst 105 rfl rfl ?_
        refine qr_retI rfl rfl (by decide) (by decide) ?_
        exact ⟨rfl, 0, rfl, (by decide)⟩
      · skip
        refine qr_iconst 101 rfl rfl ?_
        refine qr_goto 105 rfl rfl ?_
        refine qr_retI rfl rfl (by decide) (by decide) ?_
        exact ⟨rfl, 1, rfl, (by decide)⟩
  · skip
    refine qr_look (off := 188) 189 rfl (by omega) (by decide) (by simp only [Op.lookupswitch.offset_cons, Op.lookupswitch.offset_nil]; repeat' split; all_goals omega) rfl ?_
    refine qr_iconst 190 rfl rfl ?_
    refine qr_retI rfl rfl (by decide) (by decide) ?_
    exact ⟨rfl, 0, rfl, (by decide)⟩

set_option maxHeartbeats 4000000 in
set_option maxRecDepth 20000 in
/-- OneRoof$Custom.worth -/
theorem sf_97_50_59 {L : Nat} {xs : Nat → Int} {vb : Bool} {d : Nat} {σ α : Nat → Nat → Int} {κ : Nat → Option Nat} {ρ : Nat}  (hI : qI σ α κ ρ)  : qm_T (qe L xs vb) (d + 2) 97 [.ref 50, .ref 59] (qw σ α κ ρ) (fun r w' => ∃ α', w' = qw σ α' κ ρ ∧ qI σ α' κ ρ ∧ qFr [] [53] σ α σ α' ∧ ∃ v : Int, r = some (.int (qz v)) ∧ ((-2147483648) ≤ v ∧ v ≤ 2147483647)) := by
  refine qr_start (d := d + 1) qv_e97 (Nat.le_of_ble_eq_true rfl) ?_
  show qr_W (qe L xs vb) (d + 1) qx_e97 _ (0, [(0, .ref 50), (1, .ref 59)], [], _, 0, 0)
  have hF0 := qFr_rf [] [53] σ α
  refine qr_iconst 1 rfl rfl ?_
  refine qr_istore_n _ 2 rfl (by decide) rfl rfl ?_
  refine qr_iconst 3 rfl rfl ?_
  refine qr_istore_n _ 4 rfl (by decide) rfl rfl ?_
  have hL1834 : ∀ (n : Nat) (ls : qm_L) (u1825 u1827 : Int) (α1829 : Nat → Nat → Int), 65535 - u1827 < (n : Int) → qm_get ls 0 = some (.ref 50) → qm_get ls 1 = some (.ref 59) → qm_get ls 2 = some (.int (qz u1825)) → qm_get ls 3 = some (.int (qz u1827)) → (0 ≤ u1825 ∧ u1825 ≤ 120) → (0 ≤ u1827 ∧ u1827 ≤ 65535) → qI σ α1829 κ ρ → qFr [] [53] σ α σ α1829 → qr_W (qe L xs vb) (d + 1) qx_e97 (fun r w' => ∃ α', w' = qw σ α' κ ρ ∧ qI σ α' κ ρ ∧ qFr [] [53] σ α σ α' ∧ ∃ v : Int, r = some (.int (qz v)) ∧ ((-2147483648) ≤ v ∧ v ≤ 2147483647)) (4, ls, [], qw σ α1829 κ ρ, 0, 0) := by
    intro n
    induction n with
    | zero => intro ls u1825 u1827 α1829 hm g1822 g1823 g1824 g1826 hf1832 hf1833 hI1830 hF1831; exact False.elim (by omega)
    | succ n ih1835 =>
      intro ls u1825 u1827 α1829 hm g1822 g1823 g1824 g1826 hf1832 hf1833 hI1830 hF1831
      refine qr_iload_n 5 rfl g1826 rfl ?_
      refine qr_aload_n 6 rfl g1822 rfl ?_
      refine qr_get 9 rfl rfl rfl (by decide) rfl ?_
      have hs1836 : 0 ≤ σ 50 5 ∧ σ 50 5 ≤ 122 := hI1830.1 50 5
      refine qr_icmp_ge 240 12 rfl rfl rfl (qrg hf1833 (by decide) (by decide)) (qrg hs1836 (by decide) (by decide)) (fun h1837 => ?_) (fun h1837 => ?_)
      · skip
        refine qr_iconst 241 rfl rfl ?_
        refine qr_retI rfl rfl (by decide) (by decide) ?_
        exact ⟨_, rfl, hI1830, hF1831, 0, rfl, (by decide)⟩
      · skip
        refine qr_aload_n 13 rfl g1822 rfl ?_
        refine qr_get 16 rfl rfl rfl (by decide) rfl ?_
        refine qr_iload_n 17 rfl g1826 rfl ?_
        refine qr_iaload 18 rfl rfl (by omega) (by decide) rfl ?_
        refine qr_topI (fun v1838 hv1838 => ?_)
        have hs1839 : (-2147483648) ≤ v1838 ∧ v1838 ≤ 2147483647 := by rw [hv1838]; exact hI1830.2.1 52 _ (show _ < 122 by omega)
        refine qr_bipush 20 rfl (by decide) rfl ?_
        refine qr_iushr 21 rfl rfl ?_
        refine qy_can (fun v1840 hv1840 => ?_)
        refine qr_istore _ 23 rfl (by decide) rfl rfl ?_
        refine qr_aload_n 24 rfl (qm_gk g1822 (by decide) (Or.inl (by decide))) rfl ?_
        refine qr_get 27 rfl rfl rfl (by decide) rfl ?_
        refine qr_iload_n 28 rfl (qm_gk g1826 (by decide) (Or.inr rfl)) rfl ?_
        refine qr_iaload 29 rfl rfl (by omega) (by decide) rfl ?_
        refine qr_topI (fun v1841 hv1841 => ?_)
        have hs1842 : (-2147483648) ≤ v1841 ∧ v1841 ≤ 2147483647 := by rw [hv1841]; exact hI1830.2.1 52 _ (show _ < 122 by omega)
        refine qr_ldc 65535 31 rfl (by decide) rfl ?_
        refine qr_iand 32 rfl rfl ?_
        refine qy_andr (by omega) (fun v1843 hv1843 => ?_)
        refine qr_istore _ 34 rfl (by decide) rfl rfl ?_
        refine qr_iload 36 rfl (qm_gk (qm_ge _ _ _) (by decide) (Or.inr rfl)) rfl ?_
        refine qr_bipush 38 rfl (by decide) rfl ?_
        refine qr_icmp_eq 48 41 rfl rfl rfl hv1840 (by decide) (fun h1844 => ?_) (fun h1844 => ?_)
        · skip
          refine qr_iload_n 49 rfl (qm_gk (qm_gk g1824 (by decide) (Or.inl (by decide))) (by decide) (Or.inl (by decide))) rfl ?_
          refine qr_aload_n 50 rfl (qm_gk (qm_gk g1822 (by decide) (Or.inl (by decide))) (by decide) (Or.inl (by decide))) rfl ?_
          refine qr_get 53 rfl rfl rfl (by decide) rfl ?_
          refine qr_alen 54 rfl rfl (by first | exact Or.inl (by decide) | exact Or.inr (Or.inl rfl) | exact Or.inr (Or.inr (Or.inl rfl)) | exact Or.inr (Or.inr (Or.inr (Or.inl rfl)))) rfl ?_
          refine qy_v 120 rfl ?_
          refine qr_icmp_lt 59 57 rfl rfl rfl (qrg hf1832 (by decide) (by decide)) (by decide) (fun h1845 => ?_) (fun h1845 => ?_)
          · skip
            refine qr_aload_n 60 rfl (qm_gk (qm_gk g1822 (by decide) (Or.inl (by decide))) (by decide) (Or.inl (by decide))) rfl ?_
            refine qr_get 63 rfl rfl rfl (by decide) rfl ?_
            refine qr_iload_n 64 rfl (qm_gk (qm_gk g1824 (by decide) (Or.inl (by decide))) (by decide) (Or.inl (by decide))) rfl ?_
            refine qr_iinc _ 67 rfl (qm_gk (qm_gk g1824 (by decide) (Or.inl (by decide))) (by decide) (Or.inl (by decide))) (by decide) rfl rfl ?_
            refine qr_iload 69 rfl (qm_gk (qm_gk (qm_ge _ _ _) (by decide) (Or.inr rfl)) (by decide) (Or.inl (by decide))) rfl ?_
            refine qr_bipush 71 rfl (by decide) rfl ?_
            refine qr_icmp_ne 79 74 rfl rfl rfl hv1840 (by decide) (fun h => False.elim (by omega)) (fun h1846 => ?_)
            refine qr_iload 76 rfl (qm_gk (qm_ge _ _ _) (by decide) (Or.inl (by decide))) rfl ?_
            refine qr_goto 94 rfl rfl ?_
            refine qr_iastore 95 rfl (by decide) rfl (by omega) (by decide) rfl ?_
            refine qy_wA (qw_r α1829 53 (qzu (α1829 53) (u1825 : Int).toNat v1843)) rfl (fun α1847 e1848 => ?_)
            have hI1849 : qI σ α1847 κ ρ := by rw [e1848]; exact qI_r hI1830 53 _ rfl (show (-2147483648) ≤ v1843 ∧ v1843 ≤ 2147483647 by omega)
            have hF1850 : qFr [] [53] σ α σ α1847 := by rw [e1848]; exact qFr_r hF1831 53 _ (by decide)
            refine qr_goto 234 rfl rfl ?_
            refine qr_iinc _ 237 rfl (qm_gk (qm_gk (qm_gk g1826 (by decide) (Or.inr rfl)) (by decide) (Or.inl (by decide))) (by decide) (Or.inl (by decide))) (by decide) rfl rfl ?_
            refine qr_goto 4 rfl rfl ?_
            exact ih1835 _ (u1825 + 1) (u1827 + 1) α1847 (by omega) (qm_gk (qm_gk (qm_gk (qm_gk g1822 (by decide) (Or.inl (by decide))) (by decide) (Or.inl (by decide))) (by decide) (Or.inl (by decide))) (by decide) (Or.inl (by decide))) (qm_gk (qm_gk (qm_gk (qm_gk g1823 (by decide) (Or.inl (by decide))) (by decide) (Or.inl (by decide))) (by decide) (Or.inr rfl)) (by decide) (Or.inl (by decide))) (qm_gk (qm_ge _ _ _) (by decide) (Or.inr rfl)) (qm_ge _ _ _) (by omega) (by omega) hI1849 hF1850
          · skip
            refine qr_iconst 58 rfl rfl ?_
            refine qr_retI rfl rfl (by decide) (by decide) ?_
            exact ⟨_, rfl, hI1830, hF1831, 0, rfl, (by decide)⟩
        · skip
          refine qr_iload 43 rfl (qm_gk (qm_ge _ _ _) (by decide) (Or.inr rfl)) rfl ?_
          refine qr_bipush 45 rfl (by decide) rfl ?_
          refine qr_icmp_ne 98 48 rfl rfl rfl hv1840 (by decide) (fun h1851 => ?_) (fun h1851 => ?_)
          · skip
            refine qr_iload_n 99 rfl (qm_gk (qm_gk g1824 (by decide) (Or.inl (by decide))) (by decide) (Or.inl (by decide))) rfl ?_
            refine qr_iconst 100 rfl rfl ?_
            refine qr_icmp_ge 105 103 rfl rfl rfl (qrg hf1832 (by decide) (by decide)) (by decide) (fun h1852 => ?_) (fun h1852 => ?_)
            · skip
              refine qr_aload_n 106 rfl (qm_gk (qm_gk g1822 (by decide) (Or.inl (by decide))) (by decide) (Or.inl (by decide))) rfl ?_
              refine qr_get 109 rfl rfl rfl (by decide) rfl ?_
              refine qr_iload_n 110 rfl (qm_gk (qm_gk g1824 (by decide) (Or.inl (by decide))) (by decide) (Or.inl (by decide))) rfl ?_
              refine qr_iconst 111 rfl rfl ?_
              refine qr_isub 112 rfl rfl ?_
              refine qr_iaload 113 rfl rfl (by omega) (by decide) rfl ?_
              refine qr_topI (fun v1853 hv1853 => ?_)
              have hs1854 : (-2147483648) ≤ v1853 ∧ v1853 ≤ 2147483647 := by rw [hv1853]; exact hI1830.2.1 53 _ (show _ < 120 by omega)
              refine qr_istore _ 115 rfl (by decide) rfl rfl ?_
              refine qr_iload 117 rfl (qm_gk (qm_gk (qm_ge _ _ _) (by decide) (Or.inr rfl)) (by decide) (Or.inl (by decide))) rfl ?_
              refine qr_bipush 119 rfl (by decide) rfl ?_
              refine qr_icmp_ne 125 122 rfl rfl rfl hv1840 (by decide) (fun h1855 => ?_) (fun h1855 => ?_)
              · skip
                refine qr_iload 127 rfl (qm_gk (qm_gk (qm_ge _ _ _) (by decide) (Or.inr rfl)) (by decide) (Or.inl (by decide))) rfl ?_
                refine qr_bipush 129 rfl (by decide) rfl ?_
                refine qr_icmp_ne 152 132 rfl rfl rfl hv1840 (by decide) (fun h1856 => ?_) (fun h1856 => ?_)
                · skip
                  refine qr_iload 154 rfl (qm_gk (qm_gk (qm_ge _ _ _) (by decide) (Or.inr rfl)) (by decide) (Or.inl (by decide))) rfl ?_
                  refine qr_bipush 156 rfl (by decide) rfl ?_
                  refine qr_icmp_ne 180 159 rfl rfl rfl hv1840 (by decide) (fun h1857 => ?_) (fun h1857 => ?_)
                  · skip
                    refine qr_iload 182 rfl (qm_gk (qm_gk (qm_ge _ _ _) (by decide) (Or.inr rfl)) (by decide) (Or.inl (by decide))) rfl ?_
                    refine qr_bipush 184 rfl (by decide) rfl ?_
                    refine qr_icmp_ne 201 187 rfl rfl rfl hv1840 (by decide) (fun h1858 => ?_) (fun h1858 => ?_)
                    · skip
                      refine qr_iload_n 202 rfl (qm_gk (qm_gk (qm_gk g1824 (by decide) (Or.inl (by decide))) (by decide) (Or.inl (by decide))) (by decide) (Or.inl (by decide))) rfl ?_
                      refine qr_iconst 203 rfl rfl ?_
                      refine qr_icmp_ge 208 206 rfl rfl rfl (qrg hf1832 (by decide) (by decide)) (by decide) (fun h1859 => ?_) (fun h1859 => ?_)
                      · skip
                        refine qr_iinc _ 211 rfl (qm_gk (qm_gk (qm_gk g1824 (by decide) (Or.inl (by decide))) (by decide) (Or.inl (by decide))) (by decide) (Or.inl (by decide))) (by decide) rfl rfl ?_
                        as_aux_lemma =>
                          refine qr_aload_n 212 rfl (qm_gk (qm_gk (qm_gk (qm_gk g1822 (by decide) (Or.inl (by decide))) (by decide) (Or.inl (by decide))) (by decide) (Or.inl (by decide))) (by decide) (Or.inl (by decide))) rfl ?_
                          refine qr_get 215 rfl rfl rfl (by decide) rfl ?_
                          refine qr_iload_n 216 rfl (qm_ge _ _ _) rfl ?_
                          refine qr_iconst 217 rfl rfl ?_
                          refine qr_isub 218 rfl rfl ?_
                          refine qr_iload 220 rfl (qm_gk (qm_gk (qm_gk (qm_ge _ _ _) (by decide) (Or.inr rfl)) (by decide) (Or.inl (by decide))) (by decide) (Or.inl (by decide))) rfl ?_
                          refine qr_aload_n 221 rfl (qm_gk (qm_gk (qm_gk (qm_gk g1822 (by decide) (Or.inl (by decide))) (by decide) (Or.inl (by decide))) (by decide) (Or.inl (by decide))) (by decide) (Or.inl (by decide))) rfl ?_
                          refine qr_get 224 rfl rfl rfl (by decide) rfl ?_
                          refine qr_iload_n 225 rfl (qm_ge _ _ _) rfl ?_
                          refine qr_iconst 226 rfl rfl ?_
                          refine qr_isub 227 rfl rfl ?_
                          refine qr_iaload 228 rfl rfl (by omega) (by decide) rfl ?_
                          refine qr_topI (fun v1860 hv1860 => ?_)
                          have hs1861 : (-2147483648) ≤ v1860 ∧ v1860 ≤ 2147483647 := by rw [hv1860]; exact hI1830.2.1 53 _ (show _ < 120 by omega)
                          refine qr_iload 230 rfl (qm_gk (qm_ge _ _ _) (by decide) (Or.inl (by decide))) rfl ?_
                          refine qr_callN 233 rfl rfl rfl (sf_98 (d := d + 0) hI1830 hv1840 hs1861 hs1854) ?_
                          rintro _ _ ⟨rfl, v1862, rfl, hv1862⟩
                          show qr_W (qe L xs vb) (d + 1) qx_e97 _ (233, _, [.int (qz v1862), .int (qz ((u1825 + (-1)) - 1)), .ref 53], qw σ α1829 κ ρ, 0, 0)
                          refine qr_iastore 234 rfl (by decide) rfl (by omega) (by decide) rfl ?_
                          refine qy_wA (qw_r α1829 53 (qzu (α1829 53) (((u1825 + (-1)) - 1) : Int).toNat v1862)) rfl (fun α1863 e1864 => ?_)
                          have hI1865 : qI σ α1863 κ ρ := by rw [e1864]; exact qI_r hI1830 53 _ rfl (show (-2147483648) ≤ v1862 ∧ v1862 ≤ 2147483647 by omega)
                          have hF1866 : qFr [] [53] σ α σ α1863 := by rw [e1864]; exact qFr_r hF1831 53 _ (by decide)
                          refine qr_iinc _ 237 rfl (qm_gk (qm_gk (qm_gk (qm_gk g1826 (by decide) (Or.inr rfl)) (by decide) (Or.inl (by decide))) (by decide) (Or.inl (by decide))) (by decide) (Or.inl (by decide))) (by decide) rfl rfl ?_
                          refine qr_goto 4 rfl rfl ?_
                          exact ih1835 _ (u1825 + (-1)) (u1827 + 1) α1863 (by omega) (qm_gk (qm_gk (qm_gk (qm_gk (qm_gk g1822 (by decide) (Or.inl (by decide))) (by decide) (Or.inl (by decide))) (by decide) (Or.inl (by decide))) (by decide) (Or.inl (by decide))) (by decide) (Or.inl (by decide))) (qm_gk (qm_gk (qm_gk (qm_gk (qm_gk g1823 (by decide) (Or.inl (by decide))) (by decide) (Or.inl (by decide))) (by decide) (Or.inl (by decide))) (by decide) (Or.inr rfl)) (by decide) (Or.inl (by decide))) (qm_gk (qm_ge _ _ _) (by decide) (Or.inr rfl)) (qm_ge _ _ _) (by omega) (by omega) hI1865 hF1866
                      · skip
                        refine qr_iconst 207 rfl rfl ?_
                        as_aux_lemma =>
                          refine qr_retI rfl rfl (by decide) (by decide) ?_
                          exact ⟨_, rfl, hI1830, hF1831, 0, rfl, (by decide)⟩
                    · skip
                      refine qr_aload_n 188 rfl (qm_gk (qm_gk (qm_gk g1822 (by decide) (Or.inl (by decide))) (by decide) (Or.inl (by decide))) (by decide) (Or.inl (by decide))) rfl ?_
                      refine qr_get 191 rfl rfl rfl (by decide) rfl ?_
                      refine qr_iload_n 192 rfl (qm_gk (qm_gk (qm_gk g1824 (by decide) (Or.inl (by decide))) (by decide) (Or.inl (by decide))) (by decide) (Or.inl (by decide))) rfl ?_
                      refine qr_iconst 193 rfl rfl ?_
                      as_aux_lemma =>
                        refine qr_isub 194 rfl rfl ?_
                        refine qr_iload 196 rfl (qm_ge _ _ _) rfl ?_
                        refine qr_ineg 197 rfl rfl ?_
                        refine qy_can (fun v1867 hv1867 => ?_)
                        refine qr_iastore 198 rfl (by decide) rfl (by omega) (by decide) rfl ?_
                        refine qy_wA (qw_r α1829 53 (qzu (α1829 53) ((u1825 - 1) : Int).toNat v1867)) rfl (fun α1868 e1869 => ?_)
                        have hI1870 : qI σ α1868 κ ρ := by rw [e1869]; exact qI_r hI1830 53 _ rfl (show (-2147483648) ≤ v1867 ∧ v1867 ≤ 2147483647 by omega)
                        have hF1871 : qFr [] [53] σ α σ α1868 := by rw [e1869]; exact qFr_r hF1831 53 _ (by decide)
                        refine qr_goto 234 rfl rfl ?_
                        refine qr_iinc _ 237 rfl (qm_gk (qm_gk (qm_gk g1826 (by decide) (Or.inr rfl)) (by decide) (Or.inl (by decide))) (by decide) (Or.inl (by decide))) (by decide) rfl rfl ?_
                        refine qr_goto 4 rfl rfl ?_
                        exact ih1835 _ u1825 (u1827 + 1) α1868 (by omega) (qm_gk (qm_gk (qm_gk (qm_gk g1822 (by decide) (Or.inl (by decide))) (by decide) (Or.inl (by decide))) (by decide) (Or.inl (by decide))) (by decide) (Or.inl (by decide))) (qm_gk (qm_gk (qm_gk (qm_gk g1823 (by decide) (Or.inl (by decide))) (by decide) (Or.inl (by decide))) (by decide) (Or.inl (by decide))) (by decide) (Or.inl (by decide))) (qm_gk (qm_gk (qm_gk (qm_gk g1824 (by decide) (Or.inl (by decide))) (by decide) (Or.inl (by decide))) (by decide) (Or.inl (by decide))) (by decide) (Or.inr rfl)) (qm_ge _ _ _) hf1832 (by omega) hI1870 hF1871
                  · skip
                    refine qr_aload_n 160 rfl (qm_gk (qm_gk (qm_gk g1822 (by decide) (Or.inl (by decide))) (by decide) (Or.inl (by decide))) (by decide) (Or.inl (by decide))) rfl ?_
                    refine qr_get 163 rfl rfl rfl (by decide) rfl ?_
                    refine qr_iload_n 164 rfl (qm_gk (qm_gk (qm_gk g1824 (by decide) (Or.inl (by decide))) (by decide) (Or.inl (by decide))) (by decide) (Or.inl (by decide))) rfl ?_
                    refine qr_iconst 165 rfl rfl ?_
                    refine qr_isub 166 rfl rfl ?_
                    refine qr_iload 168 rfl (qm_ge _ _ _) rfl ?_
                    have hJ1878 : ∀ (ls : qm_L) (u1876 : Int), qm_get ls 0 = some (.ref 50) → qm_get ls 1 = some (.ref 59) → qm_get ls 2 = some (.int (qz u1825)) → qm_get ls 3 = some (.int (qz u1827)) → (0 ≤ u1876 ∧ u1876 ≤ 1) → qr_W (qe L xs vb) (d + 1) qx_e97 (fun r w' => ∃ α', w' = qw σ α' κ ρ ∧ qI σ α' κ ρ ∧ qFr [] [53] σ α σ α' ∧ ∃ v : Int, r = some (.int (qz v)) ∧ ((-2147483648) ≤ v ∧ v ≤ 2147483647)) (176, ls, [.int (qz u1876), .int (qz (u1825 - 1)), .ref 53], qw σ α1829 κ ρ, 0, 0) := by
                      intro ls u1876 g1872 g1873 g1874 g1875 hf1877
                      refine qr_iastore 177 rfl (by decide) rfl (by omega) (by decide) rfl ?_
                      refine qy_wA (qw_r α1829 53 (qzu (α1829 53) ((u1825 - 1) : Int).toNat u1876)) rfl (fun α1879 e1880 => ?_)
                      have hI1881 : qI σ α1879 κ ρ := by rw [e1880]; exact qI_r hI1830 53 _ rfl (show (-2147483648) ≤ u1876 ∧ u1876 ≤ 2147483647 by omega)
                      have hF1882 : qFr [] [53] σ α σ α1879 := by rw [e1880]; exact qFr_r hF1831 53 _ (by decide)
                      refine qr_goto 234 rfl rfl ?_
                      refine qr_iinc _ 237 rfl g1875 (by decide) rfl rfl ?_
                      refine qr_goto 4 rfl rfl ?_
                      exact ih1835 _ u1825 (u1827 + 1) α1879 (by omega) (qm_gk g1872 (by decide) (Or.inl (by decide))) (qm_gk g1873 (by decide) (Or.inl (by decide))) (qm_gk g1874 (by decide) (Or.inr rfl)) (qm_ge _ _ _) hf1832 (by omega) hI1881 hF1882
                    refine qr_if_ne 175 171 rfl rfl rfl hs1854 (fun h1883 => ?_) (fun h1883 => ?_)
                    · skip
                      as_aux_lemma =>
                        refine qr_iconst 176 rfl rfl ?_
                        exact hJ1878 _ 0 (qm_gk (qm_gk (qm_gk g1822 (by decide) (Or.inl (by decide))) (by decide) (Or.inl (by decide))) (by decide) (Or.inl (by decide))) (qm_gk (qm_gk (qm_gk g1823 (by decide) (Or.inl (by decide))) (by decide) (Or.inl (by decide))) (by decide) (Or.inl (by decide))) (qm_gk (qm_gk (qm_gk g1824 (by decide) (Or.inl (by decide))) (by decide) (Or.inl (by decide))) (by decide) (Or.inl (by decide))) (qm_gk (qm_gk (qm_gk g1826 (by decide) (Or.inr rfl)) (by decide) (Or.inl (by decide))) (by decide) (Or.inl (by decide))) (by decide)
                    · skip
                      as_aux_lemma =>
                        refine qr_iconst 172 rfl rfl ?_
                        refine qr_goto 176 rfl rfl ?_
                        exact hJ1878 _ 1 (qm_gk (qm_gk (qm_gk g1822 (by decide) (Or.inl (by decide))) (by decide) (Or.inl (by decide))) (by decide) (Or.inl (by decide))) (qm_gk (qm_gk (qm_gk g1823 (by decide) (Or.inl (by decide))) (by decide) (Or.inl (by decide))) (by decide) (Or.inl (by decide))) (qm_gk (qm_gk (qm_gk g1824 (by decide) (Or.inl (by decide))) (by decide) (Or.inl (by decide))) (by decide) (Or.inl (by decide))) (qm_gk (qm_gk (qm_gk g1826 (by decide) (Or.inr rfl)) (by decide) (Or.inl (by decide))) (by decide) (Or.inl (by decide))) (by decide)
                · skip
                  refine qr_iinc _ 135 rfl (qm_gk (qm_gk (qm_gk g1824 (by decide) (Or.inl (by decide))) (by decide) (Or.inl (by decide))) (by decide) (Or.inl (by decide))) (by decide) rfl rfl ?_
                  refine qr_iload 137 rfl (qm_gk (qm_ge _ _ _) (by decide) (Or.inl (by decide))) rfl ?_
                  have hJ1893 : ∀ (ls : qm_L) (u1890 : Int), qm_get ls 0 = some (.ref 50) → qm_get ls 1 = some (.ref 59) → qm_get ls 2 = some (.int (qz (u1825 + (-1)))) → qm_get ls 3 = some (.int (qz u1890)) → (0 ≤ u1890 ∧ u1890 ≤ 65534) → u1827 ≤ u1890 → qr_W (qe L xs vb) (d + 1) qx_e97 (fun r w' => ∃ α', w' = qw σ α' κ ρ ∧ qI σ α' κ ρ ∧ qFr [] [53] σ α σ α' ∧ ∃ v : Int, r = some (.int (qz v)) ∧ ((-2147483648) ≤ v ∧ v ≤ 2147483647)) (234, ls, [], qw σ α1829 κ ρ, 0, 0) := by
                    intro ls u1890 g1886 g1887 g1888 g1889 hf1891 hx1892
                    refine qr_iinc _ 237 rfl g1889 (by decide) rfl rfl ?_
                    refine qr_goto 4 rfl rfl ?_
                    exact ih1835 _ (u1825 + (-1)) (u1890 + 1) α1829 (by omega) (qm_gk g1886 (by decide) (Or.inl (by decide))) (qm_gk g1887 (by decide) (Or.inl (by decide))) (qm_gk g1888 (by decide) (Or.inr rfl)) (qm_ge _ _ _) (by omega) (by omega) hI1830 hF1831
                  refine qr_if_ne 234 140 rfl rfl rfl hs1854 (fun h1894 => ?_) (fun h1894 => ?_)
                  · skip
                    exact hJ1893 _ u1827 (qm_gk (qm_gk (qm_gk (qm_gk g1822 (by decide) (Or.inl (by decide))) (by decide) (Or.inl (by decide))) (by decide) (Or.inl (by decide))) (by decide) (Or.inl (by decide))) (qm_gk (qm_gk (qm_gk (qm_gk g1823 (by decide) (Or.inl (by decide))) (by decide) (Or.inl (by decide))) (by decide) (Or.inl (by decide))) (by decide) (Or.inr rfl)) (qm_ge _ _ _) (qm_gk (qm_gk (qm_gk (qm_gk g1826 (by decide) (Or.inr rfl)) (by decide) (Or.inl (by decide))) (by decide) (Or.inl (by decide))) (by decide) (Or.inl (by decide))) (by omega) (by omega)
                  · skip
                    refine qr_iload_n 141 rfl (qm_gk (qm_gk (qm_gk (qm_gk g1826 (by decide) (Or.inr rfl)) (by decide) (Or.inl (by decide))) (by decide) (Or.inl (by decide))) (by decide) (Or.inl (by decide))) rfl ?_
                    refine qr_iload 143 rfl (qm_gk (qm_gk (qm_ge _ _ _) (by decide) (Or.inr rfl)) (by decide) (Or.inl (by decide))) rfl ?_
                    refine qr_iconst 144 rfl rfl ?_
                    refine qr_isub 145 rfl rfl ?_
                    refine qr_callN 148 rfl rfl rfl (sf_30 (d := d + 0) hI1830 (qrg hf1833 (by decide) (by decide)) (by omega)) ?_
                    rintro _ _ ⟨rfl, v1895, rfl, hv1895, hp1896⟩
                    show qr_W (qe L xs vb) (d + 1) qx_e97 _ (148, _, [.int (qz v1895)], qw σ α1829 κ ρ, 0, 0)
                    refine qr_istore_n _ 149 rfl (by decide) rfl rfl ?_
                    refine qr_goto 234 rfl rfl ?_
                    exact hJ1893 _ v1895 (qm_gk (qm_gk (qm_gk (qm_gk (qm_gk g1822 (by decide) (Or.inl (by decide))) (by decide) (Or.inl (by decide))) (by decide) (Or.inl (by decide))) (by decide) (Or.inl (by decide))) (by decide) (Or.inl (by decide))) (qm_gk (qm_gk (qm_gk (qm_gk (qm_gk g1823 (by decide) (Or.inl (by decide))) (by decide) (Or.inl (by decide))) (by decide) (Or.inl (by decide))) (by decide) (Or.inr rfl)) (by decide) (Or.inl (by decide))) (qm_gk (qm_ge _ _ _) (by decide) (Or.inr rfl)) (qm_ge _ _ _) (by omega) (by omega)
              · skip
                refine qr_iload 124 rfl (qm_ge _ _ _) rfl ?_
                refine qr_retI rfl rfl (by decide) (by decide) ?_
                exact ⟨_, rfl, hI1830, hF1831, v1853, rfl, hs1854⟩
            · skip
              refine qr_iconst 104 rfl rfl ?_
              refine qr_retI rfl rfl (by decide) (by decide) ?_
              exact ⟨_, rfl, hI1830, hF1831, 0, rfl, (by decide)⟩
          · skip
            refine qr_iload_n 49 rfl (qm_gk (qm_gk g1824 (by decide) (Or.inl (by decide))) (by decide) (Or.inl (by decide))) rfl ?_
            refine qr_aload_n 50 rfl (qm_gk (qm_gk g1822 (by decide) (Or.inl (by decide))) (by decide) (Or.inl (by decide))) rfl ?_
            refine qr_get 53 rfl rfl rfl (by decide) rfl ?_
            refine qr_alen 54 rfl rfl (by first | exact Or.inl (by decide) | exact Or.inr (Or.inl rfl) | exact Or.inr (Or.inr (Or.inl rfl)) | exact Or.inr (Or.inr (Or.inr (Or.inl rfl)))) rfl ?_
            refine qy_v 120 rfl ?_
            refine qr_icmp_lt 59 57 rfl rfl rfl (qrg hf1832 (by decide) (by decide)) (by decide) (fun h1897 => ?_) (fun h1897 => ?_)
            · skip
              refine qr_aload_n 60 rfl (qm_gk (qm_gk g1822 (by decide) (Or.inl (by decide))) (by decide) (Or.inl (by decide))) rfl ?_
              refine qr_get 63 rfl rfl rfl (by decide) rfl ?_
              refine qr_iload_n 64 rfl (qm_gk (qm_gk g1824 (by decide) (Or.inl (by decide))) (by decide) (Or.inl (by decide))) rfl ?_
              refine qr_iinc _ 67 rfl (qm_gk (qm_gk g1824 (by decide) (Or.inl (by decide))) (by decide) (Or.inl (by decide))) (by decide) rfl rfl ?_
              refine qr_iload 69 rfl (qm_gk (qm_gk (qm_ge _ _ _) (by decide) (Or.inr rfl)) (by decide) (Or.inl (by decide))) rfl ?_
              refine qr_bipush 71 rfl (by decide) rfl ?_
              refine qr_icmp_ne 79 74 rfl rfl rfl hv1840 (by decide) (fun h1898 => ?_) (fun h => False.elim (by omega))
              refine qr_iload 81 rfl (qm_gk (qm_ge _ _ _) (by decide) (Or.inl (by decide))) rfl ?_
              refine qr_aload_n 82 rfl (qm_gk (qm_gk (qm_gk g1823 (by decide) (Or.inl (by decide))) (by decide) (Or.inl (by decide))) (by decide) (Or.inr rfl)) rfl ?_
              refine qr_alen 83 rfl rfl (by first | exact Or.inl (by decide) | exact Or.inr (Or.inl rfl) | exact Or.inr (Or.inr (Or.inl rfl)) | exact Or.inr (Or.inr (Or.inr (Or.inl rfl)))) rfl ?_
              refine qy_v 9 rfl ?_
              have hJ1907 : ∀ (ls : qm_L) (u1905 : Int), qm_get ls 0 = some (.ref 50) → qm_get ls 1 = some (.ref 59) → qm_get ls 2 = some (.int (qz (u1825 + 1))) → qm_get ls 3 = some (.int (qz u1827)) → ((-2147483648) ≤ u1905 ∧ u1905 ≤ 2147483647) → qr_W (qe L xs vb) (d + 1) qx_e97 (fun r w' => ∃ α', w' = qw σ α' κ ρ ∧ qI σ α' κ ρ ∧ qFr [] [53] σ α σ α' ∧ ∃ v : Int, r = some (.int (qz v)) ∧ ((-2147483648) ≤ v ∧ v ≤ 2147483647)) (94, ls, [.int (qz u1905), .int (qz u1825), .ref 53], qw σ α1829 κ ρ, 0, 0) := by
                intro ls u1905 g1901 g1902 g1903 g1904 hf1906
                refine qr_iastore 95 rfl (by decide) rfl (by omega) (by decide) rfl ?_
                refine qy_wA (qw_r α1829 53 (qzu (α1829 53) (u1825 : Int).toNat u1905)) rfl (fun α1908 e1909 => ?_)
                have hI1910 : qI σ α1908 κ ρ := by rw [e1909]; exact qI_r hI1830 53 _ rfl (show (-2147483648) ≤ u1905 ∧ u1905 ≤ 2147483647 by omega)
                have hF1911 : qFr [] [53] σ α σ α1908 := by rw [e1909]; exact qFr_r hF1831 53 _ (by decide)
                refine qr_goto 234 rfl rfl ?_
                refine qr_iinc _ 237 rfl g1904 (by decide) rfl rfl ?_
                refine qr_goto 4 rfl rfl ?_
                exact ih1835 _ (u1825 + 1) (u1827 + 1) α1908 (by omega) (qm_gk g1901 (by decide) (Or.inl (by decide))) (qm_gk g1902 (by decide) (Or.inl (by decide))) (qm_gk g1903 (by decide) (Or.inr rfl)) (qm_ge _ _ _) (by omega) (by omega) hI1910 hF1911
              refine qr_icmp_ge 93 86 rfl rfl rfl (by omega) (by decide) (fun h1912 => ?_) (fun h1912 => ?_)
              · skip
                refine qr_iconst 94 rfl rfl ?_
                exact hJ1907 _ 0 (qm_gk (qm_gk (qm_gk g1822 (by decide) (Or.inl (by decide))) (by decide) (Or.inl (by decide))) (by decide) (Or.inl (by decide))) (qm_gk (qm_gk (qm_gk g1823 (by decide) (Or.inl (by decide))) (by decide) (Or.inl (by decide))) (by decide) (Or.inr rfl)) (qm_ge _ _ _) (qm_gk (qm_gk (qm_gk g1826 (by decide) (Or.inr rfl)) (by decide) (Or.inl (by decide))) (by decide) (Or.inl (by decide))) (by decide)
              · skip
                refine qr_aload_n 87 rfl (qm_gk (qm_gk (qm_gk g1823 (by decide) (Or.inl (by decide))) (by decide) (Or.inl (by decide))) (by decide) (Or.inr rfl)) rfl ?_
                refine qr_iload 89 rfl (qm_gk (qm_ge _ _ _) (by decide) (Or.inl (by decide))) rfl ?_
                refine qr_iaload 90 rfl rfl (by omega) (by decide) rfl ?_
                refine qr_topI (fun v1913 hv1913 => ?_)
                have hs1914 : (-2147483648) ≤ v1913 ∧ v1913 ≤ 2147483647 := by rw [hv1913]; exact hI1830.2.1 59 _ (show _ < 9 by omega)
                refine qr_goto 94 rfl rfl ?_
                exact hJ1907 _ v1913 (qm_gk (qm_gk (qm_gk g1822 (by decide) (Or.inl (by decide))) (by decide) (Or.inl (by decide))) (by decide) (Or.inl (by decide))) (qm_gk (qm_gk (qm_gk g1823 (by decide) (Or.inl (by decide))) (by decide) (Or.inl (by decide))) (by decide) (Or.inr rfl)) (qm_ge _ _ _) (qm_gk (qm_gk (qm_gk g1826 (by decide) (Or.inr rfl)) (by decide) (Or.inl (by decide))) (by decide) (Or.inl (by decide))) hs1914
            · skip
              refine qr_iconst 58 rfl rfl ?_
              refine qr_retI rfl rfl (by decide) (by decide) ?_
              exact ⟨_, rfl, hI1830, hF1831, 0, rfl, (by decide)⟩
  exact hL1834 ((65535 - 0 + 1 : Int)).toNat _ 0 0 α (by omega) rfl rfl rfl rfl (by decide) (by decide) hI hF0

set_option maxHeartbeats 4000000 in
set_option maxRecDepth 20000 in
/-- OneRoof$Custom.worth -/
theorem sf_97_54_59 {L : Nat} {xs : Nat → Int} {vb : Bool} {d : Nat} {σ α : Nat → Nat → Int} {κ : Nat → Option Nat} {ρ : Nat}  (hI : qI σ α κ ρ)  : qm_T (qe L xs vb) (d + 2) 97 [.ref 54, .ref 59] (qw σ α κ ρ) (fun r w' => ∃ α', w' = qw σ α' κ ρ ∧ qI σ α' κ ρ ∧ qFr [] [57] σ α σ α' ∧ ∃ v : Int, r = some (.int (qz v)) ∧ ((-2147483648) ≤ v ∧ v ≤ 2147483647)) := by
  refine qr_start (d := d + 1) qv_e97 (Nat.le_of_ble_eq_true rfl) ?_
  show qr_W (qe L xs vb) (d + 1) qx_e97 _ (0, [(0, .ref 54), (1, .ref 59)], [], _, 0, 0)
  have hF0 := qFr_rf [] [57] σ α
  refine qr_iconst 1 rfl rfl ?_
  refine qr_istore_n _ 2 rfl (by decide) rfl rfl ?_
  refine qr_iconst 3 rfl rfl ?_
  refine qr_istore_n _ 4 rfl (by decide) rfl rfl ?_
  have hL1834 : ∀ (n : Nat) (ls : qm_L) (u1825 u1827 : Int) (α1829 : Nat → Nat → Int), 65535 - u1827 < (n : Int) → qm_get ls 0 = some (.ref 54) → qm_get ls 1 = some (.ref 59) → qm_get ls 2 = some (.int (qz u1825)) → qm_get ls 3 = some (.int (qz u1827)) → (0 ≤ u1825 ∧ u1825 ≤ 120) → (0 ≤ u1827 ∧ u1827 ≤ 65535) → qI σ α1829 κ ρ → qFr [] [57] σ α σ α1829 → qr_W (qe L xs vb) (d + 1) qx_e97 (fun r w' => ∃ α', w' = qw σ α' κ ρ ∧ qI σ α' κ ρ ∧ qFr [] [57] σ α σ α' ∧ ∃ v : Int, r = some (.int (qz v)) ∧ ((-2147483648) ≤ v ∧ v ≤ 2147483647)) (4, ls, [], qw σ α1829 κ ρ, 0, 0) := by
    intro n
    induction n with
    | zero => intro ls u1825 u1827 α1829 hm g1822 g1823 g1824 g1826 hf1832 hf1833 hI1830 hF1831; exact False.elim (by omega)
    | succ n ih1835 =>
      intro ls u1825 u1827 α1829 hm g1822 g1823 g1824 g1826 hf1832 hf1833 hI1830 hF1831
      refine qr_iload_n 5 rfl g1826 rfl ?_
      refine qr_aload_n 6 rfl g1822 rfl ?_
      refine qr_get 9 rfl rfl rfl (by decide) rfl ?_
      have hs1836 : 0 ≤ σ 54 5 ∧ σ 54 5 ≤ 122 := hI1830.1 54 5
      refine qr_icmp_ge 240 12 rfl rfl rfl (qrg hf1833 (by decide) (by decide)) (qrg hs1836 (by decide) (by decide)) (fun h1837 => ?_) (fun h1837 => ?_)
      · skip
        refine qr_iconst 241 rfl rfl ?_
        refine qr_retI rfl rfl (by decide) (by decide) ?_
        exact ⟨_, rfl, hI1830, hF1831, 0, rfl, (by decide)⟩
      · skip
        refine qr_aload_n 13 rfl g1822 rfl ?_
        refine qr_get 16 rfl rfl rfl (by decide) rfl ?_
        refine qr_iload_n 17 rfl g1826 rfl ?_
        refine qr_iaload 18 rfl rfl (by omega) (by decide) rfl ?_
        refine qr_topI (fun v1838 hv1838 => ?_)
        have hs1839 : (-2147483648) ≤ v1838 ∧ v1838 ≤ 2147483647 := by rw [hv1838]; exact hI1830.2.1 56 _ (show _ < 122 by omega)
        refine qr_bipush 20 rfl (by decide) rfl ?_
        refine qr_iushr 21 rfl rfl ?_
        refine qy_can (fun v1840 hv1840 => ?_)
        refine qr_istore _ 23 rfl (by decide) rfl rfl ?_
        refine qr_aload_n 24 rfl (qm_gk g1822 (by decide) (Or.inl (by decide))) rfl ?_
        refine qr_get 27 rfl rfl rfl (by decide) rfl ?_
        refine qr_iload_n 28 rfl (qm_gk g1826 (by decide) (Or.inr rfl)) rfl ?_
        refine qr_iaload 29 rfl rfl (by omega) (by decide) rfl ?_
        refine qr_topI (fun v1841 hv1841 => ?_)
        have hs1842 : (-2147483648) ≤ v1841 ∧ v1841 ≤ 2147483647 := by rw [hv1841]; exact hI1830.2.1 56 _ (show _ < 122 by omega)
        refine qr_ldc 65535 31 rfl (by decide) rfl ?_
        refine qr_iand 32 rfl rfl ?_
        refine qy_andr (by omega) (fun v1843 hv1843 => ?_)
        refine qr_istore _ 34 rfl (by decide) rfl rfl ?_
        refine qr_iload 36 rfl (qm_gk (qm_ge _ _ _) (by decide) (Or.inr rfl)) rfl ?_
        refine qr_bipush 38 rfl (by decide) rfl ?_
        refine qr_icmp_eq 48 41 rfl rfl rfl hv1840 (by decide) (fun h1844 => ?_) (fun h1844 => ?_)
        · skip
          refine qr_iload_n 49 rfl (qm_gk (qm_gk g1824 (by decide) (Or.inl (by decide))) (by decide) (Or.inl (by decide))) rfl ?_
          refine qr_aload_n 50 rfl (qm_gk (qm_gk g1822 (by decide) (Or.inl (by decide))) (by decide) (Or.inl (by decide))) rfl ?_
          refine qr_get 53 rfl rfl rfl (by decide) rfl ?_
          refine qr_alen 54 rfl rfl (by first | exact Or.inl (by decide) | exact Or.inr (Or.inl rfl) | exact Or.inr (Or.inr (Or.inl rfl)) | exact Or.inr (Or.inr (Or.inr (Or.inl rfl)))) rfl ?_
          refine qy_v 120 rfl ?_
          refine qr_icmp_lt 59 57 rfl rfl rfl (qrg hf1832 (by decide) (by decide)) (by decide) (fun h1845 => ?_) (fun h1845 => ?_)
          · skip
            refine qr_aload_n 60 rfl (qm_gk (qm_gk g1822 (by decide) (Or.inl (by decide))) (by decide) (Or.inl (by decide))) rfl ?_
            refine qr_get 63 rfl rfl rfl (by decide) rfl ?_
            refine qr_iload_n 64 rfl (qm_gk (qm_gk g1824 (by decide) (Or.inl (by decide))) (by decide) (Or.inl (by decide))) rfl ?_
            refine qr_iinc _ 67 rfl (qm_gk (qm_gk g1824 (by decide) (Or.inl (by decide))) (by decide) (Or.inl (by decide))) (by decide) rfl rfl ?_
            refine qr_iload 69 rfl (qm_gk (qm_gk (qm_ge _ _ _) (by decide) (Or.inr rfl)) (by decide) (Or.inl (by decide))) rfl ?_
            refine qr_bipush 71 rfl (by decide) rfl ?_
            refine qr_icmp_ne 79 74 rfl rfl rfl hv1840 (by decide) (fun h => False.elim (by omega)) (fun h1846 => ?_)
            refine qr_iload 76 rfl (qm_gk (qm_ge _ _ _) (by decide) (Or.inl (by decide))) rfl ?_
            refine qr_goto 94 rfl rfl ?_
            refine qr_iastore 95 rfl (by decide) rfl (by omega) (by decide) rfl ?_
            refine qy_wA (qw_r α1829 57 (qzu (α1829 57) (u1825 : Int).toNat v1843)) rfl (fun α1847 e1848 => ?_)
            have hI1849 : qI σ α1847 κ ρ := by rw [e1848]; exact qI_r hI1830 57 _ rfl (show (-2147483648) ≤ v1843 ∧ v1843 ≤ 2147483647 by omega)
            have hF1850 : qFr [] [57] σ α σ α1847 := by rw [e1848]; exact qFr_r hF1831 57 _ (by decide)
            refine qr_goto 234 rfl rfl ?_
            refine qr_iinc _ 237 rfl (qm_gk (qm_gk (qm_gk g1826 (by decide) (Or.inr rfl)) (by decide) (Or.inl (by decide))) (by decide) (Or.inl (by decide))) (by decide) rfl rfl ?_
            refine qr_goto 4 rfl rfl ?_
            exact ih1835 _ (u1825 + 1) (u1827 + 1) α1847 (by omega) (qm_gk (qm_gk (qm_gk (qm_gk g1822 (by decide) (Or.inl (by decide))) (by decide) (Or.inl (by decide))) (by decide) (Or.inl (by decide))) (by decide) (Or.inl (by decide))) (qm_gk (qm_gk (qm_gk (qm_gk g1823 (by decide) (Or.inl (by decide))) (by decide) (Or.inl (by decide))) (by decide) (Or.inr rfl)) (by decide) (Or.inl (by decide))) (qm_gk (qm_ge _ _ _) (by decide) (Or.inr rfl)) (qm_ge _ _ _) (by omega) (by omega) hI1849 hF1850
          · skip
            refine qr_iconst 58 rfl rfl ?_
            refine qr_retI rfl rfl (by decide) (by decide) ?_
            exact ⟨_, rfl, hI1830, hF1831, 0, rfl, (by decide)⟩
        · skip
          refine qr_iload 43 rfl (qm_gk (qm_ge _ _ _) (by decide) (Or.inr rfl)) rfl ?_
          refine qr_bipush 45 rfl (by decide) rfl ?_
          refine qr_icmp_ne 98 48 rfl rfl rfl hv1840 (by decide) (fun h1851 => ?_) (fun h1851 => ?_)
          · skip
            refine qr_iload_n 99 rfl (qm_gk (qm_gk g1824 (by decide) (Or.inl (by decide))) (by decide) (Or.inl (by decide))) rfl ?_
            refine qr_iconst 100 rfl rfl ?_
            refine qr_icmp_ge 105 103 rfl rfl rfl (qrg hf1832 (by decide) (by decide)) (by decide) (fun h1852 => ?_) (fun h1852 => ?_)
            · skip
              refine qr_aload_n 106 rfl (qm_gk (qm_gk g1822 (by decide) (Or.inl (by decide))) (by decide) (Or.inl (by decide))) rfl ?_
              refine qr_get 109 rfl rfl rfl (by decide) rfl ?_
              refine qr_iload_n 110 rfl (qm_gk (qm_gk g1824 (by decide) (Or.inl (by decide))) (by decide) (Or.inl (by decide))) rfl ?_
              refine qr_iconst 111 rfl rfl ?_
              refine qr_isub 112 rfl rfl ?_
              refine qr_iaload 113 rfl rfl (by omega) (by decide) rfl ?_
              refine qr_topI (fun v1853 hv1853 => ?_)
              have hs1854 : (-2147483648) ≤ v1853 ∧ v1853 ≤ 2147483647 := by rw [hv1853]; exact hI1830.2.1 57 _ (show _ < 120 by omega)
              refine qr_istore _ 115 rfl (by decide) rfl rfl ?_
              refine qr_iload 117 rfl (qm_gk (qm_gk (qm_ge _ _ _) (by decide) (Or.inr rfl)) (by decide) (Or.inl (by decide))) rfl ?_
              refine qr_bipush 119 rfl (by decide) rfl ?_
              refine qr_icmp_ne 125 122 rfl rfl rfl hv1840 (by decide) (fun h1855 => ?_) (fun h1855 => ?_)
              · skip
                refine qr_iload 127 rfl (qm_gk (qm_gk (qm_ge _ _ _) (by decide) (Or.inr rfl)) (by decide) (Or.inl (by decide))) rfl ?_
                refine qr_bipush 129 rfl (by decide) rfl ?_
                refine qr_icmp_ne 152 132 rfl rfl rfl hv1840 (by decide) (fun h1856 => ?_) (fun h1856 => ?_)
                · skip
                  refine qr_iload 154 rfl (qm_gk (qm_gk (qm_ge _ _ _) (by decide) (Or.inr rfl)) (by decide) (Or.inl (by decide))) rfl ?_
                  refine qr_bipush 156 rfl (by decide) rfl ?_
                  refine qr_icmp_ne 180 159 rfl rfl rfl hv1840 (by decide) (fun h1857 => ?_) (fun h1857 => ?_)
                  · skip
                    refine qr_iload 182 rfl (qm_gk (qm_gk (qm_ge _ _ _) (by decide) (Or.inr rfl)) (by decide) (Or.inl (by decide))) rfl ?_
                    refine qr_bipush 184 rfl (by decide) rfl ?_
                    refine qr_icmp_ne 201 187 rfl rfl rfl hv1840 (by decide) (fun h1858 => ?_) (fun h1858 => ?_)
                    · skip
                      refine qr_iload_n 202 rfl (qm_gk (qm_gk (qm_gk g1824 (by decide) (Or.inl (by decide))) (by decide) (Or.inl (by decide))) (by decide) (Or.inl (by decide))) rfl ?_
                      refine qr_iconst 203 rfl rfl ?_
                      refine qr_icmp_ge 208 206 rfl rfl rfl (qrg hf1832 (by decide) (by decide)) (by decide) (fun h1859 => ?_) (fun h1859 => ?_)
                      · skip
                        refine qr_iinc _ 211 rfl (qm_gk (qm_gk (qm_gk g1824 (by decide) (Or.inl (by decide))) (by decide) (Or.inl (by decide))) (by decide) (Or.inl (by decide))) (by decide) rfl rfl ?_
                        as_aux_lemma =>
                          refine qr_aload_n 212 rfl (qm_gk (qm_gk (qm_gk (qm_gk g1822 (by decide) (Or.inl (by decide))) (by decide) (Or.inl (by decide))) (by decide) (Or.inl (by decide))) (by decide) (Or.inl (by decide))) rfl ?_
                          refine qr_get 215 rfl rfl rfl (by decide) rfl ?_
                          refine qr_iload_n 216 rfl (qm_ge _ _ _) rfl ?_
                          refine qr_iconst 217 rfl rfl ?_
                          refine qr_isub 218 rfl rfl ?_
                          refine qr_iload 220 rfl (qm_gk (qm_gk (qm_gk (qm_ge _ _ _) (by decide) (Or.inr rfl)) (by decide) (Or.inl (by decide))) (by decide) (Or.inl (by decide))) rfl ?_
                          refine qr_aload_n 221 rfl (qm_gk (qm_gk (qm_gk (qm_gk g1822 (by decide) (Or.inl (by decide))) (by decide) (Or.inl (by decide))) (by decide) (Or.inl (by decide))) (by decide) (Or.inl (by decide))) rfl ?_
                          refine qr_get 224 rfl rfl rfl (by decide) rfl ?_
                          refine qr_iload_n 225 rfl (qm_ge _ _ _) rfl ?_
                          refine qr_iconst 226 rfl rfl ?_
                          refine qr_isub 227 rfl rfl ?_
                          refine qr_iaload 228 rfl rfl (by omega) (by decide) rfl ?_
                          refine qr_topI (fun v1860 hv1860 => ?_)
                          have hs1861 : (-2147483648) ≤ v1860 ∧ v1860 ≤ 2147483647 := by rw [hv1860]; exact hI1830.2.1 57 _ (show _ < 120 by omega)
                          refine qr_iload 230 rfl (qm_gk (qm_ge _ _ _) (by decide) (Or.inl (by decide))) rfl ?_
                          refine qr_callN 233 rfl rfl rfl (sf_98 (d := d + 0) hI1830 hv1840 hs1861 hs1854) ?_
                          rintro _ _ ⟨rfl, v1862, rfl, hv1862⟩
                          show qr_W (qe L xs vb) (d + 1) qx_e97 _ (233, _, [.int (qz v1862), .int (qz ((u1825 + (-1)) - 1)), .ref 57], qw σ α1829 κ ρ, 0, 0)
                          refine qr_iastore 234 rfl (by decide) rfl (by omega) (by decide) rfl ?_
                          refine qy_wA (qw_r α1829 57 (qzu (α1829 57) (((u1825 + (-1)) - 1) : Int).toNat v1862)) rfl (fun α1863 e1864 => ?_)
                          have hI1865 : qI σ α1863 κ ρ := by rw [e1864]; exact qI_r hI1830 57 _ rfl (show (-2147483648) ≤ v1862 ∧ v1862 ≤ 2147483647 by omega)
                          have hF1866 : qFr [] [57] σ α σ α1863 := by rw [e1864]; exact qFr_r hF1831 57 _ (by decide)
                          refine qr_iinc _ 237 rfl (qm_gk (qm_gk (qm_gk (qm_gk g1826 (by decide) (Or.inr rfl)) (by decide) (Or.inl (by decide))) (by decide) (Or.inl (by decide))) (by decide) (Or.inl (by decide))) (by decide) rfl rfl ?_
                          refine qr_goto 4 rfl rfl ?_
                          exact ih1835 _ (u1825 + (-1)) (u1827 + 1) α1863 (by omega) (qm_gk (qm_gk (qm_gk (qm_gk (qm_gk g1822 (by decide) (Or.inl (by decide))) (by decide) (Or.inl (by decide))) (by decide) (Or.inl (by decide))) (by decide) (Or.inl (by decide))) (by decide) (Or.inl (by decide))) (qm_gk (qm_gk (qm_gk (qm_gk (qm_gk g1823 (by decide) (Or.inl (by decide))) (by decide) (Or.inl (by decide))) (by decide) (Or.inl (by decide))) (by decide) (Or.inr rfl)) (by decide) (Or.inl (by decide))) (qm_gk (qm_ge _ _ _) (by decide) (Or.inr rfl)) (qm_ge _ _ _) (by omega) (by omega) hI1865 hF1866
                      · skip
                        refine qr_iconst 207 rfl rfl ?_
                        as_aux_lemma =>
                          refine qr_retI rfl rfl (by decide) (by decide) ?_
                          exact ⟨_, rfl, hI1830, hF1831, 0, rfl, (by decide)⟩
                    · skip
                      refine qr_aload_n 188 rfl (qm_gk (qm_gk (qm_gk g1822 (by decide) (Or.inl (by decide))) (by decide) (Or.inl (by decide))) (by decide) (Or.inl (by decide))) rfl ?_
                      refine qr_get 191 rfl rfl rfl (by decide) rfl ?_
                      refine qr_iload_n 192 rfl (qm_gk (qm_gk (qm_gk g1824 (by decide) (Or.inl (by decide))) (by decide) (Or.inl (by decide))) (by decide) (Or.inl (by decide))) rfl ?_
                      refine qr_iconst 193 rfl rfl ?_
                      as_aux_lemma =>
                        refine qr_isub 194 rfl rfl ?_
                        refine qr_iload 196 rfl (qm_ge _ _ _) rfl ?_
                        refine qr_ineg 197 rfl rfl ?_
                        refine qy_can (fun v1867 hv1867 => ?_)
                        refine qr_iastore 198 rfl (by decide) rfl (by omega) (by decide) rfl ?_
                        refine qy_wA (qw_r α1829 57 (qzu (α1829 57) ((u1825 - 1) : Int).toNat v1867)) rfl (fun α1868 e1869 => ?_)
                        have hI1870 : qI σ α1868 κ ρ := by rw [e1869]; exact qI_r hI1830 57 _ rfl (show (-2147483648) ≤ v1867 ∧ v1867 ≤ 2147483647 by omega)
                        have hF1871 : qFr [] [57] σ α σ α1868 := by rw [e1869]; exact qFr_r hF1831 57 _ (by decide)
                        refine qr_goto 234 rfl rfl ?_
                        refine qr_iinc _ 237 rfl (qm_gk (qm_gk (qm_gk g1826 (by decide) (Or.inr rfl)) (by decide) (Or.inl (by decide))) (by decide) (Or.inl (by decide))) (by decide) rfl rfl ?_
                        refine qr_goto 4 rfl rfl ?_
                        exact ih1835 _ u1825 (u1827 + 1) α1868 (by omega) (qm_gk (qm_gk (qm_gk (qm_gk g1822 (by decide) (Or.inl (by decide))) (by decide) (Or.inl (by decide))) (by decide) (Or.inl (by decide))) (by decide) (Or.inl (by decide))) (qm_gk (qm_gk (qm_gk (qm_gk g1823 (by decide) (Or.inl (by decide))) (by decide) (Or.inl (by decide))) (by decide) (Or.inl (by decide))) (by decide) (Or.inl (by decide))) (qm_gk (qm_gk (qm_gk (qm_gk g1824 (by decide) (Or.inl (by decide))) (by decide) (Or.inl (by decide))) (by decide) (Or.inl (by decide))) (by decide) (Or.inr rfl)) (qm_ge _ _ _) hf1832 (by omega) hI1870 hF1871
                  · skip
                    refine qr_aload_n 160 rfl (qm_gk (qm_gk (qm_gk g1822 (by decide) (Or.inl (by decide))) (by decide) (Or.inl (by decide))) (by decide) (Or.inl (by decide))) rfl ?_
                    refine qr_get 163 rfl rfl rfl (by decide) rfl ?_
                    refine qr_iload_n 164 rfl (qm_gk (qm_gk (qm_gk g1824 (by decide) (Or.inl (by decide))) (by decide) (Or.inl (by decide))) (by decide) (Or.inl (by decide))) rfl ?_
                    refine qr_iconst 165 rfl rfl ?_
                    refine qr_isub 166 rfl rfl ?_
                    refine qr_iload 168 rfl (qm_ge _ _ _) rfl ?_
                    have hJ1878 : ∀ (ls : qm_L) (u1876 : Int), qm_get ls 0 = some (.ref 54) → qm_get ls 1 = some (.ref 59) → qm_get ls 2 = some (.int (qz u1825)) → qm_get ls 3 = some (.int (qz u1827)) → (0 ≤ u1876 ∧ u1876 ≤ 1) → qr_W (qe L xs vb) (d + 1) qx_e97 (fun r w' => ∃ α', w' = qw σ α' κ ρ ∧ qI σ α' κ ρ ∧ qFr [] [57] σ α σ α' ∧ ∃ v : Int, r = some (.int (qz v)) ∧ ((-2147483648) ≤ v ∧ v ≤ 2147483647)) (176, ls, [.int (qz u1876), .int (qz (u1825 - 1)), .ref 57], qw σ α1829 κ ρ, 0, 0) := by
                      intro ls u1876 g1872 g1873 g1874 g1875 hf1877
                      refine qr_iastore 177 rfl (by decide) rfl (by omega) (by decide) rfl ?_
                      refine qy_wA (qw_r α1829 57 (qzu (α1829 57) ((u1825 - 1) : Int).toNat u1876)) rfl (fun α1879 e1880 => ?_)
                      have hI1881 : qI σ α1879 κ ρ := by rw [e1880]; exact qI_r hI1830 57 _ rfl (show (-2147483648) ≤ u1876 ∧ u1876 ≤ 2147483647 by omega)
                      have hF1882 : qFr [] [57] σ α σ α1879 := by rw [e1880]; exact qFr_r hF1831 57 _ (by decide)
                      refine qr_goto 234 rfl rfl ?_
                      refine qr_iinc _ 237 rfl g1875 (by decide) rfl rfl ?_
                      refine qr_goto 4 rfl rfl ?_
                      exact ih1835 _ u1825 (u1827 + 1) α1879 (by omega) (qm_gk g1872 (by decide) (Or.inl (by decide))) (qm_gk g1873 (by decide) (Or.inl (by decide))) (qm_gk g1874 (by decide) (Or.inr rfl)) (qm_ge _ _ _) hf1832 (by omega) hI1881 hF1882
                    refine qr_if_ne 175 171 rfl rfl rfl hs1854 (fun h1883 => ?_) (fun h1883 => ?_)
                    · skip
                      as_aux_lemma =>
                        refine qr_iconst 176 rfl rfl ?_
                        exact hJ1878 _ 0 (qm_gk (qm_gk (qm_gk g1822 (by decide) (Or.inl (by decide))) (by decide) (Or.inl (by decide))) (by decide) (Or.inl (by decide))) (qm_gk (qm_gk (qm_gk g1823 (by decide) (Or.inl (by decide))) (by decide) (Or.inl (by decide))) (by decide) (Or.inl (by decide))) (qm_gk (qm_gk (qm_gk g1824 (by decide) (Or.inl (by decide))) (by decide) (Or.inl (by decide))) (by decide) (Or.inl (by decide))) (qm_gk (qm_gk (qm_gk g1826 (by decide) (Or.inr rfl)) (by decide) (Or.inl (by decide))) (by decide) (Or.inl (by decide))) (by decide)
                    · skip
                      as_aux_lemma =>
                        refine qr_iconst 172 rfl rfl ?_
                        refine qr_goto 176 rfl rfl ?_
                        exact hJ1878 _ 1 (qm_gk (qm_gk (qm_gk g1822 (by decide) (Or.inl (by decide))) (by decide) (Or.inl (by decide))) (by decide) (Or.inl (by decide))) (qm_gk (qm_gk (qm_gk g1823 (by decide) (Or.inl (by decide))) (by decide) (Or.inl (by decide))) (by decide) (Or.inl (by decide))) (qm_gk (qm_gk (qm_gk g1824 (by decide) (Or.inl (by decide))) (by decide) (Or.inl (by decide))) (by decide) (Or.inl (by decide))) (qm_gk (qm_gk (qm_gk g1826 (by decide) (Or.inr rfl)) (by decide) (Or.inl (by decide))) (by decide) (Or.inl (by decide))) (by decide)
                · skip
                  refine qr_iinc _ 135 rfl (qm_gk (qm_gk (qm_gk g1824 (by decide) (Or.inl (by decide))) (by decide) (Or.inl (by decide))) (by decide) (Or.inl (by decide))) (by decide) rfl rfl ?_
                  refine qr_iload 137 rfl (qm_gk (qm_ge _ _ _) (by decide) (Or.inl (by decide))) rfl ?_
                  have hJ1893 : ∀ (ls : qm_L) (u1890 : Int), qm_get ls 0 = some (.ref 54) → qm_get ls 1 = some (.ref 59) → qm_get ls 2 = some (.int (qz (u1825 + (-1)))) → qm_get ls 3 = some (.int (qz u1890)) → (0 ≤ u1890 ∧ u1890 ≤ 65534) → u1827 ≤ u1890 → qr_W (qe L xs vb) (d + 1) qx_e97 (fun r w' => ∃ α', w' = qw σ α' κ ρ ∧ qI σ α' κ ρ ∧ qFr [] [57] σ α σ α' ∧ ∃ v : Int, r = some (.int (qz v)) ∧ ((-2147483648) ≤ v ∧ v ≤ 2147483647)) (234, ls, [], qw σ α1829 κ ρ, 0, 0) := by
                    intro ls u1890 g1886 g1887 g1888 g1889 hf1891 hx1892
                    refine qr_iinc _ 237 rfl g1889 (by decide) rfl rfl ?_
                    refine qr_goto 4 rfl rfl ?_
                    exact ih1835 _ (u1825 + (-1)) (u1890 + 1) α1829 (by omega) (qm_gk g1886 (by decide) (Or.inl (by decide))) (qm_gk g1887 (by decide) (Or.inl (by decide))) (qm_gk g1888 (by decide) (Or.inr rfl)) (qm_ge _ _ _) (by omega) (by omega) hI1830 hF1831
                  refine qr_if_ne 234 140 rfl rfl rfl hs1854 (fun h1894 => ?_) (fun h1894 => ?_)
                  · skip
                    exact hJ1893 _ u1827 (qm_gk (qm_gk (qm_gk (qm_gk g1822 (by decide) (Or.inl (by decide))) (by decide) (Or.inl (by decide))) (by decide) (Or.inl (by decide))) (by decide) (Or.inl (by decide))) (qm_gk (qm_gk (qm_gk (qm_gk g1823 (by decide) (Or.inl (by decide))) (by decide) (Or.inl (by decide))) (by decide) (Or.inl (by decide))) (by decide) (Or.inr rfl)) (qm_ge _ _ _) (qm_gk (qm_gk (qm_gk (qm_gk g1826 (by decide) (Or.inr rfl)) (by decide) (Or.inl (by decide))) (by decide) (Or.inl (by decide))) (by decide) (Or.inl (by decide))) (by omega) (by omega)
                  · skip
                    refine qr_iload_n 141 rfl (qm_gk (qm_gk (qm_gk (qm_gk g1826 (by decide) (Or.inr rfl)) (by decide) (Or.inl (by decide))) (by decide) (Or.inl (by decide))) (by decide) (Or.inl (by decide))) rfl ?_
                    refine qr_iload 143 rfl (qm_gk (qm_gk (qm_ge _ _ _) (by decide) (Or.inr rfl)) (by decide) (Or.inl (by decide))) rfl ?_
                    refine qr_iconst 144 rfl rfl ?_
                    refine qr_isub 145 rfl rfl ?_
                    refine qr_callN 148 rfl rfl rfl (sf_30 (d := d + 0) hI1830 (qrg hf1833 (by decide) (by decide)) (by omega)) ?_
                    rintro _ _ ⟨rfl, v1895, rfl, hv1895, hp1896⟩
                    show qr_W (qe L xs vb) (d + 1) qx_e97 _ (148, _, [.int (qz v1895)], qw σ α1829 κ ρ, 0, 0)
                    refine qr_istore_n _ 149 rfl (by decide) rfl rfl ?_
                    refine qr_goto 234 rfl rfl ?_
                    exact hJ1893 _ v1895 (qm_gk (qm_gk (qm_gk (qm_gk (qm_gk g1822 (by decide) (Or.inl (by decide))) (by decide) (Or.inl (by decide))) (by decide) (Or.inl (by decide))) (by decide) (Or.inl (by decide))) (by decide) (Or.inl (by decide))) (qm_gk (qm_gk (qm_gk (qm_gk (qm_gk g1823 (by decide) (Or.inl (by decide))) (by decide) (Or.inl (by decide))) (by decide) (Or.inl (by decide))) (by decide) (Or.inr rfl)) (by decide) (Or.inl (by decide))) (qm_gk (qm_ge _ _ _) (by decide) (Or.inr rfl)) (qm_ge _ _ _) (by omega) (by omega)
              · skip
                refine qr_iload 124 rfl (qm_ge _ _ _) rfl ?_
                refine qr_retI rfl rfl (by decide) (by decide) ?_
                exact ⟨_, rfl, hI1830, hF1831, v1853, rfl, hs1854⟩
            · skip
              refine qr_iconst 104 rfl rfl ?_
              refine qr_retI rfl rfl (by decide) (by decide) ?_
              exact ⟨_, rfl, hI1830, hF1831, 0, rfl, (by decide)⟩
          · skip
            refine qr_iload_n 49 rfl (qm_gk (qm_gk g1824 (by decide) (Or.inl (by decide))) (by decide) (Or.inl (by decide))) rfl ?_
            refine qr_aload_n 50 rfl (qm_gk (qm_gk g1822 (by decide) (Or.inl (by decide))) (by decide) (Or.inl (by decide))) rfl ?_
            refine qr_get 53 rfl rfl rfl (by decide) rfl ?_
            refine qr_alen 54 rfl rfl (by first | exact Or.inl (by decide) | exact Or.inr (Or.inl rfl) | exact Or.inr (Or.inr (Or.inl rfl)) | exact Or.inr (Or.inr (Or.inr (Or.inl rfl)))) rfl ?_
            refine qy_v 120 rfl ?_
            refine qr_icmp_lt 59 57 rfl rfl rfl (qrg hf1832 (by decide) (by decide)) (by decide) (fun h1897 => ?_) (fun h1897 => ?_)
            · skip
              refine qr_aload_n 60 rfl (qm_gk (qm_gk g1822 (by decide) (Or.inl (by decide))) (by decide) (Or.inl (by decide))) rfl ?_
              refine qr_get 63 rfl rfl rfl (by decide) rfl ?_
              refine qr_iload_n 64 rfl (qm_gk (qm_gk g1824 (by decide) (Or.inl (by decide))) (by decide) (Or.inl (by decide))) rfl ?_
              refine qr_iinc _ 67 rfl (qm_gk (qm_gk g1824 (by decide) (Or.inl (by decide))) (by decide) (Or.inl (by decide))) (by decide) rfl rfl ?_
              refine qr_iload 69 rfl (qm_gk (qm_gk (qm_ge _ _ _) (by decide) (Or.inr rfl)) (by decide) (Or.inl (by decide))) rfl ?_
              refine qr_bipush 71 rfl (by decide) rfl ?_
              refine qr_icmp_ne 79 74 rfl rfl rfl hv1840 (by decide) (fun h1898 => ?_) (fun h => False.elim (by omega))
              refine qr_iload 81 rfl (qm_gk (qm_ge _ _ _) (by decide) (Or.inl (by decide))) rfl ?_
              refine qr_aload_n 82 rfl (qm_gk (qm_gk (qm_gk g1823 (by decide) (Or.inl (by decide))) (by decide) (Or.inl (by decide))) (by decide) (Or.inr rfl)) rfl ?_
              refine qr_alen 83 rfl rfl (by first | exact Or.inl (by decide) | exact Or.inr (Or.inl rfl) | exact Or.inr (Or.inr (Or.inl rfl)) | exact Or.inr (Or.inr (Or.inr (Or.inl rfl)))) rfl ?_
              refine qy_v 9 rfl ?_
              have hJ1907 : ∀ (ls : qm_L) (u1905 : Int), qm_get ls 0 = some (.ref 54) → qm_get ls 1 = some (.ref 59) → qm_get ls 2 = some (.int (qz (u1825 + 1))) → qm_get ls 3 = some (.int (qz u1827)) → ((-2147483648) ≤ u1905 ∧ u1905 ≤ 2147483647) → qr_W (qe L xs vb) (d + 1) qx_e97 (fun r w' => ∃ α', w' = qw σ α' κ ρ ∧ qI σ α' κ ρ ∧ qFr [] [57] σ α σ α' ∧ ∃ v : Int, r = some (.int (qz v)) ∧ ((-2147483648) ≤ v ∧ v ≤ 2147483647)) (94, ls, [.int (qz u1905), .int (qz u1825), .ref 57], qw σ α1829 κ ρ, 0, 0) := by
                intro ls u1905 g1901 g1902 g1903 g1904 hf1906
                refine qr_iastore 95 rfl (by decide) rfl (by omega) (by decide) rfl ?_
                refine qy_wA (qw_r α1829 57 (qzu (α1829 57) (u1825 : Int).toNat u1905)) rfl (fun α1908 e1909 => ?_)
                have hI1910 : qI σ α1908 κ ρ := by rw [e1909]; exact qI_r hI1830 57 _ rfl (show (-2147483648) ≤ u1905 ∧ u1905 ≤ 2147483647 by omega)
                have hF1911 : qFr [] [57] σ α σ α1908 := by rw [e1909]; exact qFr_r hF1831 57 _ (by decide)
                refine qr_goto 234 rfl rfl ?_
                refine qr_iinc _ 237 rfl g1904 (by decide) rfl rfl ?_
                refine qr_goto 4 rfl rfl ?_
                exact ih1835 _ (u1825 + 1) (u1827 + 1) α1908 (by omega) (qm_gk g1901 (by decide) (Or.inl (by decide))) (qm_gk g1902 (by decide) (Or.inl (by decide))) (qm_gk g1903 (by decide) (Or.inr rfl)) (qm_ge _ _ _) (by omega) (by omega) hI1910 hF1911
              refine qr_icmp_ge 93 86 rfl rfl rfl (by omega) (by decide) (fun h1912 => ?_) (fun h1912 => ?_)
              · skip
                refine qr_iconst 94 rfl rfl ?_
                exact hJ1907 _ 0 (qm_gk (qm_gk (qm_gk g1822 (by decide) (Or.inl (by decide))) (by decide) (Or.inl (by decide))) (by decide) (Or.inl (by decide))) (qm_gk (qm_gk (qm_gk g1823 (by decide) (Or.inl (by decide))) (by decide) (Or.inl (by decide))) (by decide) (Or.inr rfl)) (qm_ge _ _ _) (qm_gk (qm_gk (qm_gk g1826 (by decide) (Or.inr rfl)) (by decide) (Or.inl (by decide))) (by decide) (Or.inl (by decide))) (by decide)
              · skip
                refine qr_aload_n 87 rfl (qm_gk (qm_gk (qm_gk g1823 (by decide) (Or.inl (by decide))) (by decide) (Or.inl (by decide))) (by decide) (Or.inr rfl)) rfl ?_
                refine qr_iload 89 rfl (qm_gk (qm_ge _ _ _) (by decide) (Or.inl (by decide))) rfl ?_
                refine qr_iaload 90 rfl rfl (by omega) (by decide) rfl ?_
                refine qr_topI (fun v1913 hv1913 => ?_)
                have hs1914 : (-2147483648) ≤ v1913 ∧ v1913 ≤ 2147483647 := by rw [hv1913]; exact hI1830.2.1 59 _ (show _ < 9 by omega)
                refine qr_goto 94 rfl rfl ?_
                exact hJ1907 _ v1913 (qm_gk (qm_gk (qm_gk g1822 (by decide) (Or.inl (by decide))) (by decide) (Or.inl (by decide))) (by decide) (Or.inl (by decide))) (qm_gk (qm_gk (qm_gk g1823 (by decide) (Or.inl (by decide))) (by decide) (Or.inl (by decide))) (by decide) (Or.inr rfl)) (qm_ge _ _ _) (qm_gk (qm_gk (qm_gk g1826 (by decide) (Or.inr rfl)) (by decide) (Or.inl (by decide))) (by decide) (Or.inl (by decide))) hs1914
            · skip
              refine qr_iconst 58 rfl rfl ?_
              refine qr_retI rfl rfl (by decide) (by decide) ?_
              exact ⟨_, rfl, hI1830, hF1831, 0, rfl, (by decide)⟩
  exact hL1834 ((65535 - 0 + 1 : Int)).toNat _ 0 0 α (by omega) rfl rfl rfl rfl (by decide) (by decide) hI hF0

set_option maxHeartbeats 4000000 in
set_option maxRecDepth 20000 in
/-- OneRoof$Custom.worth -/
theorem sf_97_82_59 {L : Nat} {xs : Nat → Int} {vb : Bool} {d : Nat} {σ α : Nat → Nat → Int} {κ : Nat → Option Nat} {ρ : Nat}  (hI : qI σ α κ ρ)  : qm_T (qe L xs vb) (d + 2) 97 [.ref 82, .ref 59] (qw σ α κ ρ) (fun r w' => ∃ α', w' = qw σ α' κ ρ ∧ qI σ α' κ ρ ∧ qFr [] [85] σ α σ α' ∧ ∃ v : Int, r = some (.int (qz v)) ∧ ((-2147483648) ≤ v ∧ v ≤ 2147483647)) := by
  refine qr_start (d := d + 1) qv_e97 (Nat.le_of_ble_eq_true rfl) ?_
  show qr_W (qe L xs vb) (d + 1) qx_e97 _ (0, [(0, .ref 82), (1, .ref 59)], [], _, 0, 0)
  have hF0 := qFr_rf [] [85] σ α
  refine qr_iconst 1 rfl rfl ?_
  refine qr_istore_n _ 2 rfl (by decide) rfl rfl ?_
  refine qr_iconst 3 rfl rfl ?_
  refine qr_istore_n _ 4 rfl (by decide) rfl rfl ?_
  have hL1834 : ∀ (n : Nat) (ls : qm_L) (u1825 u1827 : Int) (α1829 : Nat → Nat → Int), 65535 - u1827 < (n : Int) → qm_get ls 0 = some (.ref 82) → qm_get ls 1 = some (.ref 59) → qm_get ls 2 = some (.int (qz u1825)) → qm_get ls 3 = some (.int (qz u1827)) → (0 ≤ u1825 ∧ u1825 ≤ 120) → (0 ≤ u1827 ∧ u1827 ≤ 65535) → qI σ α1829 κ ρ → qFr [] [85] σ α σ α1829 → qr_W (qe L xs vb) (d + 1) qx_e97 (fun r w' => ∃ α', w' = qw σ α' κ ρ ∧ qI σ α' κ ρ ∧ qFr [] [85] σ α σ α' ∧ ∃ v : Int, r = some (.int (qz v)) ∧ ((-2147483648) ≤ v ∧ v ≤ 2147483647)) (4, ls, [], qw σ α1829 κ ρ, 0, 0) := by
    intro n
    induction n with
    | zero => intro ls u1825 u1827 α1829 hm g1822 g1823 g1824 g1826 hf1832 hf1833 hI1830 hF1831; exact False.elim (by omega)
    | succ n ih1835 =>
      intro ls u1825 u1827 α1829 hm g1822 g1823 g1824 g1826 hf1832 hf1833 hI1830 hF1831
      refine qr_iload_n 5 rfl g1826 rfl ?_
      refine qr_aload_n 6 rfl g1822 rfl ?_
      refine qr_get 9 rfl rfl rfl (by decide) rfl ?_
      have hs1836 : 0 ≤ σ 82 5 ∧ σ 82 5 ≤ 122 := hI1830.1 82 5
      refine qr_icmp_ge 240 12 rfl rfl rfl (qrg hf1833 (by decide) (by decide)) (qrg hs1836 (by decide) (by decide)) (fun h1837 => ?_) (fun h1837 => ?_)
      · skip
        refine qr_iconst 241 rfl rfl ?_
        refine qr_retI rfl rfl (by decide) (by decide) ?_
        exact ⟨_, rfl, hI1830, hF1831, 0, rfl, (by decide)⟩
      · skip
        refine qr_aload_n 13 rfl g1822 rfl ?_
        refine qr_get 16 rfl rfl rfl (by decide) rfl ?_
        refine qr_iload_n 17 rfl g1826 rfl ?_
        refine qr_iaload 18 rfl rfl (by omega) (by decide) rfl ?_
        refine qr_topI (fun v1838 hv1838 => ?_)
        have hs1839 : (-2147483648) ≤ v1838 ∧ v1838 ≤ 2147483647 := by rw [hv1838]; exact hI1830.2.1 84 _ (show _ < 122 by omega)
        refine qr_bipush 20 rfl (by decide) rfl ?_
        refine qr_iushr 21 rfl rfl ?_
        refine qy_can (fun v1840 hv1840 => ?_)
        refine qr_istore _ 23 rfl (by decide) rfl rfl ?_
        refine qr_aload_n 24 rfl (qm_gk g1822 (by decide) (Or.inl (by decide))) rfl ?_
        refine qr_get 27 rfl rfl rfl (by decide) rfl ?_
        refine qr_iload_n 28 rfl (qm_gk g1826 (by decide) (Or.inr rfl)) rfl ?_
        refine qr_iaload 29 rfl rfl (by omega) (by decide) rfl ?_
        refine qr_topI (fun v1841 hv1841 => ?_)
        have hs1842 : (-2147483648) ≤ v1841 ∧ v1841 ≤ 2147483647 := by rw [hv1841]; exact hI1830.2.1 84 _ (show _ < 122 by omega)
        refine qr_ldc 65535 31 rfl (by decide) rfl ?_
        refine qr_iand 32 rfl rfl ?_
        refine qy_andr (by omega) (fun v1843 hv1843 => ?_)
        refine qr_istore _ 34 rfl (by decide) rfl rfl ?_
        refine qr_iload 36 rfl (qm_gk (qm_ge _ _ _) (by decide) (Or.inr rfl)) rfl ?_
        refine qr_bipush 38 rfl (by decide) rfl ?_
        refine qr_icmp_eq 48 41 rfl rfl rfl hv1840 (by decide) (fun h1844 => ?_) (fun h1844 => ?_)
        · skip
          refine qr_iload_n 49 rfl (qm_gk (qm_gk g1824 (by decide) (Or.inl (by decide))) (by decide) (Or.inl (by decide))) rfl ?_
          refine qr_aload_n 50 rfl (qm_gk (qm_gk g1822 (by decide) (Or.inl (by decide))) (by decide) (Or.inl (by decide))) rfl ?_
          refine qr_get 53 rfl rfl rfl (by decide) rfl ?_
          refine qr_alen 54 rfl rfl (by first | exact Or.inl (by decide) | exact Or.inr (Or.inl rfl) | exact Or.inr (Or.inr (Or.inl rfl)) | exact Or.inr (Or.inr (Or.inr (Or.inl rfl)))) rfl ?_
          refine qy_v 120 rfl ?_
          refine qr_icmp_lt 59 57 rfl rfl rfl (qrg hf1832 (by decide) (by decide)) (by decide) (fun h1845 => ?_) (fun h1845 => ?_)
          · skip
            refine qr_aload_n 60 rfl (qm_gk (qm_gk g1822 (by decide) (Or.inl (by decide))) (by decide) (Or.inl (by decide))) rfl ?_
            refine qr_get 63 rfl rfl rfl (by decide) rfl ?_
            refine qr_iload_n 64 rfl (qm_gk (qm_gk g1824 (by decide) (Or.inl (by decide))) (by decide) (Or.inl (by decide))) rfl ?_
            refine qr_iinc _ 67 rfl (qm_gk (qm_gk g1824 (by decide) (Or.inl (by decide))) (by decide) (Or.inl (by decide))) (by decide) rfl rfl ?_
            refine qr_iload 69 rfl (qm_gk (qm_gk (qm_ge _ _ _) (by decide) (Or.inr rfl)) (by decide) (Or.inl (by decide))) rfl ?_
            refine qr_bipush 71 rfl (by decide) rfl ?_
            refine qr_icmp_ne 79 74 rfl rfl rfl hv1840 (by decide) (fun h => False.elim (by omega)) (fun h1846 => ?_)
            refine qr_iload 76 rfl (qm_gk (qm_ge _ _ _) (by decide) (Or.inl (by decide))) rfl ?_
            refine qr_goto 94 rfl rfl ?_
            refine qr_iastore 95 rfl (by decide) rfl (by omega) (by decide) rfl ?_
            refine qy_wA (qw_r α1829 85 (qzu (α1829 85) (u1825 : Int).toNat v1843)) rfl (fun α1847 e1848 => ?_)
            have hI1849 : qI σ α1847 κ ρ := by rw [e1848]; exact qI_r hI1830 85 _ rfl (show (-2147483648) ≤ v1843 ∧ v1843 ≤ 2147483647 by omega)
            have hF1850 : qFr [] [85] σ α σ α1847 := by rw [e1848]; exact qFr_r hF1831 85 _ (by decide)
            refine qr_goto 234 rfl rfl ?_
            refine qr_iinc _ 237 rfl (qm_gk (qm_gk (qm_gk g1826 (by decide) (Or.inr rfl)) (by decide) (Or.inl (by decide))) (by decide) (Or.inl (by decide))) (by decide) rfl rfl ?_
            refine qr_goto 4 rfl rfl ?_
            exact ih1835 _ (u1825 + 1) (u1827 + 1) α1847 (by omega) (qm_gk (qm_gk (qm_gk (qm_gk g1822 (by decide) (Or.inl (by decide))) (by decide) (Or.inl (by decide))) (by decide) (Or.inl (by decide))) (by decide) (Or.inl (by decide))) (qm_gk (qm_gk (qm_gk (qm_gk g1823 (by decide) (Or.inl (by decide))) (by decide) (Or.inl (by decide))) (by decide) (Or.inr rfl)) (by decide) (Or.inl (by decide))) (qm_gk (qm_ge _ _ _) (by decide) (Or.inr rfl)) (qm_ge _ _ _) (by omega) (by omega) hI1849 hF1850
          · skip
            refine qr_iconst 58 rfl rfl ?_
            refine qr_retI rfl rfl (by decide) (by decide) ?_
            exact ⟨_, rfl, hI1830, hF1831, 0, rfl, (by decide)⟩
        · skip
          refine qr_iload 43 rfl (qm_gk (qm_ge _ _ _) (by decide) (Or.inr rfl)) rfl ?_
          refine qr_bipush 45 rfl (by decide) rfl ?_
          refine qr_icmp_ne 98 48 rfl rfl rfl hv1840 (by decide) (fun h1851 => ?_) (fun h1851 => ?_)
          · skip
            refine qr_iload_n 99 rfl (qm_gk (qm_gk g1824 (by decide) (Or.inl (by decide))) (by decide) (Or.inl (by decide))) rfl ?_
            refine qr_iconst 100 rfl rfl ?_
            refine qr_icmp_ge 105 103 rfl rfl rfl (qrg hf1832 (by decide) (by decide)) (by decide) (fun h1852 => ?_) (fun h1852 => ?_)
            · skip
              refine qr_aload_n 106 rfl (qm_gk (qm_gk g1822 (by decide) (Or.inl (by decide))) (by decide) (Or.inl (by decide))) rfl ?_
              refine qr_get 109 rfl rfl rfl (by decide) rfl ?_
              refine qr_iload_n 110 rfl (qm_gk (qm_gk g1824 (by decide) (Or.inl (by decide))) (by decide) (Or.inl (by decide))) rfl ?_
              refine qr_iconst 111 rfl rfl ?_
              refine qr_isub 112 rfl rfl ?_
              refine qr_iaload 113 rfl rfl (by omega) (by decide) rfl ?_
              refine qr_topI (fun v1853 hv1853 => ?_)
              have hs1854 : (-2147483648) ≤ v1853 ∧ v1853 ≤ 2147483647 := by rw [hv1853]; exact hI1830.2.1 85 _ (show _ < 120 by omega)
              refine qr_istore _ 115 rfl (by decide) rfl rfl ?_
              refine qr_iload 117 rfl (qm_gk (qm_gk (qm_ge _ _ _) (by decide) (Or.inr rfl)) (by decide) (Or.inl (by decide))) rfl ?_
              refine qr_bipush 119 rfl (by decide) rfl ?_
              refine qr_icmp_ne 125 122 rfl rfl rfl hv1840 (by decide) (fun h1855 => ?_) (fun h1855 => ?_)
              · skip
                refine qr_iload 127 rfl (qm_gk (qm_gk (qm_ge _ _ _) (by decide) (Or.inr rfl)) (by decide) (Or.inl (by decide))) rfl ?_
                refine qr_bipush 129 rfl (by decide) rfl ?_
                refine qr_icmp_ne 152 132 rfl rfl rfl hv1840 (by decide) (fun h1856 => ?_) (fun h1856 => ?_)
                · skip
                  refine qr_iload 154 rfl (qm_gk (qm_gk (qm_ge _ _ _) (by decide) (Or.inr rfl)) (by decide) (Or.inl (by decide))) rfl ?_
                  refine qr_bipush 156 rfl (by decide) rfl ?_
                  refine qr_icmp_ne 180 159 rfl rfl rfl hv1840 (by decide) (fun h1857 => ?_) (fun h1857 => ?_)
                  · skip
                    refine qr_iload 182 rfl (qm_gk (qm_gk (qm_ge _ _ _) (by decide) (Or.inr rfl)) (by decide) (Or.inl (by decide))) rfl ?_
                    refine qr_bipush 184 rfl (by decide) rfl ?_
                    refine qr_icmp_ne 201 187 rfl rfl rfl hv1840 (by decide) (fun h1858 => ?_) (fun h1858 => ?_)
                    · skip
                      refine qr_iload_n 202 rfl (qm_gk (qm_gk (qm_gk g1824 (by decide) (Or.inl (by decide))) (by decide) (Or.inl (by decide))) (by decide) (Or.inl (by decide))) rfl ?_
                      refine qr_iconst 203 rfl rfl ?_
                      refine qr_icmp_ge 208 206 rfl rfl rfl (qrg hf1832 (by decide) (by decide)) (by decide) (fun h1859 => ?_) (fun h1859 => ?_)
                      · skip
                        refine qr_iinc _ 211 rfl (qm_gk (qm_gk (qm_gk g1824 (by decide) (Or.inl (by decide))) (by decide) (Or.inl (by decide))) (by decide) (Or.inl (by decide))) (by decide) rfl rfl ?_
                        as_aux_lemma =>
                          refine qr_aload_n 212 rfl (qm_gk (qm_gk (qm_gk (qm_gk g1822 (by decide) (Or.inl (by decide))) (by decide) (Or.inl (by decide))) (by decide) (Or.inl (by decide))) (by decide) (Or.inl (by decide))) rfl ?_
                          refine qr_get 215 rfl rfl rfl (by decide) rfl ?_
                          refine qr_iload_n 216 rfl (qm_ge _ _ _) rfl ?_
                          refine qr_iconst 217 rfl rfl ?_
                          refine qr_isub 218 rfl rfl ?_
                          refine qr_iload 220 rfl (qm_gk (qm_gk (qm_gk (qm_ge _ _ _) (by decide) (Or.inr rfl)) (by decide) (Or.inl (by decide))) (by decide) (Or.inl (by decide))) rfl ?_
                          refine qr_aload_n 221 rfl (qm_gk (qm_gk (qm_gk (qm_gk g1822 (by decide) (Or.inl (by decide))) (by decide) (Or.inl (by decide))) (by decide) (Or.inl (by decide))) (by decide) (Or.inl (by decide))) rfl ?_
                          refine qr_get 224 rfl rfl rfl (by decide) rfl ?_
                          refine qr_iload_n 225 rfl (qm_ge _ _ _) rfl ?_
                          refine qr_iconst 226 rfl rfl ?_
                          refine qr_isub 227 rfl rfl ?_
                          refine qr_iaload 228 rfl rfl (by omega) (by decide) rfl ?_
                          refine qr_topI (fun v1860 hv1860 => ?_)
                          have hs1861 : (-2147483648) ≤ v1860 ∧ v1860 ≤ 2147483647 := by rw [hv1860]; exact hI1830.2.1 85 _ (show _ < 120 by omega)
                          refine qr_iload 230 rfl (qm_gk (qm_ge _ _ _) (by decide) (Or.inl (by decide))) rfl ?_
                          refine qr_callN 233 rfl rfl rfl (sf_98 (d := d + 0) hI1830 hv1840 hs1861 hs1854) ?_
                          rintro _ _ ⟨rfl, v1862, rfl, hv1862⟩
                          show qr_W (qe L xs vb) (d + 1) qx_e97 _ (233, _, [.int (qz v1862), .int (qz ((u1825 + (-1)) - 1)), .ref 85], qw σ α1829 κ ρ, 0, 0)
                          refine qr_iastore 234 rfl (by decide) rfl (by omega) (by decide) rfl ?_
                          refine qy_wA (qw_r α1829 85 (qzu (α1829 85) (((u1825 + (-1)) - 1) : Int).toNat v1862)) rfl (fun α1863 e1864 => ?_)
                          have hI1865 : qI σ α1863 κ ρ := by rw [e1864]; exact qI_r hI1830 85 _ rfl (show (-2147483648) ≤ v1862 ∧ v1862 ≤ 2147483647 by omega)
                          have hF1866 : qFr [] [85] σ α σ α1863 := by rw [e1864]; exact qFr_r hF1831 85 _ (by decide)
                          refine qr_iinc _ 237 rfl (qm_gk (qm_gk (qm_gk (qm_gk g1826 (by decide) (Or.inr rfl)) (by decide) (Or.inl (by decide))) (by decide) (Or.inl (by decide))) (by decide) (Or.inl (by decide))) (by decide) rfl rfl ?_
                          refine qr_goto 4 rfl rfl ?_
                          exact ih1835 _ (u1825 + (-1)) (u1827 + 1) α1863 (by omega) (qm_gk (qm_gk (qm_gk (qm_gk (qm_gk g1822 (by decide) (Or.inl (by decide))) (by decide) (Or.inl (by decide))) (by decide) (Or.inl (by decide))) (by decide) (Or.inl (by decide))) (by decide) (Or.inl (by decide))) (qm_gk (qm_gk (qm_gk (qm_gk (qm_gk g1823 (by decide) (Or.inl (by decide))) (by decide) (Or.inl (by decide))) (by decide) (Or.inl (by decide))) (by decide) (Or.inr rfl)) (by decide) (Or.inl (by decide))) (qm_gk (qm_ge _ _ _) (by decide) (Or.inr rfl)) (qm_ge _ _ _) (by omega) (by omega) hI1865 hF1866
                      · skip
                        refine qr_iconst 207 rfl rfl ?_
                        as_aux_lemma =>
                          refine qr_retI rfl rfl (by decide) (by decide) ?_
                          exact ⟨_, rfl, hI1830, hF1831, 0, rfl, (by decide)⟩
                    · skip
                      refine qr_aload_n 188 rfl (qm_gk (qm_gk (qm_gk g1822 (by decide) (Or.inl (by decide))) (by decide) (Or.inl (by decide))) (by decide) (Or.inl (by decide))) rfl ?_
                      refine qr_get 191 rfl rfl rfl (by decide) rfl ?_
                      refine qr_iload_n 192 rfl (qm_gk (qm_gk (qm_gk g1824 (by decide) (Or.inl (by decide))) (by decide) (Or.inl (by decide))) (by decide) (Or.inl (by decide))) rfl ?_
                      refine qr_iconst 193 rfl rfl ?_
                      as_aux_lemma =>
                        refine qr_isub 194 rfl rfl ?_
                        refine qr_iload 196 rfl (qm_ge _ _ _) rfl ?_
                        refine qr_ineg 197 rfl rfl ?_
                        refine qy_can (fun v1867 hv1867 => ?_)
                        refine qr_iastore 198 rfl (by decide) rfl (by omega) (by decide) rfl ?_
                        refine qy_wA (qw_r α1829 85 (qzu (α1829 85) ((u1825 - 1) : Int).toNat v1867)) rfl (fun α1868 e1869 => ?_)
                        have hI1870 : qI σ α1868 κ ρ := by rw [e1869]; exact qI_r hI1830 85 _ rfl (show (-2147483648) ≤ v1867 ∧ v1867 ≤ 2147483647 by omega)
                        have hF1871 : qFr [] [85] σ α σ α1868 := by rw [e1869]; exact qFr_r hF1831 85 _ (by decide)
                        refine qr_goto 234 rfl rfl ?_
                        refine qr_iinc _ 237 rfl (qm_gk (qm_gk (qm_gk g1826 (by decide) (Or.inr rfl)) (by decide) (Or.inl (by decide))) (by decide) (Or.inl (by decide))) (by decide) rfl rfl ?_
                        refine qr_goto 4 rfl rfl ?_
                        exact ih1835 _ u1825 (u1827 + 1) α1868 (by omega) (qm_gk (qm_gk (qm_gk (qm_gk g1822 (by decide) (Or.inl (by decide))) (by decide) (Or.inl (by decide))) (by decide) (Or.inl (by decide))) (by decide) (Or.inl (by decide))) (qm_gk (qm_gk (qm_gk (qm_gk g1823 (by decide) (Or.inl (by decide))) (by decide) (Or.inl (by decide))) (by decide) (Or.inl (by decide))) (by decide) (Or.inl (by decide))) (qm_gk (qm_gk (qm_gk (qm_gk g1824 (by decide) (Or.inl (by decide))) (by decide) (Or.inl (by decide))) (by decide) (Or.inl (by decide))) (by decide) (Or.inr rfl)) (qm_ge _ _ _) hf1832 (by omega) hI1870 hF1871
                  · skip
                    refine qr_aload_n 160 rfl (qm_gk (qm_gk (qm_gk g1822 (by decide) (Or.inl (by decide))) (by decide) (Or.inl (by decide))) (by decide) (Or.inl (by decide))) rfl ?_
                    refine qr_get 163 rfl rfl rfl (by decide) rfl ?_
                    refine qr_iload_n 164 rfl (qm_gk (qm_gk (qm_gk g1824 (by decide) (Or.inl (by decide))) (by decide) (Or.inl (by decide))) (by decide) (Or.inl (by decide))) rfl ?_
                    refine qr_iconst 165 rfl rfl ?_
                    refine qr_isub 166 rfl rfl ?_
                    refine qr_iload 168 rfl (qm_ge _ _ _) rfl ?_
                    have hJ1878 : ∀ (ls : qm_L) (u1876 : Int), qm_get ls 0 = some (.ref 82) → qm_get ls 1 = some (.ref 59) → qm_get ls 2 = some (.int (qz u1825)) → qm_get ls 3 = some (.int (qz u1827)) → (0 ≤ u1876 ∧ u1876 ≤ 1) → qr_W (qe L xs vb) (d + 1) qx_e97 (fun r w' => ∃ α', w' = qw σ α' κ ρ ∧ qI σ α' κ ρ ∧ qFr [] [85] σ α σ α' ∧ ∃ v : Int, r = some (.int (qz v)) ∧ ((-2147483648) ≤ v ∧ v ≤ 2147483647)) (176, ls, [.int (qz u1876), .int (qz (u1825 - 1)), .ref 85], qw σ α1829 κ ρ, 0, 0) := by
                      intro ls u1876 g1872 g1873 g1874 g1875 hf1877
                      refine qr_iastore 177 rfl (by decide) rfl (by omega) (by decide) rfl ?_
                      refine qy_wA (qw_r α1829 85 (qzu (α1829 85) ((u1825 - 1) : Int).toNat u1876)) rfl (fun α1879 e1880 => ?_)
                      have hI1881 : qI σ α1879 κ ρ := by rw [e1880]; exact qI_r hI1830 85 _ rfl (show (-2147483648) ≤ u1876 ∧ u1876 ≤ 2147483647 by omega)
                      have hF1882 : qFr [] [85] σ α σ α1879 := by rw [e1880]; exact qFr_r hF1831 85 _ (by decide)
                      refine qr_goto 234 rfl rfl ?_
                      refine qr_iinc _ 237 rfl g1875 (by decide) rfl rfl ?_
                      refine qr_goto 4 rfl rfl ?_
                      exact ih1835 _ u1825 (u1827 + 1) α1879 (by omega) (qm_gk g1872 (by decide) (Or.inl (by decide))) (qm_gk g1873 (by decide) (Or.inl (by decide))) (qm_gk g1874 (by decide) (Or.inr rfl)) (qm_ge _ _ _) hf1832 (by omega) hI1881 hF1882
                    refine qr_if_ne 175 171 rfl rfl rfl hs1854 (fun h1883 => ?_) (fun h1883 => ?_)
                    · skip
                      as_aux_lemma =>
                        refine qr_iconst 176 rfl rfl ?_
                        exact hJ1878 _ 0 (qm_gk (qm_gk (qm_gk g1822 (by decide) (Or.inl (by decide))) (by decide) (Or.inl (by decide))) (by decide) (Or.inl (by decide))) (qm_gk (qm_gk (qm_gk g1823 (by decide) (Or.inl (by decide))) (by decide) (Or.inl (by decide))) (by decide) (Or.inl (by decide))) (qm_gk (qm_gk (qm_gk g1824 (by decide) (Or.inl (by decide))) (by decide) (Or.inl (by decide))) (by decide) (Or.inl (by decide))) (qm_gk (qm_gk (qm_gk g1826 (by decide) (Or.inr rfl)) (by decide) (Or.inl (by decide))) (by decide) (Or.inl (by decide))) (by decide)
                    · skip
                      as_aux_lemma =>
                        refine qr_iconst 172 rfl rfl ?_
                        refine qr_goto 176 rfl rfl ?_
                        exact hJ1878 _ 1 (qm_gk (qm_gk (qm_gk g1822 (by decide) (Or.inl (by decide))) (by decide) (Or.inl (by decide))) (by decide) (Or.inl (by decide))) (qm_gk (qm_gk (qm_gk g1823 (by decide) (Or.inl (by decide))) (by decide) (Or.inl (by decide))) (by decide) (Or.inl (by decide))) (qm_gk (qm_gk (qm_gk g1824 (by decide) (Or.inl (by decide))) (by decide) (Or.inl (by decide))) (by decide) (Or.inl (by decide))) (qm_gk (qm_gk (qm_gk g1826 (by decide) (Or.inr rfl)) (by decide) (Or.inl (by decide))) (by decide) (Or.inl (by decide))) (by decide)
                · skip
                  refine qr_iinc _ 135 rfl (qm_gk (qm_gk (qm_gk g1824 (by decide) (Or.inl (by decide))) (by decide) (Or.inl (by decide))) (by decide) (Or.inl (by decide))) (by decide) rfl rfl ?_
                  refine qr_iload 137 rfl (qm_gk (qm_ge _ _ _) (by decide) (Or.inl (by decide))) rfl ?_
                  have hJ1893 : ∀ (ls : qm_L) (u1890 : Int), qm_get ls 0 = some (.ref 82) → qm_get ls 1 = some (.ref 59) → qm_get ls 2 = some (.int (qz (u1825 + (-1)))) → qm_get ls 3 = some (.int (qz u1890)) → (0 ≤ u1890 ∧ u1890 ≤ 65534) → u1827 ≤ u1890 → qr_W (qe L xs vb) (d + 1) qx_e97 (fun r w' => ∃ α', w' = qw σ α' κ ρ ∧ qI σ α' κ ρ ∧ qFr [] [85] σ α σ α' ∧ ∃ v : Int, r = some (.int (qz v)) ∧ ((-2147483648) ≤ v ∧ v ≤ 2147483647)) (234, ls, [], qw σ α1829 κ ρ, 0, 0) := by
                    intro ls u1890 g1886 g1887 g1888 g1889 hf1891 hx1892
                    refine qr_iinc _ 237 rfl g1889 (by decide) rfl rfl ?_
                    refine qr_goto 4 rfl rfl ?_
                    exact ih1835 _ (u1825 + (-1)) (u1890 + 1) α1829 (by omega) (qm_gk g1886 (by decide) (Or.inl (by decide))) (qm_gk g1887 (by decide) (Or.inl (by decide))) (qm_gk g1888 (by decide) (Or.inr rfl)) (qm_ge _ _ _) (by omega) (by omega) hI1830 hF1831
                  refine qr_if_ne 234 140 rfl rfl rfl hs1854 (fun h1894 => ?_) (fun h1894 => ?_)
                  · skip
                    exact hJ1893 _ u1827 (qm_gk (qm_gk (qm_gk (qm_gk g1822 (by decide) (Or.inl (by decide))) (by decide) (Or.inl (by decide))) (by decide) (Or.inl (by decide))) (by decide) (Or.inl (by decide))) (qm_gk (qm_gk (qm_gk (qm_gk g1823 (by decide) (Or.inl (by decide))) (by decide) (Or.inl (by decide))) (by decide) (Or.inl (by decide))) (by decide) (Or.inr rfl)) (qm_ge _ _ _) (qm_gk (qm_gk (qm_gk (qm_gk g1826 (by decide) (Or.inr rfl)) (by decide) (Or.inl (by decide))) (by decide) (Or.inl (by decide))) (by decide) (Or.inl (by decide))) (by omega) (by omega)
                  · skip
                    refine qr_iload_n 141 rfl (qm_gk (qm_gk (qm_gk (qm_gk g1826 (by decide) (Or.inr rfl)) (by decide) (Or.inl (by decide))) (by decide) (Or.inl (by decide))) (by decide) (Or.inl (by decide))) rfl ?_
                    refine qr_iload 143 rfl (qm_gk (qm_gk (qm_ge _ _ _) (by decide) (Or.inr rfl)) (by decide) (Or.inl (by decide))) rfl ?_
                    refine qr_iconst 144 rfl rfl ?_
                    refine qr_isub 145 rfl rfl ?_
                    refine qr_callN 148 rfl rfl rfl (sf_30 (d := d + 0) hI1830 (qrg hf1833 (by decide) (by decide)) (by omega)) ?_
                    rintro _ _ ⟨rfl, v1895, rfl, hv1895, hp1896⟩
                    show qr_W (qe L xs vb) (d + 1) qx_e97 _ (148, _, [.int (qz v1895)], qw σ α1829 κ ρ, 0, 0)
                    refine qr_istore_n _ 149 rfl (by decide) rfl rfl ?_
                    refine qr_goto 234 rfl rfl ?_
                    exact hJ1893 _ v1895 (qm_gk (qm_gk (qm_gk (qm_gk (qm_gk g1822 (by decide) (Or.inl (by decide))) (by decide) (Or.inl (by decide))) (by decide) (Or.inl (by decide))) (by decide) (Or.inl (by decide))) (by decide) (Or.inl (by decide))) (qm_gk (qm_gk (qm_gk (qm_gk (qm_gk g1823 (by decide) (Or.inl (by decide))) (by decide) (Or.inl (by decide))) (by decide) (Or.inl (by decide))) (by decide) (Or.inr rfl)) (by decide) (Or.inl (by decide))) (qm_gk (qm_ge _ _ _) (by decide) (Or.inr rfl)) (qm_ge _ _ _) (by omega) (by omega)
              · skip
                refine qr_iload 124 rfl (qm_ge _ _ _) rfl ?_
                refine qr_retI rfl rfl (by decide) (by decide) ?_
                exact ⟨_, rfl, hI1830, hF1831, v1853, rfl, hs1854⟩
            · skip
              refine qr_iconst 104 rfl rfl ?_
              refine qr_retI rfl rfl (by decide) (by decide) ?_
              exact ⟨_, rfl, hI1830, hF1831, 0, rfl, (by decide)⟩
          · skip
            refine qr_iload_n 49 rfl (qm_gk (qm_gk g1824 (by decide) (Or.inl (by decide))) (by decide) (Or.inl (by decide))) rfl ?_
            refine qr_aload_n 50 rfl (qm_gk (qm_gk g1822 (by decide) (Or.inl (by decide))) (by decide) (Or.inl (by decide))) rfl ?_
            refine qr_get 53 rfl rfl rfl (by decide) rfl ?_
            refine qr_alen 54 rfl rfl (by first | exact Or.inl (by decide) | exact Or.inr (Or.inl rfl) | exact Or.inr (Or.inr (Or.inl rfl)) | exact Or.inr (Or.inr (Or.inr (Or.inl rfl)))) rfl ?_
            refine qy_v 120 rfl ?_
            refine qr_icmp_lt 59 57 rfl rfl rfl (qrg hf1832 (by decide) (by decide)) (by decide) (fun h1897 => ?_) (fun h1897 => ?_)
            · skip
              refine qr_aload_n 60 rfl (qm_gk (qm_gk g1822 (by decide) (Or.inl (by decide))) (by decide) (Or.inl (by decide))) rfl ?_
              refine qr_get 63 rfl rfl rfl (by decide) rfl ?_
              refine qr_iload_n 64 rfl (qm_gk (qm_gk g1824 (by decide) (Or.inl (by decide))) (by decide) (Or.inl (by decide))) rfl ?_
              refine qr_iinc _ 67 rfl (qm_gk (qm_gk g1824 (by decide) (Or.inl (by decide))) (by decide) (Or.inl (by decide))) (by decide) rfl rfl ?_
              refine qr_iload 69 rfl (qm_gk (qm_gk (qm_ge _ _ _) (by decide) (Or.inr rfl)) (by decide) (Or.inl (by decide))) rfl ?_
              refine qr_bipush 71 rfl (by decide) rfl ?_
              refine qr_icmp_ne 79 74 rfl rfl rfl hv1840 (by decide) (fun h1898 => ?_) (fun h => False.elim (by omega))
              refine qr_iload 81 rfl (qm_gk (qm_ge _ _ _) (by decide) (Or.inl (by decide))) rfl ?_
              refine qr_aload_n 82 rfl (qm_gk (qm_gk (qm_gk g1823 (by decide) (Or.inl (by decide))) (by decide) (Or.inl (by decide))) (by decide) (Or.inr rfl)) rfl ?_
              refine qr_alen 83 rfl rfl (by first | exact Or.inl (by decide) | exact Or.inr (Or.inl rfl) | exact Or.inr (Or.inr (Or.inl rfl)) | exact Or.inr (Or.inr (Or.inr (Or.inl rfl)))) rfl ?_
              refine qy_v 9 rfl ?_
              have hJ1907 : ∀ (ls : qm_L) (u1905 : Int), qm_get ls 0 = some (.ref 82) → qm_get ls 1 = some (.ref 59) → qm_get ls 2 = some (.int (qz (u1825 + 1))) → qm_get ls 3 = some (.int (qz u1827)) → ((-2147483648) ≤ u1905 ∧ u1905 ≤ 2147483647) → qr_W (qe L xs vb) (d + 1) qx_e97 (fun r w' => ∃ α', w' = qw σ α' κ ρ ∧ qI σ α' κ ρ ∧ qFr [] [85] σ α σ α' ∧ ∃ v : Int, r = some (.int (qz v)) ∧ ((-2147483648) ≤ v ∧ v ≤ 2147483647)) (94, ls, [.int (qz u1905), .int (qz u1825), .ref 85], qw σ α1829 κ ρ, 0, 0) := by
                intro ls u1905 g1901 g1902 g1903 g1904 hf1906
                refine qr_iastore 95 rfl (by decide) rfl (by omega) (by decide) rfl ?_
                refine qy_wA (qw_r α1829 85 (qzu (α1829 85) (u1825 : Int).toNat u1905)) rfl (fun α1908 e1909 => ?_)
                have hI1910 : qI σ α1908 κ ρ := by rw [e1909]; exact qI_r hI1830 85 _ rfl (show (-2147483648) ≤ u1905 ∧ u1905 ≤ 2147483647 by omega)
                have hF1911 : qFr [] [85] σ α σ α1908 := by rw [e1909]; exact qFr_r hF1831 85 _ (by decide)
                refine qr_goto 234 rfl rfl ?_
                refine qr_iinc _ 237 rfl g1904 (by decide) rfl rfl ?_
                refine qr_goto 4 rfl rfl ?_
                exact ih1835 _ (u1825 + 1) (u1827 + 1) α1908 (by omega) (qm_gk g1901 (by decide) (Or.inl (by decide))) (qm_gk g1902 (by decide) (Or.inl (by decide))) (qm_gk g1903 (by decide) (Or.inr rfl)) (qm_ge _ _ _) (by omega) (by omega) hI1910 hF1911
              refine qr_icmp_ge 93 86 rfl rfl rfl (by omega) (by decide) (fun h1912 => ?_) (fun h1912 => ?_)
              · skip
                refine qr_iconst 94 rfl rfl ?_
                exact hJ1907 _ 0 (qm_gk (qm_gk (qm_gk g1822 (by decide) (Or.inl (by decide))) (by decide) (Or.inl (by decide))) (by decide) (Or.inl (by decide))) (qm_gk (qm_gk (qm_gk g1823 (by decide) (Or.inl (by decide))) (by decide) (Or.inl (by decide))) (by decide) (Or.inr rfl)) (qm_ge _ _ _) (qm_gk (qm_gk (qm_gk g1826 (by decide) (Or.inr rfl)) (by decide) (Or.inl (by decide))) (by decide) (Or.inl (by decide))) (by decide)
              · skip
                refine qr_aload_n 87 rfl (qm_gk (qm_gk (qm_gk g1823 (by decide) (Or.inl (by decide))) (by decide) (Or.inl (by decide))) (by decide) (Or.inr rfl)) rfl ?_
                refine qr_iload 89 rfl (qm_gk (qm_ge _ _ _) (by decide) (Or.inl (by decide))) rfl ?_
                refine qr_iaload 90 rfl rfl (by omega) (by decide) rfl ?_
                refine qr_topI (fun v1913 hv1913 => ?_)
                have hs1914 : (-2147483648) ≤ v1913 ∧ v1913 ≤ 2147483647 := by rw [hv1913]; exact hI1830.2.1 59 _ (show _ < 9 by omega)
                refine qr_goto 94 rfl rfl ?_
                exact hJ1907 _ v1913 (qm_gk (qm_gk (qm_gk g1822 (by decide) (Or.inl (by decide))) (by decide) (Or.inl (by decide))) (by decide) (Or.inl (by decide))) (qm_gk (qm_gk (qm_gk g1823 (by decide) (Or.inl (by decide))) (by decide) (Or.inl (by decide))) (by decide) (Or.inr rfl)) (qm_ge _ _ _) (qm_gk (qm_gk (qm_gk g1826 (by decide) (Or.inr rfl)) (by decide) (Or.inl (by decide))) (by decide) (Or.inl (by decide))) hs1914
            · skip
              refine qr_iconst 58 rfl rfl ?_
              refine qr_retI rfl rfl (by decide) (by decide) ?_
              exact ⟨_, rfl, hI1830, hF1831, 0, rfl, (by decide)⟩
  exact hL1834 ((65535 - 0 + 1 : Int)).toNat _ 0 0 α (by omega) rfl rfl rfl rfl (by decide) (by decide) hI hF0
end
section
set_option maxHeartbeats 4000000 in
set_option maxRecDepth 20000 in
/-- OneRoof$Moment.turnsAt -/
theorem sf_101_58 {L : Nat} {xs : Nat → Int} {vb : Bool} {d : Nat} {σ α : Nat → Nat → Int} {κ : Nat → Option Nat} {ρ : Nat} {x1 : Int} (hI : qI σ α κ ρ) (r1 : (-2147483648) ≤ x1 ∧ x1 ≤ 2147483647) : qm_T (qe L xs vb) (d + 2) 101 [.ref 58, .int (qz x1)] (qw σ α κ ρ) (fun r w' => w' = qw σ α κ ρ ∧ ∃ v : Int, r = some (.int (qz v)) ∧ (0 ≤ v ∧ v ≤ 1)) := by
  refine qr_start (d := d + 1) qv_e101 (Nat.le_of_ble_eq_true rfl) ?_
  show qr_W (qe L xs vb) (d + 1) qx_e101 _ (0, [(0, .ref 58), (1, .int (qz x1))], [], _, 0, 0)
  refine qr_aload_n 1 rfl rfl rfl ?_
  refine qr_get 4 rfl rfl rfl (by decide) rfl ?_
  refine qr_iload_n 5 rfl rfl rfl ?_
  refine qr_callN 8 rfl rfl rfl (sf_102_27 (d := d + 0) hI r1) ?_
  rintro _ _ ⟨rfl, v1, rfl, hv1⟩
  show qr_W (qe L xs vb) (d + 1) qx_e101 _ (8, _, [.int (qz v1)], qw σ α κ ρ, 0, 0)
  refine qr_if_ne 22 11 rfl rfl rfl (qrg hv1 (by decide) (by decide)) (fun h2 => ?_) (fun h2 => ?_)
  · skip
    refine qr_iconst 23 rfl rfl ?_
    refine qr_goto 27 rfl rfl ?_
    refine qr_retZ rfl rfl (Or.inr rfl) (by decide) (by decide) ?_
    exact ⟨rfl, 1, rfl, (by decide)⟩
  · skip
    refine qr_aload_n 12 rfl rfl rfl ?_
    refine qr_get 15 rfl rfl rfl (by decide) rfl ?_
    refine qr_iload_n 16 rfl rfl rfl ?_
    refine qr_callN 19 rfl rfl rfl (sf_103_34 (d := d + 0) hI r1) ?_
    rintro _ _ ⟨rfl, v3, rfl, hv3⟩
    show qr_W (qe L xs vb) (d + 1) qx_e101 _ (19, _, [.int (qz v3)], qw σ α κ ρ, 0, 0)
    refine qr_if_eq 26 22 rfl rfl rfl (qrg hv3 (by decide) (by decide)) (fun h4 => ?_) (fun h4 => ?_)
    · skip
      refine qr_iconst 27 rfl rfl ?_
      refine qr_retZ rfl rfl (Or.inl rfl) (by decide) (by decide) ?_
      exact ⟨rfl, 0, rfl, (by decide)⟩
    · skip
      refine qr_iconst 23 rfl rfl ?_
      refine qr_goto 27 rfl rfl ?_
      refine qr_retZ rfl rfl (Or.inr rfl) (by decide) (by decide) ?_
      exact ⟨rfl, 1, rfl, (by decide)⟩

set_option maxHeartbeats 4000000 in
set_option maxRecDepth 20000 in
/-- OneRoof$Pegs.has -/
theorem sf_44_44 {L : Nat} {xs : Nat → Int} {vb : Bool} {d : Nat} {σ α : Nat → Nat → Int} {κ : Nat → Option Nat} {ρ : Nat} {x1 : Int} (hI : qI σ α κ ρ) (r1 : (-2147483648) ≤ x1 ∧ x1 ≤ 2147483647) : qm_T (qe L xs vb) (d + 1) 44 [.ref 44, .int (qz x1)] (qw σ α κ ρ) (fun r w' => w' = qw σ α κ ρ ∧ ∃ v : Int, r = some (.int (qz v)) ∧ (0 ≤ v ∧ v ≤ 1) ∧ ((v = 1 ∧ 0 ≤ x1 ∧ x1 < 6) ∨ (v = 0 ∧ ¬ (0 ≤ x1 ∧ x1 < 6)))) := by
  refine qr_start (d := d + 0) qv_e44 (Nat.le_of_ble_eq_true rfl) ?_
  show qr_W (qe L xs vb) (d + 0) qx_e44 _ (0, [(0, .ref 44), (1, .int (qz x1))], [], _, 0, 0)
  refine qr_iload_n 1 rfl rfl rfl ?_
  refine qr_if_lt 14 4 rfl rfl rfl r1 (fun h1 => ?_) (fun h1 => ?_)
  · skip
    refine qr_iconst 15 rfl rfl ?_
    refine qr_retZ rfl rfl (Or.inl rfl) (by decide) (by decide) ?_
    exact ⟨rfl, 0, rfl, (by decide), by omega⟩
  · skip
    refine qr_iload_n 5 rfl rfl rfl ?_
    refine qr_bipush 7 rfl (by decide) rfl ?_
    refine qr_icmp_ge 14 10 rfl rfl rfl r1 (by decide) (fun h2 => ?_) (fun h2 => ?_)
    · skip
      refine qr_iconst 15 rfl rfl ?_
      refine qr_retZ rfl rfl (Or.inl rfl) (by decide) (by decide) ?_
      exact ⟨rfl, 0, rfl, (by decide), by omega⟩
    · skip
      refine qr_iconst 11 rfl rfl ?_
      refine qr_goto 15 rfl rfl ?_
      refine qr_retZ rfl rfl (Or.inr rfl) (by decide) (by decide) ?_
      exact ⟨rfl, 1, rfl, (by decide), by omega⟩

set_option maxHeartbeats 4000000 in
set_option maxRecDepth 20000 in
/-- OneRoof$Pegs.isEmpty -/
theorem sf_45_44 {L : Nat} {xs : Nat → Int} {vb : Bool} {d : Nat} {σ α : Nat → Nat → Int} {κ : Nat → Option Nat} {ρ : Nat} {x1 : Int} (hI : qI σ α κ ρ) (r1 : 0 ≤ x1 ∧ x1 ≤ 5) : qm_T (qe L xs vb) (d + 1) 45 [.ref 44, .int (qz x1)] (qw σ α κ ρ) (fun r w' => w' = qw σ α κ ρ ∧ ∃ v : Int, r = some (.int (qz v)) ∧ (0 ≤ v ∧ v ≤ 1)) := by
  refine qr_start (d := d + 0) qv_e45 (Nat.le_of_ble_eq_true rfl) ?_
  show qr_W (qe L xs vb) (d + 0) qx_e45 _ (0, [(0, .ref 44), (1, .int (qz x1))], [], _, 0, 0)
  refine qr_aload_n 1 rfl rfl rfl ?_
  refine qr_get 4 rfl rfl rfl (by decide) rfl ?_
  refine qr_iload_n 5 rfl rfl rfl ?_
  refine qr_iaload 6 rfl rfl (qrgi r1 (by decide) (by decide)) (by decide) rfl ?_
  refine qr_topI (fun v1 hv1 => ?_)
  have hs2 : 0 ≤ v1 ∧ v1 ≤ 6 := by rw [hv1]; exact hI.2.1 45 _ (show _ < 6 from qrgt r1 (by decide) (by decide))
  refine qr_bipush 8 rfl (by decide) rfl ?_
  refine qr_icmp_ne 15 11 rfl rfl rfl (qrg hs2 (by decide) (by decide)) (by decide) (fun h3 => ?_) (fun h3 => ?_)
  · skip
    refine qr_iconst 16 rfl rfl ?_
    refine qr_retZ rfl rfl (Or.inl rfl) (by decide) (by decide) ?_
    exact ⟨rfl, 0, rfl, (by decide)⟩
  · skip
    refine qr_iconst 12 rfl rfl ?_
    refine qr_goto 16 rfl rfl ?_
    refine qr_retZ rfl rfl (Or.inr rfl) (by decide) (by decide) ?_
    exact ⟨rfl, 1, rfl, (by decide)⟩

set_option maxHeartbeats 4000000 in
set_option maxRecDepth 20000 in
/-- OneRoof$Pegs.peaceOn -/
theorem sf_168_44 {L : Nat} {xs : Nat → Int} {vb : Bool} {d : Nat} {σ α : Nat → Nat → Int} {κ : Nat → Option Nat} {ρ : Nat} {x1 : Int} (hI : qI σ α κ ρ) (r1 : 0 ≤ x1 ∧ x1 ≤ 5) : qm_T (qe L xs vb) (d + 1) 168 [.ref 44, .int (qz x1)] (qw σ α κ ρ) (fun r w' => w' = qw σ α κ ρ ∧ ∃ v : Int, r = some (.int (qz v)) ∧ ((-1) ≤ v ∧ v ≤ 59)) := by
  refine qr_start (d := d + 0) qv_e168 (Nat.le_of_ble_eq_true rfl) ?_
  show qr_W (qe L xs vb) (d + 0) qx_e168 _ (0, [(0, .ref 44), (1, .int (qz x1))], [], _, 0, 0)
  refine qr_aload_n 1 rfl rfl rfl ?_
  refine qr_get 4 rfl rfl rfl (by decide) rfl ?_
  refine qr_iload_n 5 rfl rfl rfl ?_
  refine qr_iaload 6 rfl rfl (qrgi r1 (by decide) (by decide)) (by decide) rfl ?_
  refine qr_topI (fun v1 hv1 => ?_)
  have hs2 : 0 ≤ v1 ∧ v1 ≤ 6 := by rw [hv1]; exact hI.2.1 45 _ (show _ < 6 from qrgt r1 (by decide) (by decide))
  refine qr_iconst 7 rfl rfl ?_
  refine qr_icmp_ne 19 10 rfl rfl rfl (qrg hs2 (by decide) (by decide)) (by decide) (fun h3 => ?_) (fun h3 => ?_)
  · skip
    refine qr_iconst 20 rfl rfl ?_
    refine qr_retI rfl rfl (by decide) (by decide) ?_
    exact ⟨rfl, (-1), rfl, (by decide)⟩
  · skip
    refine qr_aload_n 11 rfl rfl rfl ?_
    refine qr_get 14 rfl rfl rfl (by decide) rfl ?_
    refine qr_iload_n 15 rfl rfl rfl ?_
    refine qr_iaload 16 rfl rfl (qrgi r1 (by decide) (by decide)) (by decide) rfl ?_
    refine qr_topI (fun v4 hv4 => ?_)
    have hs5 : (-1) ≤ v4 ∧ v4 ≤ 59 := by rw [hv4]; exact hI.2.1 47 _ (show _ < 6 from qrgt r1 (by decide) (by decide))
    refine qr_goto 20 rfl rfl ?_
    refine qr_retI rfl rfl (by decide) (by decide) ?_
    exact ⟨rfl, v4, rfl, hs5⟩

set_option maxHeartbeats 4000000 in
set_option maxRecDepth 20000 in
/-- OneRoof$Moment.cell -/
theorem sf_93 {L : Nat} {xs : Nat → Int} {vb : Bool} {d : Nat} {σ α : Nat → Nat → Int} {κ : Nat → Option Nat} {ρ : Nat} {x0 : Int} {x1 : Int} (hI : qI σ α κ ρ) (r0 : 0 ≤ x0 ∧ x0 ≤ 31) (r1 : 0 ≤ x1 ∧ x1 ≤ 31) (p0 : ¬ x0 = x1) : qm_T (qe L xs vb) (d + 2) 93 [.int (qz x0), .int (qz x1)] (qw σ α κ ρ) (fun r w' => w' = qw σ α κ ρ ∧ ∃ v : Int, r = some (.int (qz v)) ∧ (0 ≤ v ∧ v ≤ 495)) := by
  refine qr_start (d := d + 1) qv_e93 (Nat.le_of_ble_eq_true rfl) ?_
  show qr_W (qe L xs vb) (d + 1) qx_e93 _ (0, [(0, .int (qz x0)), (1, .int (qz x1))], [], _, 0, 0)
  refine qr_iload_n 1 rfl rfl rfl ?_
  refine qr_iload_n 2 rfl rfl rfl ?_
  refine qr_callN 5 rfl rfl rfl (sf_12 (d := d + 0) hI (qrg r0 (by decide) (by decide)) (qrg r1 (by decide) (by decide))) ?_
  rintro _ _ ⟨rfl, v1, rfl, hv1, hp2⟩
  show qr_W (qe L xs vb) (d + 1) qx_e93 _ (5, _, [.int (qz v1)], qw σ α κ ρ, 0, 0)
  refine qr_istore_n _ 6 rfl (by decide) rfl rfl ?_
  refine qr_iload_n 7 rfl rfl rfl ?_
  refine qr_iload_n 8 rfl rfl rfl ?_
  refine qr_callN 11 rfl rfl rfl (sf_30 (d := d + 0) hI (qrg r0 (by decide) (by decide)) (qrg r1 (by decide) (by decide))) ?_
  rintro _ _ ⟨rfl, v3, rfl, hv3, hp4⟩
  show qr_W (qe L xs vb) (d + 1) qx_e93 _ (11, _, [.int (qz v3)], qw σ α κ ρ, 0, 0)
  refine qr_istore_n _ 12 rfl (by decide) rfl rfl ?_
  refine qr_iload_n 13 rfl rfl rfl ?_
  refine qr_iload_n 14 rfl rfl rfl ?_
  refine qr_iconst 15 rfl rfl ?_
  refine qr_isub 16 rfl rfl ?_
  refine qr_imul 17 rfl rfl ?_
  refine qy_mulb (A := 31) (B := 30) (C := 930) (by omega) (by omega) (by decide) (fun v5 hv5 => ?_)
  refine qr_iconst 18 rfl rfl ?_
  refine qr_idiv 19 rfl (by omega) (by decide) rfl ?_
  refine qr_iload_n 20 rfl rfl rfl ?_
  refine qr_iadd 21 rfl rfl ?_
  refine qr_retI rfl rfl (by decide) (by decide) ?_
  exact ⟨rfl, ((v5 / 2) + v1), rfl, (by omega)⟩

set_option maxHeartbeats 4000000 in
set_option maxRecDepth 20000 in
/-- java/util/Arrays.fill -/
theorem sf_4_66 {L : Nat} {xs : Nat → Int} {vb : Bool} {d : Nat} {σ α : Nat → Nat → Int} {κ : Nat → Option Nat} {ρ : Nat} {x1 : Int} (hI : qI σ α κ ρ) (r1 : (-2147483648) ≤ x1 ∧ x1 ≤ 2147483647) : qm_T (qe L xs vb) (d + 1) 4 [.ref 66, .int (qz x1)] (qw σ α κ ρ) (fun r w' => ∃ α', w' = qw σ α' κ ρ ∧ qI σ α' κ ρ ∧ qFr [] [66] σ α σ α' ∧ r = none) := by
  refine qr_start (d := d + 0) qv_e4 (Nat.le_of_ble_eq_true rfl) ?_
  show qr_W (qe L xs vb) (d + 0) qx_e4 _ (0, [(0, .ref 66), (1, .int (qz x1))], [], _, 0, 0)
  have hF0 := qFr_rf [] [66] σ α
  refine qr_iconst 1 rfl rfl ?_
  refine qr_istore_n _ 2 rfl (by decide) rfl rfl ?_
  refine qr_aload_n 3 rfl rfl rfl ?_
  refine qr_alen 4 rfl rfl (by first | exact Or.inl (by decide) | exact Or.inr (Or.inl rfl) | exact Or.inr (Or.inr (Or.inl rfl)) | exact Or.inr (Or.inr (Or.inr (Or.inl rfl)))) rfl ?_
  refine qy_v 12 rfl ?_
  refine qr_istore_n _ 5 rfl (by decide) rfl rfl ?_
  have hL99 : ∀ (n : Nat) (ls : qm_L) (u92 : Int) (α95 : Nat → Nat → Int), 12 - u92 < (n : Int) → qm_get ls 0 = some (.ref 66) → qm_get ls 1 = some (.int (qz x1)) → qm_get ls 2 = some (.int (qz u92)) → qm_get ls 3 = some (.int (qz 12)) → (0 ≤ u92 ∧ u92 ≤ 12) → qI σ α95 κ ρ → qFr [] [66] σ α σ α95 → qr_W (qe L xs vb) (d + 0) qx_e4 (fun r w' => ∃ α', w' = qw σ α' κ ρ ∧ qI σ α' κ ρ ∧ qFr [] [66] σ α σ α' ∧ r = none) (5, ls, [], qw σ α95 κ ρ, 0, 0) := by
    intro n
    induction n with
    | zero => intro ls u92 α95 hm g89 g90 g91 g93 hf98 hI96 hF97; exact False.elim (by omega)
    | succ n ih100 =>
      intro ls u92 α95 hm g89 g90 g91 g93 hf98 hI96 hF97
      refine qr_iload_n 6 rfl g91 rfl ?_
      refine qr_iload_n 7 rfl g93 rfl ?_
      refine qr_icmp_ge 20 10 rfl rfl rfl (qrg hf98 (by decide) (by decide)) (by decide) (fun h101 => ?_) (fun h101 => ?_)
      · skip
        refine qr_retV rfl rfl (by decide) (by decide) ?_
        exact ⟨_, rfl, hI96, hF97, rfl⟩
      · skip
        refine qr_aload_n 11 rfl g89 rfl ?_
        refine qr_iload_n 12 rfl g91 rfl ?_
        refine qr_iload_n 13 rfl g90 rfl ?_
        refine qr_iastore 14 rfl (by decide) rfl (by omega) (by decide) rfl ?_
        refine qy_wA (qw_r α95 66 (qzu (α95 66) (u92 : Int).toNat x1)) rfl (fun α102 e103 => ?_)
        have hI104 : qI σ α102 κ ρ := by rw [e103]; exact qI_r hI96 66 _ rfl (show (-2147483648) ≤ x1 ∧ x1 ≤ 2147483647 by omega)
        have hF105 : qFr [] [66] σ α σ α102 := by rw [e103]; exact qFr_r hF97 66 _ (by decide)
        refine qr_iinc _ 17 rfl g91 (by decide) rfl rfl ?_
        refine qr_goto 5 rfl rfl ?_
        exact ih100 _ (u92 + 1) α102 (by omega) (qm_gk g89 (by decide) (Or.inl (by decide))) (qm_gk g90 (by decide) (Or.inr rfl)) (qm_ge _ _ _) (qm_gk g93 (by decide) (Or.inl (by decide))) (by omega) hI104 hF105
  exact hL99 ((12 - 0 + 1 : Int)).toNat _ 0 α (by omega) rfl rfl rfl rfl (by decide) hI hF0

set_option maxHeartbeats 4000000 in
set_option maxRecDepth 20000 in
/-- java/util/Arrays.fill -/
theorem sf_4_68 {L : Nat} {xs : Nat → Int} {vb : Bool} {d : Nat} {σ α : Nat → Nat → Int} {κ : Nat → Option Nat} {ρ : Nat} {x1 : Int} (hI : qI σ α κ ρ) (r1 : (-2147483648) ≤ x1 ∧ x1 ≤ 2147483647) : qm_T (qe L xs vb) (d + 1) 4 [.ref 68, .int (qz x1)] (qw σ α κ ρ) (fun r w' => ∃ α', w' = qw σ α' κ ρ ∧ qI σ α' κ ρ ∧ qFr [] [68] σ α σ α' ∧ r = none) := by
  refine qr_start (d := d + 0) qv_e4 (Nat.le_of_ble_eq_true rfl) ?_
  show qr_W (qe L xs vb) (d + 0) qx_e4 _ (0, [(0, .ref 68), (1, .int (qz x1))], [], _, 0, 0)
  have hF0 := qFr_rf [] [68] σ α
  refine qr_iconst 1 rfl rfl ?_
  refine qr_istore_n _ 2 rfl (by decide) rfl rfl ?_
  refine qr_aload_n 3 rfl rfl rfl ?_
  refine qr_alen 4 rfl rfl (by first | exact Or.inl (by decide) | exact Or.inr (Or.inl rfl) | exact Or.inr (Or.inr (Or.inl rfl)) | exact Or.inr (Or.inr (Or.inr (Or.inl rfl)))) rfl ?_
  refine qy_v 36 rfl ?_
  refine qr_istore_n _ 5 rfl (by decide) rfl rfl ?_
  have hL147 : ∀ (n : Nat) (ls : qm_L) (u140 : Int) (α143 : Nat → Nat → Int), 36 - u140 < (n : Int) → qm_get ls 0 = some (.ref 68) → qm_get ls 1 = some (.int (qz x1)) → qm_get ls 2 = some (.int (qz u140)) → qm_get ls 3 = some (.int (qz 36)) → (0 ≤ u140 ∧ u140 ≤ 36) → qI σ α143 κ ρ → qFr [] [68] σ α σ α143 → qr_W (qe L xs vb) (d + 0) qx_e4 (fun r w' => ∃ α', w' = qw σ α' κ ρ ∧ qI σ α' κ ρ ∧ qFr [] [68] σ α σ α' ∧ r = none) (5, ls, [], qw σ α143 κ ρ, 0, 0) := by
    intro n
    induction n with
    | zero => intro ls u140 α143 hm g137 g138 g139 g141 hf146 hI144 hF145; exact False.elim (by omega)
    | succ n ih148 =>
      intro ls u140 α143 hm g137 g138 g139 g141 hf146 hI144 hF145
      refine qr_iload_n 6 rfl g139 rfl ?_
      refine qr_iload_n 7 rfl g141 rfl ?_
      refine qr_icmp_ge 20 10 rfl rfl rfl (qrg hf146 (by decide) (by decide)) (by decide) (fun h149 => ?_) (fun h149 => ?_)
      · skip
        refine qr_retV rfl rfl (by decide) (by decide) ?_
        exact ⟨_, rfl, hI144, hF145, rfl⟩
      · skip
        refine qr_aload_n 11 rfl g137 rfl ?_
        refine qr_iload_n 12 rfl g139 rfl ?_
        refine qr_iload_n 13 rfl g138 rfl ?_
        refine qr_iastore 14 rfl (by decide) rfl (by omega) (by decide) rfl ?_
        refine qy_wA (qw_r α143 68 (qzu (α143 68) (u140 : Int).toNat x1)) rfl (fun α150 e151 => ?_)
        have hI152 : qI σ α150 κ ρ := by rw [e151]; exact qI_r hI144 68 _ rfl (show (-2147483648) ≤ x1 ∧ x1 ≤ 2147483647 by omega)
        have hF153 : qFr [] [68] σ α σ α150 := by rw [e151]; exact qFr_r hF145 68 _ (by decide)
        refine qr_iinc _ 17 rfl g139 (by decide) rfl rfl ?_
        refine qr_goto 5 rfl rfl ?_
        exact ih148 _ (u140 + 1) α150 (by omega) (qm_gk g137 (by decide) (Or.inl (by decide))) (qm_gk g138 (by decide) (Or.inr rfl)) (qm_ge _ _ _) (qm_gk g141 (by decide) (Or.inl (by decide))) (by omega) hI152 hF153
  exact hL147 ((36 - 0 + 1 : Int)).toNat _ 0 α (by omega) rfl rfl rfl rfl (by decide) hI hF0
end
section
set_option maxHeartbeats 4000000 in
set_option maxRecDepth 20000 in
/-- OneRoof$Guests.weightAt -/
theorem sf_114_64 {L : Nat} {xs : Nat → Int} {vb : Bool} {d : Nat} {σ α : Nat → Nat → Int} {κ : Nat → Option Nat} {ρ : Nat} {x1 : Int} (hI : qI σ α κ ρ) (r1 : 0 ≤ x1 ∧ x1 ≤ 11) : qm_T (qe L xs vb) (d + 1) 114 [.ref 64, .int (qz x1)] (qw σ α κ ρ) (fun r w' => w' = qw σ α κ ρ ∧ ∃ v : Int, r = some (.int (qz v)) ∧ (0 ≤ v ∧ v ≤ 99)) := by
  refine qr_start (d := d + 0) qv_e114 (Nat.le_of_ble_eq_true rfl) ?_
  show qr_W (qe L xs vb) (d + 0) qx_e114 _ (0, [(0, .ref 64), (1, .int (qz x1))], [], _, 0, 0)
  refine qr_aload_n 1 rfl rfl rfl ?_
  refine qr_get 4 rfl rfl rfl (by decide) rfl ?_
  refine qr_get 7 rfl rfl rfl (by decide) rfl ?_
  refine qr_get 10 rfl rfl rfl (by decide) rfl ?_
  refine qr_aload_n 11 rfl rfl rfl ?_
  refine qr_get 14 rfl rfl rfl (by decide) rfl ?_
  refine qr_iload_n 15 rfl rfl rfl ?_
  refine qr_iaload 16 rfl rfl (qrgi r1 (by decide) (by decide)) (by decide) rfl ?_
  refine qr_topI (fun v1 hv1 => ?_)
  have hs2 : 0 ≤ v1 ∧ v1 ≤ 31 := by rw [hv1]; exact hI.2.1 65 _ (show _ < 12 from qrgt r1 (by decide) (by decide))
  refine qr_iaload 17 rfl rfl (qrgi hs2 (by decide) (by decide)) (by decide) rfl ?_
  refine qr_topI (fun v3 hv3 => ?_)
  have hs4 : 0 ≤ v3 ∧ v3 ≤ 99 := by rw [hv3]; exact hI.2.1 19 _ (show _ < 32 from qrgt hs2 (by decide) (by decide))
  refine qr_retI rfl rfl (by decide) (by decide) ?_
  exact ⟨rfl, v3, rfl, hs4⟩

set_option maxHeartbeats 4000000 in
set_option maxRecDepth 20000 in
/-- OneRoof$Guests.calmWeight -/
theorem sf_113_64 {L : Nat} {xs : Nat → Int} {vb : Bool} {d : Nat} {σ α : Nat → Nat → Int} {κ : Nat → Option Nat} {ρ : Nat} {x1 : Int} (hI : qI σ α κ ρ) (r1 : (-2147483648) ≤ x1 ∧ x1 ≤ 2147483647) : qm_T (qe L xs vb) (d + 2) 113 [.ref 64, .int (qz x1)] (qw σ α κ ρ) (fun r w' => w' = qw σ α κ ρ ∧ ∃ v : Int, r = some (.int (qz v)) ∧ ((-2147483648) ≤ v ∧ v ≤ 2147483647)) := by
  refine qr_start (d := d + 1) qv_e113 (Nat.le_of_ble_eq_true rfl) ?_
  show qr_W (qe L xs vb) (d + 1) qx_e113 _ (0, [(0, .ref 64), (1, .int (qz x1))], [], _, 0, 0)
  refine qr_iconst 1 rfl rfl ?_
  refine qr_istore_n _ 2 rfl (by decide) rfl rfl ?_
  refine qr_iconst 3 rfl rfl ?_
  refine qr_istore_n _ 4 rfl (by decide) rfl rfl ?_
  have hL164 : ∀ (n : Nat) (ls : qm_L) (u159 u161 : Int), 12 - u161 < (n : Int) → qm_get ls 0 = some (.ref 64) → qm_get ls 1 = some (.int (qz x1)) → qm_get ls 2 = some (.int (qz u159)) → qm_get ls 3 = some (.int (qz u161)) → ((-2147483648) ≤ u159 ∧ u159 ≤ 2147483647) → (0 ≤ u161 ∧ u161 ≤ 12) → qr_W (qe L xs vb) (d + 1) qx_e113 (fun r w' => w' = qw σ α κ ρ ∧ ∃ v : Int, r = some (.int (qz v)) ∧ ((-2147483648) ≤ v ∧ v ≤ 2147483647)) (4, ls, [], qw σ α κ ρ, 0, 0) := by
    intro n
    induction n with
    | zero => intro ls u159 u161 hm g156 g157 g158 g160 hf162 hf163; exact False.elim (by omega)
    | succ n ih165 =>
      intro ls u159 u161 hm g156 g157 g158 g160 hf162 hf163
      refine qr_iload_n 5 rfl g160 rfl ?_
      refine qr_aload_n 6 rfl g156 rfl ?_
      refine qr_get 9 rfl rfl rfl (by decide) rfl ?_
      have hs166 : 0 ≤ σ 64 2 ∧ σ 64 2 ≤ 12 := hI.1 64 2
      refine qr_icmp_ge 51 12 rfl rfl rfl (qrg hf163 (by decide) (by decide)) (qrg hs166 (by decide) (by decide)) (fun h167 => ?_) (fun h167 => ?_)
      · skip
        refine qr_iload_n 52 rfl g158 rfl ?_
        refine qr_retI rfl rfl (by decide) (by decide) ?_
        exact ⟨rfl, u159, rfl, hf162⟩
      · skip
        refine qr_iload_n 13 rfl g157 rfl ?_
        refine qr_i2l 14 rfl r1 rfl ?_
        refine qr_iload_n 15 rfl g160 rfl ?_
        refine qr_callN 18 rfl rfl rfl (sf_50 (d := d + 0) hI (qrg r1 (by decide) (by decide)) (qrg hf163 (by decide) (by decide))) ?_
        rintro _ _ ⟨rfl, v168, rfl, hv168⟩
        show qr_W (qe L xs vb) (d + 1) qx_e113 _ (18, _, [.int (qz v168)], qw σ α κ ρ, 0, 0)
        refine qr_if_ne 24 21 rfl rfl rfl (qrg hv168 (by decide) (by decide)) (fun h169 => ?_) (fun h169 => ?_)
        · skip
          refine qr_aload_n 25 rfl g156 rfl ?_
          refine qr_get 28 rfl rfl rfl (by decide) rfl ?_
          refine qr_iload_n 29 rfl g160 rfl ?_
          refine qr_iaload 30 rfl rfl (by omega) (by decide) rfl ?_
          refine qr_topI (fun v170 hv170 => ?_)
          have hs171 : (-2147483648) ≤ v170 ∧ v170 ≤ 2147483647 := by rw [hv170]; exact hI.2.1 66 _ (show _ < 12 by omega)
          refine qr_iload_n 31 rfl g157 rfl ?_
          refine qr_iand 32 rfl rfl ?_
          refine qy_can (fun v172 hv172 => ?_)
          refine qr_if_eq 37 35 rfl rfl rfl hv172 (fun h173 => ?_) (fun h173 => ?_)
          · skip
            refine qr_iload_n 38 rfl g158 rfl ?_
            refine qr_aload_n 39 rfl g156 rfl ?_
            refine qr_iload_n 40 rfl g160 rfl ?_
            refine qr_callN 43 rfl rfl rfl (sf_114_64 (d := d + 0) hI (by omega)) ?_
            rintro _ _ ⟨rfl, v174, rfl, hv174⟩
            show qr_W (qe L xs vb) (d + 1) qx_e113 _ (43, _, [.int (qz v174), .int (qz u159)], qw σ α κ ρ, 0, 0)
            refine qr_iadd 44 rfl rfl ?_
            refine qy_can (fun v175 hv175 => ?_)
            refine qr_istore_n _ 45 rfl (by decide) rfl rfl ?_
            refine qr_iinc _ 48 rfl (qm_gk g160 (by decide) (Or.inl (by decide))) (by decide) rfl rfl ?_
            refine qr_goto 4 rfl rfl ?_
            exact ih165 _ v175 (u161 + 1) (by omega) (qm_gk (qm_gk g156 (by decide) (Or.inl (by decide))) (by decide) (Or.inl (by decide))) (qm_gk (qm_gk g157 (by decide) (Or.inr rfl)) (by decide) (Or.inl (by decide))) (qm_gk (qm_ge _ _ _) (by decide) (Or.inr rfl)) (qm_ge _ _ _) hv175 (by omega)
          · skip
            refine qr_iconst 36 rfl rfl ?_
            refine qr_retI rfl rfl (by decide) (by decide) ?_
            exact ⟨rfl, (-1), rfl, (by decide)⟩
        · skip
          refine qr_goto 45 rfl rfl ?_
          refine qr_iinc _ 48 rfl g160 (by decide) rfl rfl ?_
          refine qr_goto 4 rfl rfl ?_
          exact ih165 _ u159 (u161 + 1) (by omega) (qm_gk g156 (by decide) (Or.inl (by decide))) (qm_gk g157 (by decide) (Or.inl (by decide))) (qm_gk g158 (by decide) (Or.inr rfl)) (qm_ge _ _ _) hf162 (by omega)
  exact hL164 ((12 - 0 + 1 : Int)).toNat _ 0 0 (by omega) rfl rfl rfl rfl (by decide) (by decide)

set_option maxHeartbeats 4000000 in
set_option maxRecDepth 20000 in
/-- OneRoof$Guests.asPeople -/
theorem sf_116_64 {L : Nat} {xs : Nat → Int} {vb : Bool} {d : Nat} {σ α : Nat → Nat → Int} {κ : Nat → Option Nat} {ρ : Nat} {x1 : Int} (hI : qI σ α κ ρ) (r1 : (-2147483648) ≤ x1 ∧ x1 ≤ 2147483647) : qm_T (qe L xs vb) (d + 2) 116 [.ref 64, .int (qz x1)] (qw σ α κ ρ) (fun r w' => w' = qw σ α κ ρ ∧ ∃ v : Int, r = some (.long (ql v)) ∧ ((-9223372036854775808) ≤ v ∧ v ≤ 9223372036854775807)) := by
  refine qr_start (d := d + 1) qv_e116 (Nat.le_of_ble_eq_true rfl) ?_
  show qr_W (qe L xs vb) (d + 1) qx_e116 _ (0, [(0, .ref 64), (1, .int (qz x1))], [], _, 0, 0)
  refine qr_lconst 1 rfl rfl ?_
  refine qy_vl 0 rfl ?_
  refine qr_lstore_n _ 2 rfl (by decide) rfl rfl ?_
  refine qr_iconst 3 rfl rfl ?_
  refine qr_istore _ 5 rfl (by decide) rfl rfl ?_
  have hL218 : ∀ (n : Nat) (ls : qm_L) (u213 u215 : Int), 12 - u215 < (n : Int) → qm_get ls 0 = some (.ref 64) → qm_get ls 1 = some (.int (qz x1)) → qm_get ls 2 = some (.long (ql u213)) → qm_get ls 4 = some (.int (qz u215)) → ((-9223372036854775808) ≤ u213 ∧ u213 ≤ 9223372036854775807) → (0 ≤ u215 ∧ u215 ≤ 12) → qr_W (qe L xs vb) (d + 1) qx_e116 (fun r w' => w' = qw σ α κ ρ ∧ ∃ v : Int, r = some (.long (ql v)) ∧ ((-9223372036854775808) ≤ v ∧ v ≤ 9223372036854775807)) (5, ls, [], qw σ α κ ρ, 0, 0) := by
    intro n
    induction n with
    | zero => intro ls u213 u215 hm g210 g211 g212 g214 hf216 hf217; exact False.elim (by omega)
    | succ n ih219 =>
      intro ls u213 u215 hm g210 g211 g212 g214 hf216 hf217
      refine qr_iload 7 rfl g214 rfl ?_
      refine qr_aload_n 8 rfl g210 rfl ?_
      refine qr_get 11 rfl rfl rfl (by decide) rfl ?_
      have hs220 : 0 ≤ σ 64 2 ∧ σ 64 2 ≤ 12 := hI.1 64 2
      refine qr_icmp_ge 42 14 rfl rfl rfl (qrg hf217 (by decide) (by decide)) (qrg hs220 (by decide) (by decide)) (fun h221 => ?_) (fun h221 => ?_)
      · skip
        refine qr_lload_n 43 rfl g212 rfl ?_
        refine qr_retL rfl rfl (by decide) (by decide) ?_
        exact ⟨rfl, u213, rfl, hf216⟩
      · skip
        refine qr_iload_n 15 rfl g211 rfl ?_
        refine qr_i2l 16 rfl r1 rfl ?_
        refine qr_iload 18 rfl g214 rfl ?_
        refine qr_callN 21 rfl rfl rfl (sf_50 (d := d + 0) hI (qrg r1 (by decide) (by decide)) (qrg hf217 (by decide) (by decide))) ?_
        rintro _ _ ⟨rfl, v222, rfl, hv222⟩
        show qr_W (qe L xs vb) (d + 1) qx_e116 _ (21, _, [.int (qz v222)], qw σ α κ ρ, 0, 0)
        have hJ233 : ∀ (ls : qm_L) (u230 : Int), qm_get ls 0 = some (.ref 64) → qm_get ls 1 = some (.int (qz x1)) → qm_get ls 2 = some (.long (ql u230)) → qm_get ls 4 = some (.int (qz u215)) → ((-9223372036854775808) ≤ u230 ∧ u230 ≤ 9223372036854775807) → qr_W (qe L xs vb) (d + 1) qx_e116 (fun r w' => w' = qw σ α κ ρ ∧ ∃ v : Int, r = some (.long (ql v)) ∧ ((-9223372036854775808) ≤ v ∧ v ≤ 9223372036854775807)) (36, ls, [], qw σ α κ ρ, 0, 0) := by
          intro ls u230 g227 g228 g229 g231 hf232
          refine qr_iinc _ 39 rfl g231 (by decide) rfl rfl ?_
          refine qr_goto 5 rfl rfl ?_
          exact ih219 _ u230 (u215 + 1) (by omega) (qm_gk g227 (by decide) (Or.inl (by decide))) (qm_gk g228 (by decide) (Or.inl (by decide))) (qm_gk g229 (by decide) (Or.inl (by decide))) (qm_ge _ _ _) hf232 (by omega)
        refine qr_if_eq 36 24 rfl rfl rfl (qrg hv222 (by decide) (by decide)) (fun h234 => ?_) (fun h234 => ?_)
        · skip
          exact hJ233 _ u213 g210 g211 g212 g214 hf216
        · skip
          refine qr_lload_n 25 rfl g212 rfl ?_
          refine qr_lconst 26 rfl rfl ?_
          refine qy_vl 1 rfl ?_
          refine qr_aload_n 27 rfl g210 rfl ?_
          refine qr_get 30 rfl rfl rfl (by decide) rfl ?_
          refine qr_iload 32 rfl g214 rfl ?_
          refine qr_iaload 33 rfl rfl (by omega) (by decide) rfl ?_
          refine qr_topI (fun v235 hv235 => ?_)
          have hs236 : 0 ≤ v235 ∧ v235 ≤ 31 := by rw [hv235]; exact hI.2.1 65 _ (show _ < 12 by omega)
          refine qr_lshl 34 rfl rfl ?_
          refine qy_canl (fun v237 hv237 => ?_)
          refine qr_lor 35 rfl rfl ?_
          refine qy_canl (fun v238 hv238 => ?_)
          refine qr_lstore_n _ 36 rfl (by decide) rfl rfl ?_
          exact hJ233 _ v238 (qm_gk2 g210 (by decide) (by decide) (Or.inl (by decide))) (qm_gk2 g211 (by decide) (by decide) (Or.inr rfl)) (qm_ge2 _ _ _) (qm_gk2 g214 (by decide) (by decide) (Or.inl (by decide))) hv238
  exact hL218 ((12 - 0 + 1 : Int)).toNat _ 0 0 (by omega) rfl rfl rfl rfl (by decide) (by decide)

set_option maxHeartbeats 4000000 in
set_option maxRecDepth 20000 in
/-- OneRoof$Guests.heaviest -/
theorem sf_112_64 {L : Nat} {xs : Nat → Int} {vb : Bool} {d : Nat} {σ α : Nat → Nat → Int} {κ : Nat → Option Nat} {ρ : Nat} {x1 : Int} (hI : qI σ α κ ρ) (r1 : (-9223372036854775808) ≤ x1 ∧ x1 ≤ 9223372036854775807) : qm_T (qe L xs vb) (d + 3) 112 [.ref 64, .long (ql x1)] (qw σ α κ ρ) (fun r w' => w' = qw σ α κ ρ ∧ ∃ v : Int, r = some (.long (ql v)) ∧ ((-9223372036854775808) ≤ v ∧ v ≤ 9223372036854775807)) := by
  refine qr_start (d := d + 2) qv_e112 (Nat.le_of_ble_eq_true rfl) ?_
  show qr_W (qe L xs vb) (d + 2) qx_e112 _ (0, [(0, .ref 64), (1, .long (ql x1))], [], _, 0, 0)
  refine qr_iconst 1 rfl rfl ?_
  refine qr_istore_n _ 2 rfl (by decide) rfl rfl ?_
  refine qr_iconst 3 rfl rfl ?_
  refine qr_istore _ 5 rfl (by decide) rfl rfl ?_
  have hL11566 : ∀ (n : Nat) (ls : qm_L) (u11561 u11563 : Int), 12 - u11563 < (n : Int) → qm_get ls 0 = some (.ref 64) → qm_get ls 1 = some (.long (ql x1)) → qm_get ls 3 = some (.int (qz u11561)) → qm_get ls 4 = some (.int (qz u11563)) → ((-2147483648) ≤ u11561 ∧ u11561 ≤ 2147483647) → (0 ≤ u11563 ∧ u11563 ≤ 12) → qr_W (qe L xs vb) (d + 2) qx_e112 (fun r w' => w' = qw σ α κ ρ ∧ ∃ v : Int, r = some (.long (ql v)) ∧ ((-9223372036854775808) ≤ v ∧ v ≤ 9223372036854775807)) (5, ls, [], qw σ α κ ρ, 0, 0) := by
    intro n
    induction n with
    | zero => intro ls u11561 u11563 hm g11558 g11559 g11560 g11562 hf11564 hf11565; exact False.elim (by omega)
    | succ n ih11567 =>
      intro ls u11561 u11563 hm g11558 g11559 g11560 g11562 hf11564 hf11565
      refine qr_iload 7 rfl g11562 rfl ?_
      refine qr_aload_n 8 rfl g11558 rfl ?_
      refine qr_get 11 rfl rfl rfl (by decide) rfl ?_
      have hs11568 : 0 ≤ σ 64 2 ∧ σ 64 2 ≤ 12 := hI.1 64 2
      refine qr_icmp_ge 41 14 rfl rfl rfl (qrg hf11565 (by decide) (by decide)) (qrg hs11568 (by decide) (by decide)) (fun h11581 => ?_) (fun h11581 => ?_)
      · skip
        refine qr_iconst 42 rfl rfl ?_
        refine qr_istore _ 44 rfl (by decide) rfl rfl ?_
        refine qr_iconst 45 rfl rfl ?_
        refine qr_istore _ 47 rfl (by decide) rfl rfl ?_
        refine qr_iconst 48 rfl rfl ?_
        refine qr_istore _ 50 rfl (by decide) rfl rfl ?_
        have hL13138 : ∀ (n : Nat) (ls : qm_L) (u13130 u13132 u13134 : Int), 4096 - u13134 < (n : Int) → qm_get ls 0 = some (.ref 64) → qm_get ls 3 = some (.int (qz u11561)) → qm_get ls 4 = some (.int (qz u13130)) → qm_get ls 5 = some (.int (qz u13132)) → qm_get ls 6 = some (.int (qz u13134)) → ((-1) ≤ u13130 ∧ u13130 ≤ 4095) → ((-1) ≤ u13132 ∧ u13132 ≤ 2147483647) → (0 ≤ u13134 ∧ u13134 ≤ 4096) → qr_W (qe L xs vb) (d + 2) qx_e112 (fun r w' => w' = qw σ α κ ρ ∧ ∃ v : Int, r = some (.long (ql v)) ∧ ((-9223372036854775808) ≤ v ∧ v ≤ 9223372036854775807)) (50, ls, [], qw σ α κ ρ, 0, 0) := by
          intro n
          induction n with
          | zero => intro ls u13130 u13132 u13134 hm g13127 g13128 g13129 g13131 g13133 hf13135 hf13136 hf13137; exact False.elim (by omega)
          | succ n ih13139 =>
            intro ls u13130 u13132 u13134 hm g13127 g13128 g13129 g13131 g13133 hf13135 hf13136 hf13137
            refine qr_iload 52 rfl g13133 rfl ?_
            refine qr_iconst 53 rfl rfl ?_
            refine qr_aload_n 54 rfl g13127 rfl ?_
            refine qr_get 57 rfl rfl rfl (by decide) rfl ?_
            refine qr_ishl 58 rfl rfl ?_
            refine qy_shl1 (N := 12) (by omega) (fun v13140 hv13140 => ?_)
            refine qr_icmp_ge 132 61 rfl rfl rfl (qrg hf13137 (by decide) (by decide)) (by omega) (fun h13155 => ?_) (fun h13155 => ?_)
            · skip
              refine qr_iload 134 rfl g13129 rfl ?_
              refine qr_if_ge 143 137 rfl rfl rfl (qrg hf13135 (by decide) (by decide)) (fun h13156 => ?_) (fun h13156 => ?_)
              · skip
                refine qr_aload_n 144 rfl g13127 rfl ?_
                refine qr_iload 146 rfl g13129 rfl ?_
                refine qr_callN 149 rfl rfl rfl (sf_116_64 (d := d + 0) hI (qrg hf13135 (by decide) (by decide))) ?_
                rintro _ _ ⟨rfl, v13157, rfl, hv13157⟩
                show qr_W (qe L xs vb) (d + 2) qx_e112 _ (149, _, [.long (ql v13157)], qw σ α κ ρ, 0, 0)
                refine qr_retL rfl rfl (by decide) (by decide) ?_
                exact ⟨rfl, v13157, rfl, hv13157⟩
              · skip
                refine qr_ldc2 (-2) 140 rfl (by decide) rfl ?_
                refine qr_goto 149 rfl rfl ?_
                refine qr_retL rfl rfl (by decide) (by decide) ?_
                exact ⟨rfl, (-2), rfl, (by decide)⟩
            · skip
              refine qr_iload 63 rfl g13133 rfl ?_
              refine qr_iload_n 64 rfl g13128 rfl ?_
              refine qr_iand 65 rfl rfl ?_
              refine qy_andl (by omega) (fun v13158 hv13158 => ?_)
              refine qr_iload_n 66 rfl g13128 rfl ?_
              have hJ13171 : ∀ (ls : qm_L) (u13165 u13167 : Int), qm_get ls 0 = some (.ref 64) → qm_get ls 3 = some (.int (qz u11561)) → qm_get ls 4 = some (.int (qz u13165)) → qm_get ls 5 = some (.int (qz u13167)) → qm_get ls 6 = some (.int (qz u13134)) → ((-1) ≤ u13165 ∧ u13165 ≤ 4095) → ((-1) ≤ u13167 ∧ u13167 ≤ 2147483647) → qr_W (qe L xs vb) (d + 2) qx_e112 (fun r w' => w' = qw σ α κ ρ ∧ ∃ v : Int, r = some (.long (ql v)) ∧ ((-9223372036854775808) ≤ v ∧ v ≤ 9223372036854775807)) (126, ls, [], qw σ α κ ρ, 0, 0) := by
                intro ls u13165 u13167 g13162 g13163 g13164 g13166 g13168 hf13169 hf13170
                refine qr_iinc _ 129 rfl g13168 (by decide) rfl rfl ?_
                refine qr_goto 50 rfl rfl ?_
                exact ih13139 _ u13165 u13167 (u13134 + 1) (by omega) (qm_gk g13162 (by decide) (Or.inl (by decide))) (qm_gk g13163 (by decide) (Or.inl (by decide))) (qm_gk g13164 (by decide) (Or.inl (by decide))) (qm_gk g13166 (by decide) (Or.inr rfl)) (qm_ge _ _ _) hf13169 hf13170 (by omega)
              refine qr_icmp_eq 72 69 rfl rfl rfl (by omega) hf11564 (fun h13172 => ?_) (fun h13172 => ?_)
              · skip
                refine qr_aload_n 73 rfl g13127 rfl ?_
                refine qr_iload 75 rfl g13133 rfl ?_
                refine qr_callN 78 rfl rfl rfl (sf_113_64 (d := d + 0) hI (qrg hf13137 (by decide) (by decide))) ?_
                rintro _ _ ⟨rfl, v13173, rfl, hv13173⟩
                show qr_W (qe L xs vb) (d + 2) qx_e112 _ (78, _, [.int (qz v13173)], qw σ α κ ρ, 0, 0)
                refine qr_istore _ 80 rfl (by decide) rfl rfl ?_
                refine qr_iload 82 rfl (qm_ge _ _ _) rfl ?_
                refine qr_if_lt 126 85 rfl rfl rfl hv13173 (fun h13174 => ?_) (fun h13174 => ?_)
                · skip
                  exact hJ13171 _ u13130 u13132 (qm_gk g13127 (by decide) (Or.inl (by decide))) (qm_gk g13128 (by decide) (Or.inl (by decide))) (qm_gk g13129 (by decide) (Or.inl (by decide))) (qm_gk g13131 (by decide) (Or.inl (by decide))) (qm_gk g13133 (by decide) (Or.inr rfl)) hf13135 hf13136
                · skip
                  refine qr_iload 87 rfl (qm_ge _ _ _) rfl ?_
                  refine qr_iload 89 rfl (qm_gk g13131 (by decide) (Or.inl (by decide))) rfl ?_
                  refine qr_icmp_ge 95 92 rfl rfl rfl hv13173 (qrg hf13136 (by decide) (by decide)) (fun h13175 => ?_) (fun h13175 => ?_)
                  · skip
                    refine qr_iload 97 rfl (qm_ge _ _ _) rfl ?_
                    refine qr_iload 99 rfl (qm_gk g13131 (by decide) (Or.inl (by decide))) rfl ?_
                    refine qr_icmp_ne 118 102 rfl rfl rfl hv13173 (qrg hf13136 (by decide) (by decide)) (fun h13176 => ?_) (fun h13176 => ?_)
                    · skip
                      refine qr_iload 120 rfl (qm_gk g13133 (by decide) (Or.inr rfl)) rfl ?_
                      refine qr_istore _ 122 rfl (by decide) rfl rfl ?_
                      refine qr_iload 124 rfl (qm_gk (qm_ge _ _ _) (by decide) (Or.inl (by decide))) rfl ?_
                      refine qr_istore _ 126 rfl (by decide) rfl rfl ?_
                      exact hJ13171 _ u13134 v13173 (qm_gk (qm_gk (qm_gk g13127 (by decide) (Or.inl (by decide))) (by decide) (Or.inl (by decide))) (by decide) (Or.inl (by decide))) (qm_gk (qm_gk (qm_gk g13128 (by decide) (Or.inl (by decide))) (by decide) (Or.inr rfl)) (by decide) (Or.inl (by decide))) (qm_gk (qm_ge _ _ _) (by decide) (Or.inr rfl)) (qm_ge _ _ _) (qm_gk (qm_gk (qm_gk g13133 (by decide) (Or.inr rfl)) (by decide) (Or.inl (by decide))) (by decide) (Or.inl (by decide))) (by omega) (by omega)
                    · skip
                      refine qr_iload 104 rfl (qm_gk g13133 (by decide) (Or.inr rfl)) rfl ?_
                      refine qr_callN 107 rfl rfl rfl (sf_115 (d := d + 1) hI (qrg hf13137 (by decide) (by decide))) ?_
                      rintro _ _ ⟨rfl, v13177, rfl, hv13177⟩
                      show qr_W (qe L xs vb) (d + 2) qx_e112 _ (107, _, [.int (qz v13177)], qw σ α κ ρ, 0, 0)
                      refine qr_iload 109 rfl (qm_gk g13129 (by decide) (Or.inl (by decide))) rfl ?_
                      refine qr_callN 112 rfl rfl rfl (sf_115 (d := d + 1) hI (qrg hf13135 (by decide) (by decide))) ?_
                      rintro _ _ ⟨rfl, v13178, rfl, hv13178⟩
                      show qr_W (qe L xs vb) (d + 2) qx_e112 _ (112, _, [.int (qz v13178), .int (qz v13177)], qw σ α κ ρ, 0, 0)
                      refine qr_icmp_gt 118 115 rfl rfl rfl hv13177 hv13178 (fun h13179 => ?_) (fun h13179 => ?_)
                      · skip
                        refine qr_iload 120 rfl (qm_gk g13133 (by decide) (Or.inr rfl)) rfl ?_
                        refine qr_istore _ 122 rfl (by decide) rfl rfl ?_
                        refine qr_iload 124 rfl (qm_gk (qm_ge _ _ _) (by decide) (Or.inl (by decide))) rfl ?_
                        refine qr_istore _ 126 rfl (by decide) rfl rfl ?_
                        exact hJ13171 _ u13134 v13173 (qm_gk (qm_gk (qm_gk g13127 (by decide) (Or.inl (by decide))) (by decide) (Or.inl (by decide))) (by decide) (Or.inl (by decide))) (qm_gk (qm_gk (qm_gk g13128 (by decide) (Or.inl (by decide))) (by decide) (Or.inr rfl)) (by decide) (Or.inl (by decide))) (qm_gk (qm_ge _ _ _) (by decide) (Or.inr rfl)) (qm_ge _ _ _) (qm_gk (qm_gk (qm_gk g13133 (by decide) (Or.inr rfl)) (by decide) (Or.inl (by decide))) (by decide) (Or.inl (by decide))) (by omega) (by omega)
                      · skip
                        refine qr_goto 126 rfl rfl ?_
                        exact hJ13171 _ u13130 u13132 (qm_gk g13127 (by decide) (Or.inl (by decide))) (qm_gk g13128 (by decide) (Or.inl (by decide))) (qm_gk g13129 (by decide) (Or.inl (by decide))) (qm_gk g13131 (by decide) (Or.inl (by decide))) (qm_gk g13133 (by decide) (Or.inr rfl)) hf13135 hf13136
                  · skip
                    refine qr_goto 126 rfl rfl ?_
                    exact hJ13171 _ u13130 u13132 (qm_gk g13127 (by decide) (Or.inl (by decide))) (qm_gk g13128 (by decide) (Or.inl (by decide))) (qm_gk g13129 (by decide) (Or.inl (by decide))) (qm_gk g13131 (by decide) (Or.inl (by decide))) (qm_gk g13133 (by decide) (Or.inr rfl)) hf13135 hf13136
              · skip
                refine qr_goto 126 rfl rfl ?_
                exact hJ13171 _ u13130 u13132 g13127 g13128 g13129 g13131 g13133 hf13135 hf13136
        exact hL13138 ((4096 - 0 + 1 : Int)).toNat _ (-1) (-1) 0 (by omega) (qm_gk (qm_gk (qm_gk g11558 (by decide) (Or.inl (by decide))) (by decide) (Or.inl (by decide))) (by decide) (Or.inl (by decide))) (qm_gk (qm_gk (qm_gk g11560 (by decide) (Or.inr rfl)) (by decide) (Or.inl (by decide))) (by decide) (Or.inl (by decide))) (qm_gk (qm_gk (qm_ge _ _ _) (by decide) (Or.inr rfl)) (by decide) (Or.inl (by decide))) (qm_gk (qm_ge _ _ _) (by decide) (Or.inr rfl)) (qm_ge _ _ _) (by decide) (by decide) (by decide)
      · skip
        refine qr_lload_n 15 rfl g11559 rfl ?_
        refine qr_aload_n 16 rfl g11558 rfl ?_
        refine qr_get 19 rfl rfl rfl (by decide) rfl ?_
        refine qr_iload 21 rfl g11562 rfl ?_
        refine qr_iaload 22 rfl rfl (by omega) (by decide) rfl ?_
        refine qr_topI (fun v13180 hv13180 => ?_)
        have hs13181 : 0 ≤ v13180 ∧ v13180 ≤ 31 := by rw [hv13180]; exact hI.2.1 65 _ (show _ < 12 by omega)
        refine qr_callN 25 rfl rfl rfl (sf_50 (d := d + 1) hI r1 (qrg hs13181 (by decide) (by decide))) ?_
        rintro _ _ ⟨rfl, v13182, rfl, hv13182⟩
        show qr_W (qe L xs vb) (d + 2) qx_e112 _ (25, _, [.int (qz v13182)], qw σ α κ ρ, 0, 0)
        have hJ13191 : ∀ (ls : qm_L) (u13188 : Int), qm_get ls 0 = some (.ref 64) → qm_get ls 1 = some (.long (ql x1)) → qm_get ls 3 = some (.int (qz u13188)) → qm_get ls 4 = some (.int (qz u11563)) → ((-2147483648) ≤ u13188 ∧ u13188 ≤ 2147483647) → qr_W (qe L xs vb) (d + 2) qx_e112 (fun r w' => w' = qw σ α κ ρ ∧ ∃ v : Int, r = some (.long (ql v)) ∧ ((-9223372036854775808) ≤ v ∧ v ≤ 9223372036854775807)) (35, ls, [], qw σ α κ ρ, 0, 0) := by
          intro ls u13188 g13185 g13186 g13187 g13189 hf13190
          refine qr_iinc _ 38 rfl g13189 (by decide) rfl rfl ?_
          refine qr_goto 5 rfl rfl ?_
          exact ih11567 _ u13188 (u11563 + 1) (by omega) (qm_gk g13185 (by decide) (Or.inl (by decide))) (qm_gk g13186 (by decide) (Or.inl (by decide))) (qm_gk g13187 (by decide) (Or.inr rfl)) (qm_ge _ _ _) hf13190 (by omega)
        refine qr_if_eq 35 28 rfl rfl rfl (qrg hv13182 (by decide) (by decide)) (fun h13192 => ?_) (fun h13192 => ?_)
        · skip
          exact hJ13191 _ u11561 g11558 g11559 g11560 g11562 hf11564
        · skip
          refine qr_iload_n 29 rfl g11560 rfl ?_
          refine qr_iconst 30 rfl rfl ?_
          refine qr_iload 32 rfl g11562 rfl ?_
          refine qr_ishl 33 rfl rfl ?_
          refine qy_shl1 (N := 11) (by omega) (fun v13193 hv13193 => ?_)
          refine qr_ior 34 rfl rfl ?_
          refine qy_can (fun v13194 hv13194 => ?_)
          refine qr_istore_n _ 35 rfl (by decide) rfl rfl ?_
          exact hJ13191 _ v13194 (qm_gk g11558 (by decide) (Or.inl (by decide))) (qm_gk g11559 (by decide) (Or.inl (by decide))) (qm_ge _ _ _) (qm_gk g11562 (by decide) (Or.inl (by decide))) hv13194
  exact hL11566 ((12 - 0 + 1 : Int)).toNat _ 0 0 (by omega) rfl rfl rfl rfl (by decide) (by decide)

set_option maxHeartbeats 4000000 in
set_option maxRecDepth 20000 in
/-- OneRoof$Guests.fillHeaviestWithin -/
theorem sf_119_64 {L : Nat} {xs : Nat → Int} {vb : Bool} {d : Nat} {σ α : Nat → Nat → Int} {κ : Nat → Option Nat} {ρ : Nat}  (hI : qI σ α κ ρ)  : qm_T (qe L xs vb) (d + 2) 119 [.ref 64] (qw σ α κ ρ) (fun r w' => ∃ α', w' = qw σ α' κ ρ ∧ qI σ α' κ ρ ∧ qFr [] [67] σ α σ α' ∧ r = none) := by
  refine qr_start (d := d + 1) qv_e119 (Nat.le_of_ble_eq_true rfl) ?_
  show qr_W (qe L xs vb) (d + 1) qx_e119 _ (0, [(0, .ref 64)], [], _, 0, 0)
  have hF0 := qFr_rf [] [67] σ α
  refine qr_aload_n 1 rfl rfl rfl ?_
  refine qr_get 4 rfl rfl rfl (by decide) rfl ?_
  refine qr_iconst 5 rfl rfl ?_
  refine qr_iconst 6 rfl rfl ?_
  refine qr_iastore 7 rfl (by decide) rfl (by decide) (by decide) rfl ?_
  refine qy_wA (qw_r α 67 (qzu (α 67) (0 : Int).toNat 0)) rfl (fun α1 e2 => ?_)
  have hI3 : qI σ α1 κ ρ := by rw [e2]; exact qI_r hI 67 _ rfl (show (-2147483648) ≤ 0 ∧ 0 ≤ 2147483647 by omega)
  have hF4 : qFr [] [67] σ α σ α1 := by rw [e2]; exact qFr_r hF0 67 _ (by decide)
  refine qr_iconst 8 rfl rfl ?_
  refine qr_istore_n _ 9 rfl (by decide) rfl rfl ?_
  have hL1117 : ∀ (n : Nat) (ls : qm_L) (u1111 : Int) (α1113 : Nat → Nat → Int), 4096 - u1111 < (n : Int) → qm_get ls 0 = some (.ref 64) → qm_get ls 1 = some (.int (qz u1111)) → (1 ≤ u1111 ∧ u1111 ≤ 4096) → qI σ α1113 κ ρ → qFr [] [67] σ α σ α1113 → qr_W (qe L xs vb) (d + 1) qx_e119 (fun r w' => ∃ α', w' = qw σ α' κ ρ ∧ qI σ α' κ ρ ∧ qFr [] [67] σ α σ α' ∧ r = none) (9, ls, [], qw σ α1113 κ ρ, 0, 0) := by
    intro n
    induction n with
    | zero => intro ls u1111 α1113 hm g1109 g1110 hf1116 hI1114 hF1115; exact False.elim (by omega)
    | succ n ih1118 =>
      intro ls u1111 α1113 hm g1109 g1110 hf1116 hI1114 hF1115
      refine qr_iload_n 10 rfl g1110 rfl ?_
      refine qr_iconst 11 rfl rfl ?_
      refine qr_aload_n 12 rfl g1109 rfl ?_
      refine qr_get 15 rfl rfl rfl (by decide) rfl ?_
      have hs1119 : 0 ≤ σ 64 2 ∧ σ 64 2 ≤ 12 := hI1114.1 64 2
      refine qr_ishl 16 rfl rfl ?_
      refine qy_shl1 (N := 12) (by omega) (fun v1120 hv1120 => ?_)
      refine qr_icmp_ge 72 19 rfl rfl rfl (qrg hf1116 (by decide) (by decide)) (by omega) (fun h1121 => ?_) (fun h1121 => ?_)
      · skip
        refine qr_retV rfl rfl (by decide) (by decide) ?_
        exact ⟨_, rfl, hI1114, hF1115, rfl⟩
      · skip
        refine qr_iload_n 20 rfl g1110 rfl ?_
        refine qr_callN 23 rfl rfl rfl (sf_83s (d := d + 0) hI1114 (by omega)) ?_
        rintro _ _ ⟨rfl, v1122, rfl, hv1122⟩
        show qr_W (qe L xs vb) (d + 1) qx_e119 _ (23, _, [.int (qz v1122)], qw σ α1113 κ ρ, 0, 0)
        refine qr_istore_n _ 24 rfl (by decide) rfl rfl ?_
        refine qr_iload_n 25 rfl (qm_gk g1110 (by decide) (Or.inr rfl)) rfl ?_
        refine qr_iload_n 26 rfl (qm_gk g1110 (by decide) (Or.inr rfl)) rfl ?_
        refine qr_iconst 27 rfl rfl ?_
        refine qr_isub 28 rfl rfl ?_
        refine qr_iand 29 rfl rfl ?_
        refine qy_andr (by omega) (fun v1123 hv1123 => ?_)
        refine qr_istore_n _ 30 rfl (by decide) rfl rfl ?_
        refine qr_aload_n 31 rfl (qm_gk (qm_gk g1109 (by decide) (Or.inl (by decide))) (by decide) (Or.inl (by decide))) rfl ?_
        refine qr_get 34 rfl rfl rfl (by decide) rfl ?_
        refine qr_iload_n 35 rfl (qm_gk (qm_gk g1110 (by decide) (Or.inr rfl)) (by decide) (Or.inl (by decide))) rfl ?_
        refine qr_aload_n 36 rfl (qm_gk (qm_gk g1109 (by decide) (Or.inl (by decide))) (by decide) (Or.inl (by decide))) rfl ?_
        refine qr_get 39 rfl rfl rfl (by decide) rfl ?_
        refine qr_iload_n 40 rfl (qm_ge _ _ _) rfl ?_
        refine qr_iaload 41 rfl rfl (by omega) (by decide) rfl ?_
        refine qr_topI (fun v1124 hv1124 => ?_)
        have hs1125 : (-2147483648) ≤ v1124 ∧ v1124 ≤ 2147483647 := by rw [hv1124]; exact hI1114.2.1 67 _ (show _ < 4096 by omega)
        refine qr_aload_n 42 rfl (qm_gk (qm_gk g1109 (by decide) (Or.inl (by decide))) (by decide) (Or.inl (by decide))) rfl ?_
        refine qr_iload_n 43 rfl (qm_gk (qm_ge _ _ _) (by decide) (Or.inr rfl)) rfl ?_
        refine qr_callN 46 rfl rfl rfl (sf_114_64 (d := d + 0) hI1114 hv1122) ?_
        rintro _ _ ⟨rfl, v1126, rfl, hv1126⟩
        show qr_W (qe L xs vb) (d + 1) qx_e119 _ (46, _, [.int (qz v1126), .int (qz v1124), .int (qz u1111), .ref 67], qw σ α1113 κ ρ, 0, 0)
        refine qr_aload_n 47 rfl (qm_gk (qm_gk g1109 (by decide) (Or.inl (by decide))) (by decide) (Or.inl (by decide))) rfl ?_
        refine qr_get 50 rfl rfl rfl (by decide) rfl ?_
        refine qr_iload_n 51 rfl (qm_ge _ _ _) rfl ?_
        refine qr_aload_n 52 rfl (qm_gk (qm_gk g1109 (by decide) (Or.inl (by decide))) (by decide) (Or.inl (by decide))) rfl ?_
        refine qr_get 55 rfl rfl rfl (by decide) rfl ?_
        refine qr_iload_n 56 rfl (qm_gk (qm_ge _ _ _) (by decide) (Or.inr rfl)) rfl ?_
        refine qr_iaload 57 rfl rfl (qrgi hv1122 (by decide) (by decide)) (by decide) rfl ?_
        refine qr_topI (fun v1127 hv1127 => ?_)
        have hs1128 : (-2147483648) ≤ v1127 ∧ v1127 ≤ 2147483647 := by rw [hv1127]; exact hI1114.2.1 66 _ (show _ < 12 from qrgt hv1122 (by decide) (by decide))
        refine qr_iconst 58 rfl rfl ?_
        refine qr_ixor 59 rfl rfl ?_
        refine qy_can (fun v1129 hv1129 => ?_)
        refine qr_iand 60 rfl rfl ?_
        refine qy_andl (by omega) (fun v1130 hv1130 => ?_)
        refine qr_iaload 61 rfl rfl (by omega) (by decide) rfl ?_
        refine qr_topI (fun v1131 hv1131 => ?_)
        have hs1132 : (-2147483648) ≤ v1131 ∧ v1131 ≤ 2147483647 := by rw [hv1131]; exact hI1114.2.1 67 _ (show _ < 4096 by omega)
        refine qr_iadd 62 rfl rfl ?_
        refine qy_can (fun v1133 hv1133 => ?_)
        refine qr_callN 65 rfl rfl rfl (sf_30 (d := d + 0) hI1114 hs1125 hv1133) ?_
        rintro _ _ ⟨rfl, v1134, rfl, hv1134, hp1135⟩
        show qr_W (qe L xs vb) (d + 1) qx_e119 _ (65, _, [.int (qz v1134), .int (qz u1111), .ref 67], qw σ α1113 κ ρ, 0, 0)
        refine qr_iastore 66 rfl (by decide) rfl (by omega) (by decide) rfl ?_
        refine qy_wA (qw_r α1113 67 (qzu (α1113 67) (u1111 : Int).toNat v1134)) rfl (fun α1136 e1137 => ?_)
        have hI1138 : qI σ α1136 κ ρ := by rw [e1137]; exact qI_r hI1114 67 _ rfl (show (-2147483648) ≤ v1134 ∧ v1134 ≤ 2147483647 by omega)
        have hF1139 : qFr [] [67] σ α σ α1136 := by rw [e1137]; exact qFr_r hF1115 67 _ (by decide)
        refine qr_iinc _ 69 rfl (qm_gk (qm_gk g1110 (by decide) (Or.inr rfl)) (by decide) (Or.inl (by decide))) (by decide) rfl rfl ?_
        refine qr_goto 9 rfl rfl ?_
        exact ih1118 _ (u1111 + 1) α1136 (by omega) (qm_gk (qm_gk (qm_gk g1109 (by decide) (Or.inl (by decide))) (by decide) (Or.inl (by decide))) (by decide) (Or.inr rfl)) (qm_ge _ _ _) (by omega) hI1138 hF1139
  exact hL1117 ((4096 - 1 + 1 : Int)).toNat _ 1 α1 (by omega) rfl rfl (by decide) hI3 hF4

set_option maxHeartbeats 4000000 in
set_option maxRecDepth 20000 in
/-- OneRoof$Guests.twoRooms -/
theorem sf_118_64 {L : Nat} {xs : Nat → Int} {vb : Bool} {d : Nat} {σ α : Nat → Nat → Int} {κ : Nat → Option Nat} {ρ : Nat} {x1 : Int} (hI : qI σ α κ ρ) (r1 : (-2147483648) ≤ x1 ∧ x1 ≤ 2147483647) : qm_T (qe L xs vb) (d + 3) 118 [.ref 64, .int (qz x1)] (qw σ α κ ρ) (fun r w' => ∃ α', w' = qw σ α' κ ρ ∧ qI σ α' κ ρ ∧ qFr [] [67] σ α σ α' ∧ ∃ v : Int, r = some (.long (ql v)) ∧ ((-9223372036854775808) ≤ v ∧ v ≤ 9223372036854775807)) := by
  refine qr_start (d := d + 2) qv_e118 (Nat.le_of_ble_eq_true rfl) ?_
  show qr_W (qe L xs vb) (d + 2) qx_e118 _ (0, [(0, .ref 64), (1, .int (qz x1))], [], _, 0, 0)
  have hF0 := qFr_rf [] [67] σ α
  refine qr_aload_n 1 rfl rfl rfl ?_
  refine qr_callN 4 rfl rfl rfl (sf_119_64 (d := d + 0) hI ) ?_
  rintro _ _ ⟨α1, rfl, hI2, hG3, rfl⟩
  have hF4 : qFr [] [67] σ α σ α1 := qFr_t hF0 hG3 (by decide) (by decide)
  show qr_W (qe L xs vb) (d + 2) qx_e118 _ (4, _, [], qw σ α1 κ ρ, 0, 0)
  refine qr_iconst 5 rfl rfl ?_
  refine qr_aload_n 6 rfl rfl rfl ?_
  refine qr_get 9 rfl rfl rfl (by decide) rfl ?_
  have hs5 : 0 ≤ σ 64 2 ∧ σ 64 2 ≤ 12 := hI2.1 64 2
  refine qr_ishl 10 rfl rfl ?_
  refine qy_shl1 (N := 12) (by omega) (fun v6 hv6 => ?_)
  refine qr_iconst 11 rfl rfl ?_
  refine qr_isub 12 rfl rfl ?_
  refine qr_istore_n _ 13 rfl (by decide) rfl rfl ?_
  refine qr_iconst 14 rfl rfl ?_
  refine qr_istore_n _ 15 rfl (by decide) rfl rfl ?_
  refine qr_iconst 16 rfl rfl ?_
  refine qr_istore _ 18 rfl (by decide) rfl rfl ?_
  refine qr_iconst 19 rfl rfl ?_
  refine qr_istore _ 21 rfl (by decide) rfl rfl ?_
  refine qr_iconst 22 rfl rfl ?_
  refine qr_istore _ 24 rfl (by decide) rfl rfl ?_
  have hL2162 : ∀ (n : Nat) (ls : qm_L) (u2151 u2153 u2155 u2157 : Int), 4096 - u2157 < (n : Int) → qm_get ls 0 = some (.ref 64) → qm_get ls 1 = some (.int (qz x1)) → qm_get ls 2 = some (.int (qz (v6 - 1))) → qm_get ls 3 = some (.int (qz u2151)) → qm_get ls 4 = some (.int (qz u2153)) → qm_get ls 5 = some (.int (qz u2155)) → qm_get ls 6 = some (.int (qz u2157)) → (0 ≤ u2151 ∧ u2151 ≤ 4095) → ((-1) ≤ u2153 ∧ u2153 ≤ 2147483647) → ((-1) ≤ u2155 ∧ u2155 ≤ 2147483647) → (0 ≤ u2157 ∧ u2157 ≤ 4096) → qr_W (qe L xs vb) (d + 2) qx_e118 (fun r w' => ∃ α', w' = qw σ α' κ ρ ∧ qI σ α' κ ρ ∧ qFr [] [67] σ α σ α' ∧ ∃ v : Int, r = some (.long (ql v)) ∧ ((-9223372036854775808) ≤ v ∧ v ≤ 9223372036854775807)) (24, ls, [], qw σ α1 κ ρ, 0, 0) := by
    intro n
    induction n with
    | zero => intro ls u2151 u2153 u2155 u2157 hm g2147 g2148 g2149 g2150 g2152 g2154 g2156 hf2158 hf2159 hf2160 hf2161; exact False.elim (by omega)
    | succ n ih2163 =>
      intro ls u2151 u2153 u2155 u2157 hm g2147 g2148 g2149 g2150 g2152 g2154 g2156 hf2158 hf2159 hf2160 hf2161
      refine qr_iload 26 rfl g2156 rfl ?_
      refine qr_iload_n 27 rfl g2149 rfl ?_
      refine qr_icmp_gt 103 30 rfl rfl rfl (qrg hf2161 (by decide) (by decide)) (by omega) (fun h2185 => ?_) (fun h2185 => ?_)
      · skip
        refine qr_iload_n 104 rfl g2148 rfl ?_
        refine qr_if_ne 113 107 rfl rfl rfl r1 (fun h2186 => ?_) (fun h2186 => ?_)
        · skip
          refine qr_aload_n 114 rfl g2147 rfl ?_
          refine qr_iload_n 115 rfl g2150 rfl ?_
          refine qr_callN 118 rfl rfl rfl (sf_116_64 (d := d + 0) hI2 (qrg hf2158 (by decide) (by decide))) ?_
          rintro _ _ ⟨rfl, v2187, rfl, hv2187⟩
          show qr_W (qe L xs vb) (d + 2) qx_e118 _ (118, _, [.long (ql v2187)], qw σ α1 κ ρ, 0, 0)
          refine qr_retL rfl rfl (by decide) (by decide) ?_
          exact ⟨_, rfl, hI2, hF4, v2187, rfl, hv2187⟩
        · skip
          refine qr_iload 109 rfl g2152 rfl ?_
          refine qr_i2l 110 rfl (qrg hf2159 (by decide) (by decide)) rfl ?_
          refine qr_goto 118 rfl rfl ?_
          refine qr_retL rfl rfl (by decide) (by decide) ?_
          exact ⟨_, rfl, hI2, hF4, u2153, rfl, (qrg hf2159 (by decide) (by decide))⟩
      · skip
        refine qr_aload_n 31 rfl g2147 rfl ?_
        refine qr_iload 33 rfl g2156 rfl ?_
        refine qr_callN 36 rfl rfl rfl (sf_113_64 (d := d + 0) hI2 (qrg hf2161 (by decide) (by decide))) ?_
        rintro _ _ ⟨rfl, v2188, rfl, hv2188⟩
        show qr_W (qe L xs vb) (d + 2) qx_e118 _ (36, _, [.int (qz v2188)], qw σ α1 κ ρ, 0, 0)
        refine qr_istore _ 38 rfl (by decide) rfl rfl ?_
        refine qr_iload 40 rfl (qm_ge _ _ _) rfl ?_
        have hJ2207 : ∀ (ls : qm_L) (u2198 u2200 u2202 : Int), qm_get ls 0 = some (.ref 64) → qm_get ls 1 = some (.int (qz x1)) → qm_get ls 2 = some (.int (qz (v6 - 1))) → qm_get ls 3 = some (.int (qz u2198)) → qm_get ls 4 = some (.int (qz u2200)) → qm_get ls 5 = some (.int (qz u2202)) → qm_get ls 6 = some (.int (qz u2157)) → (0 ≤ u2198 ∧ u2198 ≤ 4095) → ((-1) ≤ u2200 ∧ u2200 ≤ 2147483647) → ((-1) ≤ u2202 ∧ u2202 ≤ 2147483647) → qr_W (qe L xs vb) (d + 2) qx_e118 (fun r w' => ∃ α', w' = qw σ α' κ ρ ∧ qI σ α' κ ρ ∧ qFr [] [67] σ α σ α' ∧ ∃ v : Int, r = some (.long (ql v)) ∧ ((-9223372036854775808) ≤ v ∧ v ≤ 9223372036854775807)) (97, ls, [], qw σ α1 κ ρ, 0, 0) := by
          intro ls u2198 u2200 u2202 g2194 g2195 g2196 g2197 g2199 g2201 g2203 hf2204 hf2205 hf2206
          refine qr_iinc _ 100 rfl g2203 (by decide) rfl rfl ?_
          refine qr_goto 24 rfl rfl ?_
          exact ih2163 _ u2198 u2200 u2202 (u2157 + 1) (by omega) (qm_gk g2194 (by decide) (Or.inl (by decide))) (qm_gk g2195 (by decide) (Or.inl (by decide))) (qm_gk g2196 (by decide) (Or.inl (by decide))) (qm_gk g2197 (by decide) (Or.inl (by decide))) (qm_gk g2199 (by decide) (Or.inl (by decide))) (qm_gk g2201 (by decide) (Or.inr rfl)) (qm_ge _ _ _) hf2204 hf2205 hf2206 (by omega)
        refine qr_if_ge 46 43 rfl rfl rfl hv2188 (fun h2208 => ?_) (fun h2208 => ?_)
        · skip
          refine qr_iload 48 rfl (qm_ge _ _ _) rfl ?_
          refine qr_aload_n 49 rfl (qm_gk g2147 (by decide) (Or.inl (by decide))) rfl ?_
          refine qr_get 52 rfl rfl rfl (by decide) rfl ?_
          refine qr_iload_n 53 rfl (qm_gk g2149 (by decide) (Or.inl (by decide))) rfl ?_
          refine qr_iload 55 rfl (qm_gk g2156 (by decide) (Or.inr rfl)) rfl ?_
          refine qr_iconst 56 rfl rfl ?_
          refine qr_ixor 57 rfl rfl ?_
          refine qy_can (fun v2209 hv2209 => ?_)
          refine qr_iand 58 rfl rfl ?_
          refine qy_andl (by omega) (fun v2210 hv2210 => ?_)
          refine qr_iaload 59 rfl rfl (by omega) (by decide) rfl ?_
          refine qr_topI (fun v2211 hv2211 => ?_)
          have hs2212 : (-2147483648) ≤ v2211 ∧ v2211 ≤ 2147483647 := by rw [hv2211]; exact hI2.2.1 67 _ (show _ < 4096 by omega)
          refine qr_iadd 60 rfl rfl ?_
          refine qy_can (fun v2213 hv2213 => ?_)
          refine qr_istore _ 62 rfl (by decide) rfl rfl ?_
          refine qr_iload 64 rfl (qm_ge _ _ _) rfl ?_
          refine qr_iload 66 rfl (qm_gk (qm_gk g2152 (by decide) (Or.inl (by decide))) (by decide) (Or.inl (by decide))) rfl ?_
          refine qr_icmp_lt 97 69 rfl rfl rfl hv2213 (qrg hf2159 (by decide) (by decide)) (fun h2214 => ?_) (fun h2214 => ?_)
          · skip
            exact hJ2207 _ u2151 u2153 u2155 (qm_gk (qm_gk g2147 (by decide) (Or.inl (by decide))) (by decide) (Or.inl (by decide))) (qm_gk (qm_gk g2148 (by decide) (Or.inl (by decide))) (by decide) (Or.inl (by decide))) (qm_gk (qm_gk g2149 (by decide) (Or.inl (by decide))) (by decide) (Or.inl (by decide))) (qm_gk (qm_gk g2150 (by decide) (Or.inl (by decide))) (by decide) (Or.inl (by decide))) (qm_gk (qm_gk g2152 (by decide) (Or.inl (by decide))) (by decide) (Or.inl (by decide))) (qm_gk (qm_gk g2154 (by decide) (Or.inl (by decide))) (by decide) (Or.inl (by decide))) (qm_gk (qm_gk g2156 (by decide) (Or.inr rfl)) (by decide) (Or.inl (by decide))) hf2158 hf2159 hf2160
          · skip
            refine qr_iload 71 rfl (qm_ge _ _ _) rfl ?_
            refine qr_iload 73 rfl (qm_gk (qm_gk g2152 (by decide) (Or.inl (by decide))) (by decide) (Or.inl (by decide))) rfl ?_
            refine qr_icmp_ne 86 76 rfl rfl rfl hv2213 (qrg hf2159 (by decide) (by decide)) (fun h2215 => ?_) (fun h2215 => ?_)
            · skip
              refine qr_iload 88 rfl (qm_gk (qm_gk g2156 (by decide) (Or.inr rfl)) (by decide) (Or.inl (by decide))) rfl ?_
              refine qr_istore_n _ 89 rfl (by decide) rfl rfl ?_
              refine qr_iload 91 rfl (qm_gk (qm_ge _ _ _) (by decide) (Or.inl (by decide))) rfl ?_
              refine qr_istore _ 93 rfl (by decide) rfl rfl ?_
              refine qr_iload 95 rfl (qm_gk (qm_gk (qm_gk (qm_ge _ _ _) (by decide) (Or.inr rfl)) (by decide) (Or.inl (by decide))) (by decide) (Or.inl (by decide))) rfl ?_
              refine qr_istore _ 97 rfl (by decide) rfl rfl ?_
              exact hJ2207 _ u2157 v2213 v2188 (qm_gk (qm_gk (qm_gk (qm_gk (qm_gk g2147 (by decide) (Or.inl (by decide))) (by decide) (Or.inl (by decide))) (by decide) (Or.inl (by decide))) (by decide) (Or.inl (by decide))) (by decide) (Or.inl (by decide))) (qm_gk (qm_gk (qm_gk (qm_gk (qm_gk g2148 (by decide) (Or.inl (by decide))) (by decide) (Or.inl (by decide))) (by decide) (Or.inl (by decide))) (by decide) (Or.inl (by decide))) (by decide) (Or.inl (by decide))) (qm_gk (qm_gk (qm_gk (qm_gk (qm_gk g2149 (by decide) (Or.inl (by decide))) (by decide) (Or.inl (by decide))) (by decide) (Or.inr rfl)) (by decide) (Or.inl (by decide))) (by decide) (Or.inl (by decide))) (qm_gk (qm_gk (qm_ge _ _ _) (by decide) (Or.inr rfl)) (by decide) (Or.inl (by decide))) (qm_gk (qm_ge _ _ _) (by decide) (Or.inr rfl)) (qm_ge _ _ _) (qm_gk (qm_gk (qm_gk (qm_gk (qm_gk g2156 (by decide) (Or.inr rfl)) (by decide) (Or.inl (by decide))) (by decide) (Or.inl (by decide))) (by decide) (Or.inl (by decide))) (by decide) (Or.inl (by decide))) (by omega) (by omega) (by omega)
            · skip
              refine qr_iload 78 rfl (qm_gk (qm_ge _ _ _) (by decide) (Or.inr rfl)) rfl ?_
              refine qr_iload 80 rfl (qm_gk (qm_gk g2154 (by decide) (Or.inl (by decide))) (by decide) (Or.inl (by decide))) rfl ?_
              refine qr_icmp_gt 86 83 rfl rfl rfl hv2188 (qrg hf2160 (by decide) (by decide)) (fun h2216 => ?_) (fun h2216 => ?_)
              · skip
                refine qr_iload 88 rfl (qm_gk (qm_gk g2156 (by decide) (Or.inr rfl)) (by decide) (Or.inl (by decide))) rfl ?_
                refine qr_istore_n _ 89 rfl (by decide) rfl rfl ?_
                refine qr_iload 91 rfl (qm_gk (qm_ge _ _ _) (by decide) (Or.inl (by decide))) rfl ?_
                refine qr_istore _ 93 rfl (by decide) rfl rfl ?_
                refine qr_iload 95 rfl (qm_gk (qm_gk (qm_gk (qm_ge _ _ _) (by decide) (Or.inr rfl)) (by decide) (Or.inl (by decide))) (by decide) (Or.inl (by decide))) rfl ?_
                refine qr_istore _ 97 rfl (by decide) rfl rfl ?_
                exact hJ2207 _ u2157 v2213 v2188 (qm_gk (qm_gk (qm_gk (qm_gk (qm_gk g2147 (by decide) (Or.inl (by decide))) (by decide) (Or.inl (by decide))) (by decide) (Or.inl (by decide))) (by decide) (Or.inl (by decide))) (by decide) (Or.inl (by decide))) (qm_gk (qm_gk (qm_gk (qm_gk (qm_gk g2148 (by decide) (Or.inl (by decide))) (by decide) (Or.inl (by decide))) (by decide) (Or.inl (by decide))) (by decide) (Or.inl (by decide))) (by decide) (Or.inl (by decide))) (qm_gk (qm_gk (qm_gk (qm_gk (qm_gk g2149 (by decide) (Or.inl (by decide))) (by decide) (Or.inl (by decide))) (by decide) (Or.inr rfl)) (by decide) (Or.inl (by decide))) (by decide) (Or.inl (by decide))) (qm_gk (qm_gk (qm_ge _ _ _) (by decide) (Or.inr rfl)) (by decide) (Or.inl (by decide))) (qm_gk (qm_ge _ _ _) (by decide) (Or.inr rfl)) (qm_ge _ _ _) (qm_gk (qm_gk (qm_gk (qm_gk (qm_gk g2156 (by decide) (Or.inr rfl)) (by decide) (Or.inl (by decide))) (by decide) (Or.inl (by decide))) (by decide) (Or.inl (by decide))) (by decide) (Or.inl (by decide))) (by omega) (by omega) (by omega)
              · skip
                refine qr_goto 97 rfl rfl ?_
                exact hJ2207 _ u2151 u2153 u2155 (qm_gk (qm_gk g2147 (by decide) (Or.inl (by decide))) (by decide) (Or.inl (by decide))) (qm_gk (qm_gk g2148 (by decide) (Or.inl (by decide))) (by decide) (Or.inl (by decide))) (qm_gk (qm_gk g2149 (by decide) (Or.inl (by decide))) (by decide) (Or.inl (by decide))) (qm_gk (qm_gk g2150 (by decide) (Or.inl (by decide))) (by decide) (Or.inl (by decide))) (qm_gk (qm_gk g2152 (by decide) (Or.inl (by decide))) (by decide) (Or.inl (by decide))) (qm_gk (qm_gk g2154 (by decide) (Or.inl (by decide))) (by decide) (Or.inl (by decide))) (qm_gk (qm_gk g2156 (by decide) (Or.inr rfl)) (by decide) (Or.inl (by decide))) hf2158 hf2159 hf2160
        · skip
          refine qr_goto 97 rfl rfl ?_
          exact hJ2207 _ u2151 u2153 u2155 (qm_gk g2147 (by decide) (Or.inl (by decide))) (qm_gk g2148 (by decide) (Or.inl (by decide))) (qm_gk g2149 (by decide) (Or.inl (by decide))) (qm_gk g2150 (by decide) (Or.inl (by decide))) (qm_gk g2152 (by decide) (Or.inl (by decide))) (qm_gk g2154 (by decide) (Or.inl (by decide))) (qm_gk g2156 (by decide) (Or.inr rfl)) hf2158 hf2159 hf2160
  exact hL2162 ((4096 - 0 + 1 : Int)).toNat _ 0 (-1) (-1) 0 (by omega) rfl rfl rfl rfl rfl rfl rfl (by decide) (by decide) (by decide) (by decide)

set_option maxHeartbeats 4000000 in
set_option maxRecDepth 20000 in
/-- OneRoof$Guests.meetsEarlier -/
theorem sf_132_64 {L : Nat} {xs : Nat → Int} {vb : Bool} {d : Nat} {σ α : Nat → Nat → Int} {κ : Nat → Option Nat} {ρ : Nat} {x1 : Int} {x2 : Int} (hI : qI σ α κ ρ) (r1 : 0 ≤ x1 ∧ x1 ≤ 5) (r2 : 0 ≤ x2 ∧ x2 ≤ 5) : qm_T (qe L xs vb) (d + 2) 132 [.ref 64, .int (qz x1), .int (qz x2)] (qw σ α κ ρ) (fun r w' => w' = qw σ α κ ρ ∧ ∃ v : Int, r = some (.int (qz v)) ∧ (0 ≤ v ∧ v ≤ 1)) := by
  refine qr_start (d := d + 1) qv_e132 (Nat.le_of_ble_eq_true rfl) ?_
  show qr_W (qe L xs vb) (d + 1) qx_e132 _ (0, [(0, .ref 64), (1, .int (qz x1)), (2, .int (qz x2))], [], _, 0, 0)
  refine qr_iconst 1 rfl rfl ?_
  refine qr_iload_n 2 rfl rfl rfl ?_
  refine qr_aload_n 3 rfl rfl rfl ?_
  refine qr_get 6 rfl rfl rfl (by decide) rfl ?_
  have hs1 : (-2147483648) ≤ σ 64 7 ∧ σ 64 7 ≤ 2147483647 := hI.1 64 7
  refine qr_isub 7 rfl rfl ?_
  refine qy_can (fun v2 hv2 => ?_)
  refine qr_callN 10 rfl rfl rfl (sf_30 (d := d + 0) hI (by decide) hv2) ?_
  rintro _ _ ⟨rfl, v3, rfl, hv3, hp4⟩
  show qr_W (qe L xs vb) (d + 1) qx_e132 _ (10, _, [.int (qz v3)], qw σ α κ ρ, 0, 0)
  refine qr_istore_n _ 11 rfl (by decide) rfl rfl ?_
  have hL47 : ∀ (n : Nat) (ls : qm_L) (u45 : Int), ((x1 - u45).toNat : Int) < (n : Int) → qm_get ls 0 = some (.ref 64) → qm_get ls 1 = some (.int (qz x1)) → qm_get ls 2 = some (.int (qz x2)) → qm_get ls 3 = some (.int (qz u45)) → (0 ≤ u45 ∧ u45 ≤ 2147483647) → qr_W (qe L xs vb) (d + 1) qx_e132 (fun r w' => w' = qw σ α κ ρ ∧ ∃ v : Int, r = some (.int (qz v)) ∧ (0 ≤ v ∧ v ≤ 1)) (11, ls, [], qw σ α κ ρ, 0, 0) := by
    intro n
    induction n with
    | zero => intro ls u45 hm g41 g42 g43 g44 hf46; exact False.elim (by omega)
    | succ n ih48 =>
      intro ls u45 hm g41 g42 g43 g44 hf46
      refine qr_iload_n 12 rfl g44 rfl ?_
      refine qr_iload_n 13 rfl g42 rfl ?_
      refine qr_icmp_ge 48 16 rfl rfl rfl (qrg hf46 (by decide) (by decide)) (qrg r1 (by decide) (by decide)) (fun h49 => ?_) (fun h49 => ?_)
      · skip
        refine qr_iconst 49 rfl rfl ?_
        refine qr_retZ rfl rfl (Or.inl rfl) (by decide) (by decide) ?_
        exact ⟨rfl, 0, rfl, (by decide)⟩
      · skip
        refine qr_aload_n 17 rfl g41 rfl ?_
        refine qr_get 20 rfl rfl rfl (by decide) rfl ?_
        refine qr_iload_n 21 rfl g42 rfl ?_
        refine qr_bipush 23 rfl (by decide) rfl ?_
        refine qr_imul 24 rfl rfl ?_
        refine qr_iload_n 25 rfl g43 rfl ?_
        refine qr_iadd 26 rfl rfl ?_
        refine qr_iaload 27 rfl rfl (by omega) (by decide) rfl ?_
        refine qr_topI (fun v50 hv50 => ?_)
        have hs51 : (-2147483648) ≤ v50 ∧ v50 ≤ 2147483647 := by rw [hv50]; exact hI.2.1 68 _ (show _ < 36 by omega)
        refine qr_i2l 28 rfl hs51 rfl ?_
        refine qr_aload_n 29 rfl g41 rfl ?_
        refine qr_get 32 rfl rfl rfl (by decide) rfl ?_
        refine qr_iload_n 33 rfl g44 rfl ?_
        refine qr_iaload 34 rfl rfl (by omega) (by decide) rfl ?_
        refine qr_topI (fun v52 hv52 => ?_)
        have hs53 : 0 ≤ v52 ∧ v52 ≤ 11 := by rw [hv52]; exact hI.2.1 69 _ (show _ < 6 by omega)
        refine qr_callN 37 rfl rfl rfl (sf_50 (d := d + 0) hI (qrg hs51 (by decide) (by decide)) (qrg hs53 (by decide) (by decide))) ?_
        rintro _ _ ⟨rfl, v54, rfl, hv54⟩
        show qr_W (qe L xs vb) (d + 1) qx_e132 _ (37, _, [.int (qz v54)], qw σ α κ ρ, 0, 0)
        refine qr_if_eq 42 40 rfl rfl rfl (qrg hv54 (by decide) (by decide)) (fun h55 => ?_) (fun h55 => ?_)
        · skip
          refine qr_iinc _ 45 rfl g44 (by decide) rfl rfl ?_
          refine qr_goto 11 rfl rfl ?_
          exact ih48 _ (u45 + 1) (by omega) (qm_gk g41 (by decide) (Or.inl (by decide))) (qm_gk g42 (by decide) (Or.inl (by decide))) (qm_gk g43 (by decide) (Or.inr rfl)) (qm_ge _ _ _) (by omega)
        · skip
          refine qr_iconst 41 rfl rfl ?_
          refine qr_retZ rfl rfl (Or.inr rfl) (by decide) (by decide) ?_
          exact ⟨rfl, 1, rfl, (by decide)⟩
  exact hL47 ((((x1 - v3).toNat : Int) + 1 : Int)).toNat _ v3 (by omega) rfl rfl rfl rfl (by omega)
end
section
set_option maxHeartbeats 4000000 in
set_option maxRecDepth 20000 in
/-- OneRoof.blow -/
theorem sf_138_16 {L : Nat} {xs : Nat → Int} {vb : Bool} {d : Nat} {σ α : Nat → Nat → Int} {κ : Nat → Option Nat} {ρ : Nat} {x1 : Int} (hI : qI σ α κ ρ) (r1 : (-2147483648) ≤ x1 ∧ x1 ≤ 2147483647) : qm_T (qe L xs vb) (d + 1) 138 [.ref 16, .int (qz x1)] (qw σ α κ ρ) (fun r w' => w' = qw σ α κ ρ ∧ ∃ v : Int, r = some (.int (qz v)) ∧ ((-2147483648) ≤ v ∧ v ≤ 2147483647)) := by
  refine qr_start (d := d + 0) qv_e138 (Nat.le_of_ble_eq_true rfl) ?_
  show qr_W (qe L xs vb) (d + 0) qx_e138 _ (0, [(0, .ref 16), (1, .int (qz x1))], [], _, 0, 0)
  refine qr_iload_n 1 rfl rfl rfl ?_
  refine qr_if_lt 15 4 rfl rfl rfl r1 (fun h1 => ?_) (fun h1 => ?_)
  · skip
    refine qr_iconst 16 rfl rfl ?_
    refine qr_retI rfl rfl (by decide) (by decide) ?_
    exact ⟨rfl, (-1), rfl, (by decide)⟩
  · skip
    refine qr_iload_n 5 rfl rfl rfl ?_
    refine qr_aload_n 6 rfl rfl rfl ?_
    refine qr_get 9 rfl rfl rfl (by decide) rfl ?_
    refine qr_get 12 rfl rfl rfl (by decide) rfl ?_
    have hs2 : 0 ≤ σ 70 2 ∧ σ 70 2 ≤ 31 := hI.1 70 2
    refine qr_icmp_lt 17 15 rfl rfl rfl r1 (qrg hs2 (by decide) (by decide)) (fun h3 => ?_) (fun h3 => ?_)
    · skip
      refine qr_aload_n 18 rfl rfl rfl ?_
      refine qr_get 21 rfl rfl rfl (by decide) rfl ?_
      refine qr_get 24 rfl rfl rfl (by decide) rfl ?_
      refine qr_iload_n 25 rfl rfl rfl ?_
      refine qr_iaload 26 rfl rfl (by omega) (by decide) rfl ?_
      refine qr_topI (fun v4 hv4 => ?_)
      have hs5 : 0 ≤ v4 ∧ v4 ≤ 3131 := by rw [hv4]; exact hI.2.1 71 _ (show _ < 31 by omega)
      have hs6 : v4 % 100 ≤ 31 := by rw [hv4]; exact hI.2.2.2.2.1 71 (Or.inl rfl) _ (by omega)
      refine qr_retI rfl rfl (by decide) (by decide) ?_
      exact ⟨rfl, v4, rfl, (qrg hs5 (by decide) (by decide))⟩
    · skip
      refine qr_iconst 16 rfl rfl ?_
      refine qr_retI rfl rfl (by decide) (by decide) ?_
      exact ⟨rfl, (-1), rfl, (by decide)⟩

set_option maxHeartbeats 4000000 in
set_option maxRecDepth 20000 in
/-- OneRoof.alive -/
theorem sf_139_16 {L : Nat} {xs : Nat → Int} {vb : Bool} {d : Nat} {σ α : Nat → Nat → Int} {κ : Nat → Option Nat} {ρ : Nat}  (hI : qI σ α κ ρ)  : qm_T (qe L xs vb) (d + 1) 139 [.ref 16] (qw σ α κ ρ) (fun r w' => w' = qw σ α κ ρ ∧ ∃ v : Int, r = some (.long (ql v)) ∧ ((-9223372036854775808) ≤ v ∧ v ≤ 9223372036854775807)) := by
  refine qr_start (d := d + 0) qv_e139 (Nat.le_of_ble_eq_true rfl) ?_
  show qr_W (qe L xs vb) (d + 0) qx_e139 _ (0, [(0, .ref 16)], [], _, 0, 0)
  refine qr_aload_n 1 rfl rfl rfl ?_
  refine qr_get 4 rfl rfl rfl (by decide) rfl ?_
  refine qr_get 7 rfl rfl rfl (by decide) rfl ?_
  have hs1 : 0 ≤ σ 70 2 ∧ σ 70 2 ≤ 31 := hI.1 70 2
  refine qr_if_ne 16 10 rfl rfl rfl (qrg hs1 (by decide) (by decide)) (fun h2 => ?_) (fun h2 => ?_)
  · skip
    refine qr_aload_n 17 rfl rfl rfl ?_
    refine qr_get 20 rfl rfl rfl (by decide) rfl ?_
    refine qr_get 23 rfl rfl rfl (by decide) rfl ?_
    have hs3 : (-9223372036854775808) ≤ σ 70 3 ∧ σ 70 3 ≤ 9223372036854775807 := hI.1 70 3
    refine qr_retL rfl rfl (by decide) (by decide) ?_
    exact ⟨rfl, (σ 70 3), rfl, hs3⟩
  · skip
    refine qr_ldc2 (-1) 13 rfl (by decide) rfl ?_
    refine qr_goto 23 rfl rfl ?_
    refine qr_retL rfl rfl (by decide) (by decide) ?_
    exact ⟨rfl, (-1), rfl, (by decide)⟩

set_option maxHeartbeats 4000000 in
set_option maxRecDepth 20000 in
/-- OneRoof.trace -/
theorem sf_154_16 {L : Nat} {xs : Nat → Int} {vb : Bool} {d : Nat} {σ α : Nat → Nat → Int} {κ : Nat → Option Nat} {ρ : Nat} {x1 : Int} (hI : qI σ α κ ρ) (r1 : (-2147483648) ≤ x1 ∧ x1 ≤ 2147483647) : qm_T (qe L xs vb) (d + 1) 154 [.ref 16, .int (qz x1)] (qw σ α κ ρ) (fun r w' => w' = qw σ α κ ρ ∧ ∃ v : Int, r = some (.int (qz v)) ∧ ((-2147483648) ≤ v ∧ v ≤ 2147483647)) := by
  refine qr_start (d := d + 0) qv_e154 (Nat.le_of_ble_eq_true rfl) ?_
  show qr_W (qe L xs vb) (d + 0) qx_e154 _ (0, [(0, .ref 16), (1, .int (qz x1))], [], _, 0, 0)
  refine qr_iload_n 1 rfl rfl rfl ?_
  refine qr_if_lt 27 4 rfl rfl rfl r1 (fun h1 => ?_) (fun h1 => ?_)
  · skip
    refine qr_iconst 28 rfl rfl ?_
    refine qr_retI rfl rfl (by decide) (by decide) ?_
    exact ⟨rfl, (-1), rfl, (by decide)⟩
  · skip
    refine qr_iload_n 5 rfl rfl rfl ?_
    refine qr_aload_n 6 rfl rfl rfl ?_
    refine qr_get 9 rfl rfl rfl (by decide) rfl ?_
    refine qr_get 12 rfl rfl rfl (by decide) rfl ?_
    have hs2 : (-2147483648) ≤ σ 42 1 ∧ σ 42 1 ≤ 2147483647 := hI.1 42 1
    refine qr_icmp_ge 27 15 rfl rfl rfl r1 hs2 (fun h3 => ?_) (fun h3 => ?_)
    · skip
      refine qr_iconst 28 rfl rfl ?_
      refine qr_retI rfl rfl (by decide) (by decide) ?_
      exact ⟨rfl, (-1), rfl, (by decide)⟩
    · skip
      refine qr_iload_n 16 rfl rfl rfl ?_
      refine qr_aload_n 17 rfl rfl rfl ?_
      refine qr_get 20 rfl rfl rfl (by decide) rfl ?_
      refine qr_get 23 rfl rfl rfl (by decide) rfl ?_
      refine qr_alen 24 rfl rfl (by first | exact Or.inl (by decide) | exact Or.inr (Or.inl rfl) | exact Or.inr (Or.inr (Or.inl rfl)) | exact Or.inr (Or.inr (Or.inr (Or.inl rfl)))) rfl ?_
      refine qy_v 24 rfl ?_
      refine qr_icmp_lt 29 27 rfl rfl rfl r1 (by decide) (fun h4 => ?_) (fun h4 => ?_)
      · skip
        refine qr_aload_n 30 rfl rfl rfl ?_
        refine qr_get 33 rfl rfl rfl (by decide) rfl ?_
        refine qr_get 36 rfl rfl rfl (by decide) rfl ?_
        refine qr_iload_n 37 rfl rfl rfl ?_
        refine qr_iaload 38 rfl rfl (by omega) (by decide) rfl ?_
        refine qr_topI (fun v5 hv5 => ?_)
        have hs6 : (-2147483648) ≤ v5 ∧ v5 ≤ 2147483647 := by rw [hv5]; exact hI.2.1 43 _ (show _ < 24 by omega)
        refine qr_retI rfl rfl (by decide) (by decide) ?_
        exact ⟨rfl, v5, rfl, hs6⟩
      · skip
        refine qr_iconst 28 rfl rfl ?_
        refine qr_retI rfl rfl (by decide) (by decide) ?_
        exact ⟨rfl, (-1), rfl, (by decide)⟩

set_option maxHeartbeats 4000000 in
set_option maxRecDepth 20000 in
/-- OneRoof.wed -/
theorem sf_141_16 {L : Nat} {xs : Nat → Int} {vb : Bool} {d : Nat} {σ α : Nat → Nat → Int} {κ : Nat → Option Nat} {ρ : Nat} {x1 : Int} {x2 : Int} {x3 : Int} (hI : qI σ α κ ρ) (r1 : (-2147483648) ≤ x1 ∧ x1 ≤ 2147483647) (r2 : (-2147483648) ≤ x2 ∧ x2 ≤ 2147483647) (r3 : (-2147483648) ≤ x3 ∧ x3 ≤ 2147483647) : qm_T (qe L xs vb) (d + 4) 141 [.ref 16, .int (qz x1), .int (qz x2), .int (qz x3)] (qw σ α κ ρ) (fun r w' => ∃ σ' α', w' = qw σ' α' κ ρ ∧ qI σ' α' κ ρ ∧ qFr [(25, 1)] [26] σ α σ' α' ∧ ∃ v : Int, r = some (.int (qz v)) ∧ ((-2147483648) ≤ v ∧ v ≤ 2147483647)) := by
  refine qr_start (d := d + 3) qv_e141 (Nat.le_of_ble_eq_true rfl) ?_
  show qr_W (qe L xs vb) (d + 3) qx_e141 _ (0, [(0, .ref 16), (1, .int (qz x1)), (2, .int (qz x2)), (3, .int (qz x3))], [], _, 0, 0)
  have hF0 := qFr_rf [(25, 1)] [26] σ α
  refine qr_aload_n 1 rfl rfl rfl ?_
  refine qr_get 4 rfl rfl rfl (by decide) rfl ?_
  refine qr_iload_n 5 rfl rfl rfl ?_
  refine qr_callN 8 rfl rfl rfl (sf_61_17 (d := d + 1) hI r1) ?_
  have hs3 : 0 ≤ σ 17 6 ∧ σ 17 6 ≤ 32 := hI.1 17 6
  rintro _ _ ⟨rfl, v1, rfl, hv1, hp2⟩
  show qr_W (qe L xs vb) (d + 3) qx_e141 _ (8, _, [.int (qz v1)], qw σ α κ ρ, 0, 0)
  refine qr_if_eq 25 11 rfl rfl rfl (qrg hv1 (by decide) (by decide)) (fun h4 => ?_) (fun h4 => ?_)
  · skip
    refine qr_iconst 26 rfl rfl ?_
    refine qr_retI rfl rfl (by decide) (by decide) ?_
    exact ⟨_, _, rfl, hI, hF0, (-1), rfl, (by decide)⟩
  · skip
    refine qr_iload_n 12 rfl rfl rfl ?_
    refine qr_callN 15 rfl rfl rfl (sf_62 (d := d + 2) hI r2) ?_
    rintro _ _ ⟨rfl, v5, rfl, hv5, hp6⟩
    show qr_W (qe L xs vb) (d + 3) qx_e141 _ (15, _, [.int (qz v5)], qw σ α κ ρ, 0, 0)
    refine qr_if_eq 25 18 rfl rfl rfl (qrg hv5 (by decide) (by decide)) (fun h7 => ?_) (fun h7 => ?_)
    · skip
      refine qr_iconst 26 rfl rfl ?_
      refine qr_retI rfl rfl (by decide) (by decide) ?_
      exact ⟨_, _, rfl, hI, hF0, (-1), rfl, (by decide)⟩
    · skip
      refine qr_iload_n 19 rfl rfl rfl ?_
      refine qr_callN 22 rfl rfl rfl (sf_41 (d := d + 2) hI r3) ?_
      rintro _ _ ⟨rfl, v8, rfl, hv8, hp9⟩
      show qr_W (qe L xs vb) (d + 3) qx_e141 _ (22, _, [.int (qz v8)], qw σ α κ ρ, 0, 0)
      refine qr_if_ne 27 25 rfl rfl rfl (qrg hv8 (by decide) (by decide)) (fun h10 => ?_) (fun h10 => ?_)
      · skip
        refine qr_iload_n 28 rfl rfl rfl ?_
        refine qr_bipush 30 rfl (by decide) rfl ?_
        refine qr_idiv 31 rfl (by omega) (by decide) rfl ?_
        refine qr_istore _ 33 rfl (by decide) rfl rfl ?_
        refine qr_iload_n 34 rfl rfl rfl ?_
        refine qr_bipush 36 rfl (by decide) rfl ?_
        refine qr_irem 37 rfl (by omega) (by decide) rfl ?_
        refine qr_istore _ 39 rfl (by decide) rfl rfl ?_
        refine qr_aload_n 40 rfl rfl rfl ?_
        refine qr_get 43 rfl rfl rfl (by decide) rfl ?_
        refine qr_iload 45 rfl rfl rfl ?_
        refine qr_iload 47 rfl rfl rfl ?_
        refine qr_callN 50 rfl rfl rfl (sf_57_23 (d := d + 2) hI (by omega) (by omega)) ?_
        rintro _ _ ⟨rfl, v11, rfl, hv11⟩
        show qr_W (qe L xs vb) (d + 3) qx_e141 _ (50, _, [.int (qz v11)], qw σ α κ ρ, 0, 0)
        refine qr_iconst 51 rfl rfl ?_
        refine qr_icmp_ne 56 54 rfl rfl rfl (qrg hv11 (by decide) (by decide)) (by decide) (fun h12 => ?_) (fun h12 => ?_)
        · skip
          refine qr_aload_n 57 rfl rfl rfl ?_
          refine qr_get 60 rfl rfl rfl (by decide) rfl ?_
          refine qr_iload_n 61 rfl rfl rfl ?_
          refine qr_aload_n 62 rfl rfl rfl ?_
          refine qr_get 65 rfl rfl rfl (by decide) rfl ?_
          refine qr_aload_n 66 rfl rfl rfl ?_
          refine qr_get 69 rfl rfl rfl (by decide) rfl ?_
          refine qr_get 72 rfl rfl rfl (by decide) rfl ?_
          have hs13 : 0 ≤ σ 17 6 ∧ σ 17 6 ≤ 32 := hI.1 17 6
          refine qr_callN 75 rfl rfl rfl (sf_142_27_23 (d := d + 0) hI r2 hs13) ?_
          rintro _ _ ⟨rfl, v14, rfl, hv14⟩
          show qr_W (qe L xs vb) (d + 3) qx_e141 _ (75, _, [.int (qz v14)], qw σ α κ ρ, 0, 0)
          refine qr_istore _ 77 rfl (by decide) rfl rfl ?_
          refine qr_iload_n 78 rfl rfl rfl ?_
          refine qr_iconst 79 rfl rfl ?_
          refine qr_icmp_ne 85 82 rfl rfl rfl r3 (by decide) (fun h15 => ?_) (fun h15 => ?_)
          · skip
            refine qr_aload_n 86 rfl rfl rfl ?_
            refine qr_get 89 rfl rfl rfl (by decide) rfl ?_
            refine qr_aload_n 90 rfl rfl rfl ?_
            refine qr_get 93 rfl rfl rfl (by decide) rfl ?_
            refine qr_callN 96 rfl rfl rfl (sf_143_25_23 (d := d + 2) hI ) ?_
            rintro _ _ ⟨σ16, α17, rfl, hI18, hG19, rfl⟩
            have hF20 : qFr [(25, 1)] [26] σ α σ16 α17 := qFr_t hF0 hG19 (by decide) (by decide)
            show qr_W (qe L xs vb) (d + 3) qx_e141 _ (96, _, [], qw σ16 α17 κ ρ, 0, 0)
            refine qr_aload_n 97 rfl rfl rfl ?_
            refine qr_get 100 rfl rfl rfl (by decide) rfl ?_
            refine qr_iload 102 rfl rfl rfl ?_
            refine qr_iload 104 rfl rfl rfl ?_
            refine qr_aload_n 105 rfl rfl rfl ?_
            refine qr_get 108 rfl rfl rfl (by decide) rfl ?_
            as_aux_lemma =>
              refine qr_get 111 rfl rfl rfl (by decide) rfl ?_
              refine qy_v (σ 17 6) ((hG19.1 17 6 (by decide)).trans rfl) ?_
              refine qr_callN 114 rfl rfl rfl (sf_58_25 (d := d + 1) hI18 (by omega) (by omega) hs13) ?_
              rintro _ _ ⟨σ21, α22, rfl, hI23, hG24, rfl⟩
              have hF25 : qFr [(25, 1)] [26] σ α σ21 α22 := qFr_t hF20 hG24 (by decide) (by decide)
              show qr_W (qe L xs vb) (d + 3) qx_e141 _ (114, _, [], qw σ21 α22 κ ρ, 0, 0)
              refine qr_aload_n 115 rfl rfl rfl ?_
              refine qr_get 118 rfl rfl rfl (by decide) rfl ?_
              refine qr_iload_n 119 rfl rfl rfl ?_
              refine qr_aload_n 120 rfl rfl rfl ?_
              refine qr_get 123 rfl rfl rfl (by decide) rfl ?_
              refine qr_aload_n 124 rfl rfl rfl ?_
              refine qr_get 127 rfl rfl rfl (by decide) rfl ?_
              refine qr_get 130 rfl rfl rfl (by decide) rfl ?_
              refine qy_v (σ 17 6) ((hG24.1 17 6 (by decide)).trans ((hG19.1 17 6 (by decide)).trans rfl)) ?_
              refine qr_callN 133 rfl rfl rfl (sf_142_27_25 (d := d + 0) hI23 r2 hs13) ?_
              rintro _ _ ⟨rfl, v26, rfl, hv26⟩
              show qr_W (qe L xs vb) (d + 3) qx_e141 _ (133, _, [.int (qz v26)], qw σ21 α22 κ ρ, 0, 0)
              refine qr_iload 135 rfl rfl rfl ?_
              refine qr_isub 136 rfl rfl ?_
              refine qy_can (fun v27 hv27 => ?_)
              refine qr_retI rfl rfl (by decide) (by decide) ?_
              exact ⟨_, _, rfl, hI23, hF25, v27, rfl, hv27⟩
          · skip
            refine qr_iload 84 rfl rfl rfl ?_
            refine qr_retI rfl rfl (by decide) (by decide) ?_
            exact ⟨_, _, rfl, hI, hF0, v14, rfl, hv14⟩
        · skip
          refine qr_iconst 55 rfl rfl ?_
          refine qr_retI rfl rfl (by decide) (by decide) ?_
          exact ⟨_, _, rfl, hI, hF0, (-1), rfl, (by decide)⟩
      · skip
        refine qr_iconst 26 rfl rfl ?_
        refine qr_retI rfl rfl (by decide) (by decide) ?_
        exact ⟨_, _, rfl, hI, hF0, (-1), rfl, (by decide)⟩

set_option maxHeartbeats 4000000 in
set_option maxRecDepth 20000 in
/-- OneRoof.taken -/
theorem sf_167_16 {L : Nat} {xs : Nat → Int} {vb : Bool} {d : Nat} {σ α : Nat → Nat → Int} {κ : Nat → Option Nat} {ρ : Nat} {x1 : Int} {x2 : Int} (hI : qI σ α κ ρ) (r1 : (-2147483648) ≤ x1 ∧ x1 ≤ 2147483647) (r2 : (-2147483648) ≤ x2 ∧ x2 ≤ 2147483647) : qm_T (qe L xs vb) (d + 2) 167 [.ref 16, .int (qz x1), .int (qz x2)] (qw σ α κ ρ) (fun r w' => w' = qw σ α κ ρ ∧ ∃ v : Int, r = some (.int (qz v)) ∧ ((-2147483648) ≤ v ∧ v ≤ 2147483647)) := by
  refine qr_start (d := d + 1) qv_e167 (Nat.le_of_ble_eq_true rfl) ?_
  show qr_W (qe L xs vb) (d + 1) qx_e167 _ (0, [(0, .ref 16), (1, .int (qz x1)), (2, .int (qz x2))], [], _, 0, 0)
  refine qr_aload_n 1 rfl rfl rfl ?_
  refine qr_get 4 rfl rfl rfl (by decide) rfl ?_
  refine qr_iload_n 5 rfl rfl rfl ?_
  refine qr_callN 8 rfl rfl rfl (sf_44_44 (d := d + 0) hI r1) ?_
  rintro _ _ ⟨rfl, v1, rfl, hv1, hp2⟩
  show qr_W (qe L xs vb) (d + 1) qx_e167 _ (8, _, [.int (qz v1)], qw σ α κ ρ, 0, 0)
  refine qr_if_eq 21 11 rfl rfl rfl (qrg hv1 (by decide) (by decide)) (fun h3 => ?_) (fun h3 => ?_)
  · skip
    refine qr_iconst 22 rfl rfl ?_
    refine qr_retI rfl rfl (by decide) (by decide) ?_
    exact ⟨rfl, (-1), rfl, (by decide)⟩
  · skip
    refine qr_iload_n 12 rfl rfl rfl ?_
    refine qr_if_lt 21 15 rfl rfl rfl r2 (fun h4 => ?_) (fun h4 => ?_)
    · skip
      refine qr_iconst 22 rfl rfl ?_
      refine qr_retI rfl rfl (by decide) (by decide) ?_
      exact ⟨rfl, (-1), rfl, (by decide)⟩
    · skip
      refine qr_iload_n 16 rfl rfl rfl ?_
      refine qr_bipush 18 rfl (by decide) rfl ?_
      refine qr_icmp_le 23 21 rfl rfl rfl r2 (by decide) (fun h5 => ?_) (fun h5 => ?_)
      · skip
        refine qr_aload_n 24 rfl rfl rfl ?_
        refine qr_get 27 rfl rfl rfl (by decide) rfl ?_
        refine qr_iload_n 28 rfl rfl rfl ?_
        refine qr_callN 31 rfl rfl rfl (sf_45_44 (d := d + 0) hI (by omega)) ?_
        rintro _ _ ⟨rfl, v6, rfl, hv6⟩
        show qr_W (qe L xs vb) (d + 1) qx_e167 _ (31, _, [.int (qz v6)], qw σ α κ ρ, 0, 0)
        refine qr_if_eq 37 34 rfl rfl rfl (qrg hv6 (by decide) (by decide)) (fun h7 => ?_) (fun h7 => ?_)
        · skip
          refine qr_aload_n 38 rfl rfl rfl ?_
          refine qr_get 41 rfl rfl rfl (by decide) rfl ?_
          refine qr_iload_n 42 rfl rfl rfl ?_
          refine qr_callN 45 rfl rfl rfl (sf_168_44 (d := d + 0) hI (by omega)) ?_
          rintro _ _ ⟨rfl, v8, rfl, hv8⟩
          show qr_W (qe L xs vb) (d + 1) qx_e167 _ (45, _, [.int (qz v8)], qw σ α κ ρ, 0, 0)
          refine qr_istore_n _ 46 rfl (by decide) rfl rfl ?_
          refine qr_aload_n 47 rfl rfl rfl ?_
          refine qr_get 50 rfl rfl rfl (by decide) rfl ?_
          refine qr_iload_n 51 rfl rfl rfl ?_
          refine qr_callN 54 rfl rfl rfl (sf_73_34 (d := d + 0) hI (qrg hv8 (by decide) (by decide))) ?_
          have hs11 : 0 ≤ σ 34 7 ∧ σ 34 7 ≤ 60 := hI.1 34 7
          rintro _ _ ⟨rfl, v9, rfl, hv9, hp10⟩
          show qr_W (qe L xs vb) (d + 1) qx_e167 _ (54, _, [.int (qz v9)], qw σ α κ ρ, 0, 0)
          refine qr_if_eq 73 57 rfl rfl rfl (qrg hv9 (by decide) (by decide)) (fun h12 => ?_) (fun h12 => ?_)
          · skip
            refine qr_bipush 75 rfl (by decide) rfl ?_
            refine qr_retI rfl rfl (by decide) (by decide) ?_
            exact ⟨rfl, (-12), rfl, (by decide)⟩
          · skip
            refine qr_aload_n 58 rfl rfl rfl ?_
            refine qr_get 61 rfl rfl rfl (by decide) rfl ?_
            refine qr_get 64 rfl rfl rfl (by decide) rfl ?_
            refine qr_iload_n 65 rfl rfl rfl ?_
            refine qr_iaload 66 rfl rfl (by omega) (by decide) rfl ?_
            refine qr_topI (fun v13 hv13 => ?_)
            have hs14 : (-2147483648) ≤ v13 ∧ v13 ≤ 2147483647 := by rw [hv13]; exact hI.2.1 35 _ (show _ < 60 from qrgt hv8 (by decide) (by decide))
            refine qr_iload_n 67 rfl rfl rfl ?_
            refine qr_callN 70 rfl rfl rfl (sf_169 (d := d + 0) hI hs14 r2) ?_
            rintro _ _ ⟨rfl, v15, rfl, hv15⟩
            show qr_W (qe L xs vb) (d + 1) qx_e167 _ (70, _, [.int (qz v15)], qw σ α κ ρ, 0, 0)
            refine qr_if_ne 76 73 rfl rfl rfl (qrg hv15 (by decide) (by decide)) (fun h16 => ?_) (fun h16 => ?_)
            · skip
              refine qr_aload_n 77 rfl rfl rfl ?_
              refine qr_get 80 rfl rfl rfl (by decide) rfl ?_
              refine qr_get 83 rfl rfl rfl (by decide) rfl ?_
              refine qr_iload_n 84 rfl rfl rfl ?_
              refine qr_iaload 85 rfl rfl (by omega) (by decide) rfl ?_
              refine qr_topI (fun v17 hv17 => ?_)
              have hs18 : (-2147483648) ≤ v17 ∧ v17 ≤ 2147483647 := by rw [hv17]; exact hI.2.1 35 _ (show _ < 60 from qrgt hv8 (by decide) (by decide))
              refine qr_retI rfl rfl (by decide) (by decide) ?_
              exact ⟨rfl, v17, rfl, hs18⟩
            · skip
              refine qr_bipush 75 rfl (by decide) rfl ?_
              refine qr_retI rfl rfl (by decide) (by decide) ?_
              exact ⟨rfl, (-12), rfl, (by decide)⟩
        · skip
          refine qr_bipush 36 rfl (by decide) rfl ?_
          refine qr_retI rfl rfl (by decide) (by decide) ?_
          exact ⟨rfl, (-11), rfl, (by decide)⟩
      · skip
        refine qr_iconst 22 rfl rfl ?_
        refine qr_retI rfl rfl (by decide) (by decide) ?_
        exact ⟨rfl, (-1), rfl, (by decide)⟩

set_option maxHeartbeats 4000000 in
set_option maxRecDepth 20000 in
/-- OneRoof.count -/
theorem sf_170_16 {L : Nat} {xs : Nat → Int} {vb : Bool} {d : Nat} {σ α : Nat → Nat → Int} {κ : Nat → Option Nat} {ρ : Nat} {x1 : Int} (hI : qI σ α κ ρ) (r1 : (-2147483648) ≤ x1 ∧ x1 ≤ 2147483647) : qm_T (qe L xs vb) (d + 2) 170 [.ref 16, .int (qz x1)] (qw σ α κ ρ) (fun r w' => w' = qw σ α κ ρ ∧ ∃ v : Int, r = some (.int (qz v)) ∧ ((-2147483648) ≤ v ∧ v ≤ 2147483647)) := by
  refine qr_start (d := d + 1) qv_e170 (Nat.le_of_ble_eq_true rfl) ?_
  show qr_W (qe L xs vb) (d + 1) qx_e170 _ (0, [(0, .ref 16), (1, .int (qz x1))], [], _, 0, 0)
  refine qr_iload_n 1 rfl rfl rfl ?_
  have h1 : x1 = 0 ∨ x1 = 1 ∨ x1 = 2 ∨ x1 = 3 ∨ x1 = 4 ∨ x1 = 5 ∨ x1 = 6 ∨ x1 = 7 ∨ (x1 < 0 ∨ 7 < x1) := by omega
  rcases h1 with h1 | h1 | h1 | h1 | h1 | h1 | h1 | h1 | h1
  · skip
    refine qr_tabIn 48 rfl r1 (by rw [h1]; decide) (by rw [h1]; rfl) rfl ?_
    refine qr_aload_n 49 rfl rfl rfl ?_
    refine qr_get 52 rfl rfl rfl (by decide) rfl ?_
    refine qr_get 55 rfl rfl rfl (by decide) rfl ?_
    have hs3 : 0 ≤ σ 17 6 ∧ σ 17 6 ≤ 32 := hI.1 17 6
    refine qr_retI rfl rfl (by decide) (by decide) ?_
    exact ⟨rfl, (σ 17 6), rfl, (qrg hs3 (by decide) (by decide))⟩
  · skip
    refine qr_tabIn 56 rfl r1 (by rw [h1]; decide) (by rw [h1]; rfl) rfl ?_
    refine qr_aload_n 57 rfl rfl rfl ?_
    refine qr_get 60 rfl rfl rfl (by decide) rfl ?_
    refine qr_get 63 rfl rfl rfl (by decide) rfl ?_
    have hs4 : (-2147483648) ≤ σ 23 1 ∧ σ 23 1 ≤ 2147483647 := hI.1 23 1
    refine qr_retI rfl rfl (by decide) (by decide) ?_
    exact ⟨rfl, (σ 23 1), rfl, hs4⟩
  · skip
    refine qr_tabIn 64 rfl r1 (by rw [h1]; decide) (by rw [h1]; rfl) rfl ?_
    refine qr_aload_n 65 rfl rfl rfl ?_
    refine qr_get 68 rfl rfl rfl (by decide) rfl ?_
    refine qr_get 71 rfl rfl rfl (by decide) rfl ?_
    have hs5 : 0 ≤ σ 27 7 ∧ σ 27 7 ≤ 40 := hI.1 27 7
    refine qr_retI rfl rfl (by decide) (by decide) ?_
    exact ⟨rfl, (σ 27 7), rfl, (qrg hs5 (by decide) (by decide))⟩
  · skip
    refine qr_tabIn 72 rfl r1 (by rw [h1]; decide) (by rw [h1]; rfl) rfl ?_
    refine qr_aload_n 73 rfl rfl rfl ?_
    refine qr_get 76 rfl rfl rfl (by decide) rfl ?_
    refine qr_get 79 rfl rfl rfl (by decide) rfl ?_
    have hs6 : 0 ≤ σ 34 7 ∧ σ 34 7 ≤ 60 := hI.1 34 7
    refine qr_retI rfl rfl (by decide) (by decide) ?_
    exact ⟨rfl, (σ 34 7), rfl, (qrg hs6 (by decide) (by decide))⟩
  · skip
    refine qr_tabIn 80 rfl r1 (by rw [h1]; decide) (by rw [h1]; rfl) rfl ?_
    refine qr_aload_n 81 rfl rfl rfl ?_
    refine qr_get 84 rfl rfl rfl (by decide) rfl ?_
    have hs7 : 0 ≤ σ 16 15 ∧ σ 16 15 ≤ 120 := hI.1 16 15
    refine qr_retI rfl rfl (by decide) (by decide) ?_
    exact ⟨rfl, (σ 16 15), rfl, (qrg hs7 (by decide) (by decide))⟩
  · skip
    refine qr_tabIn 85 rfl r1 (by rw [h1]; decide) (by rw [h1]; rfl) rfl ?_
    refine qr_aload_n 86 rfl rfl rfl ?_
    refine qr_get 89 rfl rfl rfl (by decide) rfl ?_
    refine qr_get 92 rfl rfl rfl (by decide) rfl ?_
    have hs8 : 0 ≤ σ 76 7 ∧ σ 76 7 ≤ 40 := hI.1 76 7
    refine qr_retI rfl rfl (by decide) (by decide) ?_
    exact ⟨rfl, (σ 76 7), rfl, (qrg hs8 (by decide) (by decide))⟩
  · skip
    refine qr_tabIn 93 rfl r1 (by rw [h1]; decide) (by rw [h1]; rfl) rfl ?_
    refine qr_aload_n 94 rfl rfl rfl ?_
    refine qr_get 97 rfl rfl rfl (by decide) rfl ?_
    refine qr_get 100 rfl rfl rfl (by decide) rfl ?_
    have hs9 : (-9223372036854775808) ≤ σ 17 5 ∧ σ 17 5 ≤ 9223372036854775807 := hI.1 17 5
    refine qr_callN 103 rfl rfl rfl (sf_74 (d := d + 0) hI hs9) ?_
    rintro _ _ ⟨rfl, v10, rfl, hv10⟩
    show qr_W (qe L xs vb) (d + 1) qx_e170 _ (103, _, [.int (qz v10)], qw σ α κ ρ, 0, 0)
    refine qr_retI rfl rfl (by decide) (by decide) ?_
    exact ⟨rfl, v10, rfl, hv10⟩
  · skip
    refine qr_tabIn 104 rfl r1 (by rw [h1]; decide) (by rw [h1]; rfl) rfl ?_
    refine qr_aload_n 105 rfl rfl rfl ?_
    refine qr_get 108 rfl rfl rfl (by decide) rfl ?_
    refine qr_get 111 rfl rfl rfl (by decide) rfl ?_
    have hs11 : (-2147483648) ≤ σ 42 1 ∧ σ 42 1 ≤ 2147483647 := hI.1 42 1
    refine qr_retI rfl rfl (by decide) (by decide) ?_
    exact ⟨rfl, (σ 42 1), rfl, hs11⟩
  · skip
    refine qr_tabOut 112 rfl r1 (by omega) rfl ?_
    refine qr_iconst 113 rfl rfl ?_
    refine qr_retI rfl rfl (by decide) (by decide) ?_
    exact ⟨rfl, (-1), rfl, (by decide)⟩
end
