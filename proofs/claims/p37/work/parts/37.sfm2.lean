set_option maxHeartbeats 4000000 in
set_option maxRecDepth 20000 in
/-- OneRoofModel.isLordOf -/
theorem sf_207_86 {L : Nat} {xs : Nat → Int} {vb : Bool} {d : Nat} {σ α : Nat → Nat → Int} {κ : Nat → Option Nat} {ρ : Nat} {x1 : Int} {x2 : Int} (hI : qI σ α κ ρ) (r1 : (-2147483648) ≤ x1 ∧ x1 ≤ 2147483647) (r2 : 0 ≤ x2 ∧ x2 ≤ 31) (p0 : 1 ≤ σ 86 6) : qm_T (qe L xs vb) (d + 1) 207 [.ref 86, .int (qz x1), .int (qz x2)] (qw σ α κ ρ) (fun r w' => w' = qw σ α κ ρ ∧ ∃ v : Int, r = some (.int (qz v)) ∧ (0 ≤ v ∧ v ≤ 1)) := by
  refine qr_start (d := d + 0) qv_e207 (Nat.le_of_ble_eq_true rfl) ?_
  show qr_W (qe L xs vb) (d + 0) qx_e207 _ (0, [(0, .ref 86), (1, .int (qz x1)), (2, .int (qz x2))], [], _, 0, 0)
  have hz86_6 : 0 ≤ σ 86 6 ∧ σ 86 6 ≤ 32 := hI.1 86 6
  refine qr_aload_n 1 rfl rfl rfl ?_
  refine qr_get 4 rfl rfl rfl (by decide) rfl ?_
  refine qr_iload_n 5 rfl rfl rfl ?_
  refine qr_iaload 6 rfl rfl (by omega) (by decide) rfl ?_
  refine qr_topI (fun v1 hv1 => ?_)
  have hs2 : (-1) ≤ v1 ∧ v1 ≤ 31 := by rw [hv1]; exact hI.2.1 91 _ (show _ < 32 by omega)
  have hs3 := hI.2.2.2.2.2.2.1 (x2 : Int).toNat (by omega)
  refine qr_istore_n _ 7 rfl (by decide) rfl rfl ?_
  have hL37 : ∀ (n : Nat) (ls : qm_L) (u35 : Int), u35 + 1 < (n : Int) → qm_get ls 0 = some (.ref 86) → qm_get ls 1 = some (.int (qz x1)) → qm_get ls 3 = some (.int (qz u35)) → ((-1) ≤ u35 ∧ u35 ≤ 31) → qr_W (qe L xs vb) (d + 0) qx_e207 (fun r w' => w' = qw σ α κ ρ ∧ ∃ v : Int, r = some (.int (qz v)) ∧ (0 ≤ v ∧ v ≤ 1)) (7, ls, [], qw σ α κ ρ, 0, 0) := by
    intro n
    induction n with
    | zero => intro ls u35 hm g32 g33 g34 hf36; exact False.elim (by omega)
    | succ n ih38 =>
      intro ls u35 hm g32 g33 g34 hf36
      refine qr_iload_n 8 rfl g34 rfl ?_
      refine qr_if_lt 28 11 rfl rfl rfl (by omega) (fun h39 => ?_) (fun h39 => ?_)
      · skip
        refine qr_iconst 29 rfl rfl ?_
        refine qr_retZ rfl rfl (by omega) (by decide) (by decide) ?_
        exact ⟨rfl, 0, rfl, by omega⟩
      · skip
        refine qr_iload_n 12 rfl g34 rfl ?_
        refine qr_iload_n 13 rfl g33 rfl ?_
        refine qr_icmp_ne 18 16 rfl rfl rfl (by omega) (by omega) (fun h40 => ?_) (fun h40 => ?_)
        · skip
          refine qr_aload_n 19 rfl g32 rfl ?_
          refine qr_get 22 rfl rfl rfl (by decide) rfl ?_
          refine qr_iload_n 23 rfl g34 rfl ?_
          refine qr_iaload 24 rfl rfl (by omega) (by decide) rfl ?_
          refine qr_topI (fun v41 hv41 => ?_)
          have hs42 : (-1) ≤ v41 ∧ v41 ≤ 31 := by rw [hv41]; exact hI.2.1 91 _ (show _ < 32 by omega)
          have hs43 := hI.2.2.2.2.2.2.1 (u35 : Int).toNat (by omega)
          refine qr_istore_n _ 25 rfl (by decide) rfl rfl ?_
          refine qr_goto 7 rfl rfl ?_
          exact ih38 _ v41 (by omega) (qm_gk g32 (by decide) (Or.inl (by decide))) (qm_gk g33 (by decide) (Or.inl (by decide))) (qm_ge _ _ _) (by omega)
        · skip
          refine qr_iconst 17 rfl rfl ?_
          refine qr_retZ rfl rfl (by omega) (by decide) (by decide) ?_
          exact ⟨rfl, 1, rfl, by omega⟩
  exact hL37 ((v1 + 1 + 1 : Int)).toNat _ v1 (by omega) rfl rfl rfl (by omega)

set_option maxHeartbeats 4000000 in
set_option maxRecDepth 20000 in
/-- OneRoofModel.isUnderGiver -/
theorem sf_206_86 {L : Nat} {xs : Nat → Int} {vb : Bool} {d : Nat} {σ α : Nat → Nat → Int} {κ : Nat → Option Nat} {ρ : Nat} {x1 : Int} {x2 : Int} (hI : qI σ α κ ρ) (r1 : 0 ≤ x1 ∧ x1 ≤ 59) (r2 : 0 ≤ x2 ∧ x2 ≤ 31) (p0 : 1 ≤ σ 86 6) : qm_T (qe L xs vb) (d + 2) 206 [.ref 86, .int (qz x1), .int (qz x2)] (qw σ α κ ρ) (fun r w' => w' = qw σ α κ ρ ∧ ∃ v : Int, r = some (.int (qz v)) ∧ (0 ≤ v ∧ v ≤ 1)) := by
  refine qr_start (d := d + 1) qv_e206 (Nat.le_of_ble_eq_true rfl) ?_
  show qr_W (qe L xs vb) (d + 1) qx_e206 _ (0, [(0, .ref 86), (1, .int (qz x1)), (2, .int (qz x2))], [], _, 0, 0)
  have hz86_6 : 0 ≤ σ 86 6 ∧ σ 86 6 ≤ 32 := hI.1 86 6
  refine qr_iload_n 1 rfl rfl rfl ?_
  refine qr_aload_n 2 rfl rfl rfl ?_
  refine qr_get 5 rfl rfl rfl (by decide) rfl ?_
  refine qr_iload_n 6 rfl rfl rfl ?_
  refine qr_iaload 7 rfl rfl (by omega) (by decide) rfl ?_
  refine qr_topI (fun v1 hv1 => ?_)
  have hs2 : 0 ≤ v1 ∧ v1 ≤ 31 := by rw [hv1]; exact hI.2.1 102 _ (show _ < 60 by omega)
  refine qr_icmp_eq 24 10 rfl rfl rfl (by omega) (by omega) (fun h3 => ?_) (fun h3 => ?_)
  · skip
    refine qr_iconst 25 rfl rfl ?_
    refine qr_goto 29 rfl rfl ?_
    refine qr_retZ rfl rfl (by omega) (by decide) (by decide) ?_
    exact ⟨rfl, 1, rfl, by omega⟩
  · skip
    refine qr_aload_n 11 rfl rfl rfl ?_
    refine qr_aload_n 12 rfl rfl rfl ?_
    refine qr_get 15 rfl rfl rfl (by decide) rfl ?_
    refine qr_iload_n 16 rfl rfl rfl ?_
    refine qr_iaload 17 rfl rfl (by omega) (by decide) rfl ?_
    refine qr_topI (fun v4 hv4 => ?_)
    have hs5 : 0 ≤ v4 ∧ v4 ≤ 31 := by rw [hv4]; exact hI.2.1 102 _ (show _ < 60 by omega)
    refine qr_iload_n 18 rfl rfl rfl ?_
    refine qr_callN 21 rfl rfl rfl (sf_207_86 (d := d + 0) hI (by omega) (by omega) (by omega)) ?_
    rintro _ _ ⟨rfl, v6, rfl, hv6⟩
    show qr_W (qe L xs vb) (d + 1) qx_e206 _ (21, _, [.int (qz v6)], qw σ α κ ρ, 0, 0)
    refine qr_if_eq 28 24 rfl rfl rfl (by omega) (fun h7 => ?_) (fun h7 => ?_)
    · skip
      refine qr_iconst 29 rfl rfl ?_
      refine qr_retZ rfl rfl (by omega) (by decide) (by decide) ?_
      exact ⟨rfl, 0, rfl, by omega⟩
    · skip
      refine qr_iconst 25 rfl rfl ?_
      refine qr_goto 29 rfl rfl ?_
      refine qr_retZ rfl rfl (by omega) (by decide) (by decide) ?_
      exact ⟨rfl, 1, rfl, by omega⟩

set_option maxHeartbeats 4000000 in
set_option maxRecDepth 20000 in
/-- OneRoofModel.holdsNow -/
theorem sf_205_86 {L : Nat} {xs : Nat → Int} {vb : Bool} {d : Nat} {σ α : Nat → Nat → Int} {κ : Nat → Option Nat} {ρ : Nat} {x1 : Int} {x2 : Int} {x3 : Int} {x4 : Int} (hI : qI σ α κ ρ) (r1 : 0 ≤ x1 ∧ x1 ≤ 59) (r2 : 0 ≤ x2 ∧ x2 ≤ 31) (r3 : 0 ≤ x3 ∧ x3 ≤ 31) (r4 : (-2147483648) ≤ x4 ∧ x4 ≤ 2147483647) (p0 : 1 ≤ σ 86 6) : qm_T (qe L xs vb) (d + 3) 205 [.ref 86, .int (qz x1), .int (qz x2), .int (qz x3), .int (qz x4)] (qw σ α κ ρ) (fun r w' => w' = qw σ α κ ρ ∧ ∃ v : Int, r = some (.int (qz v)) ∧ (0 ≤ v ∧ v ≤ 1)) := by
  refine qr_start (d := d + 2) qv_e205 (Nat.le_of_ble_eq_true rfl) ?_
  show qr_W (qe L xs vb) (d + 2) qx_e205 _ (0, [(0, .ref 86), (1, .int (qz x1)), (2, .int (qz x2)), (3, .int (qz x3)), (4, .int (qz x4))], [], _, 0, 0)
  have hz86_6 : 0 ≤ σ 86 6 ∧ σ 86 6 ≤ 32 := hI.1 86 6
  refine qr_aload_n 1 rfl rfl rfl ?_
  refine qr_iload_n 2 rfl rfl rfl ?_
  refine qr_callN 5 rfl rfl rfl (sf_201_86 (d := d + 1) hI (by omega)) ?_
  rintro _ _ ⟨rfl, v1, rfl, hv1⟩
  show qr_W (qe L xs vb) (d + 2) qx_e205 _ (5, _, [.int (qz v1)], qw σ α κ ρ, 0, 0)
  refine qr_istore _ 7 rfl (by decide) rfl rfl ?_
  refine qr_iload 9 rfl rfl rfl ?_
  refine qr_bipush 11 rfl (by decide) rfl ?_
  refine qr_icmp_eq 66 14 rfl rfl rfl (by omega) (by omega) (fun h2 => ?_) (fun h2 => ?_)
  · skip
    refine qr_iconst 67 rfl rfl ?_
    refine qr_retZ rfl rfl (by omega) (by decide) (by decide) ?_
    exact ⟨rfl, 0, rfl, by omega⟩
  · skip
    refine qr_aload_n 15 rfl rfl rfl ?_
    refine qr_get 18 rfl rfl rfl (by decide) rfl ?_
    have hs3 : (-9223372036854775808) ≤ σ 86 29 ∧ σ 86 29 ≤ 9223372036854775807 := hI.1 86 29
    refine qr_iload_n 19 rfl rfl rfl ?_
    refine qr_lshr 20 rfl rfl ?_
    refine qy_canl (fun v4 hv4 => ?_)
    refine qr_lconst 21 rfl rfl ?_
    refine qy_vl 1 rfl ?_
    refine qr_land 22 rfl rfl ?_
    refine qy_canl (fun v5 hv5 => ?_)
    refine qr_lconst 23 rfl rfl ?_
    refine qy_vl 1 rfl ?_
    refine qr_lc_eq 66 27 rfl rfl rfl rfl (by omega) (by omega) (fun h6 => ?_) (fun h6 => ?_)
    · skip
      refine qr_iconst 67 rfl rfl ?_
      refine qr_retZ rfl rfl (by omega) (by decide) (by decide) ?_
      exact ⟨rfl, 0, rfl, by omega⟩
    · skip
      refine qr_iload 29 rfl rfl rfl ?_
      refine qr_aload_n 30 rfl rfl rfl ?_
      refine qr_get 33 rfl rfl rfl (by decide) rfl ?_
      refine qr_iload_n 34 rfl rfl rfl ?_
      refine qr_iaload 35 rfl rfl (by omega) (by decide) rfl ?_
      refine qr_topI (fun v7 hv7 => ?_)
      have hs8 : (-2147483648) ≤ v7 ∧ v7 ≤ 2147483647 := by rw [hv7]; exact hI.2.1 103 _ (show _ < 60 by omega)
      refine qr_icmp_lt 66 38 rfl rfl rfl (by omega) (by omega) (fun h9 => ?_) (fun h9 => ?_)
      · skip
        refine qr_iconst 67 rfl rfl ?_
        refine qr_retZ rfl rfl (by omega) (by decide) (by decide) ?_
        exact ⟨rfl, 0, rfl, by omega⟩
      · skip
        refine qr_iload 40 rfl rfl rfl ?_
        refine qr_aload_n 41 rfl rfl rfl ?_
        refine qr_get 44 rfl rfl rfl (by decide) rfl ?_
        refine qr_iload_n 45 rfl rfl rfl ?_
        refine qr_iaload 46 rfl rfl (by omega) (by decide) rfl ?_
        refine qr_topI (fun v10 hv10 => ?_)
        have hs11 : (-2147483648) ≤ v10 ∧ v10 ≤ 2147483647 := by rw [hv10]; exact hI.2.1 104 _ (show _ < 60 by omega)
        refine qr_iload 48 rfl rfl rfl ?_
        refine qr_iconst 49 rfl rfl ?_
        have hJ21 : ∀ (ls : qm_L) (u19 : Int), qm_get ls 0 = some (.ref 86) → qm_get ls 1 = some (.int (qz x1)) → qm_get ls 2 = some (.int (qz x2)) → qm_get ls 3 = some (.int (qz x3)) → qm_get ls 5 = some (.int (qz v1)) → ((-2147483648) ≤ u19 ∧ u19 ≤ 2147483647) → qr_W (qe L xs vb) (d + 2) qx_e205 (fun r w' => w' = qw σ α κ ρ ∧ ∃ v : Int, r = some (.int (qz v)) ∧ (0 ≤ v ∧ v ≤ 1)) (62, ls, [.int (qz u19), .int (qz v10), .int (qz x4)], qw σ α κ ρ, 0, 0) := by
          intro ls u19 g14 g15 g16 g17 g18 hf20
          refine qr_iadd 63 rfl rfl ?_
          refine qy_can (fun v22 hv22 => ?_)
          refine qr_icmp_le 68 66 rfl rfl rfl (by omega) (by omega) (fun h23 => ?_) (fun h23 => ?_)
          · skip
            refine qr_aload_n 69 rfl g14 rfl ?_
            refine qr_iload_n 70 rfl g15 rfl ?_
            refine qr_iload_n 71 rfl g16 rfl ?_
            refine qr_callN 74 rfl rfl rfl (sf_202_86 (d := d + 1) hI (by omega) (by omega)) ?_
            rintro _ _ ⟨rfl, v24, rfl, hv24⟩
            show qr_W (qe L xs vb) (d + 2) qx_e205 _ (74, _, [.int (qz v24)], qw σ α κ ρ, 0, 0)
            refine qr_istore _ 76 rfl (by decide) rfl rfl ?_
            refine qr_aload_n 77 rfl (qm_gk g14 (by decide) (Or.inl (by decide))) rfl ?_
            refine qr_iload_n 78 rfl (qm_gk g15 (by decide) (Or.inl (by decide))) rfl ?_
            refine qr_iload_n 79 rfl (qm_gk g17 (by decide) (Or.inl (by decide))) rfl ?_
            refine qr_callN 82 rfl rfl rfl (sf_202_86 (d := d + 1) hI (by omega) (by omega)) ?_
            rintro _ _ ⟨rfl, v25, rfl, hv25⟩
            show qr_W (qe L xs vb) (d + 2) qx_e205 _ (82, _, [.int (qz v25)], qw σ α κ ρ, 0, 0)
            refine qr_istore _ 84 rfl (by decide) rfl rfl ?_
            refine qr_iload 86 rfl (qm_gk (qm_gk g18 (by decide) (Or.inr rfl)) (by decide) (Or.inl (by decide))) rfl ?_
            have h26 : v1 = 1 ∨ v1 = 2 ∨ v1 = 3 ∨ v1 = 4 ∨ v1 = 5 ∨ (v1 < 1 ∨ 5 < v1) := by omega
            rcases h26 with h26 | h26 | h26 | h26 | h26 | h26
            · skip
              refine qr_tabIn 120 rfl (by omega) (by omega) (by rw [h26]; rfl) rfl ?_
              refine qr_iload 122 rfl (qm_gk (qm_ge _ _ _) (by decide) (Or.inr rfl)) rfl ?_
              refine qr_if_eq 130 125 rfl rfl rfl (by omega) (fun h28 => ?_) (fun h28 => ?_)
              · skip
                refine qr_iload 132 rfl (qm_gk (qm_ge _ _ _) (by decide) (Or.inr rfl)) rfl ?_
                refine qr_if_eq 145 135 rfl rfl rfl (by omega) (fun h29 => ?_) (fun h => False.elim (by omega))
                refine qr_iload 147 rfl (qm_ge _ _ _) rfl ?_
                refine qr_if_eq 164 150 rfl rfl rfl (by omega) (fun h30 => ?_) (fun h30 => ?_)
                · skip
                  refine qr_iconst 165 rfl rfl ?_
                  refine qr_retZ rfl rfl (by omega) (by decide) (by decide) ?_
                  exact ⟨rfl, 0, rfl, by omega⟩
                · skip
                  refine qr_iload_n 151 rfl (qm_gk (qm_gk g16 (by decide) (Or.inl (by decide))) (by decide) (Or.inl (by decide))) rfl ?_
                  refine qr_aload_n 152 rfl (qm_gk (qm_gk g14 (by decide) (Or.inl (by decide))) (by decide) (Or.inl (by decide))) rfl ?_
                  refine qr_get 155 rfl rfl rfl (by decide) rfl ?_
                  refine qr_iload_n 156 rfl (qm_gk (qm_gk g15 (by decide) (Or.inl (by decide))) (by decide) (Or.inl (by decide))) rfl ?_
                  refine qr_iaload 157 rfl rfl (by omega) (by decide) rfl ?_
                  refine qr_topI (fun v31 hv31 => ?_)
                  have hs32 : 0 ≤ v31 ∧ v31 ≤ 31 := by rw [hv31]; exact hI.2.1 102 _ (show _ < 60 by omega)
                  refine qr_icmp_ne 164 160 rfl rfl rfl (by omega) (by omega) (fun h33 => ?_) (fun h33 => ?_)
                  · skip
                    refine qr_iconst 165 rfl rfl ?_
                    refine qr_retZ rfl rfl (by omega) (by decide) (by decide) ?_
                    exact ⟨rfl, 0, rfl, by omega⟩
                  · skip
                    refine qr_iconst 161 rfl rfl ?_
                    refine qr_goto 165 rfl rfl ?_
                    refine qr_retZ rfl rfl (by omega) (by decide) (by decide) ?_
                    exact ⟨rfl, 1, rfl, by omega⟩
              · skip
                refine qr_iload 127 rfl (qm_ge _ _ _) rfl ?_
                refine qr_if_ne 160 130 rfl rfl rfl (by omega) (fun h34 => ?_) (fun h34 => ?_)
                · skip
                  refine qr_iconst 161 rfl rfl ?_
                  refine qr_goto 165 rfl rfl ?_
                  refine qr_retZ rfl rfl (by omega) (by decide) (by decide) ?_
                  exact ⟨rfl, 1, rfl, by omega⟩
                · skip
                  refine qr_iload 132 rfl (qm_gk (qm_ge _ _ _) (by decide) (Or.inr rfl)) rfl ?_
                  refine qr_if_eq 145 135 rfl rfl rfl (by omega) (fun h => False.elim (by omega)) (fun h35 => ?_)
                  refine qr_iload_n 136 rfl (qm_gk (qm_gk g17 (by decide) (Or.inl (by decide))) (by decide) (Or.inl (by decide))) rfl ?_
                  refine qr_aload_n 137 rfl (qm_gk (qm_gk g14 (by decide) (Or.inl (by decide))) (by decide) (Or.inl (by decide))) rfl ?_
                  refine qr_get 140 rfl rfl rfl (by decide) rfl ?_
                  refine qr_iload_n 141 rfl (qm_gk (qm_gk g15 (by decide) (Or.inl (by decide))) (by decide) (Or.inl (by decide))) rfl ?_
                  refine qr_iaload 142 rfl rfl (by omega) (by decide) rfl ?_
                  refine qr_topI (fun v36 hv36 => ?_)
                  have hs37 : 0 ≤ v36 ∧ v36 ≤ 31 := by rw [hv36]; exact hI.2.1 102 _ (show _ < 60 by omega)
                  refine qr_icmp_eq 160 145 rfl rfl rfl (by omega) (by omega) (fun h38 => ?_) (fun h38 => ?_)
                  · skip
                    refine qr_iconst 161 rfl rfl ?_
                    refine qr_goto 165 rfl rfl ?_
                    refine qr_retZ rfl rfl (by omega) (by decide) (by decide) ?_
                    exact ⟨rfl, 1, rfl, by omega⟩
                  · skip
                    refine qr_iload 147 rfl (qm_ge _ _ _) rfl ?_
                    refine qr_if_eq 164 150 rfl rfl rfl (by omega) (fun h39 => ?_) (fun h => False.elim (by omega))
                    refine qr_iconst 165 rfl rfl ?_
                    refine qr_retZ rfl rfl (by omega) (by decide) (by decide) ?_
                    exact ⟨rfl, 0, rfl, by omega⟩
            · skip
              refine qr_tabIn 120 rfl (by omega) (by omega) (by rw [h26]; rfl) rfl ?_
              refine qr_iload 122 rfl (qm_gk (qm_ge _ _ _) (by decide) (Or.inr rfl)) rfl ?_
              refine qr_if_eq 130 125 rfl rfl rfl (by omega) (fun h40 => ?_) (fun h40 => ?_)
              · skip
                refine qr_iload 132 rfl (qm_gk (qm_ge _ _ _) (by decide) (Or.inr rfl)) rfl ?_
                refine qr_if_eq 145 135 rfl rfl rfl (by omega) (fun h41 => ?_) (fun h => False.elim (by omega))
                refine qr_iload 147 rfl (qm_ge _ _ _) rfl ?_
                refine qr_if_eq 164 150 rfl rfl rfl (by omega) (fun h42 => ?_) (fun h42 => ?_)
                · skip
                  refine qr_iconst 165 rfl rfl ?_
                  refine qr_retZ rfl rfl (by omega) (by decide) (by decide) ?_
                  exact ⟨rfl, 0, rfl, by omega⟩
                · skip
                  refine qr_iload_n 151 rfl (qm_gk (qm_gk g16 (by decide) (Or.inl (by decide))) (by decide) (Or.inl (by decide))) rfl ?_
                  refine qr_aload_n 152 rfl (qm_gk (qm_gk g14 (by decide) (Or.inl (by decide))) (by decide) (Or.inl (by decide))) rfl ?_
                  refine qr_get 155 rfl rfl rfl (by decide) rfl ?_
                  refine qr_iload_n 156 rfl (qm_gk (qm_gk g15 (by decide) (Or.inl (by decide))) (by decide) (Or.inl (by decide))) rfl ?_
                  refine qr_iaload 157 rfl rfl (by omega) (by decide) rfl ?_
                  refine qr_topI (fun v43 hv43 => ?_)
                  have hs44 : 0 ≤ v43 ∧ v43 ≤ 31 := by rw [hv43]; exact hI.2.1 102 _ (show _ < 60 by omega)
                  refine qr_icmp_ne 164 160 rfl rfl rfl (by omega) (by omega) (fun h45 => ?_) (fun h45 => ?_)
                  · skip
                    refine qr_iconst 165 rfl rfl ?_
                    refine qr_retZ rfl rfl (by omega) (by decide) (by decide) ?_
                    exact ⟨rfl, 0, rfl, by omega⟩
                  · skip
                    refine qr_iconst 161 rfl rfl ?_
                    refine qr_goto 165 rfl rfl ?_
                    refine qr_retZ rfl rfl (by omega) (by decide) (by decide) ?_
                    exact ⟨rfl, 1, rfl, by omega⟩
              · skip
                refine qr_iload 127 rfl (qm_ge _ _ _) rfl ?_
                refine qr_if_ne 160 130 rfl rfl rfl (by omega) (fun h46 => ?_) (fun h46 => ?_)
                · skip
                  refine qr_iconst 161 rfl rfl ?_
                  refine qr_goto 165 rfl rfl ?_
                  refine qr_retZ rfl rfl (by omega) (by decide) (by decide) ?_
                  exact ⟨rfl, 1, rfl, by omega⟩
                · skip
                  refine qr_iload 132 rfl (qm_gk (qm_ge _ _ _) (by decide) (Or.inr rfl)) rfl ?_
                  refine qr_if_eq 145 135 rfl rfl rfl (by omega) (fun h => False.elim (by omega)) (fun h47 => ?_)
                  refine qr_iload_n 136 rfl (qm_gk (qm_gk g17 (by decide) (Or.inl (by decide))) (by decide) (Or.inl (by decide))) rfl ?_
                  refine qr_aload_n 137 rfl (qm_gk (qm_gk g14 (by decide) (Or.inl (by decide))) (by decide) (Or.inl (by decide))) rfl ?_
                  refine qr_get 140 rfl rfl rfl (by decide) rfl ?_
                  refine qr_iload_n 141 rfl (qm_gk (qm_gk g15 (by decide) (Or.inl (by decide))) (by decide) (Or.inl (by decide))) rfl ?_
                  refine qr_iaload 142 rfl rfl (by omega) (by decide) rfl ?_
                  refine qr_topI (fun v48 hv48 => ?_)
                  have hs49 : 0 ≤ v48 ∧ v48 ≤ 31 := by rw [hv48]; exact hI.2.1 102 _ (show _ < 60 by omega)
                  refine qr_icmp_eq 160 145 rfl rfl rfl (by omega) (by omega) (fun h50 => ?_) (fun h50 => ?_)
                  · skip
                    refine qr_iconst 161 rfl rfl ?_
                    refine qr_goto 165 rfl rfl ?_
                    refine qr_retZ rfl rfl (by omega) (by decide) (by decide) ?_
                    exact ⟨rfl, 1, rfl, by omega⟩
                  · skip
                    refine qr_iload 147 rfl (qm_ge _ _ _) rfl ?_
                    refine qr_if_eq 164 150 rfl rfl rfl (by omega) (fun h51 => ?_) (fun h => False.elim (by omega))
                    refine qr_iconst 165 rfl rfl ?_
                    refine qr_retZ rfl rfl (by omega) (by decide) (by decide) ?_
                    exact ⟨rfl, 0, rfl, by omega⟩
            · skip
              refine qr_tabIn 166 rfl (by omega) (by omega) (by rw [h26]; rfl) rfl ?_
              refine qr_iload 168 rfl (qm_gk (qm_ge _ _ _) (by decide) (Or.inr rfl)) rfl ?_
              refine qr_if_ne 176 171 rfl rfl rfl (by omega) (fun h52 => ?_) (fun h52 => ?_)
              · skip
                refine qr_iconst 177 rfl rfl ?_
                refine qr_goto 181 rfl rfl ?_
                refine qr_retZ rfl rfl (by omega) (by decide) (by decide) ?_
                exact ⟨rfl, 1, rfl, by omega⟩
              · skip
                refine qr_iload 173 rfl (qm_ge _ _ _) rfl ?_
                refine qr_if_eq 180 176 rfl rfl rfl (by omega) (fun h53 => ?_) (fun h53 => ?_)
                · skip
                  refine qr_iconst 181 rfl rfl ?_
                  refine qr_retZ rfl rfl (by omega) (by decide) (by decide) ?_
                  exact ⟨rfl, 0, rfl, by omega⟩
                · skip
                  refine qr_iconst 177 rfl rfl ?_
                  refine qr_goto 181 rfl rfl ?_
                  refine qr_retZ rfl rfl (by omega) (by decide) (by decide) ?_
                  exact ⟨rfl, 1, rfl, by omega⟩
            · skip
              refine qr_tabIn 182 rfl (by omega) (by omega) (by rw [h26]; rfl) rfl ?_
              refine qr_iload 184 rfl (qm_gk (qm_ge _ _ _) (by decide) (Or.inr rfl)) rfl ?_
              refine qr_if_eq 196 187 rfl rfl rfl (by omega) (fun h54 => ?_) (fun h54 => ?_)
              · skip
                refine qr_iconst 197 rfl rfl ?_
                refine qr_retZ rfl rfl (by omega) (by decide) (by decide) ?_
                exact ⟨rfl, 0, rfl, by omega⟩
              · skip
                refine qr_iload 189 rfl (qm_ge _ _ _) rfl ?_
                refine qr_if_eq 196 192 rfl rfl rfl (by omega) (fun h55 => ?_) (fun h55 => ?_)
                · skip
                  refine qr_iconst 197 rfl rfl ?_
                  refine qr_retZ rfl rfl (by omega) (by decide) (by decide) ?_
                  exact ⟨rfl, 0, rfl, by omega⟩
                · skip
                  refine qr_iconst 193 rfl rfl ?_
                  refine qr_goto 197 rfl rfl ?_
                  refine qr_retZ rfl rfl (by omega) (by decide) (by decide) ?_
                  exact ⟨rfl, 1, rfl, by omega⟩
            · skip
              refine qr_tabIn 198 rfl (by omega) (by omega) (by rw [h26]; rfl) rfl ?_
              refine qr_iconst 199 rfl rfl ?_
              refine qr_retZ rfl rfl (by omega) (by decide) (by decide) ?_
              exact ⟨rfl, 1, rfl, by omega⟩
            · skip
              refine qr_tabOut 200 rfl (by omega) (by omega) rfl ?_
              refine qr_aload_n 201 rfl (qm_gk (qm_gk g14 (by decide) (Or.inl (by decide))) (by decide) (Or.inl (by decide))) rfl ?_
              refine qr_iload_n 202 rfl (qm_gk (qm_gk g15 (by decide) (Or.inl (by decide))) (by decide) (Or.inl (by decide))) rfl ?_
              refine qr_iload_n 203 rfl (qm_gk (qm_gk g16 (by decide) (Or.inl (by decide))) (by decide) (Or.inl (by decide))) rfl ?_
              refine qr_callN 206 rfl rfl rfl (sf_206_86 (d := d + 0) hI (by omega) (by omega) (by omega)) ?_
              rintro _ _ ⟨rfl, v56, rfl, hv56⟩
              show qr_W (qe L xs vb) (d + 2) qx_e205 _ (206, _, [.int (qz v56)], qw σ α κ ρ, 0, 0)
              refine qr_if_eq 222 209 rfl rfl rfl (by omega) (fun h57 => ?_) (fun h57 => ?_)
              · skip
                refine qr_iconst 223 rfl rfl ?_
                refine qr_retZ rfl rfl (by omega) (by decide) (by decide) ?_
                exact ⟨rfl, 0, rfl, by omega⟩
              · skip
                refine qr_aload_n 210 rfl (qm_gk (qm_gk g14 (by decide) (Or.inl (by decide))) (by decide) (Or.inl (by decide))) rfl ?_
                refine qr_iload_n 211 rfl (qm_gk (qm_gk g15 (by decide) (Or.inl (by decide))) (by decide) (Or.inl (by decide))) rfl ?_
                refine qr_iload_n 212 rfl (qm_gk (qm_gk g17 (by decide) (Or.inl (by decide))) (by decide) (Or.inl (by decide))) rfl ?_
                refine qr_callN 215 rfl rfl rfl (sf_206_86 (d := d + 0) hI (by omega) (by omega) (by omega)) ?_
                rintro _ _ ⟨rfl, v58, rfl, hv58⟩
                show qr_W (qe L xs vb) (d + 2) qx_e205 _ (215, _, [.int (qz v58)], qw σ α κ ρ, 0, 0)
                refine qr_if_eq 222 218 rfl rfl rfl (by omega) (fun h59 => ?_) (fun h59 => ?_)
                · skip
                  refine qr_iconst 223 rfl rfl ?_
                  refine qr_retZ rfl rfl (by omega) (by decide) (by decide) ?_
                  exact ⟨rfl, 0, rfl, by omega⟩
                · skip
                  refine qr_iconst 219 rfl rfl ?_
                  refine qr_goto 223 rfl rfl ?_
                  refine qr_retZ rfl rfl (by omega) (by decide) (by decide) ?_
                  exact ⟨rfl, 1, rfl, by omega⟩
          · skip
            refine qr_iconst 67 rfl rfl ?_
            refine qr_retZ rfl rfl (by omega) (by decide) (by decide) ?_
            exact ⟨rfl, 0, rfl, by omega⟩
        refine qr_icmp_ne 61 52 rfl rfl rfl (by omega) (by omega) (fun h60 => ?_) (fun h60 => ?_)
        · skip
          refine qr_iconst 62 rfl rfl ?_
          exact hJ21 _ 0 rfl rfl rfl rfl rfl (by omega)
        · skip
          refine qr_aload_n 53 rfl rfl rfl ?_
          refine qr_get 56 rfl rfl rfl (by decide) rfl ?_
          refine qr_iload_n 57 rfl rfl rfl ?_
          refine qr_iaload 58 rfl rfl (by omega) (by decide) rfl ?_
          refine qr_topI (fun v61 hv61 => ?_)
          have hs62 : (-2147483648) ≤ v61 ∧ v61 ≤ 2147483647 := by rw [hv61]; exact hI.2.1 105 _ (show _ < 60 by omega)
          refine qr_goto 62 rfl rfl ?_
          exact hJ21 _ v61 rfl rfl rfl rfl rfl (by omega)

set_option maxHeartbeats 4000000 in
set_option maxRecDepth 20000 in
/-- OneRoofModel.manyBetween -/
theorem sf_209_86 {L : Nat} {xs : Nat → Int} {vb : Bool} {d : Nat} {σ α : Nat → Nat → Int} {κ : Nat → Option Nat} {ρ : Nat} {x1 : Int} {x2 : Int} {x3 : Int} (hI : qI σ α κ ρ) (r1 : 0 ≤ x1 ∧ x1 ≤ 31) (r2 : 0 ≤ x2 ∧ x2 ≤ 31) (r3 : (-2147483648) ≤ x3 ∧ x3 ≤ 2147483647) (p0 : 1 ≤ σ 86 6) : qm_T (qe L xs vb) (d + 4) 209 [.ref 86, .int (qz x1), .int (qz x2), .int (qz x3)] (qw σ α κ ρ) (fun r w' => ∃ σ', w' = qw σ' α κ ρ ∧ qI σ' α κ ρ ∧ qFr [(86, 30)] [] σ α σ' α ∧ ∃ v : Int, r = some (.int (qz v)) ∧ ((-2147483648) ≤ v ∧ v ≤ 2147483647)) := by
  refine qr_start (d := d + 3) qv_e209 (Nat.le_of_ble_eq_true rfl) ?_
  show qr_W (qe L xs vb) (d + 3) qx_e209 _ (0, [(0, .ref 86), (1, .int (qz x1)), (2, .int (qz x2)), (3, .int (qz x3))], [], _, 0, 0)
  have hF0 := qFr_rf [(86, 30)] [] σ α
  have hz86_6 : 0 ≤ σ 86 6 ∧ σ 86 6 ≤ 32 := hI.1 86 6
  refine qr_iconst 1 rfl rfl ?_
  refine qr_istore _ 3 rfl (by decide) rfl rfl ?_
  refine qr_iconst 4 rfl rfl ?_
  refine qr_istore _ 6 rfl (by decide) rfl rfl ?_
  have hL1426 : ∀ (n : Nat) (ls : qm_L) (u1416 u1418 : Int) (σ1419 : Nat → Nat → Int), 60 - u1418 < (n : Int) → qm_get ls 0 = some (.ref 86) → qm_get ls 1 = some (.int (qz x1)) → qm_get ls 2 = some (.int (qz x2)) → qm_get ls 3 = some (.int (qz x3)) → qm_get ls 4 = some (.int (qz u1416)) → qm_get ls 5 = some (.int (qz u1418)) → ((-2147483648) ≤ u1416 ∧ u1416 ≤ 2147483647) → (0 ≤ u1418 ∧ u1418 ≤ 60) → qI σ1419 α κ ρ → qFr [(86, 30)] [] σ α σ1419 α → σ1419 86 6 = (σ 86 6) → qr_W (qe L xs vb) (d + 3) qx_e209 (fun r w' => ∃ σ', w' = qw σ' α κ ρ ∧ qI σ' α κ ρ ∧ qFr [(86, 30)] [] σ α σ' α ∧ ∃ v : Int, r = some (.int (qz v)) ∧ ((-2147483648) ≤ v ∧ v ≤ 2147483647)) (6, ls, [], qw σ1419 α κ ρ, 0, 0) := by
    intro n
    induction n with
    | zero => intro ls u1416 u1418 σ1419 hm g1411 g1412 g1413 g1414 g1415 g1417 hf1424 hf1425 hI1421 hF1422 hk1423; exact False.elim (by omega)
    | succ n ih1427 =>
      intro ls u1416 u1418 σ1419 hm g1411 g1412 g1413 g1414 g1415 g1417 hf1424 hf1425 hI1421 hF1422 hk1423
      refine qr_iload 8 rfl g1417 rfl ?_
      refine qr_aload_n 9 rfl g1411 rfl ?_
      refine qr_get 12 rfl rfl rfl (by decide) rfl ?_
      have hs1428 : 0 ≤ σ1419 86 24 ∧ σ1419 86 24 ≤ 60 := hI1421.1 86 24
      refine qr_icmp_ge 42 15 rfl rfl rfl (by omega) (by omega) (fun h1429 => ?_) (fun h1429 => ?_)
      · skip
        refine qr_iload 44 rfl g1415 rfl ?_
        refine qr_retI rfl rfl (by decide) (by decide) ?_
        exact ⟨_, rfl, hI1421, hF1422, u1416, rfl, by omega⟩
      · skip
        refine qr_aload_n 16 rfl g1411 rfl ?_
        refine qr_iload 18 rfl g1417 rfl ?_
        refine qr_iload_n 19 rfl g1412 rfl ?_
        refine qr_iload_n 20 rfl g1413 rfl ?_
        refine qr_iload_n 21 rfl g1414 rfl ?_
        refine qr_callN 24 rfl rfl rfl (sf_205_86 (d := d + 0) hI1421 (by omega) (by omega) (by omega) (by omega) (by omega)) ?_
        rintro _ _ ⟨rfl, v1430, rfl, hv1430⟩
        show qr_W (qe L xs vb) (d + 3) qx_e209 _ (24, _, [.int (qz v1430)], qw σ1419 α κ ρ, 0, 0)
        have hJ1450 : ∀ (ls : qm_L) (u1441 : Int) (σ1443 : Nat → Nat → Int), qm_get ls 0 = some (.ref 86) → qm_get ls 1 = some (.int (qz x1)) → qm_get ls 2 = some (.int (qz x2)) → qm_get ls 3 = some (.int (qz x3)) → qm_get ls 4 = some (.int (qz u1441)) → qm_get ls 5 = some (.int (qz u1418)) → ((-2147483648) ≤ u1441 ∧ u1441 ≤ 2147483647) → qI σ1443 α κ ρ → qFr [(86, 30)] [] σ α σ1443 α → σ1443 86 6 = (σ 86 6) → σ1443 86 24 = (σ1419 86 24) → qr_W (qe L xs vb) (d + 3) qx_e209 (fun r w' => ∃ σ', w' = qw σ' α κ ρ ∧ qI σ' α κ ρ ∧ qFr [(86, 30)] [] σ α σ' α ∧ ∃ v : Int, r = some (.int (qz v)) ∧ ((-2147483648) ≤ v ∧ v ≤ 2147483647)) (36, ls, [], qw σ1443 α κ ρ, 0, 0) := by
          intro ls u1441 σ1443 g1436 g1437 g1438 g1439 g1440 g1442 hf1449 hI1445 hF1446 hk1447 hk1448
          refine qr_iinc _ 39 rfl g1442 (by decide) rfl rfl ?_
          refine qr_goto 6 rfl rfl ?_
          exact ih1427 _ u1441 (u1418 + 1) σ1443 (by omega) (qm_gk g1436 (by decide) (Or.inl (by decide))) (qm_gk g1437 (by decide) (Or.inl (by decide))) (qm_gk g1438 (by decide) (Or.inl (by decide))) (qm_gk g1439 (by decide) (Or.inl (by decide))) (qm_gk g1440 (by decide) (Or.inr rfl)) (qm_ge _ _ _) (by omega) (by omega) hI1445 hF1446 ((hk1447).trans rfl)
        refine qr_if_eq 36 27 rfl rfl rfl (by omega) (fun h1451 => ?_) (fun h1451 => ?_)
        · skip
          exact hJ1450 _ u1416 σ1419 g1411 g1412 g1413 g1414 g1415 g1417 (by omega) hI1421 hF1422 ((hk1423).trans rfl) (rfl)
        · skip
          refine qy_iincC 30 rfl g1415 (by decide) rfl (fun v1452 hv1452 => ?_)
          refine qr_aload_n 31 rfl (qm_gk g1411 (by decide) (Or.inl (by decide))) rfl ?_
          refine qr_iload 33 rfl (qm_gk g1417 (by decide) (Or.inl (by decide))) rfl ?_
          refine qr_put 36 rfl (by decide) rfl (Nat.le_of_ble_eq_true rfl) (Nat.le_of_ble_eq_true rfl) (Or.inl rfl) (qr_fitI rfl _) rfl ?_
          refine qy_wS (qw_s σ1419 86 30 u1418) rfl (fun σ1453 e1454 => ?_)
          have hI1455 : qI σ1453 α κ ρ := by rw [e1454]; exact qI_s hI1421 86 30 rfl (show (-2147483648) ≤ u1418 ∧ u1418 ≤ 2147483647 by omega)
          have hF1456 : qFr [(86, 30)] [] σ α σ1453 α := by rw [e1454]; exact qFr_s hF1422 86 30 _ (by decide)
          exact hJ1450 _ v1452 σ1453 (qm_gk g1411 (by decide) (Or.inl (by decide))) (qm_gk g1412 (by decide) (Or.inl (by decide))) (qm_gk g1413 (by decide) (Or.inl (by decide))) (qm_gk g1414 (by decide) (Or.inr rfl)) (qm_ge _ _ _) (qm_gk g1417 (by decide) (Or.inl (by decide))) (by omega) hI1455 hF1456 ((congrFun (congrFun e1454 86) 6).trans ((hk1423).trans rfl)) ((congrFun (congrFun e1454 86) 24).trans rfl)
  exact hL1426 ((60 - 0 + 1 : Int)).toNat _ 0 0 σ (by omega) rfl rfl rfl rfl rfl rfl (by omega) (by omega) hI hF0 (rfl)

set_option maxHeartbeats 4000000 in
set_option maxRecDepth 20000 in
/-- OneRoofModel.holds -/
theorem sf_204_86 {L : Nat} {xs : Nat → Int} {vb : Bool} {d : Nat} {σ α : Nat → Nat → Int} {κ : Nat → Option Nat} {ρ : Nat} {x1 : Int} {x2 : Int} {x3 : Int} (hI : qI σ α κ ρ) (r1 : (-2147483648) ≤ x1 ∧ x1 ≤ 2147483647) (r2 : (-2147483648) ≤ x2 ∧ x2 ≤ 2147483647) (r3 : (-2147483648) ≤ x3 ∧ x3 ≤ 2147483647) : qm_T (qe L xs vb) (d + 4) 204 [.ref 86, .int (qz x1), .int (qz x2), .int (qz x3)] (qw σ α κ ρ) (fun r w' => w' = qw σ α κ ρ ∧ ∃ v : Int, r = some (.int (qz v)) ∧ ((-2147483648) ≤ v ∧ v ≤ 2147483647)) := by
  refine qr_start (d := d + 3) qv_e204 (Nat.le_of_ble_eq_true rfl) ?_
  show qr_W (qe L xs vb) (d + 3) qx_e204 _ (0, [(0, .ref 86), (1, .int (qz x1)), (2, .int (qz x2)), (3, .int (qz x3))], [], _, 0, 0)
  refine qr_aload_n 1 rfl rfl rfl ?_
  refine qr_iload_n 2 rfl rfl rfl ?_
  refine qr_callN 5 rfl rfl rfl (sf_200_86 (d := d + 1) hI (by omega)) ?_
  have hs3 : 0 ≤ σ 86 24 ∧ σ 86 24 ≤ 60 := hI.1 86 24
  rintro _ _ ⟨rfl, v1, rfl, hv1, hp2⟩
  show qr_W (qe L xs vb) (d + 3) qx_e204 _ (5, _, [.int (qz v1)], qw σ α κ ρ, 0, 0)
  refine qr_if_eq 48 8 rfl rfl rfl (by omega) (fun h4 => ?_) (fun h4 => ?_)
  · skip
    refine qr_iconst 49 rfl rfl ?_
    refine qr_retI rfl rfl (by decide) (by decide) ?_
    exact ⟨rfl, (-1), rfl, by omega⟩
  · skip
    refine qr_aload_n 9 rfl rfl rfl ?_
    refine qr_iload_n 10 rfl rfl rfl ?_
    refine qr_callN 13 rfl rfl rfl (sf_191_86 (d := d + 0) hI (by omega)) ?_
    have hs7 : 0 ≤ σ 86 6 ∧ σ 86 6 ≤ 32 := hI.1 86 6
    rintro _ _ ⟨rfl, v5, rfl, hv5, hp6⟩
    show qr_W (qe L xs vb) (d + 3) qx_e204 _ (13, _, [.int (qz v5)], qw σ α κ ρ, 0, 0)
    refine qr_if_eq 48 16 rfl rfl rfl (by omega) (fun h8 => ?_) (fun h8 => ?_)
    · skip
      refine qr_iconst 49 rfl rfl ?_
      refine qr_retI rfl rfl (by decide) (by decide) ?_
      exact ⟨rfl, (-1), rfl, by omega⟩
    · skip
      refine qr_iload_n 17 rfl rfl rfl ?_
      refine qr_callN 20 rfl rfl rfl (sf_192 (d := d + 1) hI (by omega)) ?_
      rintro _ _ ⟨rfl, v9, rfl, hv9, hp10⟩
      show qr_W (qe L xs vb) (d + 3) qx_e204 _ (20, _, [.int (qz v9)], qw σ α κ ρ, 0, 0)
      refine qr_if_eq 48 23 rfl rfl rfl (by omega) (fun h11 => ?_) (fun h11 => ?_)
      · skip
        refine qr_iconst 49 rfl rfl ?_
        refine qr_retI rfl rfl (by decide) (by decide) ?_
        exact ⟨rfl, (-1), rfl, by omega⟩
      · skip
        refine qr_aload_n 24 rfl rfl rfl ?_
        refine qr_iload_n 25 rfl rfl rfl ?_
        refine qr_iload_n 26 rfl rfl rfl ?_
        refine qr_bipush 28 rfl (by decide) rfl ?_
        refine qr_idiv 29 rfl (by omega) (by omega) rfl ?_
        refine qr_iload_n 30 rfl rfl rfl ?_
        refine qr_bipush 32 rfl (by decide) rfl ?_
        refine qr_irem 33 rfl (by omega) (by omega) rfl ?_
        refine qr_iload_n 34 rfl rfl rfl ?_
        refine qr_callN 37 rfl rfl rfl (sf_205_86 (d := d + 0) hI (by omega) (by omega) (by omega) (by omega) (by omega)) ?_
        rintro _ _ ⟨rfl, v12, rfl, hv12⟩
        show qr_W (qe L xs vb) (d + 3) qx_e204 _ (37, _, [.int (qz v12)], qw σ α κ ρ, 0, 0)
        refine qr_if_eq 44 40 rfl rfl rfl (by omega) (fun h13 => ?_) (fun h13 => ?_)
        · skip
          refine qr_iconst 45 rfl rfl ?_
          refine qr_goto 49 rfl rfl ?_
          refine qr_retI rfl rfl (by decide) (by decide) ?_
          exact ⟨rfl, 0, rfl, by omega⟩
        · skip
          refine qr_iconst 41 rfl rfl ?_
          refine qr_goto 49 rfl rfl ?_
          refine qr_retI rfl rfl (by decide) (by decide) ?_
          exact ⟨rfl, 1, rfl, by omega⟩

set_option maxHeartbeats 4000000 in
set_option maxRecDepth 20000 in
/-- OneRoofModel.between -/
theorem sf_208_86 {L : Nat} {xs : Nat → Int} {vb : Bool} {d : Nat} {σ α : Nat → Nat → Int} {κ : Nat → Option Nat} {ρ : Nat} {x1 : Int} {x2 : Int} (hI : qI σ α κ ρ) (r1 : (-2147483648) ≤ x1 ∧ x1 ≤ 2147483647) (r2 : (-2147483648) ≤ x2 ∧ x2 ≤ 2147483647) : qm_T (qe L xs vb) (d + 5) 208 [.ref 86, .int (qz x1), .int (qz x2)] (qw σ α κ ρ) (fun r w' => ∃ σ', w' = qw σ' α κ ρ ∧ qI σ' α κ ρ ∧ qFr [(86, 30)] [] σ α σ' α ∧ ∃ v : Int, r = some (.int (qz v)) ∧ ((-2147483648) ≤ v ∧ v ≤ 2147483647)) := by
  refine qr_start (d := d + 4) qv_e208 (Nat.le_of_ble_eq_true rfl) ?_
  show qr_W (qe L xs vb) (d + 4) qx_e208 _ (0, [(0, .ref 86), (1, .int (qz x1)), (2, .int (qz x2))], [], _, 0, 0)
  have hF0 := qFr_rf [(86, 30)] [] σ α
  refine qr_aload_n 1 rfl rfl rfl ?_
  refine qr_iload_n 2 rfl rfl rfl ?_
  refine qr_callN 5 rfl rfl rfl (sf_191_86 (d := d + 1) hI (by omega)) ?_
  have hs3 : 0 ≤ σ 86 6 ∧ σ 86 6 ≤ 32 := hI.1 86 6
  rintro _ _ ⟨rfl, v1, rfl, hv1, hp2⟩
  show qr_W (qe L xs vb) (d + 4) qx_e208 _ (5, _, [.int (qz v1)], qw σ α κ ρ, 0, 0)
  refine qr_if_eq 31 8 rfl rfl rfl (by omega) (fun h4 => ?_) (fun h4 => ?_)
  · skip
    refine qr_iconst 32 rfl rfl ?_
    refine qr_retI rfl rfl (by decide) (by decide) ?_
    exact ⟨_, rfl, hI, hF0, (-1), rfl, by omega⟩
  · skip
    refine qr_iload_n 9 rfl rfl rfl ?_
    refine qr_callN 12 rfl rfl rfl (sf_192 (d := d + 2) hI (by omega)) ?_
    rintro _ _ ⟨rfl, v5, rfl, hv5, hp6⟩
    show qr_W (qe L xs vb) (d + 4) qx_e208 _ (12, _, [.int (qz v5)], qw σ α κ ρ, 0, 0)
    refine qr_if_eq 31 15 rfl rfl rfl (by omega) (fun h7 => ?_) (fun h7 => ?_)
    · skip
      refine qr_iconst 32 rfl rfl ?_
      refine qr_retI rfl rfl (by decide) (by decide) ?_
      exact ⟨_, rfl, hI, hF0, (-1), rfl, by omega⟩
    · skip
      refine qr_aload_n 16 rfl rfl rfl ?_
      refine qr_iload_n 17 rfl rfl rfl ?_
      refine qr_bipush 19 rfl (by decide) rfl ?_
      refine qr_idiv 20 rfl (by omega) (by omega) rfl ?_
      refine qr_iload_n 21 rfl rfl rfl ?_
      refine qr_bipush 23 rfl (by decide) rfl ?_
      refine qr_irem 24 rfl (by omega) (by omega) rfl ?_
      refine qr_iload_n 25 rfl rfl rfl ?_
      refine qr_callN 28 rfl rfl rfl (sf_209_86 (d := d + 0) hI (by omega) (by omega) (by omega) (by omega)) ?_
      rintro _ _ ⟨σ9, rfl, hI10, hG11, v8, rfl, hv8⟩
      have hF12 : qFr [(86, 30)] [] σ α σ9 α := qFr_t hF0 hG11 (by decide) (by decide)
      show qr_W (qe L xs vb) (d + 4) qx_e208 _ (28, _, [.int (qz v8)], qw σ9 α κ ρ, 0, 0)
      refine qr_goto 32 rfl rfl ?_
      refine qr_retI rfl rfl (by decide) (by decide) ?_
      exact ⟨_, rfl, hI10, hF12, v8, rfl, by omega⟩

set_option maxHeartbeats 4000000 in
set_option maxRecDepth 20000 in
/-- OneRoofModel.proof -/
theorem sf_210_86 {L : Nat} {xs : Nat → Int} {vb : Bool} {d : Nat} {σ α : Nat → Nat → Int} {κ : Nat → Option Nat} {ρ : Nat} {x1 : Int} {x2 : Int} (hI : qI σ α κ ρ) (r1 : (-2147483648) ≤ x1 ∧ x1 ≤ 2147483647) (r2 : (-2147483648) ≤ x2 ∧ x2 ≤ 2147483647) : qm_T (qe L xs vb) (d + 5) 210 [.ref 86, .int (qz x1), .int (qz x2)] (qw σ α κ ρ) (fun r w' => ∃ σ', w' = qw σ' α κ ρ ∧ qI σ' α κ ρ ∧ qFr [(86, 30)] [] σ α σ' α ∧ ∃ v : Int, r = some (.int (qz v)) ∧ ((-2147483648) ≤ v ∧ v ≤ 2147483647)) := by
  refine qr_start (d := d + 4) qv_e210 (Nat.le_of_ble_eq_true rfl) ?_
  show qr_W (qe L xs vb) (d + 4) qx_e210 _ (0, [(0, .ref 86), (1, .int (qz x1)), (2, .int (qz x2))], [], _, 0, 0)
  have hF0 := qFr_rf [(86, 30)] [] σ α
  refine qr_aload_n 1 rfl rfl rfl ?_
  refine qr_iload_n 2 rfl rfl rfl ?_
  refine qr_callN 5 rfl rfl rfl (sf_191_86 (d := d + 1) hI (by omega)) ?_
  have hs3 : 0 ≤ σ 86 6 ∧ σ 86 6 ≤ 32 := hI.1 86 6
  rintro _ _ ⟨rfl, v1, rfl, hv1, hp2⟩
  show qr_W (qe L xs vb) (d + 4) qx_e210 _ (5, _, [.int (qz v1)], qw σ α κ ρ, 0, 0)
  refine qr_if_eq 15 8 rfl rfl rfl (by omega) (fun h4 => ?_) (fun h4 => ?_)
  · skip
    refine qr_iconst 16 rfl rfl ?_
    refine qr_retI rfl rfl (by decide) (by decide) ?_
    exact ⟨_, rfl, hI, hF0, (-1), rfl, by omega⟩
  · skip
    refine qr_iload_n 9 rfl rfl rfl ?_
    refine qr_callN 12 rfl rfl rfl (sf_192 (d := d + 2) hI (by omega)) ?_
    rintro _ _ ⟨rfl, v5, rfl, hv5, hp6⟩
    show qr_W (qe L xs vb) (d + 4) qx_e210 _ (12, _, [.int (qz v5)], qw σ α κ ρ, 0, 0)
    refine qr_if_ne 17 15 rfl rfl rfl (by omega) (fun h7 => ?_) (fun h7 => ?_)
    · skip
      refine qr_aload_n 18 rfl rfl rfl ?_
      refine qr_iload_n 19 rfl rfl rfl ?_
      refine qr_bipush 21 rfl (by decide) rfl ?_
      refine qr_idiv 22 rfl (by omega) (by omega) rfl ?_
      refine qr_iload_n 23 rfl rfl rfl ?_
      refine qr_bipush 25 rfl (by decide) rfl ?_
      refine qr_irem 26 rfl (by omega) (by omega) rfl ?_
      refine qr_iload_n 27 rfl rfl rfl ?_
      refine qr_callN 30 rfl rfl rfl (sf_209_86 (d := d + 0) hI (by omega) (by omega) (by omega) (by omega)) ?_
      rintro _ _ ⟨σ9, rfl, hI10, hG11, v8, rfl, hv8⟩
      have hF12 : qFr [(86, 30)] [] σ α σ9 α := qFr_t hF0 hG11 (by decide) (by decide)
      show qr_W (qe L xs vb) (d + 4) qx_e210 _ (30, _, [.int (qz v8)], qw σ9 α κ ρ, 0, 0)
      refine qr_iconst 31 rfl rfl ?_
      refine qr_icmp_ne 41 34 rfl rfl rfl (by omega) (by omega) (fun h13 => ?_) (fun h13 => ?_)
      · skip
        refine qr_bipush 43 rfl (by decide) rfl ?_
        refine qr_retI rfl rfl (by decide) (by decide) ?_
        exact ⟨_, rfl, hI10, hF12, (-2), rfl, by omega⟩
      · skip
        refine qr_aload_n 35 rfl rfl rfl ?_
        refine qr_get 38 rfl rfl rfl (by decide) rfl ?_
        have hs14 : (-2147483648) ≤ σ9 86 30 ∧ σ9 86 30 ≤ 2147483647 := hI10.1 86 30
        refine qr_goto 43 rfl rfl ?_
        refine qr_retI rfl rfl (by decide) (by decide) ?_
        exact ⟨_, rfl, hI10, hF12, (σ9 86 30), rfl, by omega⟩
    · skip
      refine qr_iconst 16 rfl rfl ?_
      refine qr_retI rfl rfl (by decide) (by decide) ?_
      exact ⟨_, rfl, hI, hF0, (-1), rfl, by omega⟩

