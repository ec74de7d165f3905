set_option maxHeartbeats 4000000 in
set_option maxRecDepth 20000 in
/-- OneRoof$Moment.open -/
theorem sf_89_58 {L : Nat} {xs : Nat → Int} {vb : Bool} {d : Nat} {σ α : Nat → Nat → Int} {κ : Nat → Option Nat} {ρ : Nat} {x1 : Int} (hI : qI σ α κ ρ) (r1 : (-2147483648) ≤ x1 ∧ x1 ≤ 2147483647) : qm_T (qe L xs vb) (d + 1) 89 [.ref 58, .int (qz x1)] (qw σ α κ ρ) (fun r w' => ∃ σ', w' = qw σ' α κ ρ ∧ qI σ' α κ ρ ∧ qFr [(58, 11), (58, 12)] [] σ α σ' α ∧ r = none) := by
  refine qr_start (d := d + 0) qv_e89 (Nat.le_of_ble_eq_true rfl) ?_
  show qr_W (qe L xs vb) (d + 0) qx_e89 _ (0, [(0, .ref 58), (1, .int (qz x1))], [], _, 0, 0)
  have hF0 := qFr_rf [(58, 11), (58, 12)] [] σ α
  refine qr_aload_n 1 rfl rfl rfl ?_
  refine qr_iload_n 2 rfl rfl rfl ?_
  refine qr_put 5 rfl (by decide) rfl (Nat.le_of_ble_eq_true rfl) (Nat.le_of_ble_eq_true rfl) (Or.inl rfl) (qr_fitI rfl _) rfl ?_
  refine qy_wS (qw_s σ 58 11 x1) rfl (fun σ1 e2 => ?_)
  have hI3 : qI σ1 α κ ρ := by rw [e2]; exact qI_s hI 58 11 rfl (show (-2147483648) ≤ x1 ∧ x1 ≤ 2147483647 by omega)
  have hF4 : qFr [(58, 11), (58, 12)] [] σ α σ1 α := by rw [e2]; exact qFr_s hF0 58 11 _ (by decide)
  refine qr_aload_n 6 rfl rfl rfl ?_
  refine qr_dup 7 rfl rfl rfl ?_
  refine qr_get 10 rfl rfl rfl (by decide) rfl ?_
  have hs5 : (-2147483648) ≤ σ1 58 12 ∧ σ1 58 12 ≤ 2147483647 := hI3.1 58 12
  refine qr_iconst 11 rfl rfl ?_
  refine qr_iadd 12 rfl rfl ?_
  refine qy_can (fun v6 hv6 => ?_)
  refine qr_put 15 rfl (by decide) rfl (Nat.le_of_ble_eq_true rfl) (Nat.le_of_ble_eq_true rfl) (Or.inl rfl) (qr_fitI rfl _) rfl ?_
  refine qy_wS (qw_s σ1 58 12 v6) rfl (fun σ7 e8 => ?_)
  have hI9 : qI σ7 α κ ρ := by rw [e8]; exact qI_s hI3 58 12 rfl (show (-2147483648) ≤ v6 ∧ v6 ≤ 2147483647 by omega)
  have hF10 : qFr [(58, 11), (58, 12)] [] σ α σ7 α := by rw [e8]; exact qFr_s hF4 58 12 _ (by decide)
  refine qr_retV rfl rfl (by decide) (by decide) ?_
  exact ⟨_, rfl, hI9, hF10, rfl⟩

set_option maxHeartbeats 4000000 in
set_option maxRecDepth 20000 in
/-- OneRoof$Moment.turnsAt -/
theorem sf_101_58 {L : Nat} {xs : Nat → Int} {vb : Bool} {d : Nat} {σ α : Nat → Nat → Int} {κ : Nat → Option Nat} {ρ : Nat} {x1 : Int} (hI : qI σ α κ ρ) (r1 : (-2147483648) ≤ x1 ∧ x1 ≤ 2147483647) : qm_T (qe L xs vb) (d + 2) 101 [.ref 58, .int (qz x1)] (qw σ α κ ρ) (fun r w' => w' = qw σ α κ ρ ∧ ∃ v : Int, r = some (.int (qz v)) ∧ (0 ≤ v ∧ v ≤ 1)) := by
  refine qr_start (d := d + 1) qv_e101 (Nat.le_of_ble_eq_true rfl) ?_
  show qr_W (qe L xs vb) (d + 1) qx_e101 _ (0, [(0, .ref 58), (1, .int (qz x1))], [], _, 0, 0)
  refine qr_aload_n 1 rfl rfl rfl ?_
  refine qr_get 4 rfl rfl rfl (by decide) rfl ?_
  refine qr_iload_n 5 rfl rfl rfl ?_
  refine qr_callN 8 rfl rfl rfl (sf_102_27 (d := d + 0) hI r1) ?_
  rintro _ _ ⟨rfl, v1, rfl, hv1⟩
  show qr_W (qe L xs vb) (d + 1) qx_e101 _ (8, _, [.int (qz v1)], qw σ α κ ρ, 0, 0)
  refine qr_if_ne 22 11 rfl rfl rfl (qrg hv1 (by decide) (by decide)) (fun h2 => ?_) (fun h2 => ?_)
  · skip
    refine qr_iconst 23 rfl rfl ?_
    refine qr_goto 27 rfl rfl ?_
    refine qr_retZ rfl rfl (Or.inr rfl) (by decide) (by decide) ?_
    exact ⟨rfl, 1, rfl, (by decide)⟩
  · skip
    refine qr_aload_n 12 rfl rfl rfl ?_
    refine qr_get 15 rfl rfl rfl (by decide) rfl ?_
    refine qr_iload_n 16 rfl rfl rfl ?_
    refine qr_callN 19 rfl rfl rfl (sf_103_34 (d := d + 0) hI r1) ?_
    rintro _ _ ⟨rfl, v3, rfl, hv3⟩
    show qr_W (qe L xs vb) (d + 1) qx_e101 _ (19, _, [.int (qz v3)], qw σ α κ ρ, 0, 0)
    refine qr_if_eq 26 22 rfl rfl rfl (qrg hv3 (by decide) (by decide)) (fun h4 => ?_) (fun h4 => ?_)
    · skip
      refine qr_iconst 27 rfl rfl ?_
      refine qr_retZ rfl rfl (Or.inl rfl) (by decide) (by decide) ?_
      exact ⟨rfl, 0, rfl, (by decide)⟩
    · skip
      refine qr_iconst 23 rfl rfl ?_
      refine qr_goto 27 rfl rfl ?_
      refine qr_retZ rfl rfl (Or.inr rfl) (by decide) (by decide) ?_
      exact ⟨rfl, 1, rfl, (by decide)⟩

set_option maxHeartbeats 4000000 in
set_option maxRecDepth 20000 in
/-- OneRoof$Pegs.has -/
theorem sf_44_44 {L : Nat} {xs : Nat → Int} {vb : Bool} {d : Nat} {σ α : Nat → Nat → Int} {κ : Nat → Option Nat} {ρ : Nat} {x1 : Int} (hI : qI σ α κ ρ) (r1 : (-2147483648) ≤ x1 ∧ x1 ≤ 2147483647) : qm_T (qe L xs vb) (d + 1) 44 [.ref 44, .int (qz x1)] (qw σ α κ ρ) (fun r w' => w' = qw σ α κ ρ ∧ ∃ v : Int, r = some (.int (qz v)) ∧ (0 ≤ v ∧ v ≤ 1) ∧ ((v = 1 ∧ 0 ≤ x1 ∧ x1 < 6) ∨ (v = 0 ∧ ¬ (0 ≤ x1 ∧ x1 < 6)))) := by
  refine qr_start (d := d + 0) qv_e44 (Nat.le_of_ble_eq_true rfl) ?_
  show qr_W (qe L xs vb) (d + 0) qx_e44 _ (0, [(0, .ref 44), (1, .int (qz x1))], [], _, 0, 0)
  refine qr_iload_n 1 rfl rfl rfl ?_
  refine qr_if_lt 14 4 rfl rfl rfl r1 (fun h1 => ?_) (fun h1 => ?_)
  · skip
    refine qr_iconst 15 rfl rfl ?_
    refine qr_retZ rfl rfl (Or.inl rfl) (by decide) (by decide) ?_
    exact ⟨rfl, 0, rfl, (by decide), by omega⟩
  · skip
    refine qr_iload_n 5 rfl rfl rfl ?_
    refine qr_bipush 7 rfl (by decide) rfl ?_
    refine qr_icmp_ge 14 10 rfl rfl rfl r1 (by decide) (fun h2 => ?_) (fun h2 => ?_)
    · skip
      refine qr_iconst 15 rfl rfl ?_
      refine qr_retZ rfl rfl (Or.inl rfl) (by decide) (by decide) ?_
      exact ⟨rfl, 0, rfl, (by decide), by omega⟩
    · skip
      refine qr_iconst 11 rfl rfl ?_
      refine qr_goto 15 rfl rfl ?_
      refine qr_retZ rfl rfl (Or.inr rfl) (by decide) (by decide) ?_
      exact ⟨rfl, 1, rfl, (by decide), by omega⟩

set_option maxHeartbeats 4000000 in
set_option maxRecDepth 20000 in
/-- OneRoof$Pegs.isEmpty -/
theorem sf_45_44 {L : Nat} {xs : Nat → Int} {vb : Bool} {d : Nat} {σ α : Nat → Nat → Int} {κ : Nat → Option Nat} {ρ : Nat} {x1 : Int} (hI : qI σ α κ ρ) (r1 : 0 ≤ x1 ∧ x1 ≤ 5) : qm_T (qe L xs vb) (d + 1) 45 [.ref 44, .int (qz x1)] (qw σ α κ ρ) (fun r w' => w' = qw σ α κ ρ ∧ ∃ v : Int, r = some (.int (qz v)) ∧ (0 ≤ v ∧ v ≤ 1)) := by
  refine qr_start (d := d + 0) qv_e45 (Nat.le_of_ble_eq_true rfl) ?_
  show qr_W (qe L xs vb) (d + 0) qx_e45 _ (0, [(0, .ref 44), (1, .int (qz x1))], [], _, 0, 0)
  refine qr_aload_n 1 rfl rfl rfl ?_
  refine qr_get 4 rfl rfl rfl (by decide) rfl ?_
  refine qr_iload_n 5 rfl rfl rfl ?_
  refine qr_iaload 6 rfl rfl (qrgi r1 (by decide) (by decide)) (by decide) rfl ?_
  refine qr_topI (fun v1 hv1 => ?_)
  have hs2 : 0 ≤ v1 ∧ v1 ≤ 6 := by rw [hv1]; exact hI.2.1 45 _ (show _ < 6 from qrgt r1 (by decide) (by decide))
  refine qr_bipush 8 rfl (by decide) rfl ?_
  refine qr_icmp_ne 15 11 rfl rfl rfl (qrg hs2 (by decide) (by decide)) (by decide) (fun h3 => ?_) (fun h3 => ?_)
  · skip
    refine qr_iconst 16 rfl rfl ?_
    refine qr_retZ rfl rfl (Or.inl rfl) (by decide) (by decide) ?_
    exact ⟨rfl, 0, rfl, (by decide)⟩
  · skip
    refine qr_iconst 12 rfl rfl ?_
    refine qr_goto 16 rfl rfl ?_
    refine qr_retZ rfl rfl (Or.inr rfl) (by decide) (by decide) ?_
    exact ⟨rfl, 1, rfl, (by decide)⟩

set_option maxHeartbeats 4000000 in
set_option maxRecDepth 20000 in
/-- OneRoof$Pegs.peaceOn -/
theorem sf_168_44 {L : Nat} {xs : Nat → Int} {vb : Bool} {d : Nat} {σ α : Nat → Nat → Int} {κ : Nat → Option Nat} {ρ : Nat} {x1 : Int} (hI : qI σ α κ ρ) (r1 : 0 ≤ x1 ∧ x1 ≤ 5) : qm_T (qe L xs vb) (d + 1) 168 [.ref 44, .int (qz x1)] (qw σ α κ ρ) (fun r w' => w' = qw σ α κ ρ ∧ ∃ v : Int, r = some (.int (qz v)) ∧ ((-1) ≤ v ∧ v ≤ 59)) := by
  refine qr_start (d := d + 0) qv_e168 (Nat.le_of_ble_eq_true rfl) ?_
  show qr_W (qe L xs vb) (d + 0) qx_e168 _ (0, [(0, .ref 44), (1, .int (qz x1))], [], _, 0, 0)
  refine qr_aload_n 1 rfl rfl rfl ?_
  refine qr_get 4 rfl rfl rfl (by decide) rfl ?_
  refine qr_iload_n 5 rfl rfl rfl ?_
  refine qr_iaload 6 rfl rfl (qrgi r1 (by decide) (by decide)) (by decide) rfl ?_
  refine qr_topI (fun v1 hv1 => ?_)
  have hs2 : 0 ≤ v1 ∧ v1 ≤ 6 := by rw [hv1]; exact hI.2.1 45 _ (show _ < 6 from qrgt r1 (by decide) (by decide))
  refine qr_iconst 7 rfl rfl ?_
  refine qr_icmp_ne 19 10 rfl rfl rfl (qrg hs2 (by decide) (by decide)) (by decide) (fun h3 => ?_) (fun h3 => ?_)
  · skip
    refine qr_iconst 20 rfl rfl ?_
    refine qr_retI rfl rfl (by decide) (by decide) ?_
    exact ⟨rfl, (-1), rfl, (by decide)⟩
  · skip
    refine qr_aload_n 11 rfl rfl rfl ?_
    refine qr_get 14 rfl rfl rfl (by decide) rfl ?_
    refine qr_iload_n 15 rfl rfl rfl ?_
    refine qr_iaload 16 rfl rfl (qrgi r1 (by decide) (by decide)) (by decide) rfl ?_
    refine qr_topI (fun v4 hv4 => ?_)
    have hs5 : (-1) ≤ v4 ∧ v4 ≤ 59 := by rw [hv4]; exact hI.2.1 47 _ (show _ < 6 from qrgt r1 (by decide) (by decide))
    refine qr_goto 20 rfl rfl ?_
    refine qr_retI rfl rfl (by decide) (by decide) ?_
    exact ⟨rfl, v4, rfl, hs5⟩

set_option maxHeartbeats 4000000 in
set_option maxRecDepth 20000 in
/-- OneRoof$Moment.cell -/
theorem sf_93 {L : Nat} {xs : Nat → Int} {vb : Bool} {d : Nat} {σ α : Nat → Nat → Int} {κ : Nat → Option Nat} {ρ : Nat} {x0 : Int} {x1 : Int} (hI : qI σ α κ ρ) (r0 : 0 ≤ x0 ∧ x0 ≤ 31) (r1 : 0 ≤ x1 ∧ x1 ≤ 31) (p0 : ¬ x0 = x1) : qm_T (qe L xs vb) (d + 2) 93 [.int (qz x0), .int (qz x1)] (qw σ α κ ρ) (fun r w' => w' = qw σ α κ ρ ∧ ∃ v : Int, r = some (.int (qz v)) ∧ (0 ≤ v ∧ v ≤ 495)) := by
  refine qr_start (d := d + 1) qv_e93 (Nat.le_of_ble_eq_true rfl) ?_
  show qr_W (qe L xs vb) (d + 1) qx_e93 _ (0, [(0, .int (qz x0)), (1, .int (qz x1))], [], _, 0, 0)
  refine qr_iload_n 1 rfl rfl rfl ?_
  refine qr_iload_n 2 rfl rfl rfl ?_
  refine qr_callN 5 rfl rfl rfl (sf_12 (d := d + 0) hI (qrg r0 (by decide) (by decide)) (qrg r1 (by decide) (by decide))) ?_
  rintro _ _ ⟨rfl, v1, rfl, hv1, hp2⟩
  show qr_W (qe L xs vb) (d + 1) qx_e93 _ (5, _, [.int (qz v1)], qw σ α κ ρ, 0, 0)
  refine qr_istore_n _ 6 rfl (by decide) rfl rfl ?_
  refine qr_iload_n 7 rfl rfl rfl ?_
  refine qr_iload_n 8 rfl rfl rfl ?_
  refine qr_callN 11 rfl rfl rfl (sf_30 (d := d + 0) hI (qrg r0 (by decide) (by decide)) (qrg r1 (by decide) (by decide))) ?_
  rintro _ _ ⟨rfl, v3, rfl, hv3, hp4⟩
  show qr_W (qe L xs vb) (d + 1) qx_e93 _ (11, _, [.int (qz v3)], qw σ α κ ρ, 0, 0)
  refine qr_istore_n _ 12 rfl (by decide) rfl rfl ?_
  refine qr_iload_n 13 rfl rfl rfl ?_
  refine qr_iload_n 14 rfl rfl rfl ?_
  refine qr_iconst 15 rfl rfl ?_
  refine qr_isub 16 rfl rfl ?_
  refine qr_imul 17 rfl rfl ?_
  refine qy_mulb (A := 31) (B := 30) (C := 930) (by omega) (by omega) (by decide) (fun v5 hv5 => ?_)
  refine qr_iconst 18 rfl rfl ?_
  refine qr_idiv 19 rfl (by omega) (by decide) rfl ?_
  refine qr_iload_n 20 rfl rfl rfl ?_
  refine qr_iadd 21 rfl rfl ?_
  refine qr_retI rfl rfl (by decide) (by decide) ?_
  exact ⟨rfl, ((v5 / 2) + v1), rfl, (by omega)⟩

set_option maxHeartbeats 4000000 in
set_option maxRecDepth 20000 in
/-- OneRoof$Moment.nearKey -/
theorem sf_92_58 {L : Nat} {xs : Nat → Int} {vb : Bool} {d : Nat} {σ α : Nat → Nat → Int} {κ : Nat → Option Nat} {ρ : Nat} {x1 : Int} {x2 : Int} (hI : qI σ α κ ρ) (r1 : 0 ≤ x1 ∧ x1 ≤ 31) (r2 : 0 ≤ x2 ∧ x2 ≤ 31) (p0 : ¬ x1 = x2) : qm_T (qe L xs vb) (d + 3) 92 [.ref 58, .int (qz x1), .int (qz x2)] (qw σ α κ ρ) (fun r w' => ∃ α', w' = qw σ α' κ ρ ∧ qI σ α' κ ρ ∧ qFr [] [60, 61] σ α σ α' ∧ ∃ v : Int, r = some (.int (qz v)) ∧ (0 ≤ v ∧ v ≤ 576)) := by
  refine qr_start (d := d + 2) qv_e92 (Nat.le_of_ble_eq_true rfl) ?_
  show qr_W (qe L xs vb) (d + 2) qx_e92 _ (0, [(0, .ref 58), (1, .int (qz x1)), (2, .int (qz x2))], [], _, 0, 0)
  have hF0 := qFr_rf [] [60, 61] σ α
  refine qr_iload_n 1 rfl rfl rfl ?_
  refine qr_iload_n 2 rfl rfl rfl ?_
  refine qr_callN 5 rfl rfl rfl (sf_93 (d := d + 0) hI r1 r2 (by omega)) ?_
  rintro _ _ ⟨rfl, v1, rfl, hv1⟩
  show qr_W (qe L xs vb) (d + 2) qx_e92 _ (5, _, [.int (qz v1)], qw σ α κ ρ, 0, 0)
  refine qr_istore_n _ 6 rfl (by decide) rfl rfl ?_
  refine qr_aload_n 7 rfl rfl rfl ?_
  refine qr_get 10 rfl rfl rfl (by decide) rfl ?_
  refine qr_iload_n 11 rfl rfl rfl ?_
  refine qr_iaload 12 rfl rfl (qrgi hv1 (by decide) (by decide)) (by decide) rfl ?_
  refine qr_topI (fun v2 hv2 => ?_)
  have hs3 : (-2147483648) ≤ v2 ∧ v2 ≤ 2147483647 := by rw [hv2]; exact hI.2.1 61 _ (show _ < 496 from qrgt hv1 (by decide) (by decide))
  refine qr_aload_n 13 rfl rfl rfl ?_
  refine qr_get 16 rfl rfl rfl (by decide) rfl ?_
  have hs4 : (-2147483648) ≤ σ 58 12 ∧ σ 58 12 ≤ 2147483647 := hI.1 58 12
  refine qr_icmp_eq 52 19 rfl rfl rfl hs3 hs4 (fun h5 => ?_) (fun h5 => ?_)
  · skip
    refine qr_aload_n 53 rfl rfl rfl ?_
    refine qr_get 56 rfl rfl rfl (by decide) rfl ?_
    refine qr_iload_n 57 rfl rfl rfl ?_
    refine qr_iaload 58 rfl rfl (qrgi hv1 (by decide) (by decide)) (by decide) rfl ?_
    refine qr_topI (fun v6 hv6 => ?_)
    have hs7 : 0 ≤ v6 ∧ v6 ≤ 576 := by rw [hv6]; exact hI.2.1 60 _ (show _ < 496 from qrgt hv1 (by decide) (by decide))
    refine qr_retI rfl rfl (by decide) (by decide) ?_
    exact ⟨_, rfl, hI, hF0, v6, rfl, hs7⟩
  · skip
    refine qr_aload_n 20 rfl rfl rfl ?_
    refine qr_get 23 rfl rfl rfl (by decide) rfl ?_
    refine qr_iload_n 24 rfl rfl rfl ?_
    refine qr_aload_n 25 rfl rfl rfl ?_
    refine qr_get 28 rfl rfl rfl (by decide) rfl ?_
    refine qr_iastore 29 rfl (by decide) rfl (qrgi hv1 (by decide) (by decide)) (by decide) rfl ?_
    refine qy_wA (qw_r α 61 (qzu (α 61) (v1 : Int).toNat (σ 58 12))) rfl (fun α8 e9 => ?_)
    have hI10 : qI σ α8 κ ρ := by rw [e9]; exact qI_r hI 61 _ rfl (show (-2147483648) ≤ (σ 58 12) ∧ (σ 58 12) ≤ 2147483647 by omega)
    have hF11 : qFr [] [60, 61] σ α σ α8 := by rw [e9]; exact qFr_r hF0 61 _ (by decide)
    refine qr_aload_n 30 rfl rfl rfl ?_
    refine qr_get 33 rfl rfl rfl (by decide) rfl ?_
    refine qr_iload_n 34 rfl rfl rfl ?_
    refine qr_aload_n 35 rfl rfl rfl ?_
    refine qr_get 38 rfl rfl rfl (by decide) rfl ?_
    refine qr_iload_n 39 rfl rfl rfl ?_
    refine qr_iload_n 40 rfl rfl rfl ?_
    refine qr_aload_n 41 rfl rfl rfl ?_
    refine qr_get 44 rfl rfl rfl (by decide) rfl ?_
    have hs12 : (-2147483648) ≤ σ 58 11 ∧ σ 58 11 ≤ 2147483647 := hI10.1 58 11
    refine qr_aload_n 45 rfl rfl rfl ?_
    refine qr_get 48 rfl rfl rfl (by decide) rfl ?_
    refine qr_callN 51 rfl rfl rfl (sf_66_27_23 (d := d + 0) hI10 r1 r2 hs12) ?_
    rintro _ _ ⟨rfl, v13, rfl, hv13⟩
    show qr_W (qe L xs vb) (d + 2) qx_e92 _ (51, _, [.int (qz v13), .int (qz v1), .ref 60], qw σ α8 κ ρ, 0, 0)
    refine qr_iastore 52 rfl (by decide) rfl (qrgi hv1 (by decide) (by decide)) (by decide) rfl ?_
    refine qy_wA (qw_r α8 60 (qzu (α8 60) (v1 : Int).toNat v13)) rfl (fun α14 e15 => ?_)
    have hI16 : qI σ α14 κ ρ := by rw [e15]; exact qI_r hI10 60 _ rfl (show 0 ≤ v13 ∧ v13 ≤ 576 by omega)
    have hF17 : qFr [] [60, 61] σ α σ α14 := by rw [e15]; exact qFr_r hF11 60 _ (by decide)
    refine qr_aload_n 53 rfl rfl rfl ?_
    refine qr_get 56 rfl rfl rfl (by decide) rfl ?_
    refine qr_iload_n 57 rfl rfl rfl ?_
    refine qr_iaload 58 rfl rfl (qrgi hv1 (by decide) (by decide)) (by decide) rfl ?_
    refine qr_topI (fun v18 hv18 => ?_)
    have hs19 : 0 ≤ v18 ∧ v18 ≤ 576 := by rw [hv18]; exact hI16.2.1 60 _ (show _ < 496 from qrgt hv1 (by decide) (by decide))
    refine qr_retI rfl rfl (by decide) (by decide) ?_
    exact ⟨_, rfl, hI16, hF17, v18, rfl, hs19⟩

set_option maxHeartbeats 4000000 in
set_option maxRecDepth 20000 in
/-- OneRoof$Moment.held -/
theorem sf_94_58 {L : Nat} {xs : Nat → Int} {vb : Bool} {d : Nat} {σ α : Nat → Nat → Int} {κ : Nat → Option Nat} {ρ : Nat} {x1 : Int} {x2 : Int} (hI : qI σ α κ ρ) (r1 : 0 ≤ x1 ∧ x1 ≤ 31) (r2 : 0 ≤ x2 ∧ x2 ≤ 31) (p0 : ¬ x1 = x2) : qm_T (qe L xs vb) (d + 3) 94 [.ref 58, .int (qz x1), .int (qz x2)] (qw σ α κ ρ) (fun r w' => ∃ α', w' = qw σ α' κ ρ ∧ qI σ α' κ ρ ∧ qFr [] [62, 63] σ α σ α' ∧ ∃ v : Int, r = some (.long (ql v)) ∧ ((-9223372036854775808) ≤ v ∧ v ≤ 9223372036854775807)) := by
  refine qr_start (d := d + 2) qv_e94 (Nat.le_of_ble_eq_true rfl) ?_
  show qr_W (qe L xs vb) (d + 2) qx_e94 _ (0, [(0, .ref 58), (1, .int (qz x1)), (2, .int (qz x2))], [], _, 0, 0)
  have hF0 := qFr_rf [] [62, 63] σ α
  refine qr_iload_n 1 rfl rfl rfl ?_
  refine qr_iload_n 2 rfl rfl rfl ?_
  refine qr_callN 5 rfl rfl rfl (sf_93 (d := d + 0) hI r1 r2 (by omega)) ?_
  rintro _ _ ⟨rfl, v1, rfl, hv1⟩
  show qr_W (qe L xs vb) (d + 2) qx_e94 _ (5, _, [.int (qz v1)], qw σ α κ ρ, 0, 0)
  refine qr_istore_n _ 6 rfl (by decide) rfl rfl ?_
  refine qr_aload_n 7 rfl rfl rfl ?_
  refine qr_get 10 rfl rfl rfl (by decide) rfl ?_
  refine qr_iload_n 11 rfl rfl rfl ?_
  refine qr_iaload 12 rfl rfl (qrgi hv1 (by decide) (by decide)) (by decide) rfl ?_
  refine qr_topI (fun v2 hv2 => ?_)
  have hs3 : (-2147483648) ≤ v2 ∧ v2 ≤ 2147483647 := by rw [hv2]; exact hI.2.1 63 _ (show _ < 496 from qrgt hv1 (by decide) (by decide))
  refine qr_aload_n 13 rfl rfl rfl ?_
  refine qr_get 16 rfl rfl rfl (by decide) rfl ?_
  have hs4 : (-2147483648) ≤ σ 58 12 ∧ σ 58 12 ≤ 2147483647 := hI.1 58 12
  have hJ21 : ∀ (ls : qm_L) (α18 : Nat → Nat → Int), qm_get ls 0 = some (.ref 58) → qm_get ls 3 = some (.int (qz v1)) → qI σ α18 κ ρ → qFr [] [62, 63] σ α σ α18 → qr_W (qe L xs vb) (d + 2) qx_e94 (fun r w' => ∃ α', w' = qw σ α' κ ρ ∧ qI σ α' κ ρ ∧ qFr [] [62, 63] σ α σ α' ∧ ∃ v : Int, r = some (.long (ql v)) ∧ ((-9223372036854775808) ≤ v ∧ v ≤ 9223372036854775807)) (52, ls, [], qw σ α18 κ ρ, 0, 0) := by
    intro ls α18 g15 g16 hI19 hF20
    refine qr_aload_n 53 rfl g15 rfl ?_
    refine qr_get 56 rfl rfl rfl (by decide) rfl ?_
    refine qr_iload_n 57 rfl g16 rfl ?_
    refine qr_laload 58 rfl (by decide) rfl (qrgi hv1 (by decide) (by decide)) (by decide) rfl ?_
    refine qr_topL (fun v22 hv22 => ?_)
    have hs23 : (-9223372036854775808) ≤ v22 ∧ v22 ≤ 9223372036854775807 := by rw [hv22]; exact hI19.2.1 62 _ (show _ < 496 from qrgt hv1 (by decide) (by decide))
    refine qr_aload_n 59 rfl g15 rfl ?_
    refine qr_get 62 rfl rfl rfl (by decide) rfl ?_
    have hs24 : (-9223372036854775808) ≤ σ 58 10 ∧ σ 58 10 ≤ 9223372036854775807 := hI19.1 58 10
    refine qr_ldc2 (-1) 65 rfl (by decide) rfl ?_
    refine qr_lxor 66 rfl rfl ?_
    refine qy_canl (fun v25 hv25 => ?_)
    refine qr_land 67 rfl rfl ?_
    refine qy_canl (fun v26 hv26 => ?_)
    refine qr_retL rfl rfl (by decide) (by decide) ?_
    exact ⟨_, rfl, hI19, hF20, v26, rfl, hv26⟩
  refine qr_icmp_eq 52 19 rfl rfl rfl hs3 hs4 (fun h27 => ?_) (fun h27 => ?_)
  · skip
    exact hJ21 _ α rfl rfl hI hF0
  · skip
    refine qr_aload_n 20 rfl rfl rfl ?_
    refine qr_get 23 rfl rfl rfl (by decide) rfl ?_
    refine qr_iload_n 24 rfl rfl rfl ?_
    refine qr_aload_n 25 rfl rfl rfl ?_
    refine qr_get 28 rfl rfl rfl (by decide) rfl ?_
    refine qr_iastore 29 rfl (by decide) rfl (qrgi hv1 (by decide) (by decide)) (by decide) rfl ?_
    refine qy_wA (qw_r α 63 (qzu (α 63) (v1 : Int).toNat (σ 58 12))) rfl (fun α28 e29 => ?_)
    have hI30 : qI σ α28 κ ρ := by rw [e29]; exact qI_r hI 63 _ rfl (show (-2147483648) ≤ (σ 58 12) ∧ (σ 58 12) ≤ 2147483647 by omega)
    have hF31 : qFr [] [62, 63] σ α σ α28 := by rw [e29]; exact qFr_r hF0 63 _ (by decide)
    refine qr_aload_n 30 rfl rfl rfl ?_
    refine qr_get 33 rfl rfl rfl (by decide) rfl ?_
    refine qr_iload_n 34 rfl rfl rfl ?_
    refine qr_aload_n 35 rfl rfl rfl ?_
    refine qr_get 38 rfl rfl rfl (by decide) rfl ?_
    refine qr_iload_n 39 rfl rfl rfl ?_
    refine qr_iload_n 40 rfl rfl rfl ?_
    refine qr_aload_n 41 rfl rfl rfl ?_
    refine qr_get 44 rfl rfl rfl (by decide) rfl ?_
    have hs32 : (-2147483648) ≤ σ 58 11 ∧ σ 58 11 ≤ 2147483647 := hI30.1 58 11
    refine qr_aload_n 45 rfl rfl rfl ?_
    refine qr_get 48 rfl rfl rfl (by decide) rfl ?_
    refine qr_callN 51 rfl rfl rfl (sf_80_34_17 (d := d + 0) hI30 r1 r2 hs32) ?_
    rintro _ _ ⟨rfl, v33, rfl, hv33⟩
    show qr_W (qe L xs vb) (d + 2) qx_e94 _ (51, _, [.long (ql v33), .int (qz v1), .ref 62], qw σ α28 κ ρ, 0, 0)
    refine qr_lastore 52 rfl (by decide) rfl (qrgi hv1 (by decide) (by decide)) (by decide) rfl ?_
    refine qy_wA (qw_r α28 62 (qzu (α28 62) (v1 : Int).toNat v33)) rfl (fun α34 e35 => ?_)
    have hI36 : qI σ α34 κ ρ := by rw [e35]; exact qI_r hI30 62 _ rfl (show (-9223372036854775808) ≤ v33 ∧ v33 ≤ 9223372036854775807 by omega)
    have hF37 : qFr [] [62, 63] σ α σ α34 := by rw [e35]; exact qFr_r hF31 62 _ (by decide)
    exact hJ21 _ α34 rfl rfl hI36 hF37

set_option maxHeartbeats 4000000 in
set_option maxRecDepth 20000 in
/-- OneRoof$Moment.weigh -/
theorem sf_90_58 {L : Nat} {xs : Nat → Int} {vb : Bool} {d : Nat} {σ α : Nat → Nat → Int} {κ : Nat → Option Nat} {ρ : Nat} {x1 : Int} {x2 : Int} {x3 : Int} {x4 : Int} {x5 : Int} (hI : qI σ α κ ρ) (r1 : 0 ≤ x1 ∧ x1 ≤ 1) (r2 : 0 ≤ x2 ∧ x2 ≤ 31) (r3 : 0 ≤ x3 ∧ x3 ≤ 31) (r4 : (-1) ≤ x4 ∧ x4 ≤ 31) (r5 : (-9223372036854775808) ≤ x5 ∧ x5 ≤ 9223372036854775807) (p0 : ¬ x2 = x3) : qm_T (qe L xs vb) (d + 4) 90 [.ref 58, .int (qz x1), .int (qz x2), .int (qz x3), .int (qz x4), .long (ql x5)] (qw σ α κ ρ) (fun r w' => ∃ α', w' = qw σ α' κ ρ ∧ qI σ α' κ ρ ∧ qFr [] [53, 57, 59, 60, 61, 62, 63, 85] σ α σ α' ∧ ∃ v : Int, r = some (.int (qz v)) ∧ ((-2147483648) ≤ v ∧ v ≤ 2147483647)) := by
  refine qr_start (d := d + 3) qv_e90 (Nat.le_of_ble_eq_true rfl) ?_
  show qr_W (qe L xs vb) (d + 3) qx_e90 _ (0, [(0, .ref 58), (1, .int (qz x1)), (2, .int (qz x2)), (3, .int (qz x3)), (4, .int (qz x4)), (5, .long (ql x5))], [], _, 0, 0)
  have hF0 := qFr_rf [] [53, 57, 59, 60, 61, 62, 63, 85] σ α
  refine qr_aload_n 1 rfl rfl rfl ?_
  refine qr_get 4 rfl rfl rfl (by decide) rfl ?_
  refine qr_iload_n 5 rfl rfl rfl ?_
  obtain ⟨c1, hc2, hq3⟩ := qI_k hI (y := x1) (by omega)
  refine qr_aaload 6 rfl (by decide) rfl (by omega) (by decide) hc2 rfl ?_
  rcases hq3 with rfl | rfl | rfl
  · skip
    refine qr_astore _ 8 rfl (by decide) rfl rfl ?_
    refine qr_aload 10 rfl rfl rfl ?_
    refine qr_iconst 11 rfl rfl ?_
    refine qr_callN 14 rfl rfl rfl (sf_91_50 (d := d + 1) hI (by decide)) ?_
    rintro _ _ ⟨rfl, v4, rfl, hv4⟩
    show qr_W (qe L xs vb) (d + 3) qx_e90 _ (14, _, [.int (qz v4)], qw σ α κ ρ, 0, 0)
    have hJ58 : ∀ (ls : qm_L) (α55 : Nat → Nat → Int), qm_get ls 0 = some (.ref 58) → qm_get ls 2 = some (.int (qz x2)) → qm_get ls 3 = some (.int (qz x3)) → qm_get ls 4 = some (.int (qz x4)) → qm_get ls 5 = some (.long (ql x5)) → qm_get ls 7 = some (.ref 50) → qI σ α55 κ ρ → qFr [] [53, 57, 59, 60, 61, 62, 63, 85] σ α σ α55 → qr_W (qe L xs vb) (d + 3) qx_e90 (fun r w' => ∃ α', w' = qw σ α' κ ρ ∧ qI σ α' κ ρ ∧ qFr [] [53, 57, 59, 60, 61, 62, 63, 85] σ α σ α' ∧ ∃ v : Int, r = some (.int (qz v)) ∧ ((-2147483648) ≤ v ∧ v ≤ 2147483647)) (63, ls, [], qw σ α55 κ ρ, 0, 0) := by
      intro ls α55 g48 g49 g50 g51 g52 g53 hI56 hF57
      refine qr_aload 65 rfl g53 rfl ?_
      refine qr_iconst 66 rfl rfl ?_
      refine qr_callN 69 rfl rfl rfl (sf_91_50 (d := d + 1) hI56 (by decide)) ?_
      rintro _ _ ⟨rfl, v59, rfl, hv59⟩
      show qr_W (qe L xs vb) (d + 3) qx_e90 _ (69, _, [.int (qz v59)], qw σ α55 κ ρ, 0, 0)
      have hJ80 : ∀ (ls : qm_L) (α77 : Nat → Nat → Int), qm_get ls 0 = some (.ref 58) → qm_get ls 2 = some (.int (qz x2)) → qm_get ls 3 = some (.int (qz x3)) → qm_get ls 4 = some (.int (qz x4)) → qm_get ls 5 = some (.long (ql x5)) → qm_get ls 7 = some (.ref 50) → qI σ α77 κ ρ → qFr [] [53, 57, 59, 60, 61, 62, 63, 85] σ α σ α77 → qr_W (qe L xs vb) (d + 3) qx_e90 (fun r w' => ∃ α', w' = qw σ α' κ ρ ∧ qI σ α' κ ρ ∧ qFr [] [53, 57, 59, 60, 61, 62, 63, 85] σ α σ α' ∧ ∃ v : Int, r = some (.int (qz v)) ∧ ((-2147483648) ≤ v ∧ v ≤ 2147483647)) (87, ls, [], qw σ α77 κ ρ, 0, 0) := by
        intro ls α77 g70 g71 g72 g73 g74 g75 hI78 hF79
        refine qr_aload 89 rfl g75 rfl ?_
        refine qr_bipush 91 rfl (by decide) rfl ?_
        refine qr_callN 94 rfl rfl rfl (sf_91_50 (d := d + 1) hI78 (by decide)) ?_
        rintro _ _ ⟨rfl, v81, rfl, hv81⟩
        show qr_W (qe L xs vb) (d + 3) qx_e90 _ (94, _, [.int (qz v81)], qw σ α77 κ ρ, 0, 0)
        have hJ96 : ∀ (ls : qm_L) (α93 : Nat → Nat → Int), qm_get ls 0 = some (.ref 58) → qm_get ls 2 = some (.int (qz x2)) → qm_get ls 3 = some (.int (qz x3)) → qm_get ls 4 = some (.int (qz x4)) → qm_get ls 7 = some (.ref 50) → qI σ α93 κ ρ → qFr [] [53, 57, 59, 60, 61, 62, 63, 85] σ α σ α93 → qr_W (qe L xs vb) (d + 3) qx_e90 (fun r w' => ∃ α', w' = qw σ α' κ ρ ∧ qI σ α' κ ρ ∧ qFr [] [53, 57, 59, 60, 61, 62, 63, 85] σ α σ α' ∧ ∃ v : Int, r = some (.int (qz v)) ∧ ((-2147483648) ≤ v ∧ v ≤ 2147483647)) (114, ls, [], qw σ α93 κ ρ, 0, 0) := by
          intro ls α93 g87 g88 g89 g90 g91 hI94 hF95
          refine qr_aload_n 115 rfl g87 rfl ?_
          refine qr_get 118 rfl rfl rfl (by decide) rfl ?_
          refine qr_iconst 119 rfl rfl ?_
          refine qr_aload_n 120 rfl g87 rfl ?_
          refine qr_get 123 rfl rfl rfl (by decide) rfl ?_
          refine qr_get 126 rfl rfl rfl (by decide) rfl ?_
          refine qr_iload_n 127 rfl g88 rfl ?_
          refine qr_iaload 128 rfl rfl (qrgi r2 (by decide) (by decide)) (by decide) rfl ?_
          refine qr_topI (fun v97 hv97 => ?_)
          have hs98 : (-2147483648) ≤ v97 ∧ v97 ≤ 2147483647 := by rw [hv97]; exact hI94.2.1 20 _ (show _ < 32 from qrgt r2 (by decide) (by decide))
          refine qr_iastore 129 rfl (by decide) rfl (by decide) (by decide) rfl ?_
          refine qy_wA (qw_r α93 59 (qzu (α93 59) (3 : Int).toNat v97)) rfl (fun α99 e100 => ?_)
          have hI101 : qI σ α99 κ ρ := by rw [e100]; exact qI_r hI94 59 _ rfl (show (-2147483648) ≤ v97 ∧ v97 ≤ 2147483647 by omega)
          have hF102 : qFr [] [53, 57, 59, 60, 61, 62, 63, 85] σ α σ α99 := by rw [e100]; exact qFr_r hF95 59 _ (by decide)
          refine qr_aload_n 130 rfl g87 rfl ?_
          refine qr_get 133 rfl rfl rfl (by decide) rfl ?_
          refine qr_iconst 134 rfl rfl ?_
          refine qr_aload_n 135 rfl g87 rfl ?_
          refine qr_get 138 rfl rfl rfl (by decide) rfl ?_
          refine qr_get 141 rfl rfl rfl (by decide) rfl ?_
          refine qr_iload_n 142 rfl g89 rfl ?_
          refine qr_iaload 143 rfl rfl (qrgi r3 (by decide) (by decide)) (by decide) rfl ?_
          refine qr_topI (fun v103 hv103 => ?_)
          have hs104 : (-2147483648) ≤ v103 ∧ v103 ≤ 2147483647 := by rw [hv103]; exact hI101.2.1 20 _ (show _ < 32 from qrgt r3 (by decide) (by decide))
          refine qr_iastore 144 rfl (by decide) rfl (by decide) (by decide) rfl ?_
          refine qy_wA (qw_r α99 59 (qzu (α99 59) (4 : Int).toNat v103)) rfl (fun α105 e106 => ?_)
          have hI107 : qI σ α105 κ ρ := by rw [e106]; exact qI_r hI101 59 _ rfl (show (-2147483648) ≤ v103 ∧ v103 ≤ 2147483647 by omega)
          have hF108 : qFr [] [53, 57, 59, 60, 61, 62, 63, 85] σ α σ α105 := by rw [e106]; exact qFr_r hF102 59 _ (by decide)
          refine qr_aload_n 145 rfl g87 rfl ?_
          refine qr_get 148 rfl rfl rfl (by decide) rfl ?_
          refine qr_iconst 149 rfl rfl ?_
          refine qr_aload_n 150 rfl g87 rfl ?_
          refine qr_get 153 rfl rfl rfl (by decide) rfl ?_
          refine qr_get 156 rfl rfl rfl (by decide) rfl ?_
          refine qr_iload_n 157 rfl g88 rfl ?_
          refine qr_laload 158 rfl (by decide) rfl (qrgi r2 (by decide) (by decide)) (by decide) rfl ?_
          refine qr_topL (fun v109 hv109 => ?_)
          have hs110 : (-9223372036854775808) ≤ v109 ∧ v109 ≤ 9223372036854775807 := by rw [hv109]; exact hI107.2.1 22 _ (show _ < 32 from qrgt r2 (by decide) (by decide))
          refine qr_iload_n 159 rfl g89 rfl ?_
          refine qr_callN 162 rfl rfl rfl (sf_50 (d := d + 2) hI107 hs110 (qrg r3 (by decide) (by decide))) ?_
          rintro _ _ ⟨rfl, v111, rfl, hv111⟩
          show qr_W (qe L xs vb) (d + 3) qx_e90 _ (162, _, [.int (qz v111), .int (qz 5), .ref 59], qw σ α105 κ ρ, 0, 0)
          have hJ119 : ∀ (ls : qm_L) (u117 : Int), qm_get ls 0 = some (.ref 58) → qm_get ls 2 = some (.int (qz x2)) → qm_get ls 3 = some (.int (qz x3)) → qm_get ls 4 = some (.int (qz x4)) → qm_get ls 7 = some (.ref 50) → (0 ≤ u117 ∧ u117 ≤ 1) → qr_W (qe L xs vb) (d + 3) qx_e90 (fun r w' => ∃ α', w' = qw σ α' κ ρ ∧ qI σ α' κ ρ ∧ qFr [] [53, 57, 59, 60, 61, 62, 63, 85] σ α σ α' ∧ ∃ v : Int, r = some (.int (qz v)) ∧ ((-2147483648) ≤ v ∧ v ≤ 2147483647)) (170, ls, [.int (qz u117), .int (qz 5), .ref 59], qw σ α105 κ ρ, 0, 0) := by
            intro ls u117 g112 g113 g114 g115 g116 hf118
            refine qr_iastore 171 rfl (by decide) rfl (by decide) (by decide) rfl ?_
            refine qy_wA (qw_r α105 59 (qzu (α105 59) (5 : Int).toNat u117)) rfl (fun α120 e121 => ?_)
            have hI122 : qI σ α120 κ ρ := by rw [e121]; exact qI_r hI107 59 _ rfl (show (-2147483648) ≤ u117 ∧ u117 ≤ 2147483647 by omega)
            have hF123 : qFr [] [53, 57, 59, 60, 61, 62, 63, 85] σ α σ α120 := by rw [e121]; exact qFr_r hF108 59 _ (by decide)
            refine qr_aload_n 172 rfl g112 rfl ?_
            refine qr_get 175 rfl rfl rfl (by decide) rfl ?_
            refine qr_bipush 177 rfl (by decide) rfl ?_
            refine qr_aload_n 178 rfl g112 rfl ?_
            refine qr_get 181 rfl rfl rfl (by decide) rfl ?_
            refine qr_iload_n 182 rfl g113 rfl ?_
            refine qr_iload_n 183 rfl g114 rfl ?_
            refine qr_callN 186 rfl rfl rfl (sf_57_23 (d := d + 2) hI122 r2 r3) ?_
            rintro _ _ ⟨rfl, v124, rfl, hv124⟩
            show qr_W (qe L xs vb) (d + 3) qx_e90 _ (186, _, [.int (qz v124), .int (qz 6), .ref 59], qw σ α120 κ ρ, 0, 0)
            refine qr_bipush 188 rfl (by decide) rfl ?_
            refine qr_callN 191 rfl rfl rfl (sf_12 (d := d + 2) hI122 (qrg hv124 (by decide) (by decide)) (by decide)) ?_
            rintro _ _ ⟨rfl, v125, rfl, hv125, hp126⟩
            show qr_W (qe L xs vb) (d + 3) qx_e90 _ (191, _, [.int (qz v125), .int (qz 6), .ref 59], qw σ α120 κ ρ, 0, 0)
            refine qr_iastore 192 rfl (by decide) rfl (by decide) (by decide) rfl ?_
            refine qy_wA (qw_r α120 59 (qzu (α120 59) (6 : Int).toNat v125)) rfl (fun α127 e128 => ?_)
            have hI129 : qI σ α127 κ ρ := by rw [e128]; exact qI_r hI122 59 _ rfl (show (-2147483648) ≤ v125 ∧ v125 ≤ 2147483647 by omega)
            have hF130 : qFr [] [53, 57, 59, 60, 61, 62, 63, 85] σ α σ α127 := by rw [e128]; exact qFr_r hF123 59 _ (by decide)
            refine qr_aload_n 193 rfl g112 rfl ?_
            refine qr_get 196 rfl rfl rfl (by decide) rfl ?_
            refine qr_bipush 198 rfl (by decide) rfl ?_
            refine qr_iload 200 rfl g115 rfl ?_
            refine qr_iconst 201 rfl rfl ?_
            have hJ138 : ∀ (ls : qm_L) (u136 : Int), qm_get ls 0 = some (.ref 58) → qm_get ls 7 = some (.ref 50) → (0 ≤ u136 ∧ u136 ≤ 9) → qr_W (qe L xs vb) (d + 3) qx_e90 (fun r w' => ∃ α', w' = qw σ α' κ ρ ∧ qI σ α' κ ρ ∧ qFr [] [53, 57, 59, 60, 61, 62, 63, 85] σ α σ α' ∧ ∃ v : Int, r = some (.int (qz v)) ∧ ((-2147483648) ≤ v ∧ v ≤ 2147483647)) (223, ls, [.int (qz u136), .int (qz 8), .ref 59], qw σ α127 κ ρ, 0, 0) := by
              intro ls u136 g134 g135 hf137
              refine qr_iastore 224 rfl (by decide) rfl (by decide) (by decide) rfl ?_
              refine qy_wA (qw_r α127 59 (qzu (α127 59) (8 : Int).toNat u136)) rfl (fun α139 e140 => ?_)
              have hI141 : qI σ α139 κ ρ := by rw [e140]; exact qI_r hI129 59 _ rfl (show (-2147483648) ≤ u136 ∧ u136 ≤ 2147483647 by omega)
              have hF142 : qFr [] [53, 57, 59, 60, 61, 62, 63, 85] σ α σ α139 := by rw [e140]; exact qFr_r hF130 59 _ (by decide)
              refine qr_aload 226 rfl g135 rfl ?_
              refine qr_aload_n 227 rfl g134 rfl ?_
              refine qr_get 230 rfl rfl rfl (by decide) rfl ?_
              refine qr_callN 233 rfl rfl rfl (sf_97_50_59 (d := d + 1) hI141 ) ?_
              rintro _ _ ⟨α144, rfl, hI145, hG146, v143, rfl, hv143⟩
              have hF147 : qFr [] [53, 57, 59, 60, 61, 62, 63, 85] σ α σ α144 := qFr_t hF142 hG146 (by decide) (by decide)
              show qr_W (qe L xs vb) (d + 3) qx_e90 _ (233, _, [.int (qz v143)], qw σ α144 κ ρ, 0, 0)
              refine qr_retI rfl rfl (by decide) (by decide) ?_
              exact ⟨_, rfl, hI145, hF147, v143, rfl, hv143⟩
            refine qr_icmp_ne 208 204 rfl rfl rfl (qrg r4 (by decide) (by decide)) (by decide) (fun h148 => ?_) (fun h148 => ?_)
            · skip
              refine qr_aload_n 209 rfl g112 rfl ?_
              refine qr_get 212 rfl rfl rfl (by decide) rfl ?_
              refine qr_iload_n 213 rfl g113 rfl ?_
              refine qr_iload 215 rfl g115 rfl ?_
              refine qr_callN 218 rfl rfl rfl (sf_57_23 (d := d + 2) hI129 r2 (by omega)) ?_
              rintro _ _ ⟨rfl, v149, rfl, hv149⟩
              show qr_W (qe L xs vb) (d + 3) qx_e90 _ (218, _, [.int (qz v149), .int (qz 8), .ref 59], qw σ α127 κ ρ, 0, 0)
              refine qr_bipush 220 rfl (by decide) rfl ?_
              refine qr_callN 223 rfl rfl rfl (sf_12 (d := d + 2) hI129 (qrg hv149 (by decide) (by decide)) (by decide)) ?_
              rintro _ _ ⟨rfl, v150, rfl, hv150, hp151⟩
              show qr_W (qe L xs vb) (d + 3) qx_e90 _ (223, _, [.int (qz v150), .int (qz 8), .ref 59], qw σ α127 κ ρ, 0, 0)
              exact hJ138 _ v150 g112 g116 (by omega)
            · skip
              refine qr_iconst 205 rfl rfl ?_
              refine qr_goto 223 rfl rfl ?_
              exact hJ138 _ 0 g112 g116 (by decide)
          refine qr_if_eq 169 165 rfl rfl rfl (qrg hv111 (by decide) (by decide)) (fun h152 => ?_) (fun h152 => ?_)
          · skip
            refine qr_iconst 170 rfl rfl ?_
            exact hJ119 _ 0 g87 g88 g89 g90 g91 (by decide)
          · skip
            refine qr_iconst 166 rfl rfl ?_
            refine qr_goto 170 rfl rfl ?_
            exact hJ119 _ 1 g87 g88 g89 g90 g91 (by decide)
        refine qr_if_eq 114 97 rfl rfl rfl (qrg hv81 (by decide) (by decide)) (fun h153 => ?_) (fun h153 => ?_)
        · skip
          exact hJ96 _ α77 g70 g71 g72 g73 g75 hI78 hF79
        · skip
          refine qr_aload_n 98 rfl g70 rfl ?_
          refine qr_get 101 rfl rfl rfl (by decide) rfl ?_
          refine qr_bipush 103 rfl (by decide) rfl ?_
          refine qr_aload_n 104 rfl g70 rfl ?_
          refine qr_get 107 rfl rfl rfl (by decide) rfl ?_
          refine qr_iload_n 108 rfl g71 rfl ?_
          refine qr_lload 110 rfl g74 rfl ?_
          refine qr_callN 113 rfl rfl rfl (sf_95_17 (d := d + 1) hI78 r2 r5) ?_
          rintro _ _ ⟨rfl, v154, rfl, hv154⟩
          show qr_W (qe L xs vb) (d + 3) qx_e90 _ (113, _, [.int (qz v154), .int (qz 7), .ref 59], qw σ α77 κ ρ, 0, 0)
          refine qr_iastore 114 rfl (by decide) rfl (by decide) (by decide) rfl ?_
          refine qy_wA (qw_r α77 59 (qzu (α77 59) (7 : Int).toNat v154)) rfl (fun α155 e156 => ?_)
          have hI157 : qI σ α155 κ ρ := by rw [e156]; exact qI_r hI78 59 _ rfl (show (-2147483648) ≤ v154 ∧ v154 ≤ 2147483647 by omega)
          have hF158 : qFr [] [53, 57, 59, 60, 61, 62, 63, 85] σ α σ α155 := by rw [e156]; exact qFr_r hF79 59 _ (by decide)
          exact hJ96 _ α155 g70 g71 g72 g73 g75 hI157 hF158
      refine qr_if_eq 87 72 rfl rfl rfl (qrg hv59 (by decide) (by decide)) (fun h159 => ?_) (fun h159 => ?_)
      · skip
        exact hJ80 _ α55 g48 g49 g50 g51 g52 g53 hI56 hF57
      · skip
        refine qr_aload_n 73 rfl g48 rfl ?_
        refine qr_get 76 rfl rfl rfl (by decide) rfl ?_
        refine qr_iconst 77 rfl rfl ?_
        refine qr_aload_n 78 rfl g48 rfl ?_
        refine qr_iload_n 79 rfl g49 rfl ?_
        refine qr_iload_n 80 rfl g50 rfl ?_
        refine qr_callN 83 rfl rfl rfl (sf_94_58 (d := d + 0) hI56 r2 r3 (by omega)) ?_
        rintro _ _ ⟨α161, rfl, hI162, hG163, v160, rfl, hv160⟩
        have hF164 : qFr [] [53, 57, 59, 60, 61, 62, 63, 85] σ α σ α161 := qFr_t hF57 hG163 (by decide) (by decide)
        show qr_W (qe L xs vb) (d + 3) qx_e90 _ (83, _, [.long (ql v160), .int (qz 2), .ref 59], qw σ α161 κ ρ, 0, 0)
        refine qr_callN 86 rfl rfl rfl (sf_74 (d := d + 2) hI162 hv160) ?_
        rintro _ _ ⟨rfl, v165, rfl, hv165⟩
        show qr_W (qe L xs vb) (d + 3) qx_e90 _ (86, _, [.int (qz v165), .int (qz 2), .ref 59], qw σ α161 κ ρ, 0, 0)
        refine qr_iastore 87 rfl (by decide) rfl (by decide) (by decide) rfl ?_
        refine qy_wA (qw_r α161 59 (qzu (α161 59) (2 : Int).toNat v165)) rfl (fun α166 e167 => ?_)
        have hI168 : qI σ α166 κ ρ := by rw [e167]; exact qI_r hI162 59 _ rfl (show (-2147483648) ≤ v165 ∧ v165 ≤ 2147483647 by omega)
        have hF169 : qFr [] [53, 57, 59, 60, 61, 62, 63, 85] σ α σ α166 := by rw [e167]; exact qFr_r hF164 59 _ (by decide)
        exact hJ80 _ α166 g48 g49 g50 g51 g52 g53 hI168 hF169
    refine qr_if_ne 26 17 rfl rfl rfl (qrg hv4 (by decide) (by decide)) (fun h170 => ?_) (fun h170 => ?_)
    · skip
      refine qr_aload_n 27 rfl rfl rfl ?_
      refine qr_iload_n 28 rfl rfl rfl ?_
      refine qr_iload_n 29 rfl rfl rfl ?_
      refine qr_callN 32 rfl rfl rfl (sf_92_58 (d := d + 0) hI r2 r3 (by omega)) ?_
      rintro _ _ ⟨α172, rfl, hI173, hG174, v171, rfl, hv171⟩
      have hF175 : qFr [] [53, 57, 59, 60, 61, 62, 63, 85] σ α σ α172 := qFr_t hF0 hG174 (by decide) (by decide)
      show qr_W (qe L xs vb) (d + 3) qx_e90 _ (32, _, [.int (qz v171)], qw σ α172 κ ρ, 0, 0)
      refine qr_bipush 34 rfl (by decide) rfl ?_
      refine qr_idiv 35 rfl (qrg hv171 (by decide) (by decide)) (by decide) rfl ?_
      refine qr_istore _ 37 rfl (by decide) rfl rfl ?_
      refine qr_aload_n 38 rfl rfl rfl ?_
      refine qr_get 41 rfl rfl rfl (by decide) rfl ?_
      refine qr_iconst 42 rfl rfl ?_
      refine qr_iload 44 rfl rfl rfl ?_
      refine qr_bipush 46 rfl (by decide) rfl ?_
      have hJ185 : ∀ (ls : qm_L) (u183 : Int), qm_get ls 0 = some (.ref 58) → qm_get ls 2 = some (.int (qz x2)) → qm_get ls 3 = some (.int (qz x3)) → qm_get ls 4 = some (.int (qz x4)) → qm_get ls 5 = some (.long (ql x5)) → qm_get ls 7 = some (.ref 50) → qm_get ls 8 = some (.int (qz (v171 / 64))) → (0 ≤ u183 ∧ u183 ≤ 1) → qr_W (qe L xs vb) (d + 3) qx_e90 (fun r w' => ∃ α', w' = qw σ α' κ ρ ∧ qI σ α' κ ρ ∧ qFr [] [53, 57, 59, 60, 61, 62, 63, 85] σ α σ α' ∧ ∃ v : Int, r = some (.int (qz v)) ∧ ((-2147483648) ≤ v ∧ v ≤ 2147483647)) (54, ls, [.int (qz u183), .int (qz 0), .ref 59], qw σ α172 κ ρ, 0, 0) := by
        intro ls u183 g176 g177 g178 g179 g180 g181 g182 hf184
        refine qr_iastore 55 rfl (by decide) rfl (by decide) (by decide) rfl ?_
        refine qy_wA (qw_r α172 59 (qzu (α172 59) (0 : Int).toNat u183)) rfl (fun α186 e187 => ?_)
        have hI188 : qI σ α186 κ ρ := by rw [e187]; exact qI_r hI173 59 _ rfl (show (-2147483648) ≤ u183 ∧ u183 ≤ 2147483647 by omega)
        have hF189 : qFr [] [53, 57, 59, 60, 61, 62, 63, 85] σ α σ α186 := by rw [e187]; exact qFr_r hF175 59 _ (by decide)
        refine qr_aload_n 56 rfl g176 rfl ?_
        refine qr_get 59 rfl rfl rfl (by decide) rfl ?_
        refine qr_iconst 60 rfl rfl ?_
        refine qr_iload 62 rfl g182 rfl ?_
        refine qr_iastore 63 rfl (by decide) rfl (by decide) (by decide) rfl ?_
        refine qy_wA (qw_r α186 59 (qzu (α186 59) (1 : Int).toNat (v171 / 64))) rfl (fun α190 e191 => ?_)
        have hI192 : qI σ α190 κ ρ := by rw [e191]; exact qI_r hI188 59 _ rfl (show (-2147483648) ≤ (v171 / 64) ∧ (v171 / 64) ≤ 2147483647 by omega)
        have hF193 : qFr [] [53, 57, 59, 60, 61, 62, 63, 85] σ α σ α190 := by rw [e191]; exact qFr_r hF189 59 _ (by decide)
        exact hJ58 _ α190 g176 g177 g178 g179 g180 g181 hI192 hF193
      refine qr_icmp_ge 53 49 rfl rfl rfl (by omega) (by decide) (fun h194 => ?_) (fun h194 => ?_)
      · skip
        refine qr_iconst 54 rfl rfl ?_
        exact hJ185 _ 0 rfl rfl rfl rfl rfl rfl rfl (by decide)
      · skip
        refine qr_iconst 50 rfl rfl ?_
        refine qr_goto 54 rfl rfl ?_
        exact hJ185 _ 1 rfl rfl rfl rfl rfl rfl rfl (by decide)
    · skip
      refine qr_aload 19 rfl rfl rfl ?_
      refine qr_iconst 20 rfl rfl ?_
      refine qr_callN 23 rfl rfl rfl (sf_91_50 (d := d + 1) hI (by decide)) ?_
      rintro _ _ ⟨rfl, v195, rfl, hv195⟩
      show qr_W (qe L xs vb) (d + 3) qx_e90 _ (23, _, [.int (qz v195)], qw σ α κ ρ, 0, 0)
      refine qr_if_eq 63 26 rfl rfl rfl (qrg hv195 (by decide) (by decide)) (fun h196 => ?_) (fun h196 => ?_)
      · skip
        exact hJ58 _ α rfl rfl rfl rfl rfl rfl hI hF0
      · skip
        refine qr_aload_n 27 rfl rfl rfl ?_
        refine qr_iload_n 28 rfl rfl rfl ?_
        refine qr_iload_n 29 rfl rfl rfl ?_
        refine qr_callN 32 rfl rfl rfl (sf_92_58 (d := d + 0) hI r2 r3 (by omega)) ?_
        rintro _ _ ⟨α198, rfl, hI199, hG200, v197, rfl, hv197⟩
        have hF201 : qFr [] [53, 57, 59, 60, 61, 62, 63, 85] σ α σ α198 := qFr_t hF0 hG200 (by decide) (by decide)
        show qr_W (qe L xs vb) (d + 3) qx_e90 _ (32, _, [.int (qz v197)], qw σ α198 κ ρ, 0, 0)
        refine qr_bipush 34 rfl (by decide) rfl ?_
        refine qr_idiv 35 rfl (qrg hv197 (by decide) (by decide)) (by decide) rfl ?_
        refine qr_istore _ 37 rfl (by decide) rfl rfl ?_
        refine qr_aload_n 38 rfl rfl rfl ?_
        refine qr_get 41 rfl rfl rfl (by decide) rfl ?_
        refine qr_iconst 42 rfl rfl ?_
        refine qr_iload 44 rfl rfl rfl ?_
        refine qr_bipush 46 rfl (by decide) rfl ?_
        have hJ211 : ∀ (ls : qm_L) (u209 : Int), qm_get ls 0 = some (.ref 58) → qm_get ls 2 = some (.int (qz x2)) → qm_get ls 3 = some (.int (qz x3)) → qm_get ls 4 = some (.int (qz x4)) → qm_get ls 5 = some (.long (ql x5)) → qm_get ls 7 = some (.ref 50) → qm_get ls 8 = some (.int (qz (v197 / 64))) → (0 ≤ u209 ∧ u209 ≤ 1) → qr_W (qe L xs vb) (d + 3) qx_e90 (fun r w' => ∃ α', w' = qw σ α' κ ρ ∧ qI σ α' κ ρ ∧ qFr [] [53, 57, 59, 60, 61, 62, 63, 85] σ α σ α' ∧ ∃ v : Int, r = some (.int (qz v)) ∧ ((-2147483648) ≤ v ∧ v ≤ 2147483647)) (54, ls, [.int (qz u209), .int (qz 0), .ref 59], qw σ α198 κ ρ, 0, 0) := by
          intro ls u209 g202 g203 g204 g205 g206 g207 g208 hf210
          refine qr_iastore 55 rfl (by decide) rfl (by decide) (by decide) rfl ?_
          refine qy_wA (qw_r α198 59 (qzu (α198 59) (0 : Int).toNat u209)) rfl (fun α212 e213 => ?_)
          have hI214 : qI σ α212 κ ρ := by rw [e213]; exact qI_r hI199 59 _ rfl (show (-2147483648) ≤ u209 ∧ u209 ≤ 2147483647 by omega)
          have hF215 : qFr [] [53, 57, 59, 60, 61, 62, 63, 85] σ α σ α212 := by rw [e213]; exact qFr_r hF201 59 _ (by decide)
          refine qr_aload_n 56 rfl g202 rfl ?_
          refine qr_get 59 rfl rfl rfl (by decide) rfl ?_
          refine qr_iconst 60 rfl rfl ?_
          refine qr_iload 62 rfl g208 rfl ?_
          refine qr_iastore 63 rfl (by decide) rfl (by decide) (by decide) rfl ?_
          refine qy_wA (qw_r α212 59 (qzu (α212 59) (1 : Int).toNat (v197 / 64))) rfl (fun α216 e217 => ?_)
          have hI218 : qI σ α216 κ ρ := by rw [e217]; exact qI_r hI214 59 _ rfl (show (-2147483648) ≤ (v197 / 64) ∧ (v197 / 64) ≤ 2147483647 by omega)
          have hF219 : qFr [] [53, 57, 59, 60, 61, 62, 63, 85] σ α σ α216 := by rw [e217]; exact qFr_r hF215 59 _ (by decide)
          exact hJ58 _ α216 g202 g203 g204 g205 g206 g207 hI218 hF219
        refine qr_icmp_ge 53 49 rfl rfl rfl (by omega) (by decide) (fun h220 => ?_) (fun h220 => ?_)
        · skip
          refine qr_iconst 54 rfl rfl ?_
          exact hJ211 _ 0 rfl rfl rfl rfl rfl rfl rfl (by decide)
        · skip
          refine qr_iconst 50 rfl rfl ?_
          refine qr_goto 54 rfl rfl ?_
          exact hJ211 _ 1 rfl rfl rfl rfl rfl rfl rfl (by decide)
  · skip
    refine qr_astore _ 8 rfl (by decide) rfl rfl ?_
    refine qr_aload 10 rfl rfl rfl ?_
    refine qr_iconst 11 rfl rfl ?_
    refine qr_callN 14 rfl rfl rfl (sf_91_54 (d := d + 1) hI (by decide)) ?_
    rintro _ _ ⟨rfl, v221, rfl, hv221⟩
    show qr_W (qe L xs vb) (d + 3) qx_e90 _ (14, _, [.int (qz v221)], qw σ α κ ρ, 0, 0)
    have hJ275 : ∀ (ls : qm_L) (α272 : Nat → Nat → Int), qm_get ls 0 = some (.ref 58) → qm_get ls 2 = some (.int (qz x2)) → qm_get ls 3 = some (.int (qz x3)) → qm_get ls 4 = some (.int (qz x4)) → qm_get ls 5 = some (.long (ql x5)) → qm_get ls 7 = some (.ref 54) → qI σ α272 κ ρ → qFr [] [53, 57, 59, 60, 61, 62, 63, 85] σ α σ α272 → qr_W (qe L xs vb) (d + 3) qx_e90 (fun r w' => ∃ α', w' = qw σ α' κ ρ ∧ qI σ α' κ ρ ∧ qFr [] [53, 57, 59, 60, 61, 62, 63, 85] σ α σ α' ∧ ∃ v : Int, r = some (.int (qz v)) ∧ ((-2147483648) ≤ v ∧ v ≤ 2147483647)) (63, ls, [], qw σ α272 κ ρ, 0, 0) := by
      intro ls α272 g265 g266 g267 g268 g269 g270 hI273 hF274
      refine qr_aload 65 rfl g270 rfl ?_
      refine qr_iconst 66 rfl rfl ?_
      refine qr_callN 69 rfl rfl rfl (sf_91_54 (d := d + 1) hI273 (by decide)) ?_
      rintro _ _ ⟨rfl, v276, rfl, hv276⟩
      show qr_W (qe L xs vb) (d + 3) qx_e90 _ (69, _, [.int (qz v276)], qw σ α272 κ ρ, 0, 0)
      have hJ297 : ∀ (ls : qm_L) (α294 : Nat → Nat → Int), qm_get ls 0 = some (.ref 58) → qm_get ls 2 = some (.int (qz x2)) → qm_get ls 3 = some (.int (qz x3)) → qm_get ls 4 = some (.int (qz x4)) → qm_get ls 5 = some (.long (ql x5)) → qm_get ls 7 = some (.ref 54) → qI σ α294 κ ρ → qFr [] [53, 57, 59, 60, 61, 62, 63, 85] σ α σ α294 → qr_W (qe L xs vb) (d + 3) qx_e90 (fun r w' => ∃ α', w' = qw σ α' κ ρ ∧ qI σ α' κ ρ ∧ qFr [] [53, 57, 59, 60, 61, 62, 63, 85] σ α σ α' ∧ ∃ v : Int, r = some (.int (qz v)) ∧ ((-2147483648) ≤ v ∧ v ≤ 2147483647)) (87, ls, [], qw σ α294 κ ρ, 0, 0) := by
        intro ls α294 g287 g288 g289 g290 g291 g292 hI295 hF296
        refine qr_aload 89 rfl g292 rfl ?_
        refine qr_bipush 91 rfl (by decide) rfl ?_
        refine qr_callN 94 rfl rfl rfl (sf_91_54 (d := d + 1) hI295 (by decide)) ?_
        rintro _ _ ⟨rfl, v298, rfl, hv298⟩
        show qr_W (qe L xs vb) (d + 3) qx_e90 _ (94, _, [.int (qz v298)], qw σ α294 κ ρ, 0, 0)
        have hJ313 : ∀ (ls : qm_L) (α310 : Nat → Nat → Int), qm_get ls 0 = some (.ref 58) → qm_get ls 2 = some (.int (qz x2)) → qm_get ls 3 = some (.int (qz x3)) → qm_get ls 4 = some (.int (qz x4)) → qm_get ls 7 = some (.ref 54) → qI σ α310 κ ρ → qFr [] [53, 57, 59, 60, 61, 62, 63, 85] σ α σ α310 → qr_W (qe L xs vb) (d + 3) qx_e90 (fun r w' => ∃ α', w' = qw σ α' κ ρ ∧ qI σ α' κ ρ ∧ qFr [] [53, 57, 59, 60, 61, 62, 63, 85] σ α σ α' ∧ ∃ v : Int, r = some (.int (qz v)) ∧ ((-2147483648) ≤ v ∧ v ≤ 2147483647)) (114, ls, [], qw σ α310 κ ρ, 0, 0) := by
          intro ls α310 g304 g305 g306 g307 g308 hI311 hF312
          refine qr_aload_n 115 rfl g304 rfl ?_
          refine qr_get 118 rfl rfl rfl (by decide) rfl ?_
          refine qr_iconst 119 rfl rfl ?_
          refine qr_aload_n 120 rfl g304 rfl ?_
          refine qr_get 123 rfl rfl rfl (by decide) rfl ?_
          refine qr_get 126 rfl rfl rfl (by decide) rfl ?_
          refine qr_iload_n 127 rfl g305 rfl ?_
          refine qr_iaload 128 rfl rfl (qrgi r2 (by decide) (by decide)) (by decide) rfl ?_
          refine qr_topI (fun v314 hv314 => ?_)
          have hs315 : (-2147483648) ≤ v314 ∧ v314 ≤ 2147483647 := by rw [hv314]; exact hI311.2.1 20 _ (show _ < 32 from qrgt r2 (by decide) (by decide))
          refine qr_iastore 129 rfl (by decide) rfl (by decide) (by decide) rfl ?_
          refine qy_wA (qw_r α310 59 (qzu (α310 59) (3 : Int).toNat v314)) rfl (fun α316 e317 => ?_)
          have hI318 : qI σ α316 κ ρ := by rw [e317]; exact qI_r hI311 59 _ rfl (show (-2147483648) ≤ v314 ∧ v314 ≤ 2147483647 by omega)
          have hF319 : qFr [] [53, 57, 59, 60, 61, 62, 63, 85] σ α σ α316 := by rw [e317]; exact qFr_r hF312 59 _ (by decide)
          refine qr_aload_n 130 rfl g304 rfl ?_
          refine qr_get 133 rfl rfl rfl (by decide) rfl ?_
          refine qr_iconst 134 rfl rfl ?_
          refine qr_aload_n 135 rfl g304 rfl ?_
          refine qr_get 138 rfl rfl rfl (by decide) rfl ?_
          refine qr_get 141 rfl rfl rfl (by decide) rfl ?_
          refine qr_iload_n 142 rfl g306 rfl ?_
          refine qr_iaload 143 rfl rfl (qrgi r3 (by decide) (by decide)) (by decide) rfl ?_
          refine qr_topI (fun v320 hv320 => ?_)
          have hs321 : (-2147483648) ≤ v320 ∧ v320 ≤ 2147483647 := by rw [hv320]; exact hI318.2.1 20 _ (show _ < 32 from qrgt r3 (by decide) (by decide))
          refine qr_iastore 144 rfl (by decide) rfl (by decide) (by decide) rfl ?_
          refine qy_wA (qw_r α316 59 (qzu (α316 59) (4 : Int).toNat v320)) rfl (fun α322 e323 => ?_)
          have hI324 : qI σ α322 κ ρ := by rw [e323]; exact qI_r hI318 59 _ rfl (show (-2147483648) ≤ v320 ∧ v320 ≤ 2147483647 by omega)
          have hF325 : qFr [] [53, 57, 59, 60, 61, 62, 63, 85] σ α σ α322 := by rw [e323]; exact qFr_r hF319 59 _ (by decide)
          refine qr_aload_n 145 rfl g304 rfl ?_
          refine qr_get 148 rfl rfl rfl (by decide) rfl ?_
          refine qr_iconst 149 rfl rfl ?_
          refine qr_aload_n 150 rfl g304 rfl ?_
          refine qr_get 153 rfl rfl rfl (by decide) rfl ?_
          refine qr_get 156 rfl rfl rfl (by decide) rfl ?_
          refine qr_iload_n 157 rfl g305 rfl ?_
          refine qr_laload 158 rfl (by decide) rfl (qrgi r2 (by decide) (by decide)) (by decide) rfl ?_
          refine qr_topL (fun v326 hv326 => ?_)
          have hs327 : (-9223372036854775808) ≤ v326 ∧ v326 ≤ 9223372036854775807 := by rw [hv326]; exact hI324.2.1 22 _ (show _ < 32 from qrgt r2 (by decide) (by decide))
          refine qr_iload_n 159 rfl g306 rfl ?_
          refine qr_callN 162 rfl rfl rfl (sf_50 (d := d + 2) hI324 hs327 (qrg r3 (by decide) (by decide))) ?_
          rintro _ _ ⟨rfl, v328, rfl, hv328⟩
          show qr_W (qe L xs vb) (d + 3) qx_e90 _ (162, _, [.int (qz v328), .int (qz 5), .ref 59], qw σ α322 κ ρ, 0, 0)
          have hJ336 : ∀ (ls : qm_L) (u334 : Int), qm_get ls 0 = some (.ref 58) → qm_get ls 2 = some (.int (qz x2)) → qm_get ls 3 = some (.int (qz x3)) → qm_get ls 4 = some (.int (qz x4)) → qm_get ls 7 = some (.ref 54) → (0 ≤ u334 ∧ u334 ≤ 1) → qr_W (qe L xs vb) (d + 3) qx_e90 (fun r w' => ∃ α', w' = qw σ α' κ ρ ∧ qI σ α' κ ρ ∧ qFr [] [53, 57, 59, 60, 61, 62, 63, 85] σ α σ α' ∧ ∃ v : Int, r = some (.int (qz v)) ∧ ((-2147483648) ≤ v ∧ v ≤ 2147483647)) (170, ls, [.int (qz u334), .int (qz 5), .ref 59], qw σ α322 κ ρ, 0, 0) := by
            intro ls u334 g329 g330 g331 g332 g333 hf335
            refine qr_iastore 171 rfl (by decide) rfl (by decide) (by decide) rfl ?_
            refine qy_wA (qw_r α322 59 (qzu (α322 59) (5 : Int).toNat u334)) rfl (fun α337 e338 => ?_)
            have hI339 : qI σ α337 κ ρ := by rw [e338]; exact qI_r hI324 59 _ rfl (show (-2147483648) ≤ u334 ∧ u334 ≤ 2147483647 by omega)
            have hF340 : qFr [] [53, 57, 59, 60, 61, 62, 63, 85] σ α σ α337 := by rw [e338]; exact qFr_r hF325 59 _ (by decide)
            refine qr_aload_n 172 rfl g329 rfl ?_
            refine qr_get 175 rfl rfl rfl (by decide) rfl ?_
            refine qr_bipush 177 rfl (by decide) rfl ?_
            refine qr_aload_n 178 rfl g329 rfl ?_
            refine qr_get 181 rfl rfl rfl (by decide) rfl ?_
            refine qr_iload_n 182 rfl g330 rfl ?_
            refine qr_iload_n 183 rfl g331 rfl ?_
            refine qr_callN 186 rfl rfl rfl (sf_57_23 (d := d + 2) hI339 r2 r3) ?_
            rintro _ _ ⟨rfl, v341, rfl, hv341⟩
            show qr_W (qe L xs vb) (d + 3) qx_e90 _ (186, _, [.int (qz v341), .int (qz 6), .ref 59], qw σ α337 κ ρ, 0, 0)
            refine qr_bipush 188 rfl (by decide) rfl ?_
            refine qr_callN 191 rfl rfl rfl (sf_12 (d := d + 2) hI339 (qrg hv341 (by decide) (by decide)) (by decide)) ?_
            rintro _ _ ⟨rfl, v342, rfl, hv342, hp343⟩
            show qr_W (qe L xs vb) (d + 3) qx_e90 _ (191, _, [.int (qz v342), .int (qz 6), .ref 59], qw σ α337 κ ρ, 0, 0)
            refine qr_iastore 192 rfl (by decide) rfl (by decide) (by decide) rfl ?_
            refine qy_wA (qw_r α337 59 (qzu (α337 59) (6 : Int).toNat v342)) rfl (fun α344 e345 => ?_)
            have hI346 : qI σ α344 κ ρ := by rw [e345]; exact qI_r hI339 59 _ rfl (show (-2147483648) ≤ v342 ∧ v342 ≤ 2147483647 by omega)
            have hF347 : qFr [] [53, 57, 59, 60, 61, 62, 63, 85] σ α σ α344 := by rw [e345]; exact qFr_r hF340 59 _ (by decide)
            refine qr_aload_n 193 rfl g329 rfl ?_
            refine qr_get 196 rfl rfl rfl (by decide) rfl ?_
            refine qr_bipush 198 rfl (by decide) rfl ?_
            refine qr_iload 200 rfl g332 rfl ?_
            refine qr_iconst 201 rfl rfl ?_
            have hJ355 : ∀ (ls : qm_L) (u353 : Int), qm_get ls 0 = some (.ref 58) → qm_get ls 7 = some (.ref 54) → (0 ≤ u353 ∧ u353 ≤ 9) → qr_W (qe L xs vb) (d + 3) qx_e90 (fun r w' => ∃ α', w' = qw σ α' κ ρ ∧ qI σ α' κ ρ ∧ qFr [] [53, 57, 59, 60, 61, 62, 63, 85] σ α σ α' ∧ ∃ v : Int, r = some (.int (qz v)) ∧ ((-2147483648) ≤ v ∧ v ≤ 2147483647)) (223, ls, [.int (qz u353), .int (qz 8), .ref 59], qw σ α344 κ ρ, 0, 0) := by
              intro ls u353 g351 g352 hf354
              refine qr_iastore 224 rfl (by decide) rfl (by decide) (by decide) rfl ?_
              refine qy_wA (qw_r α344 59 (qzu (α344 59) (8 : Int).toNat u353)) rfl (fun α356 e357 => ?_)
              have hI358 : qI σ α356 κ ρ := by rw [e357]; exact qI_r hI346 59 _ rfl (show (-2147483648) ≤ u353 ∧ u353 ≤ 2147483647 by omega)
              have hF359 : qFr [] [53, 57, 59, 60, 61, 62, 63, 85] σ α σ α356 := by rw [e357]; exact qFr_r hF347 59 _ (by decide)
              refine qr_aload 226 rfl g352 rfl ?_
              refine qr_aload_n 227 rfl g351 rfl ?_
              refine qr_get 230 rfl rfl rfl (by decide) rfl ?_
              refine qr_callN 233 rfl rfl rfl (sf_97_54_59 (d := d + 1) hI358 ) ?_
              rintro _ _ ⟨α361, rfl, hI362, hG363, v360, rfl, hv360⟩
              have hF364 : qFr [] [53, 57, 59, 60, 61, 62, 63, 85] σ α σ α361 := qFr_t hF359 hG363 (by decide) (by decide)
              show qr_W (qe L xs vb) (d + 3) qx_e90 _ (233, _, [.int (qz v360)], qw σ α361 κ ρ, 0, 0)
              refine qr_retI rfl rfl (by decide) (by decide) ?_
              exact ⟨_, rfl, hI362, hF364, v360, rfl, hv360⟩
            refine qr_icmp_ne 208 204 rfl rfl rfl (qrg r4 (by decide) (by decide)) (by decide) (fun h365 => ?_) (fun h365 => ?_)
            · skip
              refine qr_aload_n 209 rfl g329 rfl ?_
              refine qr_get 212 rfl rfl rfl (by decide) rfl ?_
              refine qr_iload_n 213 rfl g330 rfl ?_
              refine qr_iload 215 rfl g332 rfl ?_
              refine qr_callN 218 rfl rfl rfl (sf_57_23 (d := d + 2) hI346 r2 (by omega)) ?_
              rintro _ _ ⟨rfl, v366, rfl, hv366⟩
              show qr_W (qe L xs vb) (d + 3) qx_e90 _ (218, _, [.int (qz v366), .int (qz 8), .ref 59], qw σ α344 κ ρ, 0, 0)
              refine qr_bipush 220 rfl (by decide) rfl ?_
              refine qr_callN 223 rfl rfl rfl (sf_12 (d := d + 2) hI346 (qrg hv366 (by decide) (by decide)) (by decide)) ?_
              rintro _ _ ⟨rfl, v367, rfl, hv367, hp368⟩
              show qr_W (qe L xs vb) (d + 3) qx_e90 _ (223, _, [.int (qz v367), .int (qz 8), .ref 59], qw σ α344 κ ρ, 0, 0)
              exact hJ355 _ v367 g329 g333 (by omega)
            · skip
              refine qr_iconst 205 rfl rfl ?_
              refine qr_goto 223 rfl rfl ?_
              exact hJ355 _ 0 g329 g333 (by decide)
          refine qr_if_eq 169 165 rfl rfl rfl (qrg hv328 (by decide) (by decide)) (fun h369 => ?_) (fun h369 => ?_)
          · skip
            refine qr_iconst 170 rfl rfl ?_
            exact hJ336 _ 0 g304 g305 g306 g307 g308 (by decide)
          · skip
            refine qr_iconst 166 rfl rfl ?_
            refine qr_goto 170 rfl rfl ?_
            exact hJ336 _ 1 g304 g305 g306 g307 g308 (by decide)
        refine qr_if_eq 114 97 rfl rfl rfl (qrg hv298 (by decide) (by decide)) (fun h370 => ?_) (fun h370 => ?_)
        · skip
          exact hJ313 _ α294 g287 g288 g289 g290 g292 hI295 hF296
        · skip
          refine qr_aload_n 98 rfl g287 rfl ?_
          refine qr_get 101 rfl rfl rfl (by decide) rfl ?_
          refine qr_bipush 103 rfl (by decide) rfl ?_
          refine qr_aload_n 104 rfl g287 rfl ?_
          refine qr_get 107 rfl rfl rfl (by decide) rfl ?_
          refine qr_iload_n 108 rfl g288 rfl ?_
          refine qr_lload 110 rfl g291 rfl ?_
          refine qr_callN 113 rfl rfl rfl (sf_95_17 (d := d + 1) hI295 r2 r5) ?_
          rintro _ _ ⟨rfl, v371, rfl, hv371⟩
          show qr_W (qe L xs vb) (d + 3) qx_e90 _ (113, _, [.int (qz v371), .int (qz 7), .ref 59], qw σ α294 κ ρ, 0, 0)
          refine qr_iastore 114 rfl (by decide) rfl (by decide) (by decide) rfl ?_
          refine qy_wA (qw_r α294 59 (qzu (α294 59) (7 : Int).toNat v371)) rfl (fun α372 e373 => ?_)
          have hI374 : qI σ α372 κ ρ := by rw [e373]; exact qI_r hI295 59 _ rfl (show (-2147483648) ≤ v371 ∧ v371 ≤ 2147483647 by omega)
          have hF375 : qFr [] [53, 57, 59, 60, 61, 62, 63, 85] σ α σ α372 := by rw [e373]; exact qFr_r hF296 59 _ (by decide)
          exact hJ313 _ α372 g287 g288 g289 g290 g292 hI374 hF375
      refine qr_if_eq 87 72 rfl rfl rfl (qrg hv276 (by decide) (by decide)) (fun h376 => ?_) (fun h376 => ?_)
      · skip
        exact hJ297 _ α272 g265 g266 g267 g268 g269 g270 hI273 hF274
      · skip
        refine qr_aload_n 73 rfl g265 rfl ?_
        refine qr_get 76 rfl rfl rfl (by decide) rfl ?_
        refine qr_iconst 77 rfl rfl ?_
        refine qr_aload_n 78 rfl g265 rfl ?_
        refine qr_iload_n 79 rfl g266 rfl ?_
        refine qr_iload_n 80 rfl g267 rfl ?_
        refine qr_callN 83 rfl rfl rfl (sf_94_58 (d := d + 0) hI273 r2 r3 (by omega)) ?_
        rintro _ _ ⟨α378, rfl, hI379, hG380, v377, rfl, hv377⟩
        have hF381 : qFr [] [53, 57, 59, 60, 61, 62, 63, 85] σ α σ α378 := qFr_t hF274 hG380 (by decide) (by decide)
        show qr_W (qe L xs vb) (d + 3) qx_e90 _ (83, _, [.long (ql v377), .int (qz 2), .ref 59], qw σ α378 κ ρ, 0, 0)
        refine qr_callN 86 rfl rfl rfl (sf_74 (d := d + 2) hI379 hv377) ?_
        rintro _ _ ⟨rfl, v382, rfl, hv382⟩
        show qr_W (qe L xs vb) (d + 3) qx_e90 _ (86, _, [.int (qz v382), .int (qz 2), .ref 59], qw σ α378 κ ρ, 0, 0)
        refine qr_iastore 87 rfl (by decide) rfl (by decide) (by decide) rfl ?_
        refine qy_wA (qw_r α378 59 (qzu (α378 59) (2 : Int).toNat v382)) rfl (fun α383 e384 => ?_)
        have hI385 : qI σ α383 κ ρ := by rw [e384]; exact qI_r hI379 59 _ rfl (show (-2147483648) ≤ v382 ∧ v382 ≤ 2147483647 by omega)
        have hF386 : qFr [] [53, 57, 59, 60, 61, 62, 63, 85] σ α σ α383 := by rw [e384]; exact qFr_r hF381 59 _ (by decide)
        exact hJ297 _ α383 g265 g266 g267 g268 g269 g270 hI385 hF386
    refine qr_if_ne 26 17 rfl rfl rfl (qrg hv221 (by decide) (by decide)) (fun h387 => ?_) (fun h387 => ?_)
    · skip
      refine qr_aload_n 27 rfl rfl rfl ?_
      refine qr_iload_n 28 rfl rfl rfl ?_
      refine qr_iload_n 29 rfl rfl rfl ?_
      refine qr_callN 32 rfl rfl rfl (sf_92_58 (d := d + 0) hI r2 r3 (by omega)) ?_
      rintro _ _ ⟨α389, rfl, hI390, hG391, v388, rfl, hv388⟩
      have hF392 : qFr [] [53, 57, 59, 60, 61, 62, 63, 85] σ α σ α389 := qFr_t hF0 hG391 (by decide) (by decide)
      show qr_W (qe L xs vb) (d + 3) qx_e90 _ (32, _, [.int (qz v388)], qw σ α389 κ ρ, 0, 0)
      refine qr_bipush 34 rfl (by decide) rfl ?_
      refine qr_idiv 35 rfl (qrg hv388 (by decide) (by decide)) (by decide) rfl ?_
      refine qr_istore _ 37 rfl (by decide) rfl rfl ?_
      refine qr_aload_n 38 rfl rfl rfl ?_
      refine qr_get 41 rfl rfl rfl (by decide) rfl ?_
      refine qr_iconst 42 rfl rfl ?_
      refine qr_iload 44 rfl rfl rfl ?_
      refine qr_bipush 46 rfl (by decide) rfl ?_
      have hJ402 : ∀ (ls : qm_L) (u400 : Int), qm_get ls 0 = some (.ref 58) → qm_get ls 2 = some (.int (qz x2)) → qm_get ls 3 = some (.int (qz x3)) → qm_get ls 4 = some (.int (qz x4)) → qm_get ls 5 = some (.long (ql x5)) → qm_get ls 7 = some (.ref 54) → qm_get ls 8 = some (.int (qz (v388 / 64))) → (0 ≤ u400 ∧ u400 ≤ 1) → qr_W (qe L xs vb) (d + 3) qx_e90 (fun r w' => ∃ α', w' = qw σ α' κ ρ ∧ qI σ α' κ ρ ∧ qFr [] [53, 57, 59, 60, 61, 62, 63, 85] σ α σ α' ∧ ∃ v : Int, r = some (.int (qz v)) ∧ ((-2147483648) ≤ v ∧ v ≤ 2147483647)) (54, ls, [.int (qz u400), .int (qz 0), .ref 59], qw σ α389 κ ρ, 0, 0) := by
        intro ls u400 g393 g394 g395 g396 g397 g398 g399 hf401
        refine qr_iastore 55 rfl (by decide) rfl (by decide) (by decide) rfl ?_
        refine qy_wA (qw_r α389 59 (qzu (α389 59) (0 : Int).toNat u400)) rfl (fun α403 e404 => ?_)
        have hI405 : qI σ α403 κ ρ := by rw [e404]; exact qI_r hI390 59 _ rfl (show (-2147483648) ≤ u400 ∧ u400 ≤ 2147483647 by omega)
        have hF406 : qFr [] [53, 57, 59, 60, 61, 62, 63, 85] σ α σ α403 := by rw [e404]; exact qFr_r hF392 59 _ (by decide)
        refine qr_aload_n 56 rfl g393 rfl ?_
        refine qr_get 59 rfl rfl rfl (by decide) rfl ?_
        refine qr_iconst 60 rfl rfl ?_
        refine qr_iload 62 rfl g399 rfl ?_
        refine qr_iastore 63 rfl (by decide) rfl (by decide) (by decide) rfl ?_
        refine qy_wA (qw_r α403 59 (qzu (α403 59) (1 : Int).toNat (v388 / 64))) rfl (fun α407 e408 => ?_)
        have hI409 : qI σ α407 κ ρ := by rw [e408]; exact qI_r hI405 59 _ rfl (show (-2147483648) ≤ (v388 / 64) ∧ (v388 / 64) ≤ 2147483647 by omega)
        have hF410 : qFr [] [53, 57, 59, 60, 61, 62, 63, 85] σ α σ α407 := by rw [e408]; exact qFr_r hF406 59 _ (by decide)
        exact hJ275 _ α407 g393 g394 g395 g396 g397 g398 hI409 hF410
      refine qr_icmp_ge 53 49 rfl rfl rfl (by omega) (by decide) (fun h411 => ?_) (fun h411 => ?_)
      · skip
        refine qr_iconst 54 rfl rfl ?_
        exact hJ402 _ 0 rfl rfl rfl rfl rfl rfl rfl (by decide)
      · skip
        refine qr_iconst 50 rfl rfl ?_
        refine qr_goto 54 rfl rfl ?_
        exact hJ402 _ 1 rfl rfl rfl rfl rfl rfl rfl (by decide)
    · skip
      refine qr_aload 19 rfl rfl rfl ?_
      refine qr_iconst 20 rfl rfl ?_
      refine qr_callN 23 rfl rfl rfl (sf_91_54 (d := d + 1) hI (by decide)) ?_
      rintro _ _ ⟨rfl, v412, rfl, hv412⟩
      show qr_W (qe L xs vb) (d + 3) qx_e90 _ (23, _, [.int (qz v412)], qw σ α κ ρ, 0, 0)
      refine qr_if_eq 63 26 rfl rfl rfl (qrg hv412 (by decide) (by decide)) (fun h413 => ?_) (fun h413 => ?_)
      · skip
        exact hJ275 _ α rfl rfl rfl rfl rfl rfl hI hF0
      · skip
        refine qr_aload_n 27 rfl rfl rfl ?_
        refine qr_iload_n 28 rfl rfl rfl ?_
        refine qr_iload_n 29 rfl rfl rfl ?_
        refine qr_callN 32 rfl rfl rfl (sf_92_58 (d := d + 0) hI r2 r3 (by omega)) ?_
        rintro _ _ ⟨α415, rfl, hI416, hG417, v414, rfl, hv414⟩
        have hF418 : qFr [] [53, 57, 59, 60, 61, 62, 63, 85] σ α σ α415 := qFr_t hF0 hG417 (by decide) (by decide)
        show qr_W (qe L xs vb) (d + 3) qx_e90 _ (32, _, [.int (qz v414)], qw σ α415 κ ρ, 0, 0)
        refine qr_bipush 34 rfl (by decide) rfl ?_
        refine qr_idiv 35 rfl (qrg hv414 (by decide) (by decide)) (by decide) rfl ?_
        refine qr_istore _ 37 rfl (by decide) rfl rfl ?_
        refine qr_aload_n 38 rfl rfl rfl ?_
        refine qr_get 41 rfl rfl rfl (by decide) rfl ?_
        refine qr_iconst 42 rfl rfl ?_
        refine qr_iload 44 rfl rfl rfl ?_
        refine qr_bipush 46 rfl (by decide) rfl ?_
        have hJ428 : ∀ (ls : qm_L) (u426 : Int), qm_get ls 0 = some (.ref 58) → qm_get ls 2 = some (.int (qz x2)) → qm_get ls 3 = some (.int (qz x3)) → qm_get ls 4 = some (.int (qz x4)) → qm_get ls 5 = some (.long (ql x5)) → qm_get ls 7 = some (.ref 54) → qm_get ls 8 = some (.int (qz (v414 / 64))) → (0 ≤ u426 ∧ u426 ≤ 1) → qr_W (qe L xs vb) (d + 3) qx_e90 (fun r w' => ∃ α', w' = qw σ α' κ ρ ∧ qI σ α' κ ρ ∧ qFr [] [53, 57, 59, 60, 61, 62, 63, 85] σ α σ α' ∧ ∃ v : Int, r = some (.int (qz v)) ∧ ((-2147483648) ≤ v ∧ v ≤ 2147483647)) (54, ls, [.int (qz u426), .int (qz 0), .ref 59], qw σ α415 κ ρ, 0, 0) := by
          intro ls u426 g419 g420 g421 g422 g423 g424 g425 hf427
          refine qr_iastore 55 rfl (by decide) rfl (by decide) (by decide) rfl ?_
          refine qy_wA (qw_r α415 59 (qzu (α415 59) (0 : Int).toNat u426)) rfl (fun α429 e430 => ?_)
          have hI431 : qI σ α429 κ ρ := by rw [e430]; exact qI_r hI416 59 _ rfl (show (-2147483648) ≤ u426 ∧ u426 ≤ 2147483647 by omega)
          have hF432 : qFr [] [53, 57, 59, 60, 61, 62, 63, 85] σ α σ α429 := by rw [e430]; exact qFr_r hF418 59 _ (by decide)
          refine qr_aload_n 56 rfl g419 rfl ?_
          refine qr_get 59 rfl rfl rfl (by decide) rfl ?_
          refine qr_iconst 60 rfl rfl ?_
          refine qr_iload 62 rfl g425 rfl ?_
          refine qr_iastore 63 rfl (by decide) rfl (by decide) (by decide) rfl ?_
          refine qy_wA (qw_r α429 59 (qzu (α429 59) (1 : Int).toNat (v414 / 64))) rfl (fun α433 e434 => ?_)
          have hI435 : qI σ α433 κ ρ := by rw [e434]; exact qI_r hI431 59 _ rfl (show (-2147483648) ≤ (v414 / 64) ∧ (v414 / 64) ≤ 2147483647 by omega)
          have hF436 : qFr [] [53, 57, 59, 60, 61, 62, 63, 85] σ α σ α433 := by rw [e434]; exact qFr_r hF432 59 _ (by decide)
          exact hJ275 _ α433 g419 g420 g421 g422 g423 g424 hI435 hF436
        refine qr_icmp_ge 53 49 rfl rfl rfl (by omega) (by decide) (fun h437 => ?_) (fun h437 => ?_)
        · skip
          refine qr_iconst 54 rfl rfl ?_
          exact hJ428 _ 0 rfl rfl rfl rfl rfl rfl rfl (by decide)
        · skip
          refine qr_iconst 50 rfl rfl ?_
          refine qr_goto 54 rfl rfl ?_
          exact hJ428 _ 1 rfl rfl rfl rfl rfl rfl rfl (by decide)
  · skip
    refine qr_astore _ 8 rfl (by decide) rfl rfl ?_
    refine qr_aload 10 rfl rfl rfl ?_
    refine qr_iconst 11 rfl rfl ?_
    refine qr_callN 14 rfl rfl rfl (sf_91_82 (d := d + 1) hI (by decide)) ?_
    rintro _ _ ⟨rfl, v438, rfl, hv438⟩
    show qr_W (qe L xs vb) (d + 3) qx_e90 _ (14, _, [.int (qz v438)], qw σ α κ ρ, 0, 0)
    have hJ492 : ∀ (ls : qm_L) (α489 : Nat → Nat → Int), qm_get ls 0 = some (.ref 58) → qm_get ls 2 = some (.int (qz x2)) → qm_get ls 3 = some (.int (qz x3)) → qm_get ls 4 = some (.int (qz x4)) → qm_get ls 5 = some (.long (ql x5)) → qm_get ls 7 = some (.ref 82) → qI σ α489 κ ρ → qFr [] [53, 57, 59, 60, 61, 62, 63, 85] σ α σ α489 → qr_W (qe L xs vb) (d + 3) qx_e90 (fun r w' => ∃ α', w' = qw σ α' κ ρ ∧ qI σ α' κ ρ ∧ qFr [] [53, 57, 59, 60, 61, 62, 63, 85] σ α σ α' ∧ ∃ v : Int, r = some (.int (qz v)) ∧ ((-2147483648) ≤ v ∧ v ≤ 2147483647)) (63, ls, [], qw σ α489 κ ρ, 0, 0) := by
      intro ls α489 g482 g483 g484 g485 g486 g487 hI490 hF491
      refine qr_aload 65 rfl g487 rfl ?_
      refine qr_iconst 66 rfl rfl ?_
      refine qr_callN 69 rfl rfl rfl (sf_91_82 (d := d + 1) hI490 (by decide)) ?_
      rintro _ _ ⟨rfl, v493, rfl, hv493⟩
      show qr_W (qe L xs vb) (d + 3) qx_e90 _ (69, _, [.int (qz v493)], qw σ α489 κ ρ, 0, 0)
      have hJ514 : ∀ (ls : qm_L) (α511 : Nat → Nat → Int), qm_get ls 0 = some (.ref 58) → qm_get ls 2 = some (.int (qz x2)) → qm_get ls 3 = some (.int (qz x3)) → qm_get ls 4 = some (.int (qz x4)) → qm_get ls 5 = some (.long (ql x5)) → qm_get ls 7 = some (.ref 82) → qI σ α511 κ ρ → qFr [] [53, 57, 59, 60, 61, 62, 63, 85] σ α σ α511 → qr_W (qe L xs vb) (d + 3) qx_e90 (fun r w' => ∃ α', w' = qw σ α' κ ρ ∧ qI σ α' κ ρ ∧ qFr [] [53, 57, 59, 60, 61, 62, 63, 85] σ α σ α' ∧ ∃ v : Int, r = some (.int (qz v)) ∧ ((-2147483648) ≤ v ∧ v ≤ 2147483647)) (87, ls, [], qw σ α511 κ ρ, 0, 0) := by
        intro ls α511 g504 g505 g506 g507 g508 g509 hI512 hF513
        refine qr_aload 89 rfl g509 rfl ?_
        refine qr_bipush 91 rfl (by decide) rfl ?_
        refine qr_callN 94 rfl rfl rfl (sf_91_82 (d := d + 1) hI512 (by decide)) ?_
        rintro _ _ ⟨rfl, v515, rfl, hv515⟩
        show qr_W (qe L xs vb) (d + 3) qx_e90 _ (94, _, [.int (qz v515)], qw σ α511 κ ρ, 0, 0)
        have hJ530 : ∀ (ls : qm_L) (α527 : Nat → Nat → Int), qm_get ls 0 = some (.ref 58) → qm_get ls 2 = some (.int (qz x2)) → qm_get ls 3 = some (.int (qz x3)) → qm_get ls 4 = some (.int (qz x4)) → qm_get ls 7 = some (.ref 82) → qI σ α527 κ ρ → qFr [] [53, 57, 59, 60, 61, 62, 63, 85] σ α σ α527 → qr_W (qe L xs vb) (d + 3) qx_e90 (fun r w' => ∃ α', w' = qw σ α' κ ρ ∧ qI σ α' κ ρ ∧ qFr [] [53, 57, 59, 60, 61, 62, 63, 85] σ α σ α' ∧ ∃ v : Int, r = some (.int (qz v)) ∧ ((-2147483648) ≤ v ∧ v ≤ 2147483647)) (114, ls, [], qw σ α527 κ ρ, 0, 0) := by
          intro ls α527 g521 g522 g523 g524 g525 hI528 hF529
          refine qr_aload_n 115 rfl g521 rfl ?_
          refine qr_get 118 rfl rfl rfl (by decide) rfl ?_
          refine qr_iconst 119 rfl rfl ?_
          refine qr_aload_n 120 rfl g521 rfl ?_
          refine qr_get 123 rfl rfl rfl (by decide) rfl ?_
          refine qr_get 126 rfl rfl rfl (by decide) rfl ?_
          refine qr_iload_n 127 rfl g522 rfl ?_
          refine qr_iaload 128 rfl rfl (qrgi r2 (by decide) (by decide)) (by decide) rfl ?_
          refine qr_topI (fun v531 hv531 => ?_)
          have hs532 : (-2147483648) ≤ v531 ∧ v531 ≤ 2147483647 := by rw [hv531]; exact hI528.2.1 20 _ (show _ < 32 from qrgt r2 (by decide) (by decide))
          refine qr_iastore 129 rfl (by decide) rfl (by decide) (by decide) rfl ?_
          refine qy_wA (qw_r α527 59 (qzu (α527 59) (3 : Int).toNat v531)) rfl (fun α533 e534 => ?_)
          have hI535 : qI σ α533 κ ρ := by rw [e534]; exact qI_r hI528 59 _ rfl (show (-2147483648) ≤ v531 ∧ v531 ≤ 2147483647 by omega)
          have hF536 : qFr [] [53, 57, 59, 60, 61, 62, 63, 85] σ α σ α533 := by rw [e534]; exact qFr_r hF529 59 _ (by decide)
          refine qr_aload_n 130 rfl g521 rfl ?_
          refine qr_get 133 rfl rfl rfl (by decide) rfl ?_
          refine qr_iconst 134 rfl rfl ?_
          refine qr_aload_n 135 rfl g521 rfl ?_
          refine qr_get 138 rfl rfl rfl (by decide) rfl ?_
          refine qr_get 141 rfl rfl rfl (by decide) rfl ?_
          refine qr_iload_n 142 rfl g523 rfl ?_
          refine qr_iaload 143 rfl rfl (qrgi r3 (by decide) (by decide)) (by decide) rfl ?_
          refine qr_topI (fun v537 hv537 => ?_)
          have hs538 : (-2147483648) ≤ v537 ∧ v537 ≤ 2147483647 := by rw [hv537]; exact hI535.2.1 20 _ (show _ < 32 from qrgt r3 (by decide) (by decide))
          refine qr_iastore 144 rfl (by decide) rfl (by decide) (by decide) rfl ?_
          refine qy_wA (qw_r α533 59 (qzu (α533 59) (4 : Int).toNat v537)) rfl (fun α539 e540 => ?_)
          have hI541 : qI σ α539 κ ρ := by rw [e540]; exact qI_r hI535 59 _ rfl (show (-2147483648) ≤ v537 ∧ v537 ≤ 2147483647 by omega)
          have hF542 : qFr [] [53, 57, 59, 60, 61, 62, 63, 85] σ α σ α539 := by rw [e540]; exact qFr_r hF536 59 _ (by decide)
          refine qr_aload_n 145 rfl g521 rfl ?_
          refine qr_get 148 rfl rfl rfl (by decide) rfl ?_
          refine qr_iconst 149 rfl rfl ?_
          refine qr_aload_n 150 rfl g521 rfl ?_
          refine qr_get 153 rfl rfl rfl (by decide) rfl ?_
          refine qr_get 156 rfl rfl rfl (by decide) rfl ?_
          refine qr_iload_n 157 rfl g522 rfl ?_
          refine qr_laload 158 rfl (by decide) rfl (qrgi r2 (by decide) (by decide)) (by decide) rfl ?_
          refine qr_topL (fun v543 hv543 => ?_)
          have hs544 : (-9223372036854775808) ≤ v543 ∧ v543 ≤ 9223372036854775807 := by rw [hv543]; exact hI541.2.1 22 _ (show _ < 32 from qrgt r2 (by decide) (by decide))
          refine qr_iload_n 159 rfl g523 rfl ?_
          refine qr_callN 162 rfl rfl rfl (sf_50 (d := d + 2) hI541 hs544 (qrg r3 (by decide) (by decide))) ?_
          rintro _ _ ⟨rfl, v545, rfl, hv545⟩
          show qr_W (qe L xs vb) (d + 3) qx_e90 _ (162, _, [.int (qz v545), .int (qz 5), .ref 59], qw σ α539 κ ρ, 0, 0)
          have hJ553 : ∀ (ls : qm_L) (u551 : Int), qm_get ls 0 = some (.ref 58) → qm_get ls 2 = some (.int (qz x2)) → qm_get ls 3 = some (.int (qz x3)) → qm_get ls 4 = some (.int (qz x4)) → qm_get ls 7 = some (.ref 82) → (0 ≤ u551 ∧ u551 ≤ 1) → qr_W (qe L xs vb) (d + 3) qx_e90 (fun r w' => ∃ α', w' = qw σ α' κ ρ ∧ qI σ α' κ ρ ∧ qFr [] [53, 57, 59, 60, 61, 62, 63, 85] σ α σ α' ∧ ∃ v : Int, r = some (.int (qz v)) ∧ ((-2147483648) ≤ v ∧ v ≤ 2147483647)) (170, ls, [.int (qz u551), .int (qz 5), .ref 59], qw σ α539 κ ρ, 0, 0) := by
            intro ls u551 g546 g547 g548 g549 g550 hf552
            refine qr_iastore 171 rfl (by decide) rfl (by decide) (by decide) rfl ?_
            refine qy_wA (qw_r α539 59 (qzu (α539 59) (5 : Int).toNat u551)) rfl (fun α554 e555 => ?_)
            have hI556 : qI σ α554 κ ρ := by rw [e555]; exact qI_r hI541 59 _ rfl (show (-2147483648) ≤ u551 ∧ u551 ≤ 2147483647 by omega)
            have hF557 : qFr [] [53, 57, 59, 60, 61, 62, 63, 85] σ α σ α554 := by rw [e555]; exact qFr_r hF542 59 _ (by decide)
            refine qr_aload_n 172 rfl g546 rfl ?_
            refine qr_get 175 rfl rfl rfl (by decide) rfl ?_
            refine qr_bipush 177 rfl (by decide) rfl ?_
            refine qr_aload_n 178 rfl g546 rfl ?_
            refine qr_get 181 rfl rfl rfl (by decide) rfl ?_
            refine qr_iload_n 182 rfl g547 rfl ?_
            refine qr_iload_n 183 rfl g548 rfl ?_
            refine qr_callN 186 rfl rfl rfl (sf_57_23 (d := d + 2) hI556 r2 r3) ?_
            rintro _ _ ⟨rfl, v558, rfl, hv558⟩
            show qr_W (qe L xs vb) (d + 3) qx_e90 _ (186, _, [.int (qz v558), .int (qz 6), .ref 59], qw σ α554 κ ρ, 0, 0)
            refine qr_bipush 188 rfl (by decide) rfl ?_
            refine qr_callN 191 rfl rfl rfl (sf_12 (d := d + 2) hI556 (qrg hv558 (by decide) (by decide)) (by decide)) ?_
            rintro _ _ ⟨rfl, v559, rfl, hv559, hp560⟩
            show qr_W (qe L xs vb) (d + 3) qx_e90 _ (191, _, [.int (qz v559), .int (qz 6), .ref 59], qw σ α554 κ ρ, 0, 0)
            refine qr_iastore 192 rfl (by decide) rfl (by decide) (by decide) rfl ?_
            refine qy_wA (qw_r α554 59 (qzu (α554 59) (6 : Int).toNat v559)) rfl (fun α561 e562 => ?_)
            have hI563 : qI σ α561 κ ρ := by rw [e562]; exact qI_r hI556 59 _ rfl (show (-2147483648) ≤ v559 ∧ v559 ≤ 2147483647 by omega)
            have hF564 : qFr [] [53, 57, 59, 60, 61, 62, 63, 85] σ α σ α561 := by rw [e562]; exact qFr_r hF557 59 _ (by decide)
            refine qr_aload_n 193 rfl g546 rfl ?_
            refine qr_get 196 rfl rfl rfl (by decide) rfl ?_
            refine qr_bipush 198 rfl (by decide) rfl ?_
            refine qr_iload 200 rfl g549 rfl ?_
            refine qr_iconst 201 rfl rfl ?_
            have hJ572 : ∀ (ls : qm_L) (u570 : Int), qm_get ls 0 = some (.ref 58) → qm_get ls 7 = some (.ref 82) → (0 ≤ u570 ∧ u570 ≤ 9) → qr_W (qe L xs vb) (d + 3) qx_e90 (fun r w' => ∃ α', w' = qw σ α' κ ρ ∧ qI σ α' κ ρ ∧ qFr [] [53, 57, 59, 60, 61, 62, 63, 85] σ α σ α' ∧ ∃ v : Int, r = some (.int (qz v)) ∧ ((-2147483648) ≤ v ∧ v ≤ 2147483647)) (223, ls, [.int (qz u570), .int (qz 8), .ref 59], qw σ α561 κ ρ, 0, 0) := by
              intro ls u570 g568 g569 hf571
              refine qr_iastore 224 rfl (by decide) rfl (by decide) (by decide) rfl ?_
              refine qy_wA (qw_r α561 59 (qzu (α561 59) (8 : Int).toNat u570)) rfl (fun α573 e574 => ?_)
              have hI575 : qI σ α573 κ ρ := by rw [e574]; exact qI_r hI563 59 _ rfl (show (-2147483648) ≤ u570 ∧ u570 ≤ 2147483647 by omega)
              have hF576 : qFr [] [53, 57, 59, 60, 61, 62, 63, 85] σ α σ α573 := by rw [e574]; exact qFr_r hF564 59 _ (by decide)
              refine qr_aload 226 rfl g569 rfl ?_
              refine qr_aload_n 227 rfl g568 rfl ?_
              refine qr_get 230 rfl rfl rfl (by decide) rfl ?_
              refine qr_callN 233 rfl rfl rfl (sf_97_82_59 (d := d + 1) hI575 ) ?_
              rintro _ _ ⟨α578, rfl, hI579, hG580, v577, rfl, hv577⟩
              have hF581 : qFr [] [53, 57, 59, 60, 61, 62, 63, 85] σ α σ α578 := qFr_t hF576 hG580 (by decide) (by decide)
              show qr_W (qe L xs vb) (d + 3) qx_e90 _ (233, _, [.int (qz v577)], qw σ α578 κ ρ, 0, 0)
              refine qr_retI rfl rfl (by decide) (by decide) ?_
              exact ⟨_, rfl, hI579, hF581, v577, rfl, hv577⟩
            refine qr_icmp_ne 208 204 rfl rfl rfl (qrg r4 (by decide) (by decide)) (by decide) (fun h582 => ?_) (fun h582 => ?_)
            · skip
              refine qr_aload_n 209 rfl g546 rfl ?_
              refine qr_get 212 rfl rfl rfl (by decide) rfl ?_
              refine qr_iload_n 213 rfl g547 rfl ?_
              refine qr_iload 215 rfl g549 rfl ?_
              refine qr_callN 218 rfl rfl rfl (sf_57_23 (d := d + 2) hI563 r2 (by omega)) ?_
              rintro _ _ ⟨rfl, v583, rfl, hv583⟩
              show qr_W (qe L xs vb) (d + 3) qx_e90 _ (218, _, [.int (qz v583), .int (qz 8), .ref 59], qw σ α561 κ ρ, 0, 0)
              refine qr_bipush 220 rfl (by decide) rfl ?_
              refine qr_callN 223 rfl rfl rfl (sf_12 (d := d + 2) hI563 (qrg hv583 (by decide) (by decide)) (by decide)) ?_
              rintro _ _ ⟨rfl, v584, rfl, hv584, hp585⟩
              show qr_W (qe L xs vb) (d + 3) qx_e90 _ (223, _, [.int (qz v584), .int (qz 8), .ref 59], qw σ α561 κ ρ, 0, 0)
              exact hJ572 _ v584 g546 g550 (by omega)
            · skip
              refine qr_iconst 205 rfl rfl ?_
              refine qr_goto 223 rfl rfl ?_
              exact hJ572 _ 0 g546 g550 (by decide)
          refine qr_if_eq 169 165 rfl rfl rfl (qrg hv545 (by decide) (by decide)) (fun h586 => ?_) (fun h586 => ?_)
          · skip
            refine qr_iconst 170 rfl rfl ?_
            exact hJ553 _ 0 g521 g522 g523 g524 g525 (by decide)
          · skip
            refine qr_iconst 166 rfl rfl ?_
            refine qr_goto 170 rfl rfl ?_
            exact hJ553 _ 1 g521 g522 g523 g524 g525 (by decide)
        refine qr_if_eq 114 97 rfl rfl rfl (qrg hv515 (by decide) (by decide)) (fun h587 => ?_) (fun h587 => ?_)
        · skip
          exact hJ530 _ α511 g504 g505 g506 g507 g509 hI512 hF513
        · skip
          refine qr_aload_n 98 rfl g504 rfl ?_
          refine qr_get 101 rfl rfl rfl (by decide) rfl ?_
          refine qr_bipush 103 rfl (by decide) rfl ?_
          refine qr_aload_n 104 rfl g504 rfl ?_
          refine qr_get 107 rfl rfl rfl (by decide) rfl ?_
          refine qr_iload_n 108 rfl g505 rfl ?_
          refine qr_lload 110 rfl g508 rfl ?_
          refine qr_callN 113 rfl rfl rfl (sf_95_17 (d := d + 1) hI512 r2 r5) ?_
          rintro _ _ ⟨rfl, v588, rfl, hv588⟩
          show qr_W (qe L xs vb) (d + 3) qx_e90 _ (113, _, [.int (qz v588), .int (qz 7), .ref 59], qw σ α511 κ ρ, 0, 0)
          refine qr_iastore 114 rfl (by decide) rfl (by decide) (by decide) rfl ?_
          refine qy_wA (qw_r α511 59 (qzu (α511 59) (7 : Int).toNat v588)) rfl (fun α589 e590 => ?_)
          have hI591 : qI σ α589 κ ρ := by rw [e590]; exact qI_r hI512 59 _ rfl (show (-2147483648) ≤ v588 ∧ v588 ≤ 2147483647 by omega)
          have hF592 : qFr [] [53, 57, 59, 60, 61, 62, 63, 85] σ α σ α589 := by rw [e590]; exact qFr_r hF513 59 _ (by decide)
          exact hJ530 _ α589 g504 g505 g506 g507 g509 hI591 hF592
      refine qr_if_eq 87 72 rfl rfl rfl (qrg hv493 (by decide) (by decide)) (fun h593 => ?_) (fun h593 => ?_)
      · skip
        exact hJ514 _ α489 g482 g483 g484 g485 g486 g487 hI490 hF491
      · skip
        refine qr_aload_n 73 rfl g482 rfl ?_
        refine qr_get 76 rfl rfl rfl (by decide) rfl ?_
        refine qr_iconst 77 rfl rfl ?_
        refine qr_aload_n 78 rfl g482 rfl ?_
        refine qr_iload_n 79 rfl g483 rfl ?_
        refine qr_iload_n 80 rfl g484 rfl ?_
        refine qr_callN 83 rfl rfl rfl (sf_94_58 (d := d + 0) hI490 r2 r3 (by omega)) ?_
        rintro _ _ ⟨α595, rfl, hI596, hG597, v594, rfl, hv594⟩
        have hF598 : qFr [] [53, 57, 59, 60, 61, 62, 63, 85] σ α σ α595 := qFr_t hF491 hG597 (by decide) (by decide)
        show qr_W (qe L xs vb) (d + 3) qx_e90 _ (83, _, [.long (ql v594), .int (qz 2), .ref 59], qw σ α595 κ ρ, 0, 0)
        refine qr_callN 86 rfl rfl rfl (sf_74 (d := d + 2) hI596 hv594) ?_
        rintro _ _ ⟨rfl, v599, rfl, hv599⟩
        show qr_W (qe L xs vb) (d + 3) qx_e90 _ (86, _, [.int (qz v599), .int (qz 2), .ref 59], qw σ α595 κ ρ, 0, 0)
        refine qr_iastore 87 rfl (by decide) rfl (by decide) (by decide) rfl ?_
        refine qy_wA (qw_r α595 59 (qzu (α595 59) (2 : Int).toNat v599)) rfl (fun α600 e601 => ?_)
        have hI602 : qI σ α600 κ ρ := by rw [e601]; exact qI_r hI596 59 _ rfl (show (-2147483648) ≤ v599 ∧ v599 ≤ 2147483647 by omega)
        have hF603 : qFr [] [53, 57, 59, 60, 61, 62, 63, 85] σ α σ α600 := by rw [e601]; exact qFr_r hF598 59 _ (by decide)
        exact hJ514 _ α600 g482 g483 g484 g485 g486 g487 hI602 hF603
    refine qr_if_ne 26 17 rfl rfl rfl (qrg hv438 (by decide) (by decide)) (fun h604 => ?_) (fun h604 => ?_)
    · skip
      refine qr_aload_n 27 rfl rfl rfl ?_
      refine qr_iload_n 28 rfl rfl rfl ?_
      refine qr_iload_n 29 rfl rfl rfl ?_
      refine qr_callN 32 rfl rfl rfl (sf_92_58 (d := d + 0) hI r2 r3 (by omega)) ?_
      rintro _ _ ⟨α606, rfl, hI607, hG608, v605, rfl, hv605⟩
      have hF609 : qFr [] [53, 57, 59, 60, 61, 62, 63, 85] σ α σ α606 := qFr_t hF0 hG608 (by decide) (by decide)
      show qr_W (qe L xs vb) (d + 3) qx_e90 _ (32, _, [.int (qz v605)], qw σ α606 κ ρ, 0, 0)
      refine qr_bipush 34 rfl (by decide) rfl ?_
      refine qr_idiv 35 rfl (qrg hv605 (by decide) (by decide)) (by decide) rfl ?_
      refine qr_istore _ 37 rfl (by decide) rfl rfl ?_
      refine qr_aload_n 38 rfl rfl rfl ?_
      refine qr_get 41 rfl rfl rfl (by decide) rfl ?_
      refine qr_iconst 42 rfl rfl ?_
      refine qr_iload 44 rfl rfl rfl ?_
      refine qr_bipush 46 rfl (by decide) rfl ?_
      have hJ619 : ∀ (ls : qm_L) (u617 : Int), qm_get ls 0 = some (.ref 58) → qm_get ls 2 = some (.int (qz x2)) → qm_get ls 3 = some (.int (qz x3)) → qm_get ls 4 = some (.int (qz x4)) → qm_get ls 5 = some (.long (ql x5)) → qm_get ls 7 = some (.ref 82) → qm_get ls 8 = some (.int (qz (v605 / 64))) → (0 ≤ u617 ∧ u617 ≤ 1) → qr_W (qe L xs vb) (d + 3) qx_e90 (fun r w' => ∃ α', w' = qw σ α' κ ρ ∧ qI σ α' κ ρ ∧ qFr [] [53, 57, 59, 60, 61, 62, 63, 85] σ α σ α' ∧ ∃ v : Int, r = some (.int (qz v)) ∧ ((-2147483648) ≤ v ∧ v ≤ 2147483647)) (54, ls, [.int (qz u617), .int (qz 0), .ref 59], qw σ α606 κ ρ, 0, 0) := by
        intro ls u617 g610 g611 g612 g613 g614 g615 g616 hf618
        refine qr_iastore 55 rfl (by decide) rfl (by decide) (by decide) rfl ?_
        refine qy_wA (qw_r α606 59 (qzu (α606 59) (0 : Int).toNat u617)) rfl (fun α620 e621 => ?_)
        have hI622 : qI σ α620 κ ρ := by rw [e621]; exact qI_r hI607 59 _ rfl (show (-2147483648) ≤ u617 ∧ u617 ≤ 2147483647 by omega)
        have hF623 : qFr [] [53, 57, 59, 60, 61, 62, 63, 85] σ α σ α620 := by rw [e621]; exact qFr_r hF609 59 _ (by decide)
        refine qr_aload_n 56 rfl g610 rfl ?_
        refine qr_get 59 rfl rfl rfl (by decide) rfl ?_
        refine qr_iconst 60 rfl rfl ?_
        refine qr_iload 62 rfl g616 rfl ?_
        refine qr_iastore 63 rfl (by decide) rfl (by decide) (by decide) rfl ?_
        refine qy_wA (qw_r α620 59 (qzu (α620 59) (1 : Int).toNat (v605 / 64))) rfl (fun α624 e625 => ?_)
        have hI626 : qI σ α624 κ ρ := by rw [e625]; exact qI_r hI622 59 _ rfl (show (-2147483648) ≤ (v605 / 64) ∧ (v605 / 64) ≤ 2147483647 by omega)
        have hF627 : qFr [] [53, 57, 59, 60, 61, 62, 63, 85] σ α σ α624 := by rw [e625]; exact qFr_r hF623 59 _ (by decide)
        exact hJ492 _ α624 g610 g611 g612 g613 g614 g615 hI626 hF627
      refine qr_icmp_ge 53 49 rfl rfl rfl (by omega) (by decide) (fun h628 => ?_) (fun h628 => ?_)
      · skip
        refine qr_iconst 54 rfl rfl ?_
        exact hJ619 _ 0 rfl rfl rfl rfl rfl rfl rfl (by decide)
      · skip
        refine qr_iconst 50 rfl rfl ?_
        refine qr_goto 54 rfl rfl ?_
        exact hJ619 _ 1 rfl rfl rfl rfl rfl rfl rfl (by decide)
    · skip
      refine qr_aload 19 rfl rfl rfl ?_
      refine qr_iconst 20 rfl rfl ?_
      refine qr_callN 23 rfl rfl rfl (sf_91_82 (d := d + 1) hI (by decide)) ?_
      rintro _ _ ⟨rfl, v629, rfl, hv629⟩
      show qr_W (qe L xs vb) (d + 3) qx_e90 _ (23, _, [.int (qz v629)], qw σ α κ ρ, 0, 0)
      refine qr_if_eq 63 26 rfl rfl rfl (qrg hv629 (by decide) (by decide)) (fun h630 => ?_) (fun h630 => ?_)
      · skip
        exact hJ492 _ α rfl rfl rfl rfl rfl rfl hI hF0
      · skip
        refine qr_aload_n 27 rfl rfl rfl ?_
        refine qr_iload_n 28 rfl rfl rfl ?_
        refine qr_iload_n 29 rfl rfl rfl ?_
        refine qr_callN 32 rfl rfl rfl (sf_92_58 (d := d + 0) hI r2 r3 (by omega)) ?_
        rintro _ _ ⟨α632, rfl, hI633, hG634, v631, rfl, hv631⟩
        have hF635 : qFr [] [53, 57, 59, 60, 61, 62, 63, 85] σ α σ α632 := qFr_t hF0 hG634 (by decide) (by decide)
        show qr_W (qe L xs vb) (d + 3) qx_e90 _ (32, _, [.int (qz v631)], qw σ α632 κ ρ, 0, 0)
        refine qr_bipush 34 rfl (by decide) rfl ?_
        refine qr_idiv 35 rfl (qrg hv631 (by decide) (by decide)) (by decide) rfl ?_
        refine qr_istore _ 37 rfl (by decide) rfl rfl ?_
        refine qr_aload_n 38 rfl rfl rfl ?_
        refine qr_get 41 rfl rfl rfl (by decide) rfl ?_
        refine qr_iconst 42 rfl rfl ?_
        refine qr_iload 44 rfl rfl rfl ?_
        refine qr_bipush 46 rfl (by decide) rfl ?_
        have hJ645 : ∀ (ls : qm_L) (u643 : Int), qm_get ls 0 = some (.ref 58) → qm_get ls 2 = some (.int (qz x2)) → qm_get ls 3 = some (.int (qz x3)) → qm_get ls 4 = some (.int (qz x4)) → qm_get ls 5 = some (.long (ql x5)) → qm_get ls 7 = some (.ref 82) → qm_get ls 8 = some (.int (qz (v631 / 64))) → (0 ≤ u643 ∧ u643 ≤ 1) → qr_W (qe L xs vb) (d + 3) qx_e90 (fun r w' => ∃ α', w' = qw σ α' κ ρ ∧ qI σ α' κ ρ ∧ qFr [] [53, 57, 59, 60, 61, 62, 63, 85] σ α σ α' ∧ ∃ v : Int, r = some (.int (qz v)) ∧ ((-2147483648) ≤ v ∧ v ≤ 2147483647)) (54, ls, [.int (qz u643), .int (qz 0), .ref 59], qw σ α632 κ ρ, 0, 0) := by
          intro ls u643 g636 g637 g638 g639 g640 g641 g642 hf644
          refine qr_iastore 55 rfl (by decide) rfl (by decide) (by decide) rfl ?_
          refine qy_wA (qw_r α632 59 (qzu (α632 59) (0 : Int).toNat u643)) rfl (fun α646 e647 => ?_)
          have hI648 : qI σ α646 κ ρ := by rw [e647]; exact qI_r hI633 59 _ rfl (show (-2147483648) ≤ u643 ∧ u643 ≤ 2147483647 by omega)
          have hF649 : qFr [] [53, 57, 59, 60, 61, 62, 63, 85] σ α σ α646 := by rw [e647]; exact qFr_r hF635 59 _ (by decide)
          refine qr_aload_n 56 rfl g636 rfl ?_
          refine qr_get 59 rfl rfl rfl (by decide) rfl ?_
          refine qr_iconst 60 rfl rfl ?_
          refine qr_iload 62 rfl g642 rfl ?_
          refine qr_iastore 63 rfl (by decide) rfl (by decide) (by decide) rfl ?_
          refine qy_wA (qw_r α646 59 (qzu (α646 59) (1 : Int).toNat (v631 / 64))) rfl (fun α650 e651 => ?_)
          have hI652 : qI σ α650 κ ρ := by rw [e651]; exact qI_r hI648 59 _ rfl (show (-2147483648) ≤ (v631 / 64) ∧ (v631 / 64) ≤ 2147483647 by omega)
          have hF653 : qFr [] [53, 57, 59, 60, 61, 62, 63, 85] σ α σ α650 := by rw [e651]; exact qFr_r hF649 59 _ (by decide)
          exact hJ492 _ α650 g636 g637 g638 g639 g640 g641 hI652 hF653
        refine qr_icmp_ge 53 49 rfl rfl rfl (by omega) (by decide) (fun h654 => ?_) (fun h654 => ?_)
        · skip
          refine qr_iconst 54 rfl rfl ?_
          exact hJ645 _ 0 rfl rfl rfl rfl rfl rfl rfl (by decide)
        · skip
          refine qr_iconst 50 rfl rfl ?_
          refine qr_goto 54 rfl rfl ?_
          exact hJ645 _ 1 rfl rfl rfl rfl rfl rfl rfl (by decide)

set_option maxHeartbeats 4000000 in
set_option maxRecDepth 20000 in
/-- OneRoof$Moment.firstStrike -/
theorem sf_104_58 {L : Nat} {xs : Nat → Int} {vb : Bool} {d : Nat} {σ α : Nat → Nat → Int} {κ : Nat → Option Nat} {ρ : Nat} {x1 : Int} (hI : qI σ α κ ρ) (r1 : (-9223372036854775808) ≤ x1 ∧ x1 ≤ 9223372036854775807) : qm_T (qe L xs vb) (d + 5) 104 [.ref 58, .long (ql x1)] (qw σ α κ ρ) (fun r w' => ∃ α', w' = qw σ α' κ ρ ∧ qI σ α' κ ρ ∧ qFr [] [53, 57, 59, 60, 61, 62, 63, 85] σ α σ α' ∧ ∃ v : Int, r = some (.int (qz v)) ∧ ((-1) ≤ v ∧ v ≤ 3131) ∧ (v = -1 ∨ (0 ≤ v ∧ v / 100 ≤ 31 ∧ v % 100 ≤ 31 ∧ ¬ v / 100 = v % 100))) := by
  refine qr_start (d := d + 4) qv_e104 (Nat.le_of_ble_eq_true rfl) ?_
  show qr_W (qe L xs vb) (d + 4) qx_e104 _ (0, [(0, .ref 58), (1, .long (ql x1))], [], _, 0, 0)
  have hF0 := qFr_rf [] [53, 57, 59, 60, 61, 62, 63, 85] σ α
  refine qr_iconst 1 rfl rfl ?_
  refine qr_istore_n _ 2 rfl (by decide) rfl rfl ?_
  have hL2494 : ∀ (n : Nat) (ls : qm_L) (u2488 : Int) (α2490 : Nat → Nat → Int), 32 - u2488 < (n : Int) → qm_get ls 0 = some (.ref 58) → qm_get ls 1 = some (.long (ql x1)) → qm_get ls 3 = some (.int (qz u2488)) → (0 ≤ u2488 ∧ u2488 ≤ 32) → qI σ α2490 κ ρ → qFr [] [53, 57, 59, 60, 61, 62, 63, 85] σ α σ α2490 → qr_W (qe L xs vb) (d + 4) qx_e104 (fun r w' => ∃ α', w' = qw σ α' κ ρ ∧ qI σ α' κ ρ ∧ qFr [] [53, 57, 59, 60, 61, 62, 63, 85] σ α σ α' ∧ ∃ v : Int, r = some (.int (qz v)) ∧ ((-1) ≤ v ∧ v ≤ 3131) ∧ (v = -1 ∨ (0 ≤ v ∧ v / 100 ≤ 31 ∧ v % 100 ≤ 31 ∧ ¬ v / 100 = v % 100))) (2, ls, [], qw σ α2490 κ ρ, 0, 0) := by
    intro n
    induction n with
    | zero => intro ls u2488 α2490 hm g2485 g2486 g2487 hf2493 hI2491 hF2492; exact False.elim (by omega)
    | succ n ih2495 =>
      intro ls u2488 α2490 hm g2485 g2486 g2487 hf2493 hI2491 hF2492
      refine qr_iload_n 3 rfl g2487 rfl ?_
      refine qr_aload_n 4 rfl g2485 rfl ?_
      refine qr_get 7 rfl rfl rfl (by decide) rfl ?_
      refine qr_get 10 rfl rfl rfl (by decide) rfl ?_
      have hs2496 : 0 ≤ σ 17 6 ∧ σ 17 6 ≤ 32 := hI2491.1 17 6
      refine qr_icmp_ge 87 13 rfl rfl rfl (qrg hf2493 (by decide) (by decide)) (qrg hs2496 (by decide) (by decide)) (fun h2497 => ?_) (fun h2497 => ?_)
      · skip
        refine qr_iconst 88 rfl rfl ?_
        refine qr_retI rfl rfl (by decide) (by decide) ?_
        exact ⟨_, rfl, hI2491, hF2492, (-1), rfl, (by decide), by omega⟩
      · skip
        refine qr_lload_n 14 rfl g2486 rfl ?_
        refine qr_iload_n 15 rfl g2487 rfl ?_
        refine qr_callN 18 rfl rfl rfl (sf_50 (d := d + 3) hI2491 r1 (qrg hf2493 (by decide) (by decide))) ?_
        rintro _ _ ⟨rfl, v2498, rfl, hv2498⟩
        show qr_W (qe L xs vb) (d + 4) qx_e104 _ (18, _, [.int (qz v2498)], qw σ α2490 κ ρ, 0, 0)
        refine qr_if_ne 24 21 rfl rfl rfl (qrg hv2498 (by decide) (by decide)) (fun h2499 => ?_) (fun h2499 => ?_)
        · skip
          refine qr_iconst 25 rfl rfl ?_
          refine qr_istore _ 27 rfl (by decide) rfl rfl ?_
          have hL2660 : ∀ (n : Nat) (ls : qm_L) (u2654 : Int) (α2656 : Nat → Nat → Int), 32 - u2654 < (n : Int) → qm_get ls 0 = some (.ref 58) → qm_get ls 1 = some (.long (ql x1)) → qm_get ls 3 = some (.int (qz u2488)) → qm_get ls 4 = some (.int (qz u2654)) → (0 ≤ u2654 ∧ u2654 ≤ 32) → qI σ α2656 κ ρ → qFr [] [53, 57, 59, 60, 61, 62, 63, 85] σ α σ α2656 → qr_W (qe L xs vb) (d + 4) qx_e104 (fun r w' => ∃ α', w' = qw σ α' κ ρ ∧ qI σ α' κ ρ ∧ qFr [] [53, 57, 59, 60, 61, 62, 63, 85] σ α σ α' ∧ ∃ v : Int, r = some (.int (qz v)) ∧ ((-1) ≤ v ∧ v ≤ 3131) ∧ (v = -1 ∨ (0 ≤ v ∧ v / 100 ≤ 31 ∧ v % 100 ≤ 31 ∧ ¬ v / 100 = v % 100))) (27, ls, [], qw σ α2656 κ ρ, 0, 0) := by
            intro n
            induction n with
            | zero => intro ls u2654 α2656 hm g2650 g2651 g2652 g2653 hf2659 hI2657 hF2658; exact False.elim (by omega)
            | succ n ih2661 =>
              intro ls u2654 α2656 hm g2650 g2651 g2652 g2653 hf2659 hI2657 hF2658
              refine qr_iload 29 rfl g2653 rfl ?_
              refine qr_aload_n 30 rfl g2650 rfl ?_
              refine qr_get 33 rfl rfl rfl (by decide) rfl ?_
              refine qr_get 36 rfl rfl rfl (by decide) rfl ?_
              refine qr_icmp_ge 81 39 rfl rfl rfl (qrg hf2659 (by decide) (by decide)) (qrg hs2496 (by decide) (by decide)) (fun h2662 => ?_) (fun h2662 => ?_)
              · skip
                refine qr_iinc _ 84 rfl g2652 (by decide) rfl rfl ?_
                refine qr_goto 2 rfl rfl ?_
                exact ih2495 _ (u2488 + 1) α2656 (by omega) (qm_gk g2650 (by decide) (Or.inl (by decide))) (qm_gk g2651 (by decide) (Or.inl (by decide))) (qm_ge _ _ _) (by omega) hI2657 hF2658
              · skip
                refine qr_iload_n 40 rfl g2652 rfl ?_
                refine qr_iload 42 rfl g2653 rfl ?_
                refine qr_icmp_eq 75 45 rfl rfl rfl (qrg hf2493 (by decide) (by decide)) (qrg hf2659 (by decide) (by decide)) (fun h2663 => ?_) (fun h2663 => ?_)
                · skip
                  refine qr_iinc _ 78 rfl g2653 (by decide) rfl rfl ?_
                  refine qr_goto 27 rfl rfl ?_
                  exact ih2661 _ (u2654 + 1) α2656 (by omega) (qm_gk g2650 (by decide) (Or.inl (by decide))) (qm_gk g2651 (by decide) (Or.inl (by decide))) (qm_gk g2652 (by decide) (Or.inr rfl)) (qm_ge _ _ _) (by omega) hI2657 hF2658
                · skip
                  refine qr_lload_n 46 rfl g2651 rfl ?_
                  refine qr_iload 48 rfl g2653 rfl ?_
                  refine qr_callN 51 rfl rfl rfl (sf_50 (d := d + 3) hI2657 r1 (qrg hf2659 (by decide) (by decide))) ?_
                  rintro _ _ ⟨rfl, v2664, rfl, hv2664⟩
                  show qr_W (qe L xs vb) (d + 4) qx_e104 _ (51, _, [.int (qz v2664)], qw σ α2656 κ ρ, 0, 0)
                  refine qr_if_eq 75 54 rfl rfl rfl (qrg hv2664 (by decide) (by decide)) (fun h2665 => ?_) (fun h2665 => ?_)
                  · skip
                    refine qr_iinc _ 78 rfl g2653 (by decide) rfl rfl ?_
                    refine qr_goto 27 rfl rfl ?_
                    exact ih2661 _ (u2654 + 1) α2656 (by omega) (qm_gk g2650 (by decide) (Or.inl (by decide))) (qm_gk g2651 (by decide) (Or.inl (by decide))) (qm_gk g2652 (by decide) (Or.inr rfl)) (qm_ge _ _ _) (by omega) hI2657 hF2658
                  · skip
                    refine qr_aload_n 55 rfl g2650 rfl ?_
                    refine qr_iconst 56 rfl rfl ?_
                    refine qr_iload_n 57 rfl g2652 rfl ?_
                    refine qr_iload 59 rfl g2653 rfl ?_
                    refine qr_iconst 60 rfl rfl ?_
                    refine qr_lload_n 61 rfl g2651 rfl ?_
                    refine qr_callN 64 rfl rfl rfl (sf_90_58 (d := d + 0) hI2657 (by decide) (by omega) (by omega) (by decide) r1 (by omega)) ?_
                    rintro _ _ ⟨α2667, rfl, hI2668, hG2669, v2666, rfl, hv2666⟩
                    have hF2670 : qFr [] [53, 57, 59, 60, 61, 62, 63, 85] σ α σ α2667 := qFr_t hF2658 hG2669 (by decide) (by decide)
                    show qr_W (qe L xs vb) (d + 4) qx_e104 _ (64, _, [.int (qz v2666)], qw σ α2667 κ ρ, 0, 0)
                    refine qr_if_eq 75 67 rfl rfl rfl hv2666 (fun h2671 => ?_) (fun h2671 => ?_)
                    · skip
                      refine qr_iinc _ 78 rfl g2653 (by decide) rfl rfl ?_
                      refine qr_goto 27 rfl rfl ?_
                      exact ih2661 _ (u2654 + 1) α2667 (by omega) (qm_gk g2650 (by decide) (Or.inl (by decide))) (qm_gk g2651 (by decide) (Or.inl (by decide))) (qm_gk g2652 (by decide) (Or.inr rfl)) (qm_ge _ _ _) (by omega) hI2668 hF2670
                    · skip
                      refine qr_bipush 69 rfl (by decide) rfl ?_
                      refine qr_iload_n 70 rfl g2652 rfl ?_
                      refine qr_imul 71 rfl rfl ?_
                      refine qr_iload 73 rfl g2653 rfl ?_
                      refine qr_iadd 74 rfl rfl ?_
                      refine qr_retI rfl rfl (by decide) (by decide) ?_
                      exact ⟨_, rfl, hI2668, hF2670, ((100 * u2488) + u2654), rfl, (by omega), by omega⟩
          exact hL2660 ((32 - 0 + 1 : Int)).toNat _ 0 α2490 (by omega) (qm_gk g2485 (by decide) (Or.inl (by decide))) (qm_gk g2486 (by decide) (Or.inl (by decide))) (qm_gk g2487 (by decide) (Or.inr rfl)) (qm_ge _ _ _) (by decide) hI2491 hF2492
        · skip
          refine qr_goto 81 rfl rfl ?_
          refine qr_iinc _ 84 rfl g2487 (by decide) rfl rfl ?_
          refine qr_goto 2 rfl rfl ?_
          exact ih2495 _ (u2488 + 1) α2490 (by omega) (qm_gk g2485 (by decide) (Or.inl (by decide))) (qm_gk g2486 (by decide) (Or.inl (by decide))) (qm_ge _ _ _) (by omega) hI2491 hF2492
  exact hL2494 ((32 - 0 + 1 : Int)).toNat _ 0 α (by omega) rfl rfl rfl (by decide) hI hF0

set_option maxHeartbeats 4000000 in
set_option maxRecDepth 20000 in
/-- OneRoof$Moment.mustAlone -/
theorem sf_107_58 {L : Nat} {xs : Nat → Int} {vb : Bool} {d : Nat} {σ α : Nat → Nat → Int} {κ : Nat → Option Nat} {ρ : Nat} {x1 : Int} {x2 : Int} (hI : qI σ α κ ρ) (r1 : 0 ≤ x1 ∧ x1 ≤ 31) (r2 : 0 ≤ x2 ∧ x2 ≤ 31) (p0 : ¬ x1 = x2) : qm_T (qe L xs vb) (d + 5) 107 [.ref 58, .int (qz x1), .int (qz x2)] (qw σ α κ ρ) (fun r w' => ∃ α', w' = qw σ α' κ ρ ∧ qI σ α' κ ρ ∧ qFr [] [53, 57, 59, 60, 61, 62, 63, 85] σ α σ α' ∧ ∃ v : Int, r = some (.int (qz v)) ∧ (0 ≤ v ∧ v ≤ 1)) := by
  refine qr_start (d := d + 4) qv_e107 (Nat.le_of_ble_eq_true rfl) ?_
  show qr_W (qe L xs vb) (d + 4) qx_e107 _ (0, [(0, .ref 58), (1, .int (qz x1)), (2, .int (qz x2))], [], _, 0, 0)
  have hF0 := qFr_rf [] [53, 57, 59, 60, 61, 62, 63, 85] σ α
  refine qr_aload_n 1 rfl rfl rfl ?_
  refine qr_iconst 2 rfl rfl ?_
  refine qr_iload_n 3 rfl rfl rfl ?_
  refine qr_iload_n 4 rfl rfl rfl ?_
  refine qr_iconst 5 rfl rfl ?_
  refine qr_lconst 6 rfl rfl ?_
  refine qy_vl 1 rfl ?_
  refine qr_iload_n 7 rfl rfl rfl ?_
  refine qr_lshl 8 rfl rfl ?_
  refine qy_canl (fun v1 hv1 => ?_)
  refine qr_lconst 9 rfl rfl ?_
  refine qy_vl 1 rfl ?_
  refine qr_iload_n 10 rfl rfl rfl ?_
  refine qr_lshl 11 rfl rfl ?_
  refine qy_canl (fun v2 hv2 => ?_)
  refine qr_lor 12 rfl rfl ?_
  refine qy_canl (fun v3 hv3 => ?_)
  refine qr_callN 15 rfl rfl rfl (sf_90_58 (d := d + 0) hI (by decide) r1 r2 (by decide) hv3 (by omega)) ?_
  rintro _ _ ⟨α5, rfl, hI6, hG7, v4, rfl, hv4⟩
  have hF8 : qFr [] [53, 57, 59, 60, 61, 62, 63, 85] σ α σ α5 := qFr_t hF0 hG7 (by decide) (by decide)
  show qr_W (qe L xs vb) (d + 4) qx_e107 _ (15, _, [.int (qz v4)], qw σ α5 κ ρ, 0, 0)
  refine qr_if_eq 22 18 rfl rfl rfl hv4 (fun h9 => ?_) (fun h9 => ?_)
  · skip
    refine qr_iconst 23 rfl rfl ?_
    refine qr_retZ rfl rfl (Or.inl rfl) (by decide) (by decide) ?_
    exact ⟨_, rfl, hI6, hF8, 0, rfl, (by decide)⟩
  · skip
    refine qr_iconst 19 rfl rfl ?_
    refine qr_goto 23 rfl rfl ?_
    refine qr_retZ rfl rfl (Or.inr rfl) (by decide) (by decide) ?_
    exact ⟨_, rfl, hI6, hF8, 1, rfl, (by decide)⟩

set_option maxHeartbeats 4000000 in
set_option maxRecDepth 20000 in
/-- OneRoof$Moment.barred -/
theorem sf_106_58 {L : Nat} {xs : Nat → Int} {vb : Bool} {d : Nat} {σ α : Nat → Nat → Int} {κ : Nat → Option Nat} {ρ : Nat} {x1 : Int} {x2 : Int} {x3 : Int} {x4 : Int} (hI : qI σ α κ ρ) (r1 : 0 ≤ x1 ∧ x1 ≤ 31) (r2 : 0 ≤ x2 ∧ x2 ≤ 31) (r3 : 0 ≤ x3 ∧ x3 ≤ 9999) (r4 : 0 ≤ x4 ∧ x4 ≤ 9999) (p0 : ¬ x1 = x2) : qm_T (qe L xs vb) (d + 6) 106 [.ref 58, .int (qz x1), .int (qz x2), .int (qz x3), .int (qz x4)] (qw σ α κ ρ) (fun r w' => ∃ σ' α', w' = qw σ' α' κ ρ ∧ qI σ' α' κ ρ ∧ qFr [(58, 11), (58, 12)] [53, 57, 59, 60, 61, 62, 63, 85] σ α σ' α' ∧ ∃ v : Int, r = some (.int (qz v)) ∧ (0 ≤ v ∧ v ≤ 1)) := by
  refine qr_start (d := d + 5) qv_e106 (Nat.le_of_ble_eq_true rfl) ?_
  show qr_W (qe L xs vb) (d + 5) qx_e106 _ (0, [(0, .ref 58), (1, .int (qz x1)), (2, .int (qz x2)), (3, .int (qz x3)), (4, .int (qz x4))], [], _, 0, 0)
  have hF0 := qFr_rf [(58, 11), (58, 12)] [53, 57, 59, 60, 61, 62, 63, 85] σ α
  refine qr_iload_n 1 rfl rfl rfl ?_
  refine qr_istore _ 3 rfl (by decide) rfl rfl ?_
  have hL179 : ∀ (n : Nat) (ls : qm_L) (u172 : Int) (σ173 α174 : Nat → Nat → Int), 10000 - u172 < (n : Int) → qm_get ls 0 = some (.ref 58) → qm_get ls 1 = some (.int (qz x1)) → qm_get ls 2 = some (.int (qz x2)) → qm_get ls 3 = some (.int (qz x3)) → qm_get ls 4 = some (.int (qz x4)) → qm_get ls 5 = some (.int (qz u172)) → (0 ≤ u172 ∧ u172 ≤ 10000) → qI σ173 α174 κ ρ → qFr [(58, 11), (58, 12)] [53, 57, 59, 60, 61, 62, 63, 85] σ α σ173 α174 → x3 ≤ u172 → qr_W (qe L xs vb) (d + 5) qx_e106 (fun r w' => ∃ σ' α', w' = qw σ' α' κ ρ ∧ qI σ' α' κ ρ ∧ qFr [(58, 11), (58, 12)] [53, 57, 59, 60, 61, 62, 63, 85] σ α σ' α' ∧ ∃ v : Int, r = some (.int (qz v)) ∧ (0 ≤ v ∧ v ≤ 1)) (3, ls, [], qw σ173 α174 κ ρ, 0, 0) := by
    intro n
    induction n with
    | zero => intro ls u172 σ173 α174 hm g166 g167 g168 g169 g170 g171 hf177 hI175 hF176 hx178; exact False.elim (by omega)
    | succ n ih180 =>
      intro ls u172 σ173 α174 hm g166 g167 g168 g169 g170 g171 hf177 hI175 hF176 hx178
      refine qr_iload 5 rfl g171 rfl ?_
      refine qr_iload 7 rfl g170 rfl ?_
      refine qr_icmp_gt 60 10 rfl rfl rfl (qrg hf177 (by decide) (by decide)) (qrg r4 (by decide) (by decide)) (fun h181 => ?_) (fun h181 => ?_)
      · skip
        refine qr_iconst 61 rfl rfl ?_
        refine qr_retZ rfl rfl (Or.inl rfl) (by decide) (by decide) ?_
        exact ⟨_, _, rfl, hI175, hF176, 0, rfl, (by decide)⟩
      · skip
        refine qr_iload 12 rfl g171 rfl ?_
        refine qr_iload_n 13 rfl g169 rfl ?_
        refine qr_icmp_le 28 16 rfl rfl rfl (qrg hf177 (by decide) (by decide)) (qrg r3 (by decide) (by decide)) (fun h182 => ?_) (fun h182 => ?_)
        · skip
          refine qr_aload_n 29 rfl g166 rfl ?_
          refine qr_iload 31 rfl g171 rfl ?_
          refine qr_callN 34 rfl rfl rfl (sf_89_58 (d := d + 4) hI175 (qrg hf177 (by decide) (by decide))) ?_
          rintro _ _ ⟨σ183, rfl, hI184, hG185, rfl⟩
          have hF186 : qFr [(58, 11), (58, 12)] [53, 57, 59, 60, 61, 62, 63, 85] σ α σ183 α174 := qFr_t hF176 hG185 (by decide) (by decide)
          show qr_W (qe L xs vb) (d + 5) qx_e106 _ (34, _, [], qw σ183 α174 κ ρ, 0, 0)
          refine qr_aload_n 35 rfl g166 rfl ?_
          refine qr_iload_n 36 rfl g167 rfl ?_
          refine qr_iload_n 37 rfl g168 rfl ?_
          refine qr_callN 40 rfl rfl rfl (sf_107_58 (d := d + 0) hI184 r1 r2 (by omega)) ?_
          rintro _ _ ⟨α188, rfl, hI189, hG190, v187, rfl, hv187⟩
          have hF191 : qFr [(58, 11), (58, 12)] [53, 57, 59, 60, 61, 62, 63, 85] σ α σ183 α188 := qFr_t hF186 hG190 (by decide) (by decide)
          show qr_W (qe L xs vb) (d + 5) qx_e106 _ (40, _, [.int (qz v187)], qw σ183 α188 κ ρ, 0, 0)
          refine qr_if_ne 52 43 rfl rfl rfl (qrg hv187 (by decide) (by decide)) (fun h192 => ?_) (fun h192 => ?_)
          · skip
            refine qr_iconst 53 rfl rfl ?_
            refine qr_retZ rfl rfl (Or.inr rfl) (by decide) (by decide) ?_
            exact ⟨_, _, rfl, hI189, hF191, 1, rfl, (by decide)⟩
          · skip
            refine qr_aload_n 44 rfl g166 rfl ?_
            refine qr_iload_n 45 rfl g168 rfl ?_
            refine qr_iload_n 46 rfl g167 rfl ?_
            refine qr_callN 49 rfl rfl rfl (sf_107_58 (d := d + 0) hI189 r2 r1 (by omega)) ?_
            rintro _ _ ⟨α194, rfl, hI195, hG196, v193, rfl, hv193⟩
            have hF197 : qFr [(58, 11), (58, 12)] [53, 57, 59, 60, 61, 62, 63, 85] σ α σ183 α194 := qFr_t hF191 hG196 (by decide) (by decide)
            show qr_W (qe L xs vb) (d + 5) qx_e106 _ (49, _, [.int (qz v193)], qw σ183 α194 κ ρ, 0, 0)
            refine qr_if_eq 54 52 rfl rfl rfl (qrg hv193 (by decide) (by decide)) (fun h198 => ?_) (fun h198 => ?_)
            · skip
              refine qr_iinc _ 57 rfl g171 (by decide) rfl rfl ?_
              refine qr_goto 3 rfl rfl ?_
              exact ih180 _ (u172 + 1) σ183 α194 (by omega) (qm_gk g166 (by decide) (Or.inl (by decide))) (qm_gk g167 (by decide) (Or.inl (by decide))) (qm_gk g168 (by decide) (Or.inl (by decide))) (qm_gk g169 (by decide) (Or.inl (by decide))) (qm_gk g170 (by decide) (Or.inr rfl)) (qm_ge _ _ _) (by omega) hI195 hF197 (by omega)
            · skip
              refine qr_iconst 53 rfl rfl ?_
              refine qr_retZ rfl rfl (Or.inr rfl) (by decide) (by decide) ?_
              exact ⟨_, _, rfl, hI195, hF197, 1, rfl, (by decide)⟩
        · skip
          refine qr_aload_n 17 rfl g166 rfl ?_
          refine qr_iload 19 rfl g171 rfl ?_
          refine qr_callN 22 rfl rfl rfl (sf_101_58 (d := d + 3) hI175 (qrg hf177 (by decide) (by decide))) ?_
          rintro _ _ ⟨rfl, v199, rfl, hv199⟩
          show qr_W (qe L xs vb) (d + 5) qx_e106 _ (22, _, [.int (qz v199)], qw σ173 α174 κ ρ, 0, 0)
          refine qr_if_ne 28 25 rfl rfl rfl (qrg hv199 (by decide) (by decide)) (fun h200 => ?_) (fun h200 => ?_)
          · skip
            refine qr_aload_n 29 rfl g166 rfl ?_
            refine qr_iload 31 rfl g171 rfl ?_
            refine qr_callN 34 rfl rfl rfl (sf_89_58 (d := d + 4) hI175 (qrg hf177 (by decide) (by decide))) ?_
            rintro _ _ ⟨σ201, rfl, hI202, hG203, rfl⟩
            have hF204 : qFr [(58, 11), (58, 12)] [53, 57, 59, 60, 61, 62, 63, 85] σ α σ201 α174 := qFr_t hF176 hG203 (by decide) (by decide)
            show qr_W (qe L xs vb) (d + 5) qx_e106 _ (34, _, [], qw σ201 α174 κ ρ, 0, 0)
            refine qr_aload_n 35 rfl g166 rfl ?_
            refine qr_iload_n 36 rfl g167 rfl ?_
            refine qr_iload_n 37 rfl g168 rfl ?_
            refine qr_callN 40 rfl rfl rfl (sf_107_58 (d := d + 0) hI202 r1 r2 (by omega)) ?_
            rintro _ _ ⟨α206, rfl, hI207, hG208, v205, rfl, hv205⟩
            have hF209 : qFr [(58, 11), (58, 12)] [53, 57, 59, 60, 61, 62, 63, 85] σ α σ201 α206 := qFr_t hF204 hG208 (by decide) (by decide)
            show qr_W (qe L xs vb) (d + 5) qx_e106 _ (40, _, [.int (qz v205)], qw σ201 α206 κ ρ, 0, 0)
            refine qr_if_ne 52 43 rfl rfl rfl (qrg hv205 (by decide) (by decide)) (fun h210 => ?_) (fun h210 => ?_)
            · skip
              refine qr_iconst 53 rfl rfl ?_
              refine qr_retZ rfl rfl (Or.inr rfl) (by decide) (by decide) ?_
              exact ⟨_, _, rfl, hI207, hF209, 1, rfl, (by decide)⟩
            · skip
              refine qr_aload_n 44 rfl g166 rfl ?_
              refine qr_iload_n 45 rfl g168 rfl ?_
              refine qr_iload_n 46 rfl g167 rfl ?_
              refine qr_callN 49 rfl rfl rfl (sf_107_58 (d := d + 0) hI207 r2 r1 (by omega)) ?_
              rintro _ _ ⟨α212, rfl, hI213, hG214, v211, rfl, hv211⟩
              have hF215 : qFr [(58, 11), (58, 12)] [53, 57, 59, 60, 61, 62, 63, 85] σ α σ201 α212 := qFr_t hF209 hG214 (by decide) (by decide)
              show qr_W (qe L xs vb) (d + 5) qx_e106 _ (49, _, [.int (qz v211)], qw σ201 α212 κ ρ, 0, 0)
              refine qr_if_eq 54 52 rfl rfl rfl (qrg hv211 (by decide) (by decide)) (fun h216 => ?_) (fun h216 => ?_)
              · skip
                refine qr_iinc _ 57 rfl g171 (by decide) rfl rfl ?_
                refine qr_goto 3 rfl rfl ?_
                exact ih180 _ (u172 + 1) σ201 α212 (by omega) (qm_gk g166 (by decide) (Or.inl (by decide))) (qm_gk g167 (by decide) (Or.inl (by decide))) (qm_gk g168 (by decide) (Or.inl (by decide))) (qm_gk g169 (by decide) (Or.inl (by decide))) (qm_gk g170 (by decide) (Or.inr rfl)) (qm_ge _ _ _) (by omega) hI213 hF215 (by omega)
              · skip
                refine qr_iconst 53 rfl rfl ?_
                refine qr_retZ rfl rfl (Or.inr rfl) (by decide) (by decide) ?_
                exact ⟨_, _, rfl, hI213, hF215, 1, rfl, (by decide)⟩
          · skip
            refine qr_goto 54 rfl rfl ?_
            refine qr_iinc _ 57 rfl g171 (by decide) rfl rfl ?_
            refine qr_goto 3 rfl rfl ?_
            exact ih180 _ (u172 + 1) σ173 α174 (by omega) (qm_gk g166 (by decide) (Or.inl (by decide))) (qm_gk g167 (by decide) (Or.inl (by decide))) (qm_gk g168 (by decide) (Or.inl (by decide))) (qm_gk g169 (by decide) (Or.inl (by decide))) (qm_gk g170 (by decide) (Or.inr rfl)) (qm_ge _ _ _) (by omega) hI175 hF176 (by omega)
  exact hL179 ((10000 - x3 + 1 : Int)).toNat _ x3 σ α (by omega) rfl rfl rfl rfl rfl rfl (qrg r3 (by decide) (by decide)) hI hF0 (by omega)

set_option maxHeartbeats 4000000 in
set_option maxRecDepth 20000 in
/-- java/util/Arrays.fill -/
theorem sf_4_66 {L : Nat} {xs : Nat → Int} {vb : Bool} {d : Nat} {σ α : Nat → Nat → Int} {κ : Nat → Option Nat} {ρ : Nat} {x1 : Int} (hI : qI σ α κ ρ) (r1 : (-2147483648) ≤ x1 ∧ x1 ≤ 2147483647) : qm_T (qe L xs vb) (d + 1) 4 [.ref 66, .int (qz x1)] (qw σ α κ ρ) (fun r w' => ∃ α', w' = qw σ α' κ ρ ∧ qI σ α' κ ρ ∧ qFr [] [66] σ α σ α' ∧ r = none) := by
  refine qr_start (d := d + 0) qv_e4 (Nat.le_of_ble_eq_true rfl) ?_
  show qr_W (qe L xs vb) (d + 0) qx_e4 _ (0, [(0, .ref 66), (1, .int (qz x1))], [], _, 0, 0)
  have hF0 := qFr_rf [] [66] σ α
  refine qr_iconst 1 rfl rfl ?_
  refine qr_istore_n _ 2 rfl (by decide) rfl rfl ?_
  refine qr_aload_n 3 rfl rfl rfl ?_
  refine qr_alen 4 rfl rfl (by first | exact Or.inl (by decide) | exact Or.inr (Or.inl rfl) | exact Or.inr (Or.inr (Or.inl rfl)) | exact Or.inr (Or.inr (Or.inr (Or.inl rfl)))) rfl ?_
  refine qy_v 12 rfl ?_
  refine qr_istore_n _ 5 rfl (by decide) rfl rfl ?_
  have hL99 : ∀ (n : Nat) (ls : qm_L) (u92 : Int) (α95 : Nat → Nat → Int), 12 - u92 < (n : Int) → qm_get ls 0 = some (.ref 66) → qm_get ls 1 = some (.int (qz x1)) → qm_get ls 2 = some (.int (qz u92)) → qm_get ls 3 = some (.int (qz 12)) → (0 ≤ u92 ∧ u92 ≤ 12) → qI σ α95 κ ρ → qFr [] [66] σ α σ α95 → qr_W (qe L xs vb) (d + 0) qx_e4 (fun r w' => ∃ α', w' = qw σ α' κ ρ ∧ qI σ α' κ ρ ∧ qFr [] [66] σ α σ α' ∧ r = none) (5, ls, [], qw σ α95 κ ρ, 0, 0) := by
    intro n
    induction n with
    | zero => intro ls u92 α95 hm g89 g90 g91 g93 hf98 hI96 hF97; exact False.elim (by omega)
    | succ n ih100 =>
      intro ls u92 α95 hm g89 g90 g91 g93 hf98 hI96 hF97
      refine qr_iload_n 6 rfl g91 rfl ?_
      refine qr_iload_n 7 rfl g93 rfl ?_
      refine qr_icmp_ge 20 10 rfl rfl rfl (qrg hf98 (by decide) (by decide)) (by decide) (fun h101 => ?_) (fun h101 => ?_)
      · skip
        refine qr_retV rfl rfl (by decide) (by decide) ?_
        exact ⟨_, rfl, hI96, hF97, rfl⟩
      · skip
        refine qr_aload_n 11 rfl g89 rfl ?_
        refine qr_iload_n 12 rfl g91 rfl ?_
        refine qr_iload_n 13 rfl g90 rfl ?_
        refine qr_iastore 14 rfl (by decide) rfl (by omega) (by decide) rfl ?_
        refine qy_wA (qw_r α95 66 (qzu (α95 66) (u92 : Int).toNat x1)) rfl (fun α102 e103 => ?_)
        have hI104 : qI σ α102 κ ρ := by rw [e103]; exact qI_r hI96 66 _ rfl (show (-2147483648) ≤ x1 ∧ x1 ≤ 2147483647 by omega)
        have hF105 : qFr [] [66] σ α σ α102 := by rw [e103]; exact qFr_r hF97 66 _ (by decide)
        refine qr_iinc _ 17 rfl g91 (by decide) rfl rfl ?_
        refine qr_goto 5 rfl rfl ?_
        exact ih100 _ (u92 + 1) α102 (by omega) (qm_gk g89 (by decide) (Or.inl (by decide))) (qm_gk g90 (by decide) (Or.inr rfl)) (qm_ge _ _ _) (qm_gk g93 (by decide) (Or.inl (by decide))) (by omega) hI104 hF105
  exact hL99 ((12 - 0 + 1 : Int)).toNat _ 0 α (by omega) rfl rfl rfl rfl (by decide) hI hF0

set_option maxHeartbeats 4000000 in
set_option maxRecDepth 20000 in
/-- java/util/Arrays.fill -/
theorem sf_4_68 {L : Nat} {xs : Nat → Int} {vb : Bool} {d : Nat} {σ α : Nat → Nat → Int} {κ : Nat → Option Nat} {ρ : Nat} {x1 : Int} (hI : qI σ α κ ρ) (r1 : (-2147483648) ≤ x1 ∧ x1 ≤ 2147483647) : qm_T (qe L xs vb) (d + 1) 4 [.ref 68, .int (qz x1)] (qw σ α κ ρ) (fun r w' => ∃ α', w' = qw σ α' κ ρ ∧ qI σ α' κ ρ ∧ qFr [] [68] σ α σ α' ∧ r = none) := by
  refine qr_start (d := d + 0) qv_e4 (Nat.le_of_ble_eq_true rfl) ?_
  show qr_W (qe L xs vb) (d + 0) qx_e4 _ (0, [(0, .ref 68), (1, .int (qz x1))], [], _, 0, 0)
  have hF0 := qFr_rf [] [68] σ α
  refine qr_iconst 1 rfl rfl ?_
  refine qr_istore_n _ 2 rfl (by decide) rfl rfl ?_
  refine qr_aload_n 3 rfl rfl rfl ?_
  refine qr_alen 4 rfl rfl (by first | exact Or.inl (by decide) | exact Or.inr (Or.inl rfl) | exact Or.inr (Or.inr (Or.inl rfl)) | exact Or.inr (Or.inr (Or.inr (Or.inl rfl)))) rfl ?_
  refine qy_v 36 rfl ?_
  refine qr_istore_n _ 5 rfl (by decide) rfl rfl ?_
  have hL147 : ∀ (n : Nat) (ls : qm_L) (u140 : Int) (α143 : Nat → Nat → Int), 36 - u140 < (n : Int) → qm_get ls 0 = some (.ref 68) → qm_get ls 1 = some (.int (qz x1)) → qm_get ls 2 = some (.int (qz u140)) → qm_get ls 3 = some (.int (qz 36)) → (0 ≤ u140 ∧ u140 ≤ 36) → qI σ α143 κ ρ → qFr [] [68] σ α σ α143 → qr_W (qe L xs vb) (d + 0) qx_e4 (fun r w' => ∃ α', w' = qw σ α' κ ρ ∧ qI σ α' κ ρ ∧ qFr [] [68] σ α σ α' ∧ r = none) (5, ls, [], qw σ α143 κ ρ, 0, 0) := by
    intro n
    induction n with
    | zero => intro ls u140 α143 hm g137 g138 g139 g141 hf146 hI144 hF145; exact False.elim (by omega)
    | succ n ih148 =>
      intro ls u140 α143 hm g137 g138 g139 g141 hf146 hI144 hF145
      refine qr_iload_n 6 rfl g139 rfl ?_
      refine qr_iload_n 7 rfl g141 rfl ?_
      refine qr_icmp_ge 20 10 rfl rfl rfl (qrg hf146 (by decide) (by decide)) (by decide) (fun h149 => ?_) (fun h149 => ?_)
      · skip
        refine qr_retV rfl rfl (by decide) (by decide) ?_
        exact ⟨_, rfl, hI144, hF145, rfl⟩
      · skip
        refine qr_aload_n 11 rfl g137 rfl ?_
        refine qr_iload_n 12 rfl g139 rfl ?_
        refine qr_iload_n 13 rfl g138 rfl ?_
        refine qr_iastore 14 rfl (by decide) rfl (by omega) (by decide) rfl ?_
        refine qy_wA (qw_r α143 68 (qzu (α143 68) (u140 : Int).toNat x1)) rfl (fun α150 e151 => ?_)
        have hI152 : qI σ α150 κ ρ := by rw [e151]; exact qI_r hI144 68 _ rfl (show (-2147483648) ≤ x1 ∧ x1 ≤ 2147483647 by omega)
        have hF153 : qFr [] [68] σ α σ α150 := by rw [e151]; exact qFr_r hF145 68 _ (by decide)
        refine qr_iinc _ 17 rfl g139 (by decide) rfl rfl ?_
        refine qr_goto 5 rfl rfl ?_
        exact ih148 _ (u140 + 1) α150 (by omega) (qm_gk g137 (by decide) (Or.inl (by decide))) (qm_gk g138 (by decide) (Or.inr rfl)) (qm_ge _ _ _) (qm_gk g141 (by decide) (Or.inl (by decide))) (by omega) hI152 hF153
  exact hL147 ((36 - 0 + 1 : Int)).toNat _ 0 α (by omega) rfl rfl rfl rfl (by decide) hI hF0

set_option maxHeartbeats 4000000 in
set_option maxRecDepth 20000 in
/-- OneRoof$Guests.learnBars -/
theorem sf_111_64 {L : Nat} {xs : Nat → Int} {vb : Bool} {d : Nat} {σ α : Nat → Nat → Int} {κ : Nat → Option Nat} {ρ : Nat} {x1 : Int} {x2 : Int} (hI : qI σ α κ ρ) (r1 : 0 ≤ x1 ∧ x1 ≤ 9999) (r2 : 0 ≤ x2 ∧ x2 ≤ 9999) : qm_T (qe L xs vb) (d + 7) 111 [.ref 64, .int (qz x1), .int (qz x2)] (qw σ α κ ρ) (fun r w' => ∃ σ' α', w' = qw σ' α' κ ρ ∧ qI σ' α' κ ρ ∧ qFr [(58, 11), (58, 12)] [53, 57, 59, 60, 61, 62, 63, 66, 85] σ α σ' α' ∧ r = none) := by
  refine qr_start (d := d + 6) qv_e111 (Nat.le_of_ble_eq_true rfl) ?_
  show qr_W (qe L xs vb) (d + 6) qx_e111 _ (0, [(0, .ref 64), (1, .int (qz x1)), (2, .int (qz x2))], [], _, 0, 0)
  have hF0 := qFr_rf [(58, 11), (58, 12)] [53, 57, 59, 60, 61, 62, 63, 66, 85] σ α
  refine qr_aload_n 1 rfl rfl rfl ?_
  refine qr_get 4 rfl rfl rfl (by decide) rfl ?_
  refine qr_iconst 5 rfl rfl ?_
  refine qr_callN 8 rfl rfl rfl (sf_4_66 (d := d + 5) hI (by decide)) ?_
  rintro _ _ ⟨α1, rfl, hI2, hG3, rfl⟩
  have hF4 : qFr [(58, 11), (58, 12)] [53, 57, 59, 60, 61, 62, 63, 66, 85] σ α σ α1 := qFr_t hF0 hG3 (by decide) (by decide)
  show qr_W (qe L xs vb) (d + 6) qx_e111 _ (8, _, [], qw σ α1 κ ρ, 0, 0)
  refine qr_iconst 9 rfl rfl ?_
  refine qr_istore_n _ 10 rfl (by decide) rfl rfl ?_
  have hL9788 : ∀ (n : Nat) (ls : qm_L) (u9782 : Int) (σ9783 α9784 : Nat → Nat → Int), 12 - u9782 < (n : Int) → qm_get ls 0 = some (.ref 64) → qm_get ls 1 = some (.int (qz x1)) → qm_get ls 2 = some (.int (qz x2)) → qm_get ls 3 = some (.int (qz u9782)) → (0 ≤ u9782 ∧ u9782 ≤ 12) → qI σ9783 α9784 κ ρ → qFr [(58, 11), (58, 12)] [53, 57, 59, 60, 61, 62, 63, 66, 85] σ α σ9783 α9784 → qr_W (qe L xs vb) (d + 6) qx_e111 (fun r w' => ∃ σ' α', w' = qw σ' α' κ ρ ∧ qI σ' α' κ ρ ∧ qFr [(58, 11), (58, 12)] [53, 57, 59, 60, 61, 62, 63, 66, 85] σ α σ' α' ∧ r = none) (10, ls, [], qw σ9783 α9784 κ ρ, 0, 0) := by
    intro n
    induction n with
    | zero => intro ls u9782 σ9783 α9784 hm g9778 g9779 g9780 g9781 hf9787 hI9785 hF9786; exact False.elim (by omega)
    | succ n ih9789 =>
      intro ls u9782 σ9783 α9784 hm g9778 g9779 g9780 g9781 hf9787 hI9785 hF9786
      refine qr_iload_n 11 rfl g9781 rfl ?_
      refine qr_aload_n 12 rfl g9778 rfl ?_
      refine qr_get 15 rfl rfl rfl (by decide) rfl ?_
      have hs9790 : 0 ≤ σ9783 64 2 ∧ σ9783 64 2 ≤ 12 := hI9785.1 64 2
      refine qr_icmp_ge 98 18 rfl rfl rfl (qrg hf9787 (by decide) (by decide)) (qrg hs9790 (by decide) (by decide)) (fun h9791 => ?_) (fun h9791 => ?_)
      · skip
        refine qr_retV rfl rfl (by decide) (by decide) ?_
        exact ⟨_, _, rfl, hI9785, hF9786, rfl⟩
      · skip
        refine qr_iload_n 19 rfl g9781 rfl ?_
        refine qr_iconst 20 rfl rfl ?_
        refine qr_iadd 21 rfl rfl ?_
        refine qr_istore _ 23 rfl (by decide) rfl rfl ?_
        have hL10257 : ∀ (n : Nat) (ls : qm_L) (u10249 : Int) (σ10250 α10251 : Nat → Nat → Int), 12 - u10249 < (n : Int) → qm_get ls 0 = some (.ref 64) → qm_get ls 1 = some (.int (qz x1)) → qm_get ls 2 = some (.int (qz x2)) → qm_get ls 3 = some (.int (qz u9782)) → qm_get ls 4 = some (.int (qz u10249)) → (1 ≤ u10249 ∧ u10249 ≤ 12) → qI σ10250 α10251 κ ρ → qFr [(58, 11), (58, 12)] [53, 57, 59, 60, 61, 62, 63, 66, 85] σ α σ10250 α10251 → σ10250 64 2 = (σ9783 64 2) → (u9782 + 1) ≤ u10249 → qr_W (qe L xs vb) (d + 6) qx_e111 (fun r w' => ∃ σ' α', w' = qw σ' α' κ ρ ∧ qI σ' α' κ ρ ∧ qFr [(58, 11), (58, 12)] [53, 57, 59, 60, 61, 62, 63, 66, 85] σ α σ' α' ∧ r = none) (23, ls, [], qw σ10250 α10251 κ ρ, 0, 0) := by
          intro n
          induction n with
          | zero => intro ls u10249 σ10250 α10251 hm g10244 g10245 g10246 g10247 g10248 hf10255 hI10252 hF10253 hk10254 hx10256; exact False.elim (by omega)
          | succ n ih10258 =>
            intro ls u10249 σ10250 α10251 hm g10244 g10245 g10246 g10247 g10248 hf10255 hI10252 hF10253 hk10254 hx10256
            refine qr_iload 25 rfl g10248 rfl ?_
            refine qr_aload_n 26 rfl g10244 rfl ?_
            refine qr_get 29 rfl rfl rfl (by decide) rfl ?_
            refine qy_v (σ9783 64 2) ((hk10254).trans rfl) ?_
            refine qr_icmp_ge 92 32 rfl rfl rfl (qrg hf10255 (by decide) (by decide)) (qrg hs9790 (by decide) (by decide)) (fun h10313 => ?_) (fun h10313 => ?_)
            · skip
              refine qr_iinc _ 95 rfl g10247 (by decide) rfl rfl ?_
              refine qr_goto 10 rfl rfl ?_
              exact ih9789 _ (u9782 + 1) σ10250 α10251 (by omega) (qm_gk g10244 (by decide) (Or.inl (by decide))) (qm_gk g10245 (by decide) (Or.inl (by decide))) (qm_gk g10246 (by decide) (Or.inr rfl)) (qm_ge _ _ _) (by omega) hI10252 hF10253
            · skip
              refine qr_aload_n 33 rfl g10244 rfl ?_
              refine qr_get 36 rfl rfl rfl (by decide) rfl ?_
              refine qr_aload_n 37 rfl g10244 rfl ?_
              refine qr_get 40 rfl rfl rfl (by decide) rfl ?_
              refine qr_iload_n 41 rfl g10247 rfl ?_
              refine qr_iaload 42 rfl rfl (by omega) (by decide) rfl ?_
              refine qr_topI (fun v10314 hv10314 => ?_)
              have hs10315 : 0 ≤ v10314 ∧ v10314 ≤ 31 := by rw [hv10314]; exact hI10252.2.1 65 _ (show _ < 12 by omega)
              have hs10316 : σ10250 64 2 = (σ9783 64 2) := (hk10254).trans rfl
              refine qr_aload_n 43 rfl g10244 rfl ?_
              refine qr_get 46 rfl rfl rfl (by decide) rfl ?_
              refine qr_iload 48 rfl g10248 rfl ?_
              refine qr_iaload 49 rfl rfl (by omega) (by decide) rfl ?_
              refine qr_topI (fun v10317 hv10317 => ?_)
              have hs10318 : 0 ≤ v10317 ∧ v10317 ≤ 31 := by rw [hv10317]; exact hI10252.2.1 65 _ (show _ < 12 by omega)
              have hs10319 : σ10250 64 2 = (σ9783 64 2) := (hk10254).trans rfl
              have hs10320 := qI_li hI10252 (u9782) (u10249)
              refine qr_iload_n 50 rfl g10245 rfl ?_
              refine qr_iload_n 51 rfl g10246 rfl ?_
              refine qr_callN 54 rfl rfl rfl (sf_106_58 (d := d + 0) hI10252 hs10315 hs10318 r1 r2 (by omega)) ?_
              rintro _ _ ⟨σ10322, α10323, rfl, hI10324, hG10325, v10321, rfl, hv10321⟩
              have hF10326 : qFr [(58, 11), (58, 12)] [53, 57, 59, 60, 61, 62, 63, 66, 85] σ α σ10322 α10323 := qFr_t hF10253 hG10325 (by decide) (by decide)
              show qr_W (qe L xs vb) (d + 6) qx_e111 _ (54, _, [.int (qz v10321)], qw σ10322 α10323 κ ρ, 0, 0)
              have hJ10352 : ∀ (ls : qm_L) (α10349 : Nat → Nat → Int), qm_get ls 0 = some (.ref 64) → qm_get ls 1 = some (.int (qz x1)) → qm_get ls 2 = some (.int (qz x2)) → qm_get ls 3 = some (.int (qz u9782)) → qm_get ls 4 = some (.int (qz u10249)) → qI σ10322 α10349 κ ρ → qFr [(58, 11), (58, 12)] [53, 57, 59, 60, 61, 62, 63, 66, 85] σ α σ10322 α10349 → qr_W (qe L xs vb) (d + 6) qx_e111 (fun r w' => ∃ σ' α', w' = qw σ' α' κ ρ ∧ qI σ' α' κ ρ ∧ qFr [(58, 11), (58, 12)] [53, 57, 59, 60, 61, 62, 63, 66, 85] σ α σ' α' ∧ r = none) (86, ls, [], qw σ10322 α10349 κ ρ, 0, 0) := by
                intro ls α10349 g10343 g10344 g10345 g10346 g10347 hI10350 hF10351
                refine qr_iinc _ 89 rfl g10347 (by decide) rfl rfl ?_
                refine qr_goto 23 rfl rfl ?_
                exact ih10258 _ (u10249 + 1) σ10322 α10349 (by omega) (qm_gk g10343 (by decide) (Or.inl (by decide))) (qm_gk g10344 (by decide) (Or.inl (by decide))) (qm_gk g10345 (by decide) (Or.inl (by decide))) (qm_gk g10346 (by decide) (Or.inr rfl)) (qm_ge _ _ _) (by omega) hI10350 hF10351 ((hG10325.1 64 2 (by decide)).trans ((hk10254).trans rfl)) (by omega)
              refine qr_if_ne 60 57 rfl rfl rfl (qrg hv10321 (by decide) (by decide)) (fun h10353 => ?_) (fun h10353 => ?_)
              · skip
                refine qr_aload_n 61 rfl g10244 rfl ?_
                refine qr_get 64 rfl rfl rfl (by decide) rfl ?_
                refine qr_iload_n 65 rfl g10247 rfl ?_
                refine qr_dup2 66 rfl rfl rfl rfl ?_
                refine qr_iaload 67 rfl rfl (by omega) (by decide) rfl ?_
                refine qr_topI (fun v10354 hv10354 => ?_)
                have hs10355 : (-2147483648) ≤ v10354 ∧ v10354 ≤ 2147483647 := by rw [hv10354]; exact hI10324.2.1 66 _ (show _ < 12 by omega)
                refine qr_iconst 68 rfl rfl ?_
                refine qr_iload 70 rfl g10248 rfl ?_
                refine qr_ishl 71 rfl rfl ?_
                refine qy_shl1 (N := 11) (by omega) (fun v10356 hv10356 => ?_)
                refine qr_ior 72 rfl rfl ?_
                refine qy_can (fun v10357 hv10357 => ?_)
                refine qr_iastore 73 rfl (by decide) rfl (by omega) (by decide) rfl ?_
                refine qy_wA (qw_r α10323 66 (qzu (α10323 66) (u9782 : Int).toNat v10357)) rfl (fun α10358 e10359 => ?_)
                have hI10360 : qI σ10322 α10358 κ ρ := by rw [e10359]; exact qI_r hI10324 66 _ rfl (show (-2147483648) ≤ v10357 ∧ v10357 ≤ 2147483647 by omega)
                have hF10361 : qFr [(58, 11), (58, 12)] [53, 57, 59, 60, 61, 62, 63, 66, 85] σ α σ10322 α10358 := by rw [e10359]; exact qFr_r hF10326 66 _ (by decide)
                refine qr_aload_n 74 rfl g10244 rfl ?_
                refine qr_get 77 rfl rfl rfl (by decide) rfl ?_
                refine qr_iload 79 rfl g10248 rfl ?_
                refine qr_dup2 80 rfl rfl rfl rfl ?_
                refine qr_iaload 81 rfl rfl (by omega) (by decide) rfl ?_
                refine qr_topI (fun v10362 hv10362 => ?_)
                have hs10363 : (-2147483648) ≤ v10362 ∧ v10362 ≤ 2147483647 := by rw [hv10362]; exact hI10360.2.1 66 _ (show _ < 12 by omega)
                refine qr_iconst 82 rfl rfl ?_
                refine qr_iload_n 83 rfl g10247 rfl ?_
                refine qr_ishl 84 rfl rfl ?_
                refine qy_shl1 (N := 11) (by omega) (fun v10364 hv10364 => ?_)
                refine qr_ior 85 rfl rfl ?_
                refine qy_can (fun v10365 hv10365 => ?_)
                refine qr_iastore 86 rfl (by decide) rfl (by omega) (by decide) rfl ?_
                refine qy_wA (qw_r α10358 66 (qzu (α10358 66) (u10249 : Int).toNat v10365)) rfl (fun α10366 e10367 => ?_)
                have hI10368 : qI σ10322 α10366 κ ρ := by rw [e10367]; exact qI_r hI10360 66 _ rfl (show (-2147483648) ≤ v10365 ∧ v10365 ≤ 2147483647 by omega)
                have hF10369 : qFr [(58, 11), (58, 12)] [53, 57, 59, 60, 61, 62, 63, 66, 85] σ α σ10322 α10366 := by rw [e10367]; exact qFr_r hF10361 66 _ (by decide)
                exact hJ10352 _ α10366 g10244 g10245 g10246 g10247 g10248 hI10368 hF10369
              · skip
                refine qr_goto 86 rfl rfl ?_
                exact hJ10352 _ α10323 g10244 g10245 g10246 g10247 g10248 hI10324 hF10326
        exact hL10257 ((12 - (u9782 + 1) + 1 : Int)).toNat _ (u9782 + 1) σ9783 α9784 (by omega) (qm_gk g9778 (by decide) (Or.inl (by decide))) (qm_gk g9779 (by decide) (Or.inl (by decide))) (qm_gk g9780 (by decide) (Or.inl (by decide))) (qm_gk g9781 (by decide) (Or.inr rfl)) (qm_ge _ _ _) (by omega) hI9785 hF9786 (rfl) (by omega)
  exact hL9788 ((12 - 0 + 1 : Int)).toNat _ 0 σ α1 (by omega) rfl rfl rfl rfl (by decide) hI2 hF4
