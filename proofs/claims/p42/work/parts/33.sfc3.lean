set_option maxHeartbeats 4000000 in
set_option maxRecDepth 20000 in
/-- OneRoof$Moment.turnsAt -/
theorem sf_101_58 {L : Nat} {xs : Nat → Int} {vb : Bool} {d : Nat} {σ α : Nat → Nat → Int} {κ : Nat → Option Nat} {ρ : Nat} {x1 : Int} (hI : qI σ α κ ρ) (r1 : (-2147483648) ≤ x1 ∧ x1 ≤ 2147483647) : qm_T (qe L xs vb) (d + 2) 101 [.ref 58, .int (qz x1)] (qw σ α κ ρ) (fun r w' => w' = qw σ α κ ρ ∧ ∃ v : Int, r = some (.int (qz v)) ∧ (0 ≤ v ∧ v ≤ 1)) := by
  refine qr_start (d := d + 1) qv_e101 (Nat.le_of_ble_eq_true rfl) ?_
  show qr_W (qe L xs vb) (d + 1) qx_e101 _ (0, [(0, .ref 58), (1, .int (qz x1))], [], _, 0, 0)
  refine qr_aload_n 1 rfl rfl rfl ?_
  refine qr_get 4 rfl rfl rfl (by decide) rfl ?_
  refine qr_iload_n 5 rfl rfl rfl ?_
  refine qr_callN 8 rfl rfl rfl (sf_102_27 (d := d + 0) hI (by omega)) ?_
  rintro _ _ ⟨rfl, v1, rfl, hv1⟩
  show qr_W (qe L xs vb) (d + 1) qx_e101 _ (8, _, [.int (qz v1)], qw σ α κ ρ, 0, 0)
  refine qr_if_ne 22 11 rfl rfl rfl (by omega) (fun h2 => ?_) (fun h2 => ?_)
  · skip
    refine qr_iconst 23 rfl rfl ?_
    refine qr_goto 27 rfl rfl ?_
    refine qr_retZ rfl rfl (by omega) (by decide) (by decide) ?_
    exact ⟨rfl, 1, rfl, by omega⟩
  · skip
    refine qr_aload_n 12 rfl rfl rfl ?_
    refine qr_get 15 rfl rfl rfl (by decide) rfl ?_
    refine qr_iload_n 16 rfl rfl rfl ?_
    refine qr_callN 19 rfl rfl rfl (sf_103_34 (d := d + 0) hI (by omega)) ?_
    rintro _ _ ⟨rfl, v3, rfl, hv3⟩
    show qr_W (qe L xs vb) (d + 1) qx_e101 _ (19, _, [.int (qz v3)], qw σ α κ ρ, 0, 0)
    refine qr_if_eq 26 22 rfl rfl rfl (by omega) (fun h4 => ?_) (fun h4 => ?_)
    · skip
      refine qr_iconst 27 rfl rfl ?_
      refine qr_retZ rfl rfl (by omega) (by decide) (by decide) ?_
      exact ⟨rfl, 0, rfl, by omega⟩
    · skip
      refine qr_iconst 23 rfl rfl ?_
      refine qr_goto 27 rfl rfl ?_
      refine qr_retZ rfl rfl (by omega) (by decide) (by decide) ?_
      exact ⟨rfl, 1, rfl, by omega⟩

set_option maxHeartbeats 4000000 in
set_option maxRecDepth 20000 in
/-- OneRoof$Pegs.has -/
theorem sf_44_44 {L : Nat} {xs : Nat → Int} {vb : Bool} {d : Nat} {σ α : Nat → Nat → Int} {κ : Nat → Option Nat} {ρ : Nat} {x1 : Int} (hI : qI σ α κ ρ) (r1 : (-2147483648) ≤ x1 ∧ x1 ≤ 2147483647) : qm_T (qe L xs vb) (d + 1) 44 [.ref 44, .int (qz x1)] (qw σ α κ ρ) (fun r w' => w' = qw σ α κ ρ ∧ ∃ v : Int, r = some (.int (qz v)) ∧ (0 ≤ v ∧ v ≤ 1) ∧ ((v = 1 ∧ 0 ≤ x1 ∧ x1 < 6) ∨ (v = 0 ∧ ¬ (0 ≤ x1 ∧ x1 < 6)))) := by
  refine qr_start (d := d + 0) qv_e44 (Nat.le_of_ble_eq_true rfl) ?_
  show qr_W (qe L xs vb) (d + 0) qx_e44 _ (0, [(0, .ref 44), (1, .int (qz x1))], [], _, 0, 0)
  refine qr_iload_n 1 rfl rfl rfl ?_
  refine qr_if_lt 14 4 rfl rfl rfl (by omega) (fun h1 => ?_) (fun h1 => ?_)
  · skip
    refine qr_iconst 15 rfl rfl ?_
    refine qr_retZ rfl rfl (by omega) (by decide) (by decide) ?_
    exact ⟨rfl, 0, rfl, by omega, by omega⟩
  · skip
    refine qr_iload_n 5 rfl rfl rfl ?_
    refine qr_bipush 7 rfl (by decide) rfl ?_
    refine qr_icmp_ge 14 10 rfl rfl rfl (by omega) (by omega) (fun h2 => ?_) (fun h2 => ?_)
    · skip
      refine qr_iconst 15 rfl rfl ?_
      refine qr_retZ rfl rfl (by omega) (by decide) (by decide) ?_
      exact ⟨rfl, 0, rfl, by omega, by omega⟩
    · skip
      refine qr_iconst 11 rfl rfl ?_
      refine qr_goto 15 rfl rfl ?_
      refine qr_retZ rfl rfl (by omega) (by decide) (by decide) ?_
      exact ⟨rfl, 1, rfl, by omega, by omega⟩

set_option maxHeartbeats 4000000 in
set_option maxRecDepth 20000 in
/-- OneRoof$Pegs.isEmpty -/
theorem sf_45_44 {L : Nat} {xs : Nat → Int} {vb : Bool} {d : Nat} {σ α : Nat → Nat → Int} {κ : Nat → Option Nat} {ρ : Nat} {x1 : Int} (hI : qI σ α κ ρ) (r1 : 0 ≤ x1 ∧ x1 ≤ 5) : qm_T (qe L xs vb) (d + 1) 45 [.ref 44, .int (qz x1)] (qw σ α κ ρ) (fun r w' => w' = qw σ α κ ρ ∧ ∃ v : Int, r = some (.int (qz v)) ∧ (0 ≤ v ∧ v ≤ 1)) := by
  refine qr_start (d := d + 0) qv_e45 (Nat.le_of_ble_eq_true rfl) ?_
  show qr_W (qe L xs vb) (d + 0) qx_e45 _ (0, [(0, .ref 44), (1, .int (qz x1))], [], _, 0, 0)
  refine qr_aload_n 1 rfl rfl rfl ?_
  refine qr_get 4 rfl rfl rfl (by decide) rfl ?_
  refine qr_iload_n 5 rfl rfl rfl ?_
  refine qr_iaload 6 rfl rfl (by omega) (by decide) rfl ?_
  refine qr_topI (fun v1 hv1 => ?_)
  have hs2 : 0 ≤ v1 ∧ v1 ≤ 6 := by rw [hv1]; exact hI.2.1 45 _ (show _ < 6 by omega)
  refine qr_bipush 8 rfl (by decide) rfl ?_
  refine qr_icmp_ne 15 11 rfl rfl rfl (by omega) (by omega) (fun h3 => ?_) (fun h3 => ?_)
  · skip
    refine qr_iconst 16 rfl rfl ?_
    refine qr_retZ rfl rfl (by omega) (by decide) (by decide) ?_
    exact ⟨rfl, 0, rfl, by omega⟩
  · skip
    refine qr_iconst 12 rfl rfl ?_
    refine qr_goto 16 rfl rfl ?_
    refine qr_retZ rfl rfl (by omega) (by decide) (by decide) ?_
    exact ⟨rfl, 1, rfl, by omega⟩

set_option maxHeartbeats 4000000 in
set_option maxRecDepth 20000 in
/-- OneRoof$Pegs.peaceOn -/
theorem sf_168_44 {L : Nat} {xs : Nat → Int} {vb : Bool} {d : Nat} {σ α : Nat → Nat → Int} {κ : Nat → Option Nat} {ρ : Nat} {x1 : Int} (hI : qI σ α κ ρ) (r1 : 0 ≤ x1 ∧ x1 ≤ 5) : qm_T (qe L xs vb) (d + 1) 168 [.ref 44, .int (qz x1)] (qw σ α κ ρ) (fun r w' => w' = qw σ α κ ρ ∧ ∃ v : Int, r = some (.int (qz v)) ∧ ((-1) ≤ v ∧ v ≤ 59)) := by
  refine qr_start (d := d + 0) qv_e168 (Nat.le_of_ble_eq_true rfl) ?_
  show qr_W (qe L xs vb) (d + 0) qx_e168 _ (0, [(0, .ref 44), (1, .int (qz x1))], [], _, 0, 0)
  refine qr_aload_n 1 rfl rfl rfl ?_
  refine qr_get 4 rfl rfl rfl (by decide) rfl ?_
  refine qr_iload_n 5 rfl rfl rfl ?_
  refine qr_iaload 6 rfl rfl (by omega) (by decide) rfl ?_
  refine qr_topI (fun v1 hv1 => ?_)
  have hs2 : 0 ≤ v1 ∧ v1 ≤ 6 := by rw [hv1]; exact hI.2.1 45 _ (show _ < 6 by omega)
  refine qr_iconst 7 rfl rfl ?_
  refine qr_icmp_ne 19 10 rfl rfl rfl (by omega) (by omega) (fun h3 => ?_) (fun h3 => ?_)
  · skip
    refine qr_iconst 20 rfl rfl ?_
    refine qr_retI rfl rfl (by decide) (by decide) ?_
    exact ⟨rfl, (-1), rfl, by omega⟩
  · skip
    refine qr_aload_n 11 rfl rfl rfl ?_
    refine qr_get 14 rfl rfl rfl (by decide) rfl ?_
    refine qr_iload_n 15 rfl rfl rfl ?_
    refine qr_iaload 16 rfl rfl (by omega) (by decide) rfl ?_
    refine qr_topI (fun v4 hv4 => ?_)
    have hs5 : (-1) ≤ v4 ∧ v4 ≤ 59 := by rw [hv4]; exact hI.2.1 47 _ (show _ < 6 by omega)
    refine qr_goto 20 rfl rfl ?_
    refine qr_retI rfl rfl (by decide) (by decide) ?_
    exact ⟨rfl, v4, rfl, by omega⟩

set_option maxHeartbeats 4000000 in
set_option maxRecDepth 20000 in
/-- OneRoof$Moment.cell -/
theorem sf_93 {L : Nat} {xs : Nat → Int} {vb : Bool} {d : Nat} {σ α : Nat → Nat → Int} {κ : Nat → Option Nat} {ρ : Nat} {x0 : Int} {x1 : Int} (hI : qI σ α κ ρ) (r0 : 0 ≤ x0 ∧ x0 ≤ 31) (r1 : 0 ≤ x1 ∧ x1 ≤ 31) (p0 : ¬ x0 = x1) : qm_T (qe L xs vb) (d + 2) 93 [.int (qz x0), .int (qz x1)] (qw σ α κ ρ) (fun r w' => w' = qw σ α κ ρ ∧ ∃ v : Int, r = some (.int (qz v)) ∧ (0 ≤ v ∧ v ≤ 495)) := by
  refine qr_start (d := d + 1) qv_e93 (Nat.le_of_ble_eq_true rfl) ?_
  show qr_W (qe L xs vb) (d + 1) qx_e93 _ (0, [(0, .int (qz x0)), (1, .int (qz x1))], [], _, 0, 0)
  refine qr_iload_n 1 rfl rfl rfl ?_
  refine qr_iload_n 2 rfl rfl rfl ?_
  refine qr_callN 5 rfl rfl rfl (sf_12 (d := d + 0) hI (by omega) (by omega)) ?_
  rintro _ _ ⟨rfl, v1, rfl, hv1, hp2⟩
  show qr_W (qe L xs vb) (d + 1) qx_e93 _ (5, _, [.int (qz v1)], qw σ α κ ρ, 0, 0)
  refine qr_istore_n _ 6 rfl (by decide) rfl rfl ?_
  refine qr_iload_n 7 rfl rfl rfl ?_
  refine qr_iload_n 8 rfl rfl rfl ?_
  refine qr_callN 11 rfl rfl rfl (sf_30 (d := d + 0) hI (by omega) (by omega)) ?_
  rintro _ _ ⟨rfl, v3, rfl, hv3, hp4⟩
  show qr_W (qe L xs vb) (d + 1) qx_e93 _ (11, _, [.int (qz v3)], qw σ α κ ρ, 0, 0)
  refine qr_istore_n _ 12 rfl (by decide) rfl rfl ?_
  refine qr_iload_n 13 rfl rfl rfl ?_
  refine qr_iload_n 14 rfl rfl rfl ?_
  refine qr_iconst 15 rfl rfl ?_
  refine qr_isub 16 rfl rfl ?_
  refine qr_imul 17 rfl rfl ?_
  refine qy_mulb (A := 31) (B := 30) (C := 930) (by omega) (by omega) (by decide) (fun v5 hv5 => ?_)
  refine qr_iconst 18 rfl rfl ?_
  refine qr_idiv 19 rfl (by omega) (by omega) rfl ?_
  refine qr_iload_n 20 rfl rfl rfl ?_
  refine qr_iadd 21 rfl rfl ?_
  refine qr_retI rfl rfl (by decide) (by decide) ?_
  exact ⟨rfl, ((v5 / 2) + v1), rfl, by omega⟩

set_option maxHeartbeats 4000000 in
set_option maxRecDepth 20000 in
/-- java/util/Arrays.fill -/
theorem sf_4_66 {L : Nat} {xs : Nat → Int} {vb : Bool} {d : Nat} {σ α : Nat → Nat → Int} {κ : Nat → Option Nat} {ρ : Nat} {x1 : Int} (hI : qI σ α κ ρ) (r1 : (-2147483648) ≤ x1 ∧ x1 ≤ 2147483647) : qm_T (qe L xs vb) (d + 1) 4 [.ref 66, .int (qz x1)] (qw σ α κ ρ) (fun r w' => ∃ α', w' = qw σ α' κ ρ ∧ qI σ α' κ ρ ∧ qFr [] [66] σ α σ α' ∧ r = none) := by
  refine qr_start (d := d + 0) qv_e4 (Nat.le_of_ble_eq_true rfl) ?_
  show qr_W (qe L xs vb) (d + 0) qx_e4 _ (0, [(0, .ref 66), (1, .int (qz x1))], [], _, 0, 0)
  have hF0 := qFr_rf [] [66] σ α
  refine qr_iconst 1 rfl rfl ?_
  refine qr_istore_n _ 2 rfl (by decide) rfl rfl ?_
  refine qr_aload_n 3 rfl rfl rfl ?_
  refine qr_alen 4 rfl rfl (by first | exact Or.inl (by decide) | exact Or.inr (Or.inl rfl) | exact Or.inr (Or.inr (Or.inl rfl)) | exact Or.inr (Or.inr (Or.inr (Or.inl rfl)))) rfl ?_
  refine qy_v 12 rfl ?_
  refine qr_istore_n _ 5 rfl (by decide) rfl rfl ?_
  have hL99 : ∀ (n : Nat) (ls : qm_L) (u92 : Int) (α95 : Nat → Nat → Int), 12 - u92 < (n : Int) → qm_get ls 0 = some (.ref 66) → qm_get ls 1 = some (.int (qz x1)) → qm_get ls 2 = some (.int (qz u92)) → qm_get ls 3 = some (.int (qz 12)) → (0 ≤ u92 ∧ u92 ≤ 12) → qI σ α95 κ ρ → qFr [] [66] σ α σ α95 → qr_W (qe L xs vb) (d + 0) qx_e4 (fun r w' => ∃ α', w' = qw σ α' κ ρ ∧ qI σ α' κ ρ ∧ qFr [] [66] σ α σ α' ∧ r = none) (5, ls, [], qw σ α95 κ ρ, 0, 0) := by
    intro n
    induction n with
    | zero => intro ls u92 α95 hm g89 g90 g91 g93 hf98 hI96 hF97; exact False.elim (by omega)
    | succ n ih100 =>
      intro ls u92 α95 hm g89 g90 g91 g93 hf98 hI96 hF97
      refine qr_iload_n 6 rfl g91 rfl ?_
      refine qr_iload_n 7 rfl g93 rfl ?_
      refine qr_icmp_ge 20 10 rfl rfl rfl (by omega) (by omega) (fun h101 => ?_) (fun h101 => ?_)
      · skip
        refine qr_retV rfl rfl (by decide) (by decide) ?_
        exact ⟨_, rfl, hI96, hF97, rfl⟩
      · skip
        refine qr_aload_n 11 rfl g89 rfl ?_
        refine qr_iload_n 12 rfl g91 rfl ?_
        refine qr_iload_n 13 rfl g90 rfl ?_
        refine qr_iastore 14 rfl (by decide) rfl (by omega) (by decide) rfl ?_
        refine qy_wA (qw_r α95 66 (qzu (α95 66) (u92 : Int).toNat x1)) rfl (fun α102 e103 => ?_)
        have hI104 : qI σ α102 κ ρ := by rw [e103]; exact qI_r hI96 66 _ rfl (show (-2147483648) ≤ x1 ∧ x1 ≤ 2147483647 by omega)
        have hF105 : qFr [] [66] σ α σ α102 := by rw [e103]; exact qFr_r hF97 66 _ (by decide)
        refine qr_iinc _ 17 rfl g91 (by decide) rfl rfl ?_
        refine qr_goto 5 rfl rfl ?_
        exact ih100 _ (u92 + 1) α102 (by omega) (qm_gk g89 (by decide) (Or.inl (by decide))) (qm_gk g90 (by decide) (Or.inr rfl)) (qm_ge _ _ _) (qm_gk g93 (by decide) (Or.inl (by decide))) (by omega) hI104 hF105
  exact hL99 ((12 - 0 + 1 : Int)).toNat _ 0 α (by omega) rfl rfl rfl rfl (by omega) hI hF0

set_option maxHeartbeats 4000000 in
set_option maxRecDepth 20000 in
/-- java/util/Arrays.fill -/
theorem sf_4_68 {L : Nat} {xs : Nat → Int} {vb : Bool} {d : Nat} {σ α : Nat → Nat → Int} {κ : Nat → Option Nat} {ρ : Nat} {x1 : Int} (hI : qI σ α κ ρ) (r1 : (-2147483648) ≤ x1 ∧ x1 ≤ 2147483647) : qm_T (qe L xs vb) (d + 1) 4 [.ref 68, .int (qz x1)] (qw σ α κ ρ) (fun r w' => ∃ α', w' = qw σ α' κ ρ ∧ qI σ α' κ ρ ∧ qFr [] [68] σ α σ α' ∧ r = none) := by
  refine qr_start (d := d + 0) qv_e4 (Nat.le_of_ble_eq_true rfl) ?_
  show qr_W (qe L xs vb) (d + 0) qx_e4 _ (0, [(0, .ref 68), (1, .int (qz x1))], [], _, 0, 0)
  have hF0 := qFr_rf [] [68] σ α
  refine qr_iconst 1 rfl rfl ?_
  refine qr_istore_n _ 2 rfl (by decide) rfl rfl ?_
  refine qr_aload_n 3 rfl rfl rfl ?_
  refine qr_alen 4 rfl rfl (by first | exact Or.inl (by decide) | exact Or.inr (Or.inl rfl) | exact Or.inr (Or.inr (Or.inl rfl)) | exact Or.inr (Or.inr (Or.inr (Or.inl rfl)))) rfl ?_
  refine qy_v 36 rfl ?_
  refine qr_istore_n _ 5 rfl (by decide) rfl rfl ?_
  have hL147 : ∀ (n : Nat) (ls : qm_L) (u140 : Int) (α143 : Nat → Nat → Int), 36 - u140 < (n : Int) → qm_get ls 0 = some (.ref 68) → qm_get ls 1 = some (.int (qz x1)) → qm_get ls 2 = some (.int (qz u140)) → qm_get ls 3 = some (.int (qz 36)) → (0 ≤ u140 ∧ u140 ≤ 36) → qI σ α143 κ ρ → qFr [] [68] σ α σ α143 → qr_W (qe L xs vb) (d + 0) qx_e4 (fun r w' => ∃ α', w' = qw σ α' κ ρ ∧ qI σ α' κ ρ ∧ qFr [] [68] σ α σ α' ∧ r = none) (5, ls, [], qw σ α143 κ ρ, 0, 0) := by
    intro n
    induction n with
    | zero => intro ls u140 α143 hm g137 g138 g139 g141 hf146 hI144 hF145; exact False.elim (by omega)
    | succ n ih148 =>
      intro ls u140 α143 hm g137 g138 g139 g141 hf146 hI144 hF145
      refine qr_iload_n 6 rfl g139 rfl ?_
      refine qr_iload_n 7 rfl g141 rfl ?_
      refine qr_icmp_ge 20 10 rfl rfl rfl (by omega) (by omega) (fun h149 => ?_) (fun h149 => ?_)
      · skip
        refine qr_retV rfl rfl (by decide) (by decide) ?_
        exact ⟨_, rfl, hI144, hF145, rfl⟩
      · skip
        refine qr_aload_n 11 rfl g137 rfl ?_
        refine qr_iload_n 12 rfl g139 rfl ?_
        refine qr_iload_n 13 rfl g138 rfl ?_
        refine qr_iastore 14 rfl (by decide) rfl (by omega) (by decide) rfl ?_
        refine qy_wA (qw_r α143 68 (qzu (α143 68) (u140 : Int).toNat x1)) rfl (fun α150 e151 => ?_)
        have hI152 : qI σ α150 κ ρ := by rw [e151]; exact qI_r hI144 68 _ rfl (show (-2147483648) ≤ x1 ∧ x1 ≤ 2147483647 by omega)
        have hF153 : qFr [] [68] σ α σ α150 := by rw [e151]; exact qFr_r hF145 68 _ (by decide)
        refine qr_iinc _ 17 rfl g139 (by decide) rfl rfl ?_
        refine qr_goto 5 rfl rfl ?_
        exact ih148 _ (u140 + 1) α150 (by omega) (qm_gk g137 (by decide) (Or.inl (by decide))) (qm_gk g138 (by decide) (Or.inr rfl)) (qm_ge _ _ _) (qm_gk g141 (by decide) (Or.inl (by decide))) (by omega) hI152 hF153
  exact hL147 ((36 - 0 + 1 : Int)).toNat _ 0 α (by omega) rfl rfl rfl rfl (by omega) hI hF0
