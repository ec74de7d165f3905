set_option maxHeartbeats 4000000 in
set_option maxRecDepth 20000 in
/-- OneRoof$Acts.runFrom -/
theorem sf_151_42f2_2_0 {L : Nat} {xs : Nat → Int} {vb : Bool} {d : Nat} {σ α : Nat → Nat → Int} {κ : Nat → Option Nat} {ρ : Nat} {x4 : Int} {x5 : Int} {x6 : Int} (hI : qI σ α κ ρ) (r4 : (-2147483648) ≤ x4 ∧ x4 ≤ 2147483647) (r5 : (-2147483648) ≤ x5 ∧ x5 ≤ 2147483647) (r6 : 0 ≤ x6 ∧ x6 ≤ 37) (p0 : 0 ≤ σ 42 1 ∧ σ 42 1 ≤ 1700) : qm_T (qe L xs vb) (d + 6) 151 [.ref 42, .int (qz 2), .int (qz 2), .int (qz 0), .int (qz x4), .int (qz x5), .int (qz x6)] (qw σ α κ ρ) (fun r w' => ∃ σ' α', w' = qw σ' α' κ ρ ∧ qI σ' α' κ ρ ∧ qFr [(42, 1)] [43] σ α σ' α' ∧ ∃ v : Int, r = some (.int (qz v)) ∧ ((-2147483648) ≤ v ∧ v ≤ 2147483647) ∧ σ' 42 1 = σ 42 1 + 3) := by
  refine qr_start (d := d + 5) qv_e151 (Nat.le_of_ble_eq_true rfl) ?_
  show qr_W (qe L xs vb) (d + 5) qx_e151 _ (0, [(0, .ref 42), (1, .int (qz 2)), (2, .int (qz 2)), (3, .int (qz 0)), (4, .int (qz x4)), (5, .int (qz x5)), (6, .int (qz x6))], [], _, 0, 0)
  have hF0 := qFr_rf [(42, 1)] [43] σ α
  have hz42_1 : (-2147483648) ≤ σ 42 1 ∧ σ 42 1 ≤ 2147483647 := hI.1 42 1
  refine qr_iload_n 1 rfl rfl rfl ?_
  refine qr_istore _ 3 rfl (by decide) rfl rfl ?_
  refine qr_iconst 4 rfl rfl ?_
  refine qr_istore _ 6 rfl (by decide) rfl rfl ?_
  refine qr_iload 8 rfl rfl rfl ?_
  refine qr_getst 11 rfl rfl ?_
  refine qr_alen 12 rfl rfl (by first | exact Or.inl (by decide) | exact Or.inr (Or.inl rfl) | exact Or.inr (Or.inr (Or.inl rfl)) | exact Or.inr (Or.inr (Or.inr (Or.inl rfl)))) rfl ?_
  refine qy_v 7 rfl ?_
  refine qr_icmp_ge 89 15 rfl rfl rfl (by omega) (by omega) (fun h => False.elim (by omega)) (fun h1 => ?_)
  refine qr_iload 17 rfl rfl rfl ?_
  refine qr_if_lt 89 20 rfl rfl rfl (by omega) (fun h => False.elim (by omega)) (fun h2 => ?_)
  refine qr_iload 22 rfl rfl rfl ?_
  refine qr_getst 25 rfl rfl ?_
  refine qr_alen 26 rfl rfl (by first | exact Or.inl (by decide) | exact Or.inr (Or.inl rfl) | exact Or.inr (Or.inr (Or.inl rfl)) | exact Or.inr (Or.inr (Or.inr (Or.inl rfl)))) rfl ?_
  refine qy_v 7 rfl ?_
  refine qr_icmp_ge 89 29 rfl rfl rfl (by omega) (by omega) (fun h => False.elim (by omega)) (fun h3 => ?_)
  refine qr_getst 32 rfl rfl ?_
  refine qr_iload 34 rfl rfl rfl ?_
  refine qr_iconst 35 rfl rfl ?_
  refine qr_imul 36 rfl rfl ?_
  refine qy_v 8 rfl ?_
  refine qr_iload_n 37 rfl rfl rfl ?_
  refine qr_iadd 38 rfl rfl ?_
  refine qy_v 8 rfl ?_
  refine qr_iaload 39 rfl rfl (by omega) (by decide) rfl ?_
  refine qy_v 31 (by decide) ?_
  refine qr_istore _ 41 rfl (by decide) rfl rfl ?_
  refine qr_iload 43 rfl rfl rfl ?_
  refine qr_if_eq 75 46 rfl rfl rfl (by omega) (fun h => False.elim (by omega)) (fun h4 => ?_)
  refine qr_iload 48 rfl rfl rfl ?_
  refine qr_bipush 50 rfl (by decide) rfl ?_
  refine qr_icmp_le 57 53 rfl rfl rfl (by omega) (by omega) (fun h5 => ?_) (fun h => False.elim (by omega))
  refine qr_aload_n 58 rfl rfl rfl ?_
  refine qr_iload 60 rfl rfl rfl ?_
  refine qr_iload 62 rfl rfl rfl ?_
  refine qr_iload_n 63 rfl rfl rfl ?_
  refine qr_iload 65 rfl rfl rfl ?_
  refine qr_iload 67 rfl rfl rfl ?_
  refine qr_iload 69 rfl rfl rfl ?_
  refine qr_iconst 70 rfl rfl ?_
  refine qr_iadd 71 rfl rfl ?_
  refine qr_callN 74 rfl rfl rfl (sf_152_42b31_2_2 (d := d + 0) hI (by omega) (by omega) (by omega) (by omega)) ?_
  have hs8 : (-2147483648) ≤ σ 42 1 ∧ σ 42 1 ≤ 2147483647 := hI.1 42 1
  rintro _ _ ⟨σ9, α10, rfl, hI11, hG12, v6, rfl, hv6, hp7⟩
  have hF13 : qFr [(42, 1)] [43] σ α σ9 α10 := qFr_t hF0 hG12 (by decide) (by decide)
  have hs14 : (-2147483648) ≤ σ9 42 1 ∧ σ9 42 1 ≤ 2147483647 := hI11.1 42 1
  show qr_W (qe L xs vb) (d + 5) qx_e151 _ (74, _, [.int (qz v6)], qw σ9 α10 κ ρ, 0, 0)
  refine qr_retI rfl rfl (by decide) (by decide) ?_
  exact ⟨_, _, rfl, hI11, hF13, v6, rfl, by omega, by omega⟩

set_option maxHeartbeats 4000000 in
set_option maxRecDepth 20000 in
/-- OneRoof$Acts.run -/
theorem sf_150_42r2_0 {L : Nat} {xs : Nat → Int} {vb : Bool} {d : Nat} {σ α : Nat → Nat → Int} {κ : Nat → Option Nat} {ρ : Nat} {x3 : Int} {x4 : Int} {x5 : Int} (hI : qI σ α κ ρ) (r3 : (-2147483648) ≤ x3 ∧ x3 ≤ 2147483647) (r4 : (-2147483648) ≤ x4 ∧ x4 ≤ 2147483647) (r5 : 0 ≤ x5 ∧ x5 ≤ 37) (p0 : 0 ≤ σ 42 1 ∧ σ 42 1 ≤ 1700) : qm_T (qe L xs vb) (d + 7) 150 [.ref 42, .int (qz 2), .int (qz 0), .int (qz x3), .int (qz x4), .int (qz x5)] (qw σ α κ ρ) (fun r w' => ∃ σ' α', w' = qw σ' α' κ ρ ∧ qI σ' α' κ ρ ∧ qFr [(42, 1)] [43] σ α σ' α' ∧ ∃ v : Int, r = some (.int (qz v)) ∧ ((-2147483648) ≤ v ∧ v ≤ 2147483647) ∧ σ' 42 1 = σ 42 1 + 3) := by
  refine qr_start (d := d + 6) qv_e150 (Nat.le_of_ble_eq_true rfl) ?_
  show qr_W (qe L xs vb) (d + 6) qx_e150 _ (0, [(0, .ref 42), (1, .int (qz 2)), (2, .int (qz 0)), (3, .int (qz x3)), (4, .int (qz x4)), (5, .int (qz x5))], [], _, 0, 0)
  have hF0 := qFr_rf [(42, 1)] [43] σ α
  have hz42_1 : (-2147483648) ≤ σ 42 1 ∧ σ 42 1 ≤ 2147483647 := hI.1 42 1
  refine qr_aload_n 1 rfl rfl rfl ?_
  refine qr_iload_n 2 rfl rfl rfl ?_
  refine qr_iload_n 3 rfl rfl rfl ?_
  refine qr_iload_n 4 rfl rfl rfl ?_
  refine qr_iload_n 5 rfl rfl rfl ?_
  refine qr_iload 7 rfl rfl rfl ?_
  refine qr_iload 9 rfl rfl rfl ?_
  refine qr_callN 12 rfl rfl rfl (sf_151_42f2_2_0 (d := d + 0) hI (by omega) (by omega) (by omega) (by omega)) ?_
  have hs3 : (-2147483648) ≤ σ 42 1 ∧ σ 42 1 ≤ 2147483647 := hI.1 42 1
  rintro _ _ ⟨σ4, α5, rfl, hI6, hG7, v1, rfl, hv1, hp2⟩
  have hF8 : qFr [(42, 1)] [43] σ α σ4 α5 := qFr_t hF0 hG7 (by decide) (by decide)
  have hs9 : (-2147483648) ≤ σ4 42 1 ∧ σ4 42 1 ≤ 2147483647 := hI6.1 42 1
  show qr_W (qe L xs vb) (d + 6) qx_e150 _ (12, _, [.int (qz v1)], qw σ4 α5 κ ρ, 0, 0)
  refine qr_retI rfl rfl (by decide) (by decide) ?_
  exact ⟨_, _, rfl, hI6, hF8, v1, rfl, by omega, by omega⟩

set_option maxHeartbeats 4000000 in
set_option maxRecDepth 20000 in
/-- OneRoof$Acts.start -/
theorem sf_149_42s2_0 {L : Nat} {xs : Nat → Int} {vb : Bool} {d : Nat} {σ α : Nat → Nat → Int} {κ : Nat → Option Nat} {ρ : Nat} {x3 : Int} {x4 : Int} (hI : qI σ α κ ρ) (r3 : (-2147483648) ≤ x3 ∧ x3 ≤ 2147483647) (r4 : (-2147483648) ≤ x4 ∧ x4 ≤ 2147483647) (p0 : σ 42 1 = 0) : qm_T (qe L xs vb) (d + 8) 149 [.ref 42, .int (qz 2), .int (qz 0), .int (qz x3), .int (qz x4)] (qw σ α κ ρ) (fun r w' => ∃ σ' α', w' = qw σ' α' κ ρ ∧ qI σ' α' κ ρ ∧ qFr [(42, 1)] [43] σ α σ' α' ∧ ∃ v : Int, r = some (.int (qz v)) ∧ ((-2147483648) ≤ v ∧ v ≤ 2147483647)) := by
  refine qr_start (d := d + 7) qv_e149 (Nat.le_of_ble_eq_true rfl) ?_
  show qr_W (qe L xs vb) (d + 7) qx_e149 _ (0, [(0, .ref 42), (1, .int (qz 2)), (2, .int (qz 0)), (3, .int (qz x3)), (4, .int (qz x4))], [], _, 0, 0)
  have hF0 := qFr_rf [(42, 1)] [43] σ α
  have hz42_1 : (-2147483648) ≤ σ 42 1 ∧ σ 42 1 ≤ 2147483647 := hI.1 42 1
  refine qr_aload_n 1 rfl rfl rfl ?_
  refine qr_iload_n 2 rfl rfl rfl ?_
  refine qr_iload_n 3 rfl rfl rfl ?_
  refine qr_iload_n 4 rfl rfl rfl ?_
  refine qr_iload 6 rfl rfl rfl ?_
  refine qr_iconst 7 rfl rfl ?_
  refine qr_callN 10 rfl rfl rfl (sf_150_42r2_0 (d := d + 0) hI (by omega) (by omega) (by omega) (by omega)) ?_
  have hs3 : (-2147483648) ≤ σ 42 1 ∧ σ 42 1 ≤ 2147483647 := hI.1 42 1
  rintro _ _ ⟨σ4, α5, rfl, hI6, hG7, v1, rfl, hv1, hp2⟩
  have hF8 : qFr [(42, 1)] [43] σ α σ4 α5 := qFr_t hF0 hG7 (by decide) (by decide)
  have hs9 : (-2147483648) ≤ σ4 42 1 ∧ σ4 42 1 ≤ 2147483647 := hI6.1 42 1
  show qr_W (qe L xs vb) (d + 7) qx_e149 _ (10, _, [.int (qz v1)], qw σ4 α5 κ ρ, 0, 0)
  refine qr_retI rfl rfl (by decide) (by decide) ?_
  exact ⟨_, _, rfl, hI6, hF8, v1, rfl, by omega⟩

set_option maxHeartbeats 4000000 in
set_option maxRecDepth 20000 in
/-- OneRoof$Acts.begin -/
theorem sf_152_42b1_0_3 {L : Nat} {xs : Nat → Int} {vb : Bool} {d : Nat} {σ α : Nat → Nat → Int} {κ : Nat → Option Nat} {ρ : Nat} {x4 : Int} {x5 : Int} {x6 : Int} (hI : qI σ α κ ρ) (r4 : (-2147483648) ≤ x4 ∧ x4 ≤ 2147483647) (r5 : (-2147483648) ≤ x5 ∧ x5 ≤ 2147483647) (r6 : 0 ≤ x6 ∧ x6 ≤ 40) (p0 : 0 ≤ σ 42 1 ∧ σ 42 1 ≤ 1900) : qm_T (qe L xs vb) (d + 1) 152 [.ref 42, .int (qz 1), .int (qz 0), .int (qz 3), .int (qz x4), .int (qz x5), .int (qz x6)] (qw σ α κ ρ) (fun r w' => ∃ σ' α', w' = qw σ' α' κ ρ ∧ qI σ' α' κ ρ ∧ qFr [(42, 1)] [43] σ α σ' α' ∧ ∃ v : Int, r = some (.int (qz v)) ∧ ((-2147483648) ≤ v ∧ v ≤ 2147483647) ∧ σ' 42 1 = σ 42 1 + 1) := by
  refine qr_start (d := d + 0) qv_e152 (Nat.le_of_ble_eq_true rfl) ?_
  show qr_W (qe L xs vb) (d + 0) qx_e152 _ (0, [(0, .ref 42), (1, .int (qz 1)), (2, .int (qz 0)), (3, .int (qz 3)), (4, .int (qz x4)), (5, .int (qz x5)), (6, .int (qz x6))], [], _, 0, 0)
  have hF0 := qFr_rf [(42, 1)] [43] σ α
  have hz42_1 : (-2147483648) ≤ σ 42 1 ∧ σ 42 1 ≤ 2147483647 := hI.1 42 1
  refine qr_aload_n 1 rfl rfl rfl ?_
  refine qr_get 4 rfl rfl rfl (by decide) rfl ?_
  refine qr_aload_n 5 rfl rfl rfl ?_
  refine qr_get 8 rfl rfl rfl (by decide) rfl ?_
  refine qr_alen 9 rfl rfl (by first | exact Or.inl (by decide) | exact Or.inr (Or.inl rfl) | exact Or.inr (Or.inr (Or.inl rfl)) | exact Or.inr (Or.inr (Or.inr (Or.inl rfl)))) rfl ?_
  refine qy_v 24 rfl ?_
  refine qr_icmp_ge 22 12 rfl rfl rfl (by omega) (by omega) (fun h1 => ?_) (fun h1 => ?_)
  · skip
    refine qr_aload_n 23 rfl rfl rfl ?_
    refine qr_dup 24 rfl rfl rfl ?_
    refine qr_get 27 rfl rfl rfl (by decide) rfl ?_
    refine qr_iconst 28 rfl rfl ?_
    refine qr_iadd 29 rfl rfl ?_
    refine qr_put 32 rfl (by decide) rfl (Nat.le_of_ble_eq_true rfl) (Nat.le_of_ble_eq_true rfl) (Or.inl rfl) (qr_fitI rfl _) rfl ?_
    refine qy_wS (qw_s σ 42 1 ((σ 42 1) + 1)) rfl (fun σ2 e3 => ?_)
    have hI4 : qI σ2 α κ ρ := by rw [e3]; exact qI_s hI 42 1 rfl (show (-2147483648) ≤ ((σ 42 1) + 1) ∧ ((σ 42 1) + 1) ≤ 2147483647 by omega)
    have hF5 : qFr [(42, 1)] [43] σ α σ2 α := by rw [e3]; exact qFr_s hF0 42 1 _ (by decide)
    refine qr_getst 35 rfl rfl ?_
    refine qr_iload_n 36 rfl rfl rfl ?_
    refine qr_iaload 37 rfl rfl (by omega) (by decide) rfl ?_
    refine qy_v (-1) (by decide) ?_
    refine qr_istore _ 39 rfl (by decide) rfl rfl ?_
    refine qr_iload_n 40 rfl rfl rfl ?_
    refine qr_look (off := 108) 148 rfl (by omega) (by decide) (by decide) rfl ?_
    refine qr_iload 150 rfl rfl rfl ?_
    refine qr_iload 152 rfl rfl rfl ?_
    refine qr_iadd 153 rfl rfl ?_
    refine qy_can (fun v6 hv6 => ?_)
    refine qr_retI rfl rfl (by decide) (by decide) ?_
    have hw7 : σ2 42 1 = ((σ 42 1) + 1) := (congrFun (congrFun e3 42) 1).trans rfl
    exact ⟨_, _, rfl, hI4, hF5, v6, rfl, by omega, by omega⟩
  · skip
    refine qr_aload_n 13 rfl rfl rfl ?_
    refine qr_get 16 rfl rfl rfl (by decide) rfl ?_
    refine qr_aload_n 17 rfl rfl rfl ?_
    refine qr_get 20 rfl rfl rfl (by decide) rfl ?_
    refine qr_iload_n 21 rfl rfl rfl ?_
    refine qr_iastore 22 rfl (by decide) rfl (by omega) (by decide) rfl ?_
    refine qy_wA (qw_r α 43 (qzu (α 43) ((σ 42 1) : Int).toNat 1)) rfl (fun α8 e9 => ?_)
    have hI10 : qI σ α8 κ ρ := by rw [e9]; exact qI_r hI 43 _ rfl (show (-2147483648) ≤ 1 ∧ 1 ≤ 2147483647 by omega)
    have hF11 : qFr [(42, 1)] [43] σ α σ α8 := by rw [e9]; exact qFr_r hF0 43 _ (by decide)
    refine qr_aload_n 23 rfl rfl rfl ?_
    refine qr_dup 24 rfl rfl rfl ?_
    refine qr_get 27 rfl rfl rfl (by decide) rfl ?_
    refine qr_iconst 28 rfl rfl ?_
    refine qr_iadd 29 rfl rfl ?_
    refine qr_put 32 rfl (by decide) rfl (Nat.le_of_ble_eq_true rfl) (Nat.le_of_ble_eq_true rfl) (Or.inl rfl) (qr_fitI rfl _) rfl ?_
    refine qy_wS (qw_s σ 42 1 ((σ 42 1) + 1)) rfl (fun σ12 e13 => ?_)
    have hI14 : qI σ12 α8 κ ρ := by rw [e13]; exact qI_s hI10 42 1 rfl (show (-2147483648) ≤ ((σ 42 1) + 1) ∧ ((σ 42 1) + 1) ≤ 2147483647 by omega)
    have hF15 : qFr [(42, 1)] [43] σ α σ12 α8 := by rw [e13]; exact qFr_s hF11 42 1 _ (by decide)
    refine qr_getst 35 rfl rfl ?_
    refine qr_iload_n 36 rfl rfl rfl ?_
    refine qr_iaload 37 rfl rfl (by omega) (by decide) rfl ?_
    refine qy_v (-1) (by decide) ?_
    refine qr_istore _ 39 rfl (by decide) rfl rfl ?_
    refine qr_iload_n 40 rfl rfl rfl ?_
    refine qr_look (off := 108) 148 rfl (by omega) (by decide) (by decide) rfl ?_
    refine qr_iload 150 rfl rfl rfl ?_
    refine qr_iload 152 rfl rfl rfl ?_
    refine qr_iadd 153 rfl rfl ?_
    refine qy_can (fun v16 hv16 => ?_)
    refine qr_retI rfl rfl (by decide) (by decide) ?_
    have hw17 : σ12 42 1 = ((σ 42 1) + 1) := (congrFun (congrFun e13 42) 1).trans rfl
    exact ⟨_, _, rfl, hI14, hF15, v16, rfl, by omega, by omega⟩

set_option maxHeartbeats 4000000 in
set_option maxRecDepth 20000 in
/-- OneRoof$Acts.runFrom -/
theorem sf_151_42f3_3_0 {L : Nat} {xs : Nat → Int} {vb : Bool} {d : Nat} {σ α : Nat → Nat → Int} {κ : Nat → Option Nat} {ρ : Nat} {x4 : Int} {x5 : Int} {x6 : Int} (hI : qI σ α κ ρ) (r4 : (-2147483648) ≤ x4 ∧ x4 ≤ 2147483647) (r5 : (-2147483648) ≤ x5 ∧ x5 ≤ 2147483647) (r6 : 0 ≤ x6 ∧ x6 ≤ 39) (p0 : 0 ≤ σ 42 1 ∧ σ 42 1 ≤ 1900) : qm_T (qe L xs vb) (d + 2) 151 [.ref 42, .int (qz 3), .int (qz 3), .int (qz 0), .int (qz x4), .int (qz x5), .int (qz x6)] (qw σ α κ ρ) (fun r w' => ∃ σ' α', w' = qw σ' α' κ ρ ∧ qI σ' α' κ ρ ∧ qFr [(42, 1)] [43] σ α σ' α' ∧ ∃ v : Int, r = some (.int (qz v)) ∧ ((-2147483648) ≤ v ∧ v ≤ 2147483647) ∧ σ' 42 1 = σ 42 1 + 1) := by
  refine qr_start (d := d + 1) qv_e151 (Nat.le_of_ble_eq_true rfl) ?_
  show qr_W (qe L xs vb) (d + 1) qx_e151 _ (0, [(0, .ref 42), (1, .int (qz 3)), (2, .int (qz 3)), (3, .int (qz 0)), (4, .int (qz x4)), (5, .int (qz x5)), (6, .int (qz x6))], [], _, 0, 0)
  have hF0 := qFr_rf [(42, 1)] [43] σ α
  have hz42_1 : (-2147483648) ≤ σ 42 1 ∧ σ 42 1 ≤ 2147483647 := hI.1 42 1
  refine qr_iload_n 1 rfl rfl rfl ?_
  refine qr_istore _ 3 rfl (by decide) rfl rfl ?_
  refine qr_iconst 4 rfl rfl ?_
  refine qr_istore _ 6 rfl (by decide) rfl rfl ?_
  refine qr_iload 8 rfl rfl rfl ?_
  refine qr_getst 11 rfl rfl ?_
  refine qr_alen 12 rfl rfl (by first | exact Or.inl (by decide) | exact Or.inr (Or.inl rfl) | exact Or.inr (Or.inr (Or.inl rfl)) | exact Or.inr (Or.inr (Or.inr (Or.inl rfl)))) rfl ?_
  refine qy_v 7 rfl ?_
  refine qr_icmp_ge 89 15 rfl rfl rfl (by omega) (by omega) (fun h => False.elim (by omega)) (fun h1 => ?_)
  refine qr_iload 17 rfl rfl rfl ?_
  refine qr_if_lt 89 20 rfl rfl rfl (by omega) (fun h => False.elim (by omega)) (fun h2 => ?_)
  refine qr_iload 22 rfl rfl rfl ?_
  refine qr_getst 25 rfl rfl ?_
  refine qr_alen 26 rfl rfl (by first | exact Or.inl (by decide) | exact Or.inr (Or.inl rfl) | exact Or.inr (Or.inr (Or.inl rfl)) | exact Or.inr (Or.inr (Or.inr (Or.inl rfl)))) rfl ?_
  refine qy_v 7 rfl ?_
  refine qr_icmp_ge 89 29 rfl rfl rfl (by omega) (by omega) (fun h => False.elim (by omega)) (fun h3 => ?_)
  refine qr_getst 32 rfl rfl ?_
  refine qr_iload 34 rfl rfl rfl ?_
  refine qr_iconst 35 rfl rfl ?_
  refine qr_imul 36 rfl rfl ?_
  refine qy_v 12 rfl ?_
  refine qr_iload_n 37 rfl rfl rfl ?_
  refine qr_iadd 38 rfl rfl ?_
  refine qy_v 12 rfl ?_
  refine qr_iaload 39 rfl rfl (by omega) (by decide) rfl ?_
  refine qy_v 0 (by decide) ?_
  refine qr_istore _ 41 rfl (by decide) rfl rfl ?_
  refine qr_iload 43 rfl rfl rfl ?_
  refine qr_if_eq 75 46 rfl rfl rfl (by omega) (fun h4 => ?_) (fun h => False.elim (by omega))
  refine qr_getst 78 rfl rfl ?_
  refine qr_iload 80 rfl rfl rfl ?_
  refine qr_iaload 81 rfl rfl (by omega) (by decide) rfl ?_
  refine qy_v 0 (by decide) ?_
  refine qr_istore _ 83 rfl (by decide) rfl rfl ?_
  refine qr_iinc _ 86 rfl rfl (by decide) rfl rfl ?_
  refine qr_goto 6 rfl rfl ?_
  refine qr_iload 8 rfl rfl rfl ?_
  refine qr_getst 11 rfl rfl ?_
  refine qr_alen 12 rfl rfl (by first | exact Or.inl (by decide) | exact Or.inr (Or.inl rfl) | exact Or.inr (Or.inr (Or.inl rfl)) | exact Or.inr (Or.inr (Or.inr (Or.inl rfl)))) rfl ?_
  refine qy_v 7 rfl ?_
  refine qr_icmp_ge 89 15 rfl rfl rfl (by omega) (by omega) (fun h => False.elim (by omega)) (fun h5 => ?_)
  refine qr_iload 17 rfl rfl rfl ?_
  refine qr_if_lt 89 20 rfl rfl rfl (by omega) (fun h => False.elim (by omega)) (fun h6 => ?_)
  refine qr_iload 22 rfl rfl rfl ?_
  refine qr_getst 25 rfl rfl ?_
  refine qr_alen 26 rfl rfl (by first | exact Or.inl (by decide) | exact Or.inr (Or.inl rfl) | exact Or.inr (Or.inr (Or.inl rfl)) | exact Or.inr (Or.inr (Or.inr (Or.inl rfl)))) rfl ?_
  refine qy_v 7 rfl ?_
  refine qr_icmp_ge 89 29 rfl rfl rfl (by omega) (by omega) (fun h => False.elim (by omega)) (fun h7 => ?_)
  refine qr_getst 32 rfl rfl ?_
  refine qr_iload 34 rfl rfl rfl ?_
  refine qr_iconst 35 rfl rfl ?_
  refine qr_imul 36 rfl rfl ?_
  refine qy_v 0 rfl ?_
  refine qr_iload_n 37 rfl rfl rfl ?_
  refine qr_iadd 38 rfl rfl ?_
  refine qy_v 0 rfl ?_
  refine qr_iaload 39 rfl rfl (by omega) (by decide) rfl ?_
  refine qy_v 1 (by decide) ?_
  refine qr_istore _ 41 rfl (by decide) rfl rfl ?_
  refine qr_iload 43 rfl rfl rfl ?_
  refine qr_if_eq 75 46 rfl rfl rfl (by omega) (fun h => False.elim (by omega)) (fun h8 => ?_)
  as_aux_lemma =>
    refine qr_iload 48 rfl rfl rfl ?_
    refine qr_bipush 50 rfl (by decide) rfl ?_
    refine qr_icmp_le 57 53 rfl rfl rfl (by omega) (by omega) (fun h9 => ?_) (fun h => False.elim (by omega))
    refine qr_aload_n 58 rfl rfl rfl ?_
    refine qr_iload 60 rfl rfl rfl ?_
    refine qr_iload 62 rfl rfl rfl ?_
    refine qr_iload_n 63 rfl rfl rfl ?_
    refine qr_iload 65 rfl rfl rfl ?_
    refine qr_iload 67 rfl rfl rfl ?_
    refine qr_iload 69 rfl rfl rfl ?_
    refine qr_iconst 70 rfl rfl ?_
    refine qr_iadd 71 rfl rfl ?_
    refine qr_callN 74 rfl rfl rfl (sf_152_42b1_0_3 (d := d + 0) hI (by omega) (by omega) (by omega) (by omega)) ?_
    have hs12 : (-2147483648) ≤ σ 42 1 ∧ σ 42 1 ≤ 2147483647 := hI.1 42 1
    rintro _ _ ⟨σ13, α14, rfl, hI15, hG16, v10, rfl, hv10, hp11⟩
    have hF17 : qFr [(42, 1)] [43] σ α σ13 α14 := qFr_t hF0 hG16 (by decide) (by decide)
    have hs18 : (-2147483648) ≤ σ13 42 1 ∧ σ13 42 1 ≤ 2147483647 := hI15.1 42 1
    show qr_W (qe L xs vb) (d + 1) qx_e151 _ (74, _, [.int (qz v10)], qw σ13 α14 κ ρ, 0, 0)
    refine qr_retI rfl rfl (by decide) (by decide) ?_
    exact ⟨_, _, rfl, hI15, hF17, v10, rfl, by omega, by omega⟩

set_option maxHeartbeats 4000000 in
set_option maxRecDepth 20000 in
/-- OneRoof$Acts.run -/
theorem sf_150_42r3_0 {L : Nat} {xs : Nat → Int} {vb : Bool} {d : Nat} {σ α : Nat → Nat → Int} {κ : Nat → Option Nat} {ρ : Nat} {x3 : Int} {x4 : Int} {x5 : Int} (hI : qI σ α κ ρ) (r3 : (-2147483648) ≤ x3 ∧ x3 ≤ 2147483647) (r4 : (-2147483648) ≤ x4 ∧ x4 ≤ 2147483647) (r5 : 0 ≤ x5 ∧ x5 ≤ 39) (p0 : 0 ≤ σ 42 1 ∧ σ 42 1 ≤ 1900) : qm_T (qe L xs vb) (d + 3) 150 [.ref 42, .int (qz 3), .int (qz 0), .int (qz x3), .int (qz x4), .int (qz x5)] (qw σ α κ ρ) (fun r w' => ∃ σ' α', w' = qw σ' α' κ ρ ∧ qI σ' α' κ ρ ∧ qFr [(42, 1)] [43] σ α σ' α' ∧ ∃ v : Int, r = some (.int (qz v)) ∧ ((-2147483648) ≤ v ∧ v ≤ 2147483647) ∧ σ' 42 1 = σ 42 1 + 1) := by
  refine qr_start (d := d + 2) qv_e150 (Nat.le_of_ble_eq_true rfl) ?_
  show qr_W (qe L xs vb) (d + 2) qx_e150 _ (0, [(0, .ref 42), (1, .int (qz 3)), (2, .int (qz 0)), (3, .int (qz x3)), (4, .int (qz x4)), (5, .int (qz x5))], [], _, 0, 0)
  have hF0 := qFr_rf [(42, 1)] [43] σ α
  have hz42_1 : (-2147483648) ≤ σ 42 1 ∧ σ 42 1 ≤ 2147483647 := hI.1 42 1
  refine qr_aload_n 1 rfl rfl rfl ?_
  refine qr_iload_n 2 rfl rfl rfl ?_
  refine qr_iload_n 3 rfl rfl rfl ?_
  refine qr_iload_n 4 rfl rfl rfl ?_
  refine qr_iload_n 5 rfl rfl rfl ?_
  refine qr_iload 7 rfl rfl rfl ?_
  refine qr_iload 9 rfl rfl rfl ?_
  refine qr_callN 12 rfl rfl rfl (sf_151_42f3_3_0 (d := d + 0) hI (by omega) (by omega) (by omega) (by omega)) ?_
  have hs3 : (-2147483648) ≤ σ 42 1 ∧ σ 42 1 ≤ 2147483647 := hI.1 42 1
  rintro _ _ ⟨σ4, α5, rfl, hI6, hG7, v1, rfl, hv1, hp2⟩
  have hF8 : qFr [(42, 1)] [43] σ α σ4 α5 := qFr_t hF0 hG7 (by decide) (by decide)
  have hs9 : (-2147483648) ≤ σ4 42 1 ∧ σ4 42 1 ≤ 2147483647 := hI6.1 42 1
  show qr_W (qe L xs vb) (d + 2) qx_e150 _ (12, _, [.int (qz v1)], qw σ4 α5 κ ρ, 0, 0)
  refine qr_retI rfl rfl (by decide) (by decide) ?_
  exact ⟨_, _, rfl, hI6, hF8, v1, rfl, by omega, by omega⟩

set_option maxHeartbeats 4000000 in
set_option maxRecDepth 20000 in
/-- OneRoof$Acts.start -/
theorem sf_149_42s3_0 {L : Nat} {xs : Nat → Int} {vb : Bool} {d : Nat} {σ α : Nat → Nat → Int} {κ : Nat → Option Nat} {ρ : Nat} {x3 : Int} {x4 : Int} (hI : qI σ α κ ρ) (r3 : (-2147483648) ≤ x3 ∧ x3 ≤ 2147483647) (r4 : (-2147483648) ≤ x4 ∧ x4 ≤ 2147483647) (p0 : σ 42 1 = 0) : qm_T (qe L xs vb) (d + 4) 149 [.ref 42, .int (qz 3), .int (qz 0), .int (qz x3), .int (qz x4)] (qw σ α κ ρ) (fun r w' => ∃ σ' α', w' = qw σ' α' κ ρ ∧ qI σ' α' κ ρ ∧ qFr [(42, 1)] [43] σ α σ' α' ∧ ∃ v : Int, r = some (.int (qz v)) ∧ ((-2147483648) ≤ v ∧ v ≤ 2147483647)) := by
  refine qr_start (d := d + 3) qv_e149 (Nat.le_of_ble_eq_true rfl) ?_
  show qr_W (qe L xs vb) (d + 3) qx_e149 _ (0, [(0, .ref 42), (1, .int (qz 3)), (2, .int (qz 0)), (3, .int (qz x3)), (4, .int (qz x4))], [], _, 0, 0)
  have hF0 := qFr_rf [(42, 1)] [43] σ α
  have hz42_1 : (-2147483648) ≤ σ 42 1 ∧ σ 42 1 ≤ 2147483647 := hI.1 42 1
  refine qr_aload_n 1 rfl rfl rfl ?_
  refine qr_iload_n 2 rfl rfl rfl ?_
  refine qr_iload_n 3 rfl rfl rfl ?_
  refine qr_iload_n 4 rfl rfl rfl ?_
  refine qr_iload 6 rfl rfl rfl ?_
  refine qr_iconst 7 rfl rfl ?_
  refine qr_callN 10 rfl rfl rfl (sf_150_42r3_0 (d := d + 0) hI (by omega) (by omega) (by omega) (by omega)) ?_
  have hs3 : (-2147483648) ≤ σ 42 1 ∧ σ 42 1 ≤ 2147483647 := hI.1 42 1
  rintro _ _ ⟨σ4, α5, rfl, hI6, hG7, v1, rfl, hv1, hp2⟩
  have hF8 : qFr [(42, 1)] [43] σ α σ4 α5 := qFr_t hF0 hG7 (by decide) (by decide)
  have hs9 : (-2147483648) ≤ σ4 42 1 ∧ σ4 42 1 ≤ 2147483647 := hI6.1 42 1
  show qr_W (qe L xs vb) (d + 3) qx_e149 _ (10, _, [.int (qz v1)], qw σ4 α5 κ ρ, 0, 0)
  refine qr_retI rfl rfl (by decide) (by decide) ?_
  exact ⟨_, _, rfl, hI6, hF8, v1, rfl, by omega⟩

set_option maxHeartbeats 4000000 in
set_option maxRecDepth 20000 in
/-- OneRoof$Acts.begin -/
theorem sf_152_42b1_0_4 {L : Nat} {xs : Nat → Int} {vb : Bool} {d : Nat} {σ α : Nat → Nat → Int} {κ : Nat → Option Nat} {ρ : Nat} {x4 : Int} {x5 : Int} {x6 : Int} (hI : qI σ α κ ρ) (r4 : (-2147483648) ≤ x4 ∧ x4 ≤ 2147483647) (r5 : (-2147483648) ≤ x5 ∧ x5 ≤ 2147483647) (r6 : 0 ≤ x6 ∧ x6 ≤ 40) (p0 : 0 ≤ σ 42 1 ∧ σ 42 1 ≤ 1900) : qm_T (qe L xs vb) (d + 1) 152 [.ref 42, .int (qz 1), .int (qz 0), .int (qz 4), .int (qz x4), .int (qz x5), .int (qz x6)] (qw σ α κ ρ) (fun r w' => ∃ σ' α', w' = qw σ' α' κ ρ ∧ qI σ' α' κ ρ ∧ qFr [(42, 1)] [43] σ α σ' α' ∧ ∃ v : Int, r = some (.int (qz v)) ∧ ((-2147483648) ≤ v ∧ v ≤ 2147483647) ∧ σ' 42 1 = σ 42 1 + 1) := by
  refine qr_start (d := d + 0) qv_e152 (Nat.le_of_ble_eq_true rfl) ?_
  show qr_W (qe L xs vb) (d + 0) qx_e152 _ (0, [(0, .ref 42), (1, .int (qz 1)), (2, .int (qz 0)), (3, .int (qz 4)), (4, .int (qz x4)), (5, .int (qz x5)), (6, .int (qz x6))], [], _, 0, 0)
  have hF0 := qFr_rf [(42, 1)] [43] σ α
  have hz42_1 : (-2147483648) ≤ σ 42 1 ∧ σ 42 1 ≤ 2147483647 := hI.1 42 1
  refine qr_aload_n 1 rfl rfl rfl ?_
  refine qr_get 4 rfl rfl rfl (by decide) rfl ?_
  refine qr_aload_n 5 rfl rfl rfl ?_
  refine qr_get 8 rfl rfl rfl (by decide) rfl ?_
  refine qr_alen 9 rfl rfl (by first | exact Or.inl (by decide) | exact Or.inr (Or.inl rfl) | exact Or.inr (Or.inr (Or.inl rfl)) | exact Or.inr (Or.inr (Or.inr (Or.inl rfl)))) rfl ?_
  refine qy_v 24 rfl ?_
  refine qr_icmp_ge 22 12 rfl rfl rfl (by omega) (by omega) (fun h1 => ?_) (fun h1 => ?_)
  · skip
    refine qr_aload_n 23 rfl rfl rfl ?_
    refine qr_dup 24 rfl rfl rfl ?_
    refine qr_get 27 rfl rfl rfl (by decide) rfl ?_
    refine qr_iconst 28 rfl rfl ?_
    refine qr_iadd 29 rfl rfl ?_
    refine qr_put 32 rfl (by decide) rfl (Nat.le_of_ble_eq_true rfl) (Nat.le_of_ble_eq_true rfl) (Or.inl rfl) (qr_fitI rfl _) rfl ?_
    refine qy_wS (qw_s σ 42 1 ((σ 42 1) + 1)) rfl (fun σ2 e3 => ?_)
    have hI4 : qI σ2 α κ ρ := by rw [e3]; exact qI_s hI 42 1 rfl (show (-2147483648) ≤ ((σ 42 1) + 1) ∧ ((σ 42 1) + 1) ≤ 2147483647 by omega)
    have hF5 : qFr [(42, 1)] [43] σ α σ2 α := by rw [e3]; exact qFr_s hF0 42 1 _ (by decide)
    refine qr_getst 35 rfl rfl ?_
    refine qr_iload_n 36 rfl rfl rfl ?_
    refine qr_iaload 37 rfl rfl (by omega) (by decide) rfl ?_
    refine qy_v (-1) (by decide) ?_
    refine qr_istore _ 39 rfl (by decide) rfl rfl ?_
    refine qr_iload_n 40 rfl rfl rfl ?_
    refine qr_look (off := 108) 148 rfl (by omega) (by decide) (by decide) rfl ?_
    refine qr_iload 150 rfl rfl rfl ?_
    refine qr_iload 152 rfl rfl rfl ?_
    refine qr_iadd 153 rfl rfl ?_
    refine qy_can (fun v6 hv6 => ?_)
    refine qr_retI rfl rfl (by decide) (by decide) ?_
    have hw7 : σ2 42 1 = ((σ 42 1) + 1) := (congrFun (congrFun e3 42) 1).trans rfl
    exact ⟨_, _, rfl, hI4, hF5, v6, rfl, by omega, by omega⟩
  · skip
    refine qr_aload_n 13 rfl rfl rfl ?_
    refine qr_get 16 rfl rfl rfl (by decide) rfl ?_
    refine qr_aload_n 17 rfl rfl rfl ?_
    refine qr_get 20 rfl rfl rfl (by decide) rfl ?_
    refine qr_iload_n 21 rfl rfl rfl ?_
    refine qr_iastore 22 rfl (by decide) rfl (by omega) (by decide) rfl ?_
    refine qy_wA (qw_r α 43 (qzu (α 43) ((σ 42 1) : Int).toNat 1)) rfl (fun α8 e9 => ?_)
    have hI10 : qI σ α8 κ ρ := by rw [e9]; exact qI_r hI 43 _ rfl (show (-2147483648) ≤ 1 ∧ 1 ≤ 2147483647 by omega)
    have hF11 : qFr [(42, 1)] [43] σ α σ α8 := by rw [e9]; exact qFr_r hF0 43 _ (by decide)
    refine qr_aload_n 23 rfl rfl rfl ?_
    refine qr_dup 24 rfl rfl rfl ?_
    refine qr_get 27 rfl rfl rfl (by decide) rfl ?_
    refine qr_iconst 28 rfl rfl ?_
    refine qr_iadd 29 rfl rfl ?_
    refine qr_put 32 rfl (by decide) rfl (Nat.le_of_ble_eq_true rfl) (Nat.le_of_ble_eq_true rfl) (Or.inl rfl) (qr_fitI rfl _) rfl ?_
    refine qy_wS (qw_s σ 42 1 ((σ 42 1) + 1)) rfl (fun σ12 e13 => ?_)
    have hI14 : qI σ12 α8 κ ρ := by rw [e13]; exact qI_s hI10 42 1 rfl (show (-2147483648) ≤ ((σ 42 1) + 1) ∧ ((σ 42 1) + 1) ≤ 2147483647 by omega)
    have hF15 : qFr [(42, 1)] [43] σ α σ12 α8 := by rw [e13]; exact qFr_s hF11 42 1 _ (by decide)
    refine qr_getst 35 rfl rfl ?_
    refine qr_iload_n 36 rfl rfl rfl ?_
    refine qr_iaload 37 rfl rfl (by omega) (by decide) rfl ?_
    refine qy_v (-1) (by decide) ?_
    refine qr_istore _ 39 rfl (by decide) rfl rfl ?_
    refine qr_iload_n 40 rfl rfl rfl ?_
    refine qr_look (off := 108) 148 rfl (by omega) (by decide) (by decide) rfl ?_
    refine qr_iload 150 rfl rfl rfl ?_
    refine qr_iload 152 rfl rfl rfl ?_
    refine qr_iadd 153 rfl rfl ?_
    refine qy_can (fun v16 hv16 => ?_)
    refine qr_retI rfl rfl (by decide) (by decide) ?_
    have hw17 : σ12 42 1 = ((σ 42 1) + 1) := (congrFun (congrFun e13 42) 1).trans rfl
    exact ⟨_, _, rfl, hI14, hF15, v16, rfl, by omega, by omega⟩

set_option maxHeartbeats 4000000 in
set_option maxRecDepth 20000 in
/-- OneRoof$Acts.runFrom -/
theorem sf_151_42f4_4_0 {L : Nat} {xs : Nat → Int} {vb : Bool} {d : Nat} {σ α : Nat → Nat → Int} {κ : Nat → Option Nat} {ρ : Nat} {x4 : Int} {x5 : Int} {x6 : Int} (hI : qI σ α κ ρ) (r4 : (-2147483648) ≤ x4 ∧ x4 ≤ 2147483647) (r5 : (-2147483648) ≤ x5 ∧ x5 ≤ 2147483647) (r6 : 0 ≤ x6 ∧ x6 ≤ 39) (p0 : 0 ≤ σ 42 1 ∧ σ 42 1 ≤ 1900) : qm_T (qe L xs vb) (d + 2) 151 [.ref 42, .int (qz 4), .int (qz 4), .int (qz 0), .int (qz x4), .int (qz x5), .int (qz x6)] (qw σ α κ ρ) (fun r w' => ∃ σ' α', w' = qw σ' α' κ ρ ∧ qI σ' α' κ ρ ∧ qFr [(42, 1)] [43] σ α σ' α' ∧ ∃ v : Int, r = some (.int (qz v)) ∧ ((-2147483648) ≤ v ∧ v ≤ 2147483647) ∧ σ' 42 1 = σ 42 1 + 1) := by
  refine qr_start (d := d + 1) qv_e151 (Nat.le_of_ble_eq_true rfl) ?_
  show qr_W (qe L xs vb) (d + 1) qx_e151 _ (0, [(0, .ref 42), (1, .int (qz 4)), (2, .int (qz 4)), (3, .int (qz 0)), (4, .int (qz x4)), (5, .int (qz x5)), (6, .int (qz x6))], [], _, 0, 0)
  have hF0 := qFr_rf [(42, 1)] [43] σ α
  have hz42_1 : (-2147483648) ≤ σ 42 1 ∧ σ 42 1 ≤ 2147483647 := hI.1 42 1
  refine qr_iload_n 1 rfl rfl rfl ?_
  refine qr_istore _ 3 rfl (by decide) rfl rfl ?_
  refine qr_iconst 4 rfl rfl ?_
  refine qr_istore _ 6 rfl (by decide) rfl rfl ?_
  refine qr_iload 8 rfl rfl rfl ?_
  refine qr_getst 11 rfl rfl ?_
  refine qr_alen 12 rfl rfl (by first | exact Or.inl (by decide) | exact Or.inr (Or.inl rfl) | exact Or.inr (Or.inr (Or.inl rfl)) | exact Or.inr (Or.inr (Or.inr (Or.inl rfl)))) rfl ?_
  refine qy_v 7 rfl ?_
  refine qr_icmp_ge 89 15 rfl rfl rfl (by omega) (by omega) (fun h => False.elim (by omega)) (fun h1 => ?_)
  refine qr_iload 17 rfl rfl rfl ?_
  refine qr_if_lt 89 20 rfl rfl rfl (by omega) (fun h => False.elim (by omega)) (fun h2 => ?_)
  refine qr_iload 22 rfl rfl rfl ?_
  refine qr_getst 25 rfl rfl ?_
  refine qr_alen 26 rfl rfl (by first | exact Or.inl (by decide) | exact Or.inr (Or.inl rfl) | exact Or.inr (Or.inr (Or.inl rfl)) | exact Or.inr (Or.inr (Or.inr (Or.inl rfl)))) rfl ?_
  refine qy_v 7 rfl ?_
  refine qr_icmp_ge 89 29 rfl rfl rfl (by omega) (by omega) (fun h => False.elim (by omega)) (fun h3 => ?_)
  refine qr_getst 32 rfl rfl ?_
  refine qr_iload 34 rfl rfl rfl ?_
  refine qr_iconst 35 rfl rfl ?_
  refine qr_imul 36 rfl rfl ?_
  refine qy_v 16 rfl ?_
  refine qr_iload_n 37 rfl rfl rfl ?_
  refine qr_iadd 38 rfl rfl ?_
  refine qy_v 16 rfl ?_
  refine qr_iaload 39 rfl rfl (by omega) (by decide) rfl ?_
  refine qy_v 0 (by decide) ?_
  refine qr_istore _ 41 rfl (by decide) rfl rfl ?_
  refine qr_iload 43 rfl rfl rfl ?_
  refine qr_if_eq 75 46 rfl rfl rfl (by omega) (fun h4 => ?_) (fun h => False.elim (by omega))
  refine qr_getst 78 rfl rfl ?_
  refine qr_iload 80 rfl rfl rfl ?_
  refine qr_iaload 81 rfl rfl (by omega) (by decide) rfl ?_
  refine qy_v 0 (by decide) ?_
  refine qr_istore _ 83 rfl (by decide) rfl rfl ?_
  refine qr_iinc _ 86 rfl rfl (by decide) rfl rfl ?_
  refine qr_goto 6 rfl rfl ?_
  refine qr_iload 8 rfl rfl rfl ?_
  refine qr_getst 11 rfl rfl ?_
  refine qr_alen 12 rfl rfl (by first | exact Or.inl (by decide) | exact Or.inr (Or.inl rfl) | exact Or.inr (Or.inr (Or.inl rfl)) | exact Or.inr (Or.inr (Or.inr (Or.inl rfl)))) rfl ?_
  refine qy_v 7 rfl ?_
  refine qr_icmp_ge 89 15 rfl rfl rfl (by omega) (by omega) (fun h => False.elim (by omega)) (fun h5 => ?_)
  refine qr_iload 17 rfl rfl rfl ?_
  refine qr_if_lt 89 20 rfl rfl rfl (by omega) (fun h => False.elim (by omega)) (fun h6 => ?_)
  refine qr_iload 22 rfl rfl rfl ?_
  refine qr_getst 25 rfl rfl ?_
  refine qr_alen 26 rfl rfl (by first | exact Or.inl (by decide) | exact Or.inr (Or.inl rfl) | exact Or.inr (Or.inr (Or.inl rfl)) | exact Or.inr (Or.inr (Or.inr (Or.inl rfl)))) rfl ?_
  refine qy_v 7 rfl ?_
  refine qr_icmp_ge 89 29 rfl rfl rfl (by omega) (by omega) (fun h => False.elim (by omega)) (fun h7 => ?_)
  refine qr_getst 32 rfl rfl ?_
  refine qr_iload 34 rfl rfl rfl ?_
  refine qr_iconst 35 rfl rfl ?_
  refine qr_imul 36 rfl rfl ?_
  refine qy_v 0 rfl ?_
  refine qr_iload_n 37 rfl rfl rfl ?_
  refine qr_iadd 38 rfl rfl ?_
  refine qy_v 0 rfl ?_
  refine qr_iaload 39 rfl rfl (by omega) (by decide) rfl ?_
  refine qy_v 1 (by decide) ?_
  refine qr_istore _ 41 rfl (by decide) rfl rfl ?_
  refine qr_iload 43 rfl rfl rfl ?_
  refine qr_if_eq 75 46 rfl rfl rfl (by omega) (fun h => False.elim (by omega)) (fun h8 => ?_)
  as_aux_lemma =>
    refine qr_iload 48 rfl rfl rfl ?_
    refine qr_bipush 50 rfl (by decide) rfl ?_
    refine qr_icmp_le 57 53 rfl rfl rfl (by omega) (by omega) (fun h9 => ?_) (fun h => False.elim (by omega))
    refine qr_aload_n 58 rfl rfl rfl ?_
    refine qr_iload 60 rfl rfl rfl ?_
    refine qr_iload 62 rfl rfl rfl ?_
    refine qr_iload_n 63 rfl rfl rfl ?_
    refine qr_iload 65 rfl rfl rfl ?_
    refine qr_iload 67 rfl rfl rfl ?_
    refine qr_iload 69 rfl rfl rfl ?_
    refine qr_iconst 70 rfl rfl ?_
    refine qr_iadd 71 rfl rfl ?_
    refine qr_callN 74 rfl rfl rfl (sf_152_42b1_0_4 (d := d + 0) hI (by omega) (by omega) (by omega) (by omega)) ?_
    have hs12 : (-2147483648) ≤ σ 42 1 ∧ σ 42 1 ≤ 2147483647 := hI.1 42 1
    rintro _ _ ⟨σ13, α14, rfl, hI15, hG16, v10, rfl, hv10, hp11⟩
    have hF17 : qFr [(42, 1)] [43] σ α σ13 α14 := qFr_t hF0 hG16 (by decide) (by decide)
    have hs18 : (-2147483648) ≤ σ13 42 1 ∧ σ13 42 1 ≤ 2147483647 := hI15.1 42 1
    show qr_W (qe L xs vb) (d + 1) qx_e151 _ (74, _, [.int (qz v10)], qw σ13 α14 κ ρ, 0, 0)
    refine qr_retI rfl rfl (by decide) (by decide) ?_
    exact ⟨_, _, rfl, hI15, hF17, v10, rfl, by omega, by omega⟩

set_option maxHeartbeats 4000000 in
set_option maxRecDepth 20000 in
/-- OneRoof$Acts.run -/
theorem sf_150_42r4_0 {L : Nat} {xs : Nat → Int} {vb : Bool} {d : Nat} {σ α : Nat → Nat → Int} {κ : Nat → Option Nat} {ρ : Nat} {x3 : Int} {x4 : Int} {x5 : Int} (hI : qI σ α κ ρ) (r3 : (-2147483648) ≤ x3 ∧ x3 ≤ 2147483647) (r4 : (-2147483648) ≤ x4 ∧ x4 ≤ 2147483647) (r5 : 0 ≤ x5 ∧ x5 ≤ 39) (p0 : 0 ≤ σ 42 1 ∧ σ 42 1 ≤ 1900) : qm_T (qe L xs vb) (d + 3) 150 [.ref 42, .int (qz 4), .int (qz 0), .int (qz x3), .int (qz x4), .int (qz x5)] (qw σ α κ ρ) (fun r w' => ∃ σ' α', w' = qw σ' α' κ ρ ∧ qI σ' α' κ ρ ∧ qFr [(42, 1)] [43] σ α σ' α' ∧ ∃ v : Int, r = some (.int (qz v)) ∧ ((-2147483648) ≤ v ∧ v ≤ 2147483647) ∧ σ' 42 1 = σ 42 1 + 1) := by
  refine qr_start (d := d + 2) qv_e150 (Nat.le_of_ble_eq_true rfl) ?_
  show qr_W (qe L xs vb) (d + 2) qx_e150 _ (0, [(0, .ref 42), (1, .int (qz 4)), (2, .int (qz 0)), (3, .int (qz x3)), (4, .int (qz x4)), (5, .int (qz x5))], [], _, 0, 0)
  have hF0 := qFr_rf [(42, 1)] [43] σ α
  have hz42_1 : (-2147483648) ≤ σ 42 1 ∧ σ 42 1 ≤ 2147483647 := hI.1 42 1
  refine qr_aload_n 1 rfl rfl rfl ?_
  refine qr_iload_n 2 rfl rfl rfl ?_
  refine qr_iload_n 3 rfl rfl rfl ?_
  refine qr_iload_n 4 rfl rfl rfl ?_
  refine qr_iload_n 5 rfl rfl rfl ?_
  refine qr_iload 7 rfl rfl rfl ?_
  refine qr_iload 9 rfl rfl rfl ?_
  refine qr_callN 12 rfl rfl rfl (sf_151_42f4_4_0 (d := d + 0) hI (by omega) (by omega) (by omega) (by omega)) ?_
  have hs3 : (-2147483648) ≤ σ 42 1 ∧ σ 42 1 ≤ 2147483647 := hI.1 42 1
  rintro _ _ ⟨σ4, α5, rfl, hI6, hG7, v1, rfl, hv1, hp2⟩
  have hF8 : qFr [(42, 1)] [43] σ α σ4 α5 := qFr_t hF0 hG7 (by decide) (by decide)
  have hs9 : (-2147483648) ≤ σ4 42 1 ∧ σ4 42 1 ≤ 2147483647 := hI6.1 42 1
  show qr_W (qe L xs vb) (d + 2) qx_e150 _ (12, _, [.int (qz v1)], qw σ4 α5 κ ρ, 0, 0)
  refine qr_retI rfl rfl (by decide) (by decide) ?_
  exact ⟨_, _, rfl, hI6, hF8, v1, rfl, by omega, by omega⟩

set_option maxHeartbeats 4000000 in
set_option maxRecDepth 20000 in
/-- OneRoof$Acts.start -/
theorem sf_149_42s4_0 {L : Nat} {xs : Nat → Int} {vb : Bool} {d : Nat} {σ α : Nat → Nat → Int} {κ : Nat → Option Nat} {ρ : Nat} {x3 : Int} {x4 : Int} (hI : qI σ α κ ρ) (r3 : (-2147483648) ≤ x3 ∧ x3 ≤ 2147483647) (r4 : (-2147483648) ≤ x4 ∧ x4 ≤ 2147483647) (p0 : σ 42 1 = 0) : qm_T (qe L xs vb) (d + 4) 149 [.ref 42, .int (qz 4), .int (qz 0), .int (qz x3), .int (qz x4)] (qw σ α κ ρ) (fun r w' => ∃ σ' α', w' = qw σ' α' κ ρ ∧ qI σ' α' κ ρ ∧ qFr [(42, 1)] [43] σ α σ' α' ∧ ∃ v : Int, r = some (.int (qz v)) ∧ ((-2147483648) ≤ v ∧ v ≤ 2147483647)) := by
  refine qr_start (d := d + 3) qv_e149 (Nat.le_of_ble_eq_true rfl) ?_
  show qr_W (qe L xs vb) (d + 3) qx_e149 _ (0, [(0, .ref 42), (1, .int (qz 4)), (2, .int (qz 0)), (3, .int (qz x3)), (4, .int (qz x4))], [], _, 0, 0)
  have hF0 := qFr_rf [(42, 1)] [43] σ α
  have hz42_1 : (-2147483648) ≤ σ 42 1 ∧ σ 42 1 ≤ 2147483647 := hI.1 42 1
  refine qr_aload_n 1 rfl rfl rfl ?_
  refine qr_iload_n 2 rfl rfl rfl ?_
  refine qr_iload_n 3 rfl rfl rfl ?_
  refine qr_iload_n 4 rfl rfl rfl ?_
  refine qr_iload 6 rfl rfl rfl ?_
  refine qr_iconst 7 rfl rfl ?_
  refine qr_callN 10 rfl rfl rfl (sf_150_42r4_0 (d := d + 0) hI (by omega) (by omega) (by omega) (by omega)) ?_
  have hs3 : (-2147483648) ≤ σ 42 1 ∧ σ 42 1 ≤ 2147483647 := hI.1 42 1
  rintro _ _ ⟨σ4, α5, rfl, hI6, hG7, v1, rfl, hv1, hp2⟩
  have hF8 : qFr [(42, 1)] [43] σ α σ4 α5 := qFr_t hF0 hG7 (by decide) (by decide)
  have hs9 : (-2147483648) ≤ σ4 42 1 ∧ σ4 42 1 ≤ 2147483647 := hI6.1 42 1
  show qr_W (qe L xs vb) (d + 3) qx_e149 _ (10, _, [.int (qz v1)], qw σ4 α5 κ ρ, 0, 0)
  refine qr_retI rfl rfl (by decide) (by decide) ?_
  exact ⟨_, _, rfl, hI6, hF8, v1, rfl, by omega⟩

set_option maxHeartbeats 4000000 in
set_option maxRecDepth 20000 in
/-- OneRoof$Acts.begin -/
theorem sf_152_42b1_0_5 {L : Nat} {xs : Nat → Int} {vb : Bool} {d : Nat} {σ α : Nat → Nat → Int} {κ : Nat → Option Nat} {ρ : Nat} {x4 : Int} {x5 : Int} {x6 : Int} (hI : qI σ α κ ρ) (r4 : (-2147483648) ≤ x4 ∧ x4 ≤ 2147483647) (r5 : (-2147483648) ≤ x5 ∧ x5 ≤ 2147483647) (r6 : 0 ≤ x6 ∧ x6 ≤ 40) (p0 : 0 ≤ σ 42 1 ∧ σ 42 1 ≤ 1900) : qm_T (qe L xs vb) (d + 1) 152 [.ref 42, .int (qz 1), .int (qz 0), .int (qz 5), .int (qz x4), .int (qz x5), .int (qz x6)] (qw σ α κ ρ) (fun r w' => ∃ σ' α', w' = qw σ' α' κ ρ ∧ qI σ' α' κ ρ ∧ qFr [(42, 1)] [43] σ α σ' α' ∧ ∃ v : Int, r = some (.int (qz v)) ∧ ((-2147483648) ≤ v ∧ v ≤ 2147483647) ∧ σ' 42 1 = σ 42 1 + 1) := by
  refine qr_start (d := d + 0) qv_e152 (Nat.le_of_ble_eq_true rfl) ?_
  show qr_W (qe L xs vb) (d + 0) qx_e152 _ (0, [(0, .ref 42), (1, .int (qz 1)), (2, .int (qz 0)), (3, .int (qz 5)), (4, .int (qz x4)), (5, .int (qz x5)), (6, .int (qz x6))], [], _, 0, 0)
  have hF0 := qFr_rf [(42, 1)] [43] σ α
  have hz42_1 : (-2147483648) ≤ σ 42 1 ∧ σ 42 1 ≤ 2147483647 := hI.1 42 1
  refine qr_aload_n 1 rfl rfl rfl ?_
  refine qr_get 4 rfl rfl rfl (by decide) rfl ?_
  refine qr_aload_n 5 rfl rfl rfl ?_
  refine qr_get 8 rfl rfl rfl (by decide) rfl ?_
  refine qr_alen 9 rfl rfl (by first | exact Or.inl (by decide) | exact Or.inr (Or.inl rfl) | exact Or.inr (Or.inr (Or.inl rfl)) | exact Or.inr (Or.inr (Or.inr (Or.inl rfl)))) rfl ?_
  refine qy_v 24 rfl ?_
  refine qr_icmp_ge 22 12 rfl rfl rfl (by omega) (by omega) (fun h1 => ?_) (fun h1 => ?_)
  · skip
    refine qr_aload_n 23 rfl rfl rfl ?_
    refine qr_dup 24 rfl rfl rfl ?_
    refine qr_get 27 rfl rfl rfl (by decide) rfl ?_
    refine qr_iconst 28 rfl rfl ?_
    refine qr_iadd 29 rfl rfl ?_
    refine qr_put 32 rfl (by decide) rfl (Nat.le_of_ble_eq_true rfl) (Nat.le_of_ble_eq_true rfl) (Or.inl rfl) (qr_fitI rfl _) rfl ?_
    refine qy_wS (qw_s σ 42 1 ((σ 42 1) + 1)) rfl (fun σ2 e3 => ?_)
    have hI4 : qI σ2 α κ ρ := by rw [e3]; exact qI_s hI 42 1 rfl (show (-2147483648) ≤ ((σ 42 1) + 1) ∧ ((σ 42 1) + 1) ≤ 2147483647 by omega)
    have hF5 : qFr [(42, 1)] [43] σ α σ2 α := by rw [e3]; exact qFr_s hF0 42 1 _ (by decide)
    refine qr_getst 35 rfl rfl ?_
    refine qr_iload_n 36 rfl rfl rfl ?_
    refine qr_iaload 37 rfl rfl (by omega) (by decide) rfl ?_
    refine qy_v (-1) (by decide) ?_
    refine qr_istore _ 39 rfl (by decide) rfl rfl ?_
    refine qr_iload_n 40 rfl rfl rfl ?_
    refine qr_look (off := 108) 148 rfl (by omega) (by decide) (by decide) rfl ?_
    refine qr_iload 150 rfl rfl rfl ?_
    refine qr_iload 152 rfl rfl rfl ?_
    refine qr_iadd 153 rfl rfl ?_
    refine qy_can (fun v6 hv6 => ?_)
    refine qr_retI rfl rfl (by decide) (by decide) ?_
    have hw7 : σ2 42 1 = ((σ 42 1) + 1) := (congrFun (congrFun e3 42) 1).trans rfl
    exact ⟨_, _, rfl, hI4, hF5, v6, rfl, by omega, by omega⟩
  · skip
    refine qr_aload_n 13 rfl rfl rfl ?_
    refine qr_get 16 rfl rfl rfl (by decide) rfl ?_
    refine qr_aload_n 17 rfl rfl rfl ?_
    refine qr_get 20 rfl rfl rfl (by decide) rfl ?_
    refine qr_iload_n 21 rfl rfl rfl ?_
    refine qr_iastore 22 rfl (by decide) rfl (by omega) (by decide) rfl ?_
    refine qy_wA (qw_r α 43 (qzu (α 43) ((σ 42 1) : Int).toNat 1)) rfl (fun α8 e9 => ?_)
    have hI10 : qI σ α8 κ ρ := by rw [e9]; exact qI_r hI 43 _ rfl (show (-2147483648) ≤ 1 ∧ 1 ≤ 2147483647 by omega)
    have hF11 : qFr [(42, 1)] [43] σ α σ α8 := by rw [e9]; exact qFr_r hF0 43 _ (by decide)
    refine qr_aload_n 23 rfl rfl rfl ?_
    refine qr_dup 24 rfl rfl rfl ?_
    refine qr_get 27 rfl rfl rfl (by decide) rfl ?_
    refine qr_iconst 28 rfl rfl ?_
    refine qr_iadd 29 rfl rfl ?_
    refine qr_put 32 rfl (by decide) rfl (Nat.le_of_ble_eq_true rfl) (Nat.le_of_ble_eq_true rfl) (Or.inl rfl) (qr_fitI rfl _) rfl ?_
    refine qy_wS (qw_s σ 42 1 ((σ 42 1) + 1)) rfl (fun σ12 e13 => ?_)
    have hI14 : qI σ12 α8 κ ρ := by rw [e13]; exact qI_s hI10 42 1 rfl (show (-2147483648) ≤ ((σ 42 1) + 1) ∧ ((σ 42 1) + 1) ≤ 2147483647 by omega)
    have hF15 : qFr [(42, 1)] [43] σ α σ12 α8 := by rw [e13]; exact qFr_s hF11 42 1 _ (by decide)
    refine qr_getst 35 rfl rfl ?_
    refine qr_iload_n 36 rfl rfl rfl ?_
    refine qr_iaload 37 rfl rfl (by omega) (by decide) rfl ?_
    refine qy_v (-1) (by decide) ?_
    refine qr_istore _ 39 rfl (by decide) rfl rfl ?_
    refine qr_iload_n 40 rfl rfl rfl ?_
    refine qr_look (off := 108) 148 rfl (by omega) (by decide) (by decide) rfl ?_
    refine qr_iload 150 rfl rfl rfl ?_
    refine qr_iload 152 rfl rfl rfl ?_
    refine qr_iadd 153 rfl rfl ?_
    refine qy_can (fun v16 hv16 => ?_)
    refine qr_retI rfl rfl (by decide) (by decide) ?_
    have hw17 : σ12 42 1 = ((σ 42 1) + 1) := (congrFun (congrFun e13 42) 1).trans rfl
    exact ⟨_, _, rfl, hI14, hF15, v16, rfl, by omega, by omega⟩

set_option maxHeartbeats 4000000 in
set_option maxRecDepth 20000 in
/-- OneRoof$Acts.runFrom -/
theorem sf_151_42f4_5_0 {L : Nat} {xs : Nat → Int} {vb : Bool} {d : Nat} {σ α : Nat → Nat → Int} {κ : Nat → Option Nat} {ρ : Nat} {x4 : Int} {x5 : Int} {x6 : Int} (hI : qI σ α κ ρ) (r4 : (-2147483648) ≤ x4 ∧ x4 ≤ 2147483647) (r5 : (-2147483648) ≤ x5 ∧ x5 ≤ 2147483647) (r6 : 0 ≤ x6 ∧ x6 ≤ 39) (p0 : 0 ≤ σ 42 1 ∧ σ 42 1 ≤ 1900) : qm_T (qe L xs vb) (d + 2) 151 [.ref 42, .int (qz 4), .int (qz 5), .int (qz 0), .int (qz x4), .int (qz x5), .int (qz x6)] (qw σ α κ ρ) (fun r w' => ∃ σ' α', w' = qw σ' α' κ ρ ∧ qI σ' α' κ ρ ∧ qFr [(42, 1)] [43] σ α σ' α' ∧ ∃ v : Int, r = some (.int (qz v)) ∧ ((-2147483648) ≤ v ∧ v ≤ 2147483647) ∧ σ' 42 1 = σ 42 1 + 1) := by
  refine qr_start (d := d + 1) qv_e151 (Nat.le_of_ble_eq_true rfl) ?_
  show qr_W (qe L xs vb) (d + 1) qx_e151 _ (0, [(0, .ref 42), (1, .int (qz 4)), (2, .int (qz 5)), (3, .int (qz 0)), (4, .int (qz x4)), (5, .int (qz x5)), (6, .int (qz x6))], [], _, 0, 0)
  have hF0 := qFr_rf [(42, 1)] [43] σ α
  have hz42_1 : (-2147483648) ≤ σ 42 1 ∧ σ 42 1 ≤ 2147483647 := hI.1 42 1
  refine qr_iload_n 1 rfl rfl rfl ?_
  refine qr_istore _ 3 rfl (by decide) rfl rfl ?_
  refine qr_iconst 4 rfl rfl ?_
  refine qr_istore _ 6 rfl (by decide) rfl rfl ?_
  refine qr_iload 8 rfl rfl rfl ?_
  refine qr_getst 11 rfl rfl ?_
  refine qr_alen 12 rfl rfl (by first | exact Or.inl (by decide) | exact Or.inr (Or.inl rfl) | exact Or.inr (Or.inr (Or.inl rfl)) | exact Or.inr (Or.inr (Or.inr (Or.inl rfl)))) rfl ?_
  refine qy_v 7 rfl ?_
  refine qr_icmp_ge 89 15 rfl rfl rfl (by omega) (by omega) (fun h => False.elim (by omega)) (fun h1 => ?_)
  refine qr_iload 17 rfl rfl rfl ?_
  refine qr_if_lt 89 20 rfl rfl rfl (by omega) (fun h => False.elim (by omega)) (fun h2 => ?_)
  refine qr_iload 22 rfl rfl rfl ?_
  refine qr_getst 25 rfl rfl ?_
  refine qr_alen 26 rfl rfl (by first | exact Or.inl (by decide) | exact Or.inr (Or.inl rfl) | exact Or.inr (Or.inr (Or.inl rfl)) | exact Or.inr (Or.inr (Or.inr (Or.inl rfl)))) rfl ?_
  refine qy_v 7 rfl ?_
  refine qr_icmp_ge 89 29 rfl rfl rfl (by omega) (by omega) (fun h => False.elim (by omega)) (fun h3 => ?_)
  refine qr_getst 32 rfl rfl ?_
  refine qr_iload 34 rfl rfl rfl ?_
  refine qr_iconst 35 rfl rfl ?_
  refine qr_imul 36 rfl rfl ?_
  refine qy_v 16 rfl ?_
  refine qr_iload_n 37 rfl rfl rfl ?_
  refine qr_iadd 38 rfl rfl ?_
  refine qy_v 16 rfl ?_
  refine qr_iaload 39 rfl rfl (by omega) (by decide) rfl ?_
  refine qy_v 0 (by decide) ?_
  refine qr_istore _ 41 rfl (by decide) rfl rfl ?_
  refine qr_iload 43 rfl rfl rfl ?_
  refine qr_if_eq 75 46 rfl rfl rfl (by omega) (fun h4 => ?_) (fun h => False.elim (by omega))
  refine qr_getst 78 rfl rfl ?_
  refine qr_iload 80 rfl rfl rfl ?_
  refine qr_iaload 81 rfl rfl (by omega) (by decide) rfl ?_
  refine qy_v 0 (by decide) ?_
  refine qr_istore _ 83 rfl (by decide) rfl rfl ?_
  refine qr_iinc _ 86 rfl rfl (by decide) rfl rfl ?_
  refine qr_goto 6 rfl rfl ?_
  refine qr_iload 8 rfl rfl rfl ?_
  refine qr_getst 11 rfl rfl ?_
  refine qr_alen 12 rfl rfl (by first | exact Or.inl (by decide) | exact Or.inr (Or.inl rfl) | exact Or.inr (Or.inr (Or.inl rfl)) | exact Or.inr (Or.inr (Or.inr (Or.inl rfl)))) rfl ?_
  refine qy_v 7 rfl ?_
  refine qr_icmp_ge 89 15 rfl rfl rfl (by omega) (by omega) (fun h => False.elim (by omega)) (fun h5 => ?_)
  refine qr_iload 17 rfl rfl rfl ?_
  refine qr_if_lt 89 20 rfl rfl rfl (by omega) (fun h => False.elim (by omega)) (fun h6 => ?_)
  refine qr_iload 22 rfl rfl rfl ?_
  refine qr_getst 25 rfl rfl ?_
  refine qr_alen 26 rfl rfl (by first | exact Or.inl (by decide) | exact Or.inr (Or.inl rfl) | exact Or.inr (Or.inr (Or.inl rfl)) | exact Or.inr (Or.inr (Or.inr (Or.inl rfl)))) rfl ?_
  refine qy_v 7 rfl ?_
  refine qr_icmp_ge 89 29 rfl rfl rfl (by omega) (by omega) (fun h => False.elim (by omega)) (fun h7 => ?_)
  refine qr_getst 32 rfl rfl ?_
  refine qr_iload 34 rfl rfl rfl ?_
  refine qr_iconst 35 rfl rfl ?_
  refine qr_imul 36 rfl rfl ?_
  refine qy_v 0 rfl ?_
  refine qr_iload_n 37 rfl rfl rfl ?_
  refine qr_iadd 38 rfl rfl ?_
  refine qy_v 0 rfl ?_
  refine qr_iaload 39 rfl rfl (by omega) (by decide) rfl ?_
  refine qy_v 1 (by decide) ?_
  refine qr_istore _ 41 rfl (by decide) rfl rfl ?_
  refine qr_iload 43 rfl rfl rfl ?_
  refine qr_if_eq 75 46 rfl rfl rfl (by omega) (fun h => False.elim (by omega)) (fun h8 => ?_)
  as_aux_lemma =>
    refine qr_iload 48 rfl rfl rfl ?_
    refine qr_bipush 50 rfl (by decide) rfl ?_
    refine qr_icmp_le 57 53 rfl rfl rfl (by omega) (by omega) (fun h9 => ?_) (fun h => False.elim (by omega))
    refine qr_aload_n 58 rfl rfl rfl ?_
    refine qr_iload 60 rfl rfl rfl ?_
    refine qr_iload 62 rfl rfl rfl ?_
    refine qr_iload_n 63 rfl rfl rfl ?_
    refine qr_iload 65 rfl rfl rfl ?_
    refine qr_iload 67 rfl rfl rfl ?_
    refine qr_iload 69 rfl rfl rfl ?_
    refine qr_iconst 70 rfl rfl ?_
    refine qr_iadd 71 rfl rfl ?_
    refine qr_callN 74 rfl rfl rfl (sf_152_42b1_0_5 (d := d + 0) hI (by omega) (by omega) (by omega) (by omega)) ?_
    have hs12 : (-2147483648) ≤ σ 42 1 ∧ σ 42 1 ≤ 2147483647 := hI.1 42 1
    rintro _ _ ⟨σ13, α14, rfl, hI15, hG16, v10, rfl, hv10, hp11⟩
    have hF17 : qFr [(42, 1)] [43] σ α σ13 α14 := qFr_t hF0 hG16 (by decide) (by decide)
    have hs18 : (-2147483648) ≤ σ13 42 1 ∧ σ13 42 1 ≤ 2147483647 := hI15.1 42 1
    show qr_W (qe L xs vb) (d + 1) qx_e151 _ (74, _, [.int (qz v10)], qw σ13 α14 κ ρ, 0, 0)
    refine qr_retI rfl rfl (by decide) (by decide) ?_
    exact ⟨_, _, rfl, hI15, hF17, v10, rfl, by omega, by omega⟩

set_option maxHeartbeats 4000000 in
set_option maxRecDepth 20000 in
/-- OneRoof$Acts.begin -/
theorem sf_152_42b11_0_5 {L : Nat} {xs : Nat → Int} {vb : Bool} {d : Nat} {σ α : Nat → Nat → Int} {κ : Nat → Option Nat} {ρ : Nat} {x4 : Int} {x5 : Int} {x6 : Int} (hI : qI σ α κ ρ) (r4 : (-2147483648) ≤ x4 ∧ x4 ≤ 2147483647) (r5 : (-2147483648) ≤ x5 ∧ x5 ≤ 2147483647) (r6 : 0 ≤ x6 ∧ x6 ≤ 40) (p0 : 0 ≤ σ 42 1 ∧ σ 42 1 ≤ 1900) : qm_T (qe L xs vb) (d + 1) 152 [.ref 42, .int (qz 11), .int (qz 0), .int (qz 5), .int (qz x4), .int (qz x5), .int (qz x6)] (qw σ α κ ρ) (fun r w' => ∃ σ' α', w' = qw σ' α' κ ρ ∧ qI σ' α' κ ρ ∧ qFr [(42, 1)] [43] σ α σ' α' ∧ ∃ v : Int, r = some (.int (qz v)) ∧ ((-2147483648) ≤ v ∧ v ≤ 2147483647) ∧ σ' 42 1 = σ 42 1 + 1) := by
  refine qr_start (d := d + 0) qv_e152 (Nat.le_of_ble_eq_true rfl) ?_
  show qr_W (qe L xs vb) (d + 0) qx_e152 _ (0, [(0, .ref 42), (1, .int (qz 11)), (2, .int (qz 0)), (3, .int (qz 5)), (4, .int (qz x4)), (5, .int (qz x5)), (6, .int (qz x6))], [], _, 0, 0)
  have hF0 := qFr_rf [(42, 1)] [43] σ α
  have hz42_1 : (-2147483648) ≤ σ 42 1 ∧ σ 42 1 ≤ 2147483647 := hI.1 42 1
  refine qr_aload_n 1 rfl rfl rfl ?_
  refine qr_get 4 rfl rfl rfl (by decide) rfl ?_
  refine qr_aload_n 5 rfl rfl rfl ?_
  refine qr_get 8 rfl rfl rfl (by decide) rfl ?_
  refine qr_alen 9 rfl rfl (by first | exact Or.inl (by decide) | exact Or.inr (Or.inl rfl) | exact Or.inr (Or.inr (Or.inl rfl)) | exact Or.inr (Or.inr (Or.inr (Or.inl rfl)))) rfl ?_
  refine qy_v 24 rfl ?_
  refine qr_icmp_ge 22 12 rfl rfl rfl (by omega) (by omega) (fun h1 => ?_) (fun h1 => ?_)
  · skip
    refine qr_aload_n 23 rfl rfl rfl ?_
    refine qr_dup 24 rfl rfl rfl ?_
    refine qr_get 27 rfl rfl rfl (by decide) rfl ?_
    refine qr_iconst 28 rfl rfl ?_
    refine qr_iadd 29 rfl rfl ?_
    refine qr_put 32 rfl (by decide) rfl (Nat.le_of_ble_eq_true rfl) (Nat.le_of_ble_eq_true rfl) (Or.inl rfl) (qr_fitI rfl _) rfl ?_
    refine qy_wS (qw_s σ 42 1 ((σ 42 1) + 1)) rfl (fun σ2 e3 => ?_)
    have hI4 : qI σ2 α κ ρ := by rw [e3]; exact qI_s hI 42 1 rfl (show (-2147483648) ≤ ((σ 42 1) + 1) ∧ ((σ 42 1) + 1) ≤ 2147483647 by omega)
    have hF5 : qFr [(42, 1)] [43] σ α σ2 α := by rw [e3]; exact qFr_s hF0 42 1 _ (by decide)
    refine qr_getst 35 rfl rfl ?_
    refine qr_iload_n 36 rfl rfl rfl ?_
    refine qr_iaload 37 rfl rfl (by omega) (by decide) rfl ?_
    refine qy_v (-1) (by decide) ?_
    refine qr_istore _ 39 rfl (by decide) rfl rfl ?_
    refine qr_iload_n 40 rfl rfl rfl ?_
    refine qr_look (off := 154) 194 rfl (by omega) (by decide) (by decide) rfl ?_
    refine qr_iload 196 rfl rfl rfl ?_
    refine qr_iload 198 rfl rfl rfl ?_
    refine qr_ixor 199 rfl rfl ?_
    refine qy_can (fun v6 hv6 => ?_)
    refine qr_retI rfl rfl (by decide) (by decide) ?_
    have hw7 : σ2 42 1 = ((σ 42 1) + 1) := (congrFun (congrFun e3 42) 1).trans rfl
    exact ⟨_, _, rfl, hI4, hF5, v6, rfl, by omega, by omega⟩
  · skip
    refine qr_aload_n 13 rfl rfl rfl ?_
    refine qr_get 16 rfl rfl rfl (by decide) rfl ?_
    refine qr_aload_n 17 rfl rfl rfl ?_
    refine qr_get 20 rfl rfl rfl (by decide) rfl ?_
    refine qr_iload_n 21 rfl rfl rfl ?_
    refine qr_iastore 22 rfl (by decide) rfl (by omega) (by decide) rfl ?_
    refine qy_wA (qw_r α 43 (qzu (α 43) ((σ 42 1) : Int).toNat 11)) rfl (fun α8 e9 => ?_)
    have hI10 : qI σ α8 κ ρ := by rw [e9]; exact qI_r hI 43 _ rfl (show (-2147483648) ≤ 11 ∧ 11 ≤ 2147483647 by omega)
    have hF11 : qFr [(42, 1)] [43] σ α σ α8 := by rw [e9]; exact qFr_r hF0 43 _ (by decide)
    refine qr_aload_n 23 rfl rfl rfl ?_
    refine qr_dup 24 rfl rfl rfl ?_
    refine qr_get 27 rfl rfl rfl (by decide) rfl ?_
    refine qr_iconst 28 rfl rfl ?_
    refine qr_iadd 29 rfl rfl ?_
    refine qr_put 32 rfl (by decide) rfl (Nat.le_of_ble_eq_true rfl) (Nat.le_of_ble_eq_true rfl) (Or.inl rfl) (qr_fitI rfl _) rfl ?_
    refine qy_wS (qw_s σ 42 1 ((σ 42 1) + 1)) rfl (fun σ12 e13 => ?_)
    have hI14 : qI σ12 α8 κ ρ := by rw [e13]; exact qI_s hI10 42 1 rfl (show (-2147483648) ≤ ((σ 42 1) + 1) ∧ ((σ 42 1) + 1) ≤ 2147483647 by omega)
    have hF15 : qFr [(42, 1)] [43] σ α σ12 α8 := by rw [e13]; exact qFr_s hF11 42 1 _ (by decide)
    refine qr_getst 35 rfl rfl ?_
    refine qr_iload_n 36 rfl rfl rfl ?_
    refine qr_iaload 37 rfl rfl (by omega) (by decide) rfl ?_
    refine qy_v (-1) (by decide) ?_
    refine qr_istore _ 39 rfl (by decide) rfl rfl ?_
    refine qr_iload_n 40 rfl rfl rfl ?_
    refine qr_look (off := 154) 194 rfl (by omega) (by decide) (by decide) rfl ?_
    refine qr_iload 196 rfl rfl rfl ?_
    refine qr_iload 198 rfl rfl rfl ?_
    refine qr_ixor 199 rfl rfl ?_
    refine qy_can (fun v16 hv16 => ?_)
    refine qr_retI rfl rfl (by decide) (by decide) ?_
    have hw17 : σ12 42 1 = ((σ 42 1) + 1) := (congrFun (congrFun e13 42) 1).trans rfl
    exact ⟨_, _, rfl, hI14, hF15, v16, rfl, by omega, by omega⟩

set_option maxHeartbeats 4000000 in
set_option maxRecDepth 20000 in
/-- OneRoof$Acts.runFrom -/
theorem sf_151_42f5_5_2 {L : Nat} {xs : Nat → Int} {vb : Bool} {d : Nat} {σ α : Nat → Nat → Int} {κ : Nat → Option Nat} {ρ : Nat} {x4 : Int} {x5 : Int} {x6 : Int} (hI : qI σ α κ ρ) (r4 : (-2147483648) ≤ x4 ∧ x4 ≤ 2147483647) (r5 : (-2147483648) ≤ x5 ∧ x5 ≤ 2147483647) (r6 : 0 ≤ x6 ∧ x6 ≤ 39) (p0 : 0 ≤ σ 42 1 ∧ σ 42 1 ≤ 1900) : qm_T (qe L xs vb) (d + 2) 151 [.ref 42, .int (qz 5), .int (qz 5), .int (qz 2), .int (qz x4), .int (qz x5), .int (qz x6)] (qw σ α κ ρ) (fun r w' => ∃ σ' α', w' = qw σ' α' κ ρ ∧ qI σ' α' κ ρ ∧ qFr [(42, 1)] [43] σ α σ' α' ∧ ∃ v : Int, r = some (.int (qz v)) ∧ ((-2147483648) ≤ v ∧ v ≤ 2147483647) ∧ σ' 42 1 = σ 42 1 + 1) := by
  refine qr_start (d := d + 1) qv_e151 (Nat.le_of_ble_eq_true rfl) ?_
  show qr_W (qe L xs vb) (d + 1) qx_e151 _ (0, [(0, .ref 42), (1, .int (qz 5)), (2, .int (qz 5)), (3, .int (qz 2)), (4, .int (qz x4)), (5, .int (qz x5)), (6, .int (qz x6))], [], _, 0, 0)
  have hF0 := qFr_rf [(42, 1)] [43] σ α
  have hz42_1 : (-2147483648) ≤ σ 42 1 ∧ σ 42 1 ≤ 2147483647 := hI.1 42 1
  refine qr_iload_n 1 rfl rfl rfl ?_
  refine qr_istore _ 3 rfl (by decide) rfl rfl ?_
  refine qr_iconst 4 rfl rfl ?_
  refine qr_istore _ 6 rfl (by decide) rfl rfl ?_
  refine qr_iload 8 rfl rfl rfl ?_
  refine qr_getst 11 rfl rfl ?_
  refine qr_alen 12 rfl rfl (by first | exact Or.inl (by decide) | exact Or.inr (Or.inl rfl) | exact Or.inr (Or.inr (Or.inl rfl)) | exact Or.inr (Or.inr (Or.inr (Or.inl rfl)))) rfl ?_
  refine qy_v 7 rfl ?_
  refine qr_icmp_ge 89 15 rfl rfl rfl (by omega) (by omega) (fun h => False.elim (by omega)) (fun h1 => ?_)
  refine qr_iload 17 rfl rfl rfl ?_
  refine qr_if_lt 89 20 rfl rfl rfl (by omega) (fun h => False.elim (by omega)) (fun h2 => ?_)
  refine qr_iload 22 rfl rfl rfl ?_
  refine qr_getst 25 rfl rfl ?_
  refine qr_alen 26 rfl rfl (by first | exact Or.inl (by decide) | exact Or.inr (Or.inl rfl) | exact Or.inr (Or.inr (Or.inl rfl)) | exact Or.inr (Or.inr (Or.inr (Or.inl rfl)))) rfl ?_
  refine qy_v 7 rfl ?_
  refine qr_icmp_ge 89 29 rfl rfl rfl (by omega) (by omega) (fun h => False.elim (by omega)) (fun h3 => ?_)
  refine qr_getst 32 rfl rfl ?_
  refine qr_iload 34 rfl rfl rfl ?_
  refine qr_iconst 35 rfl rfl ?_
  refine qr_imul 36 rfl rfl ?_
  refine qy_v 20 rfl ?_
  refine qr_iload_n 37 rfl rfl rfl ?_
  refine qr_iadd 38 rfl rfl ?_
  refine qy_v 22 rfl ?_
  refine qr_iaload 39 rfl rfl (by omega) (by decide) rfl ?_
  refine qy_v 0 (by decide) ?_
  refine qr_istore _ 41 rfl (by decide) rfl rfl ?_
  refine qr_iload 43 rfl rfl rfl ?_
  refine qr_if_eq 75 46 rfl rfl rfl (by omega) (fun h4 => ?_) (fun h => False.elim (by omega))
  refine qr_getst 78 rfl rfl ?_
  refine qr_iload 80 rfl rfl rfl ?_
  refine qr_iaload 81 rfl rfl (by omega) (by decide) rfl ?_
  refine qy_v 4 (by decide) ?_
  refine qr_istore _ 83 rfl (by decide) rfl rfl ?_
  refine qr_iinc _ 86 rfl rfl (by decide) rfl rfl ?_
  refine qr_goto 6 rfl rfl ?_
  refine qr_iload 8 rfl rfl rfl ?_
  refine qr_getst 11 rfl rfl ?_
  refine qr_alen 12 rfl rfl (by first | exact Or.inl (by decide) | exact Or.inr (Or.inl rfl) | exact Or.inr (Or.inr (Or.inl rfl)) | exact Or.inr (Or.inr (Or.inr (Or.inl rfl)))) rfl ?_
  refine qy_v 7 rfl ?_
  refine qr_icmp_ge 89 15 rfl rfl rfl (by omega) (by omega) (fun h => False.elim (by omega)) (fun h5 => ?_)
  refine qr_iload 17 rfl rfl rfl ?_
  refine qr_if_lt 89 20 rfl rfl rfl (by omega) (fun h => False.elim (by omega)) (fun h6 => ?_)
  refine qr_iload 22 rfl rfl rfl ?_
  refine qr_getst 25 rfl rfl ?_
  refine qr_alen 26 rfl rfl (by first | exact Or.inl (by decide) | exact Or.inr (Or.inl rfl) | exact Or.inr (Or.inr (Or.inl rfl)) | exact Or.inr (Or.inr (Or.inr (Or.inl rfl)))) rfl ?_
  refine qy_v 7 rfl ?_
  refine qr_icmp_ge 89 29 rfl rfl rfl (by omega) (by omega) (fun h => False.elim (by omega)) (fun h7 => ?_)
  refine qr_getst 32 rfl rfl ?_
  refine qr_iload 34 rfl rfl rfl ?_
  refine qr_iconst 35 rfl rfl ?_
  refine qr_imul 36 rfl rfl ?_
  refine qy_v 16 rfl ?_
  refine qr_iload_n 37 rfl rfl rfl ?_
  refine qr_iadd 38 rfl rfl ?_
  refine qy_v 18 rfl ?_
  refine qr_iaload 39 rfl rfl (by omega) (by decide) rfl ?_
  refine qy_v 0 (by decide) ?_
  refine qr_istore _ 41 rfl (by decide) rfl rfl ?_
  refine qr_iload 43 rfl rfl rfl ?_
  refine qr_if_eq 75 46 rfl rfl rfl (by omega) (fun h8 => ?_) (fun h => False.elim (by omega))
  as_aux_lemma =>
    refine qr_getst 78 rfl rfl ?_
    refine qr_iload 80 rfl rfl rfl ?_
    refine qr_iaload 81 rfl rfl (by omega) (by decide) rfl ?_
    refine qy_v 0 (by decide) ?_
    refine qr_istore _ 83 rfl (by decide) rfl rfl ?_
    refine qr_iinc _ 86 rfl rfl (by decide) rfl rfl ?_
    refine qr_goto 6 rfl rfl ?_
    refine qr_iload 8 rfl rfl rfl ?_
    refine qr_getst 11 rfl rfl ?_
    refine qr_alen 12 rfl rfl (by first | exact Or.inl (by decide) | exact Or.inr (Or.inl rfl) | exact Or.inr (Or.inr (Or.inl rfl)) | exact Or.inr (Or.inr (Or.inr (Or.inl rfl)))) rfl ?_
    refine qy_v 7 rfl ?_
    refine qr_icmp_ge 89 15 rfl rfl rfl (by omega) (by omega) (fun h => False.elim (by omega)) (fun h9 => ?_)
    refine qr_iload 17 rfl rfl rfl ?_
    refine qr_if_lt 89 20 rfl rfl rfl (by omega) (fun h => False.elim (by omega)) (fun h10 => ?_)
    refine qr_iload 22 rfl rfl rfl ?_
    refine qr_getst 25 rfl rfl ?_
    refine qr_alen 26 rfl rfl (by first | exact Or.inl (by decide) | exact Or.inr (Or.inl rfl) | exact Or.inr (Or.inr (Or.inl rfl)) | exact Or.inr (Or.inr (Or.inr (Or.inl rfl)))) rfl ?_
    refine qy_v 7 rfl ?_
    refine qr_icmp_ge 89 29 rfl rfl rfl (by omega) (by omega) (fun h => False.elim (by omega)) (fun h11 => ?_)
    refine qr_getst 32 rfl rfl ?_
    refine qr_iload 34 rfl rfl rfl ?_
    refine qr_iconst 35 rfl rfl ?_
    refine qr_imul 36 rfl rfl ?_
    refine qy_v 0 rfl ?_
    refine qr_iload_n 37 rfl rfl rfl ?_
    refine qr_iadd 38 rfl rfl ?_
    refine qy_v 2 rfl ?_
    refine qr_iaload 39 rfl rfl (by omega) (by decide) rfl ?_
    refine qy_v 11 (by decide) ?_
    refine qr_istore _ 41 rfl (by decide) rfl rfl ?_
    refine qr_iload 43 rfl rfl rfl ?_
    refine qr_if_eq 75 46 rfl rfl rfl (by omega) (fun h => False.elim (by omega)) (fun h12 => ?_)
    refine qr_iload 48 rfl rfl rfl ?_
    refine qr_bipush 50 rfl (by decide) rfl ?_
    refine qr_icmp_le 57 53 rfl rfl rfl (by omega) (by omega) (fun h13 => ?_) (fun h => False.elim (by omega))
    refine qr_aload_n 58 rfl rfl rfl ?_
    refine qr_iload 60 rfl rfl rfl ?_
    refine qr_iload 62 rfl rfl rfl ?_
    refine qr_iload_n 63 rfl rfl rfl ?_
    refine qr_iload 65 rfl rfl rfl ?_
    refine qr_iload 67 rfl rfl rfl ?_
    refine qr_iload 69 rfl rfl rfl ?_
    refine qr_iconst 70 rfl rfl ?_
    refine qr_iadd 71 rfl rfl ?_
    refine qr_callN 74 rfl rfl rfl (sf_152_42b11_0_5 (d := d + 0) hI (by omega) (by omega) (by omega) (by omega)) ?_
    have hs16 : (-2147483648) ≤ σ 42 1 ∧ σ 42 1 ≤ 2147483647 := hI.1 42 1
    rintro _ _ ⟨σ17, α18, rfl, hI19, hG20, v14, rfl, hv14, hp15⟩
    have hF21 : qFr [(42, 1)] [43] σ α σ17 α18 := qFr_t hF0 hG20 (by decide) (by decide)
    have hs22 : (-2147483648) ≤ σ17 42 1 ∧ σ17 42 1 ≤ 2147483647 := hI19.1 42 1
    show qr_W (qe L xs vb) (d + 1) qx_e151 _ (74, _, [.int (qz v14)], qw σ17 α18 κ ρ, 0, 0)
    refine qr_retI rfl rfl (by decide) (by decide) ?_
    exact ⟨_, _, rfl, hI19, hF21, v14, rfl, by omega, by omega⟩

set_option maxHeartbeats 4000000 in
set_option maxRecDepth 20000 in
/-- OneRoof$Acts.run -/
theorem sf_150_42r5_2 {L : Nat} {xs : Nat → Int} {vb : Bool} {d : Nat} {σ α : Nat → Nat → Int} {κ : Nat → Option Nat} {ρ : Nat} {x3 : Int} {x4 : Int} {x5 : Int} (hI : qI σ α κ ρ) (r3 : (-2147483648) ≤ x3 ∧ x3 ≤ 2147483647) (r4 : (-2147483648) ≤ x4 ∧ x4 ≤ 2147483647) (r5 : 0 ≤ x5 ∧ x5 ≤ 39) (p0 : 0 ≤ σ 42 1 ∧ σ 42 1 ≤ 1900) : qm_T (qe L xs vb) (d + 3) 150 [.ref 42, .int (qz 5), .int (qz 2), .int (qz x3), .int (qz x4), .int (qz x5)] (qw σ α κ ρ) (fun r w' => ∃ σ' α', w' = qw σ' α' κ ρ ∧ qI σ' α' κ ρ ∧ qFr [(42, 1)] [43] σ α σ' α' ∧ ∃ v : Int, r = some (.int (qz v)) ∧ ((-2147483648) ≤ v ∧ v ≤ 2147483647) ∧ σ' 42 1 = σ 42 1 + 1) := by
  refine qr_start (d := d + 2) qv_e150 (Nat.le_of_ble_eq_true rfl) ?_
  show qr_W (qe L xs vb) (d + 2) qx_e150 _ (0, [(0, .ref 42), (1, .int (qz 5)), (2, .int (qz 2)), (3, .int (qz x3)), (4, .int (qz x4)), (5, .int (qz x5))], [], _, 0, 0)
  have hF0 := qFr_rf [(42, 1)] [43] σ α
  have hz42_1 : (-2147483648) ≤ σ 42 1 ∧ σ 42 1 ≤ 2147483647 := hI.1 42 1
  refine qr_aload_n 1 rfl rfl rfl ?_
  refine qr_iload_n 2 rfl rfl rfl ?_
  refine qr_iload_n 3 rfl rfl rfl ?_
  refine qr_iload_n 4 rfl rfl rfl ?_
  refine qr_iload_n 5 rfl rfl rfl ?_
  refine qr_iload 7 rfl rfl rfl ?_
  refine qr_iload 9 rfl rfl rfl ?_
  refine qr_callN 12 rfl rfl rfl (sf_151_42f5_5_2 (d := d + 0) hI (by omega) (by omega) (by omega) (by omega)) ?_
  have hs3 : (-2147483648) ≤ σ 42 1 ∧ σ 42 1 ≤ 2147483647 := hI.1 42 1
  rintro _ _ ⟨σ4, α5, rfl, hI6, hG7, v1, rfl, hv1, hp2⟩
  have hF8 : qFr [(42, 1)] [43] σ α σ4 α5 := qFr_t hF0 hG7 (by decide) (by decide)
  have hs9 : (-2147483648) ≤ σ4 42 1 ∧ σ4 42 1 ≤ 2147483647 := hI6.1 42 1
  show qr_W (qe L xs vb) (d + 2) qx_e150 _ (12, _, [.int (qz v1)], qw σ4 α5 κ ρ, 0, 0)
  refine qr_retI rfl rfl (by decide) (by decide) ?_
  exact ⟨_, _, rfl, hI6, hF8, v1, rfl, by omega, by omega⟩

set_option maxHeartbeats 4000000 in
set_option maxRecDepth 20000 in
/-- OneRoof$Acts.begin -/
theorem sf_152_42b60_5_5 {L : Nat} {xs : Nat → Int} {vb : Bool} {d : Nat} {σ α : Nat → Nat → Int} {κ : Nat → Option Nat} {ρ : Nat} {x4 : Int} {x5 : Int} {x6 : Int} (hI : qI σ α κ ρ) (r4 : (-2147483648) ≤ x4 ∧ x4 ≤ 2147483647) (r5 : (-2147483648) ≤ x5 ∧ x5 ≤ 2147483647) (r6 : 0 ≤ x6 ∧ x6 ≤ 39) (p0 : 0 ≤ σ 42 1 ∧ σ 42 1 ≤ 1800) : qm_T (qe L xs vb) (d + 4) 152 [.ref 42, .int (qz 60), .int (qz 5), .int (qz 5), .int (qz x4), .int (qz x5), .int (qz x6)] (qw σ α κ ρ) (fun r w' => ∃ σ' α', w' = qw σ' α' κ ρ ∧ qI σ' α' κ ρ ∧ qFr [(42, 1)] [43] σ α σ' α' ∧ ∃ v : Int, r = some (.int (qz v)) ∧ ((-2147483648) ≤ v ∧ v ≤ 2147483647) ∧ σ' 42 1 = σ 42 1 + 3) := by
  refine qr_start (d := d + 3) qv_e152 (Nat.le_of_ble_eq_true rfl) ?_
  show qr_W (qe L xs vb) (d + 3) qx_e152 _ (0, [(0, .ref 42), (1, .int (qz 60)), (2, .int (qz 5)), (3, .int (qz 5)), (4, .int (qz x4)), (5, .int (qz x5)), (6, .int (qz x6))], [], _, 0, 0)
  have hF0 := qFr_rf [(42, 1)] [43] σ α
  have hz42_1 : (-2147483648) ≤ σ 42 1 ∧ σ 42 1 ≤ 2147483647 := hI.1 42 1
  refine qr_aload_n 1 rfl rfl rfl ?_
  refine qr_get 4 rfl rfl rfl (by decide) rfl ?_
  refine qr_aload_n 5 rfl rfl rfl ?_
  refine qr_get 8 rfl rfl rfl (by decide) rfl ?_
  refine qr_alen 9 rfl rfl (by first | exact Or.inl (by decide) | exact Or.inr (Or.inl rfl) | exact Or.inr (Or.inr (Or.inl rfl)) | exact Or.inr (Or.inr (Or.inr (Or.inl rfl)))) rfl ?_
  refine qy_v 24 rfl ?_
  refine qr_icmp_ge 22 12 rfl rfl rfl (by omega) (by omega) (fun h1 => ?_) (fun h1 => ?_)
  · skip
    refine qr_aload_n 23 rfl rfl rfl ?_
    refine qr_dup 24 rfl rfl rfl ?_
    refine qr_get 27 rfl rfl rfl (by decide) rfl ?_
    refine qr_iconst 28 rfl rfl ?_
    refine qr_iadd 29 rfl rfl ?_
    refine qr_put 32 rfl (by decide) rfl (Nat.le_of_ble_eq_true rfl) (Nat.le_of_ble_eq_true rfl) (Or.inl rfl) (qr_fitI rfl _) rfl ?_
    refine qy_wS (qw_s σ 42 1 ((σ 42 1) + 1)) rfl (fun σ2 e3 => ?_)
    have hI4 : qI σ2 α κ ρ := by rw [e3]; exact qI_s hI 42 1 rfl (show (-2147483648) ≤ ((σ 42 1) + 1) ∧ ((σ 42 1) + 1) ≤ 2147483647 by omega)
    have hF5 : qFr [(42, 1)] [43] σ α σ2 α := by rw [e3]; exact qFr_s hF0 42 1 _ (by decide)
    refine qr_getst 35 rfl rfl ?_
    refine qr_iload_n 36 rfl rfl rfl ?_
    refine qr_iaload 37 rfl rfl (by omega) (by decide) rfl ?_
    refine qy_v 4 (by decide) ?_
    refine qr_istore _ 39 rfl (by decide) rfl rfl ?_
    refine qr_iload_n 40 rfl rfl rfl ?_
    refine qr_look (off := 244) 284 rfl (by omega) (by decide) (by decide) rfl ?_
    refine qr_aload_n 285 rfl rfl rfl ?_
    refine qr_iload 287 rfl rfl rfl ?_
    refine qr_iload_n 288 rfl rfl rfl ?_
    refine qr_iconst 289 rfl rfl ?_
    refine qr_iload 291 rfl rfl rfl ?_
    refine qr_iload 293 rfl rfl rfl ?_
    refine qr_iload 295 rfl rfl rfl ?_
    refine qr_callN 298 rfl rfl rfl (sf_151_42f4_5_0 (d := d + 1) hI4 (by omega) (by omega) (by omega) (by omega)) ?_
    have hs8 : (-2147483648) ≤ σ2 42 1 ∧ σ2 42 1 ≤ 2147483647 := hI4.1 42 1
    have hs9 : σ2 42 1 = ((σ 42 1) + 1) := (congrFun (congrFun e3 42) 1).trans rfl
    rintro _ _ ⟨σ10, α11, rfl, hI12, hG13, v6, rfl, hv6, hp7⟩
    have hF14 : qFr [(42, 1)] [43] σ α σ10 α11 := qFr_t hF5 hG13 (by decide) (by decide)
    have hs15 : (-2147483648) ≤ σ10 42 1 ∧ σ10 42 1 ≤ 2147483647 := hI12.1 42 1
    show qr_W (qe L xs vb) (d + 3) qx_e152 _ (298, _, [.int (qz v6)], qw σ10 α11 κ ρ, 0, 0)
    refine qr_aload_n 299 rfl rfl rfl ?_
    refine qr_iload_n 300 rfl rfl rfl ?_
    refine qr_iconst 301 rfl rfl ?_
    refine qr_iconst 302 rfl rfl ?_
    refine qr_iload 304 rfl rfl rfl ?_
    refine qr_iload 306 rfl rfl rfl ?_
    refine qr_callN 309 rfl rfl rfl (sf_150_42r5_2 (d := d + 0) hI12 (by omega) (by omega) (by omega) (by omega)) ?_
    have hs18 : (-2147483648) ≤ σ10 42 1 ∧ σ10 42 1 ≤ 2147483647 := hI12.1 42 1
    rintro _ _ ⟨σ19, α20, rfl, hI21, hG22, v16, rfl, hv16, hp17⟩
    have hF23 : qFr [(42, 1)] [43] σ α σ19 α20 := qFr_t hF14 hG22 (by decide) (by decide)
    have hs24 : (-2147483648) ≤ σ19 42 1 ∧ σ19 42 1 ≤ 2147483647 := hI21.1 42 1
    show qr_W (qe L xs vb) (d + 3) qx_e152 _ (309, _, [.int (qz v16), .int (qz v6)], qw σ19 α20 κ ρ, 0, 0)
    refine qr_isub 310 rfl rfl ?_
    refine qy_can (fun v25 hv25 => ?_)
    refine qr_retI rfl rfl (by decide) (by decide) ?_
    exact ⟨_, _, rfl, hI21, hF23, v25, rfl, by omega, by omega⟩
  · skip
    refine qr_aload_n 13 rfl rfl rfl ?_
    refine qr_get 16 rfl rfl rfl (by decide) rfl ?_
    refine qr_aload_n 17 rfl rfl rfl ?_
    refine qr_get 20 rfl rfl rfl (by decide) rfl ?_
    refine qr_iload_n 21 rfl rfl rfl ?_
    refine qr_iastore 22 rfl (by decide) rfl (by omega) (by decide) rfl ?_
    refine qy_wA (qw_r α 43 (qzu (α 43) ((σ 42 1) : Int).toNat 60)) rfl (fun α26 e27 => ?_)
    have hI28 : qI σ α26 κ ρ := by rw [e27]; exact qI_r hI 43 _ rfl (show (-2147483648) ≤ 60 ∧ 60 ≤ 2147483647 by omega)
    have hF29 : qFr [(42, 1)] [43] σ α σ α26 := by rw [e27]; exact qFr_r hF0 43 _ (by decide)
    refine qr_aload_n 23 rfl rfl rfl ?_
    refine qr_dup 24 rfl rfl rfl ?_
    refine qr_get 27 rfl rfl rfl (by decide) rfl ?_
    refine qr_iconst 28 rfl rfl ?_
    refine qr_iadd 29 rfl rfl ?_
    refine qr_put 32 rfl (by decide) rfl (Nat.le_of_ble_eq_true rfl) (Nat.le_of_ble_eq_true rfl) (Or.inl rfl) (qr_fitI rfl _) rfl ?_
    refine qy_wS (qw_s σ 42 1 ((σ 42 1) + 1)) rfl (fun σ30 e31 => ?_)
    have hI32 : qI σ30 α26 κ ρ := by rw [e31]; exact qI_s hI28 42 1 rfl (show (-2147483648) ≤ ((σ 42 1) + 1) ∧ ((σ 42 1) + 1) ≤ 2147483647 by omega)
    have hF33 : qFr [(42, 1)] [43] σ α σ30 α26 := by rw [e31]; exact qFr_s hF29 42 1 _ (by decide)
    refine qr_getst 35 rfl rfl ?_
    refine qr_iload_n 36 rfl rfl rfl ?_
    refine qr_iaload 37 rfl rfl (by omega) (by decide) rfl ?_
    refine qy_v 4 (by decide) ?_
    refine qr_istore _ 39 rfl (by decide) rfl rfl ?_
    refine qr_iload_n 40 rfl rfl rfl ?_
    refine qr_look (off := 244) 284 rfl (by omega) (by decide) (by decide) rfl ?_
    refine qr_aload_n 285 rfl rfl rfl ?_
    refine qr_iload 287 rfl rfl rfl ?_
    refine qr_iload_n 288 rfl rfl rfl ?_
    refine qr_iconst 289 rfl rfl ?_
    refine qr_iload 291 rfl rfl rfl ?_
    refine qr_iload 293 rfl rfl rfl ?_
    refine qr_iload 295 rfl rfl rfl ?_
    refine qr_callN 298 rfl rfl rfl (sf_151_42f4_5_0 (d := d + 1) hI32 (by omega) (by omega) (by omega) (by omega)) ?_
    have hs36 : (-2147483648) ≤ σ30 42 1 ∧ σ30 42 1 ≤ 2147483647 := hI32.1 42 1
    have hs37 : σ30 42 1 = ((σ 42 1) + 1) := (congrFun (congrFun e31 42) 1).trans rfl
    rintro _ _ ⟨σ38, α39, rfl, hI40, hG41, v34, rfl, hv34, hp35⟩
    have hF42 : qFr [(42, 1)] [43] σ α σ38 α39 := qFr_t hF33 hG41 (by decide) (by decide)
    have hs43 : (-2147483648) ≤ σ38 42 1 ∧ σ38 42 1 ≤ 2147483647 := hI40.1 42 1
    show qr_W (qe L xs vb) (d + 3) qx_e152 _ (298, _, [.int (qz v34)], qw σ38 α39 κ ρ, 0, 0)
    refine qr_aload_n 299 rfl rfl rfl ?_
    refine qr_iload_n 300 rfl rfl rfl ?_
    refine qr_iconst 301 rfl rfl ?_
    refine qr_iconst 302 rfl rfl ?_
    refine qr_iload 304 rfl rfl rfl ?_
    refine qr_iload 306 rfl rfl rfl ?_
    refine qr_callN 309 rfl rfl rfl (sf_150_42r5_2 (d := d + 0) hI40 (by omega) (by omega) (by omega) (by omega)) ?_
    have hs46 : (-2147483648) ≤ σ38 42 1 ∧ σ38 42 1 ≤ 2147483647 := hI40.1 42 1
    rintro _ _ ⟨σ47, α48, rfl, hI49, hG50, v44, rfl, hv44, hp45⟩
    have hF51 : qFr [(42, 1)] [43] σ α σ47 α48 := qFr_t hF42 hG50 (by decide) (by decide)
    have hs52 : (-2147483648) ≤ σ47 42 1 ∧ σ47 42 1 ≤ 2147483647 := hI49.1 42 1
    show qr_W (qe L xs vb) (d + 3) qx_e152 _ (309, _, [.int (qz v44), .int (qz v34)], qw σ47 α48 κ ρ, 0, 0)
    refine qr_isub 310 rfl rfl ?_
    refine qy_can (fun v53 hv53 => ?_)
    refine qr_retI rfl rfl (by decide) (by decide) ?_
    exact ⟨_, _, rfl, hI49, hF51, v53, rfl, by omega, by omega⟩

set_option maxHeartbeats 4000000 in
set_option maxRecDepth 20000 in
/-- OneRoof$Acts.runFrom -/
theorem sf_151_42f5_5_0 {L : Nat} {xs : Nat → Int} {vb : Bool} {d : Nat} {σ α : Nat → Nat → Int} {κ : Nat → Option Nat} {ρ : Nat} {x4 : Int} {x5 : Int} {x6 : Int} (hI : qI σ α κ ρ) (r4 : (-2147483648) ≤ x4 ∧ x4 ≤ 2147483647) (r5 : (-2147483648) ≤ x5 ∧ x5 ≤ 2147483647) (r6 : 0 ≤ x6 ∧ x6 ≤ 38) (p0 : 0 ≤ σ 42 1 ∧ σ 42 1 ≤ 1800) : qm_T (qe L xs vb) (d + 5) 151 [.ref 42, .int (qz 5), .int (qz 5), .int (qz 0), .int (qz x4), .int (qz x5), .int (qz x6)] (qw σ α κ ρ) (fun r w' => ∃ σ' α', w' = qw σ' α' κ ρ ∧ qI σ' α' κ ρ ∧ qFr [(42, 1)] [43] σ α σ' α' ∧ ∃ v : Int, r = some (.int (qz v)) ∧ ((-2147483648) ≤ v ∧ v ≤ 2147483647) ∧ σ' 42 1 = σ 42 1 + 3) := by
  refine qr_start (d := d + 4) qv_e151 (Nat.le_of_ble_eq_true rfl) ?_
  show qr_W (qe L xs vb) (d + 4) qx_e151 _ (0, [(0, .ref 42), (1, .int (qz 5)), (2, .int (qz 5)), (3, .int (qz 0)), (4, .int (qz x4)), (5, .int (qz x5)), (6, .int (qz x6))], [], _, 0, 0)
  have hF0 := qFr_rf [(42, 1)] [43] σ α
  have hz42_1 : (-2147483648) ≤ σ 42 1 ∧ σ 42 1 ≤ 2147483647 := hI.1 42 1
  refine qr_iload_n 1 rfl rfl rfl ?_
  refine qr_istore _ 3 rfl (by decide) rfl rfl ?_
  refine qr_iconst 4 rfl rfl ?_
  refine qr_istore _ 6 rfl (by decide) rfl rfl ?_
  refine qr_iload 8 rfl rfl rfl ?_
  refine qr_getst 11 rfl rfl ?_
  refine qr_alen 12 rfl rfl (by first | exact Or.inl (by decide) | exact Or.inr (Or.inl rfl) | exact Or.inr (Or.inr (Or.inl rfl)) | exact Or.inr (Or.inr (Or.inr (Or.inl rfl)))) rfl ?_
  refine qy_v 7 rfl ?_
  refine qr_icmp_ge 89 15 rfl rfl rfl (by omega) (by omega) (fun h => False.elim (by omega)) (fun h1 => ?_)
  refine qr_iload 17 rfl rfl rfl ?_
  refine qr_if_lt 89 20 rfl rfl rfl (by omega) (fun h => False.elim (by omega)) (fun h2 => ?_)
  refine qr_iload 22 rfl rfl rfl ?_
  refine qr_getst 25 rfl rfl ?_
  refine qr_alen 26 rfl rfl (by first | exact Or.inl (by decide) | exact Or.inr (Or.inl rfl) | exact Or.inr (Or.inr (Or.inl rfl)) | exact Or.inr (Or.inr (Or.inr (Or.inl rfl)))) rfl ?_
  refine qy_v 7 rfl ?_
  refine qr_icmp_ge 89 29 rfl rfl rfl (by omega) (by omega) (fun h => False.elim (by omega)) (fun h3 => ?_)
  refine qr_getst 32 rfl rfl ?_
  refine qr_iload 34 rfl rfl rfl ?_
  refine qr_iconst 35 rfl rfl ?_
  refine qr_imul 36 rfl rfl ?_
  refine qy_v 20 rfl ?_
  refine qr_iload_n 37 rfl rfl rfl ?_
  refine qr_iadd 38 rfl rfl ?_
  refine qy_v 20 rfl ?_
  refine qr_iaload 39 rfl rfl (by omega) (by decide) rfl ?_
  refine qy_v 60 (by decide) ?_
  refine qr_istore _ 41 rfl (by decide) rfl rfl ?_
  refine qr_iload 43 rfl rfl rfl ?_
  refine qr_if_eq 75 46 rfl rfl rfl (by omega) (fun h => False.elim (by omega)) (fun h4 => ?_)
  refine qr_iload 48 rfl rfl rfl ?_
  refine qr_bipush 50 rfl (by decide) rfl ?_
  refine qr_icmp_le 57 53 rfl rfl rfl (by omega) (by omega) (fun h5 => ?_) (fun h => False.elim (by omega))
  refine qr_aload_n 58 rfl rfl rfl ?_
  refine qr_iload 60 rfl rfl rfl ?_
  refine qr_iload 62 rfl rfl rfl ?_
  refine qr_iload_n 63 rfl rfl rfl ?_
  refine qr_iload 65 rfl rfl rfl ?_
  refine qr_iload 67 rfl rfl rfl ?_
  refine qr_iload 69 rfl rfl rfl ?_
  refine qr_iconst 70 rfl rfl ?_
  refine qr_iadd 71 rfl rfl ?_
  refine qr_callN 74 rfl rfl rfl (sf_152_42b60_5_5 (d := d + 0) hI (by omega) (by omega) (by omega) (by omega)) ?_
  have hs8 : (-2147483648) ≤ σ 42 1 ∧ σ 42 1 ≤ 2147483647 := hI.1 42 1
  rintro _ _ ⟨σ9, α10, rfl, hI11, hG12, v6, rfl, hv6, hp7⟩
  have hF13 : qFr [(42, 1)] [43] σ α σ9 α10 := qFr_t hF0 hG12 (by decide) (by decide)
  have hs14 : (-2147483648) ≤ σ9 42 1 ∧ σ9 42 1 ≤ 2147483647 := hI11.1 42 1
  show qr_W (qe L xs vb) (d + 4) qx_e151 _ (74, _, [.int (qz v6)], qw σ9 α10 κ ρ, 0, 0)
  refine qr_retI rfl rfl (by decide) (by decide) ?_
  exact ⟨_, _, rfl, hI11, hF13, v6, rfl, by omega, by omega⟩

set_option maxHeartbeats 4000000 in
set_option maxRecDepth 20000 in
/-- OneRoof$Acts.run -/
theorem sf_150_42r5_0 {L : Nat} {xs : Nat → Int} {vb : Bool} {d : Nat} {σ α : Nat → Nat → Int} {κ : Nat → Option Nat} {ρ : Nat} {x3 : Int} {x4 : Int} {x5 : Int} (hI : qI σ α κ ρ) (r3 : (-2147483648) ≤ x3 ∧ x3 ≤ 2147483647) (r4 : (-2147483648) ≤ x4 ∧ x4 ≤ 2147483647) (r5 : 0 ≤ x5 ∧ x5 ≤ 38) (p0 : 0 ≤ σ 42 1 ∧ σ 42 1 ≤ 1800) : qm_T (qe L xs vb) (d + 6) 150 [.ref 42, .int (qz 5), .int (qz 0), .int (qz x3), .int (qz x4), .int (qz x5)] (qw σ α κ ρ) (fun r w' => ∃ σ' α', w' = qw σ' α' κ ρ ∧ qI σ' α' κ ρ ∧ qFr [(42, 1)] [43] σ α σ' α' ∧ ∃ v : Int, r = some (.int (qz v)) ∧ ((-2147483648) ≤ v ∧ v ≤ 2147483647) ∧ σ' 42 1 = σ 42 1 + 3) := by
  refine qr_start (d := d + 5) qv_e150 (Nat.le_of_ble_eq_true rfl) ?_
  show qr_W (qe L xs vb) (d + 5) qx_e150 _ (0, [(0, .ref 42), (1, .int (qz 5)), (2, .int (qz 0)), (3, .int (qz x3)), (4, .int (qz x4)), (5, .int (qz x5))], [], _, 0, 0)
  have hF0 := qFr_rf [(42, 1)] [43] σ α
  have hz42_1 : (-2147483648) ≤ σ 42 1 ∧ σ 42 1 ≤ 2147483647 := hI.1 42 1
  refine qr_aload_n 1 rfl rfl rfl ?_
  refine qr_iload_n 2 rfl rfl rfl ?_
  refine qr_iload_n 3 rfl rfl rfl ?_
  refine qr_iload_n 4 rfl rfl rfl ?_
  refine qr_iload_n 5 rfl rfl rfl ?_
  refine qr_iload 7 rfl rfl rfl ?_
  refine qr_iload 9 rfl rfl rfl ?_
  refine qr_callN 12 rfl rfl rfl (sf_151_42f5_5_0 (d := d + 0) hI (by omega) (by omega) (by omega) (by omega)) ?_
  have hs3 : (-2147483648) ≤ σ 42 1 ∧ σ 42 1 ≤ 2147483647 := hI.1 42 1
  rintro _ _ ⟨σ4, α5, rfl, hI6, hG7, v1, rfl, hv1, hp2⟩
  have hF8 : qFr [(42, 1)] [43] σ α σ4 α5 := qFr_t hF0 hG7 (by decide) (by decide)
  have hs9 : (-2147483648) ≤ σ4 42 1 ∧ σ4 42 1 ≤ 2147483647 := hI6.1 42 1
  show qr_W (qe L xs vb) (d + 5) qx_e150 _ (12, _, [.int (qz v1)], qw σ4 α5 κ ρ, 0, 0)
  refine qr_retI rfl rfl (by decide) (by decide) ?_
  exact ⟨_, _, rfl, hI6, hF8, v1, rfl, by omega, by omega⟩

set_option maxHeartbeats 4000000 in
set_option maxRecDepth 20000 in
/-- OneRoof$Acts.start -/
theorem sf_149_42s5_0 {L : Nat} {xs : Nat → Int} {vb : Bool} {d : Nat} {σ α : Nat → Nat → Int} {κ : Nat → Option Nat} {ρ : Nat} {x3 : Int} {x4 : Int} (hI : qI σ α κ ρ) (r3 : (-2147483648) ≤ x3 ∧ x3 ≤ 2147483647) (r4 : (-2147483648) ≤ x4 ∧ x4 ≤ 2147483647) (p0 : σ 42 1 = 0) : qm_T (qe L xs vb) (d + 7) 149 [.ref 42, .int (qz 5), .int (qz 0), .int (qz x3), .int (qz x4)] (qw σ α κ ρ) (fun r w' => ∃ σ' α', w' = qw σ' α' κ ρ ∧ qI σ' α' κ ρ ∧ qFr [(42, 1)] [43] σ α σ' α' ∧ ∃ v : Int, r = some (.int (qz v)) ∧ ((-2147483648) ≤ v ∧ v ≤ 2147483647)) := by
  refine qr_start (d := d + 6) qv_e149 (Nat.le_of_ble_eq_true rfl) ?_
  show qr_W (qe L xs vb) (d + 6) qx_e149 _ (0, [(0, .ref 42), (1, .int (qz 5)), (2, .int (qz 0)), (3, .int (qz x3)), (4, .int (qz x4))], [], _, 0, 0)
  have hF0 := qFr_rf [(42, 1)] [43] σ α
  have hz42_1 : (-2147483648) ≤ σ 42 1 ∧ σ 42 1 ≤ 2147483647 := hI.1 42 1
  refine qr_aload_n 1 rfl rfl rfl ?_
  refine qr_iload_n 2 rfl rfl rfl ?_
  refine qr_iload_n 3 rfl rfl rfl ?_
  refine qr_iload_n 4 rfl rfl rfl ?_
  refine qr_iload 6 rfl rfl rfl ?_
  refine qr_iconst 7 rfl rfl ?_
  refine qr_callN 10 rfl rfl rfl (sf_150_42r5_0 (d := d + 0) hI (by omega) (by omega) (by omega) (by omega)) ?_
  have hs3 : (-2147483648) ≤ σ 42 1 ∧ σ 42 1 ≤ 2147483647 := hI.1 42 1
  rintro _ _ ⟨σ4, α5, rfl, hI6, hG7, v1, rfl, hv1, hp2⟩
  have hF8 : qFr [(42, 1)] [43] σ α σ4 α5 := qFr_t hF0 hG7 (by decide) (by decide)
  have hs9 : (-2147483648) ≤ σ4 42 1 ∧ σ4 42 1 ≤ 2147483647 := hI6.1 42 1
  show qr_W (qe L xs vb) (d + 6) qx_e149 _ (10, _, [.int (qz v1)], qw σ4 α5 κ ρ, 0, 0)
  refine qr_retI rfl rfl (by decide) (by decide) ?_
  exact ⟨_, _, rfl, hI6, hF8, v1, rfl, by omega⟩

set_option maxHeartbeats 4000000 in
set_option maxRecDepth 20000 in
/-- OneRoof$Acts.begin -/
theorem sf_152_42b1_0_6 {L : Nat} {xs : Nat → Int} {vb : Bool} {d : Nat} {σ α : Nat → Nat → Int} {κ : Nat → Option Nat} {ρ : Nat} {x4 : Int} {x5 : Int} {x6 : Int} (hI : qI σ α κ ρ) (r4 : (-2147483648) ≤ x4 ∧ x4 ≤ 2147483647) (r5 : (-2147483648) ≤ x5 ∧ x5 ≤ 2147483647) (r6 : 0 ≤ x6 ∧ x6 ≤ 40) (p0 : 0 ≤ σ 42 1 ∧ σ 42 1 ≤ 1900) : qm_T (qe L xs vb) (d + 1) 152 [.ref 42, .int (qz 1), .int (qz 0), .int (qz 6), .int (qz x4), .int (qz x5), .int (qz x6)] (qw σ α κ ρ) (fun r w' => ∃ σ' α', w' = qw σ' α' κ ρ ∧ qI σ' α' κ ρ ∧ qFr [(42, 1)] [43] σ α σ' α' ∧ ∃ v : Int, r = some (.int (qz v)) ∧ ((-2147483648) ≤ v ∧ v ≤ 2147483647) ∧ σ' 42 1 = σ 42 1 + 1) := by
  refine qr_start (d := d + 0) qv_e152 (Nat.le_of_ble_eq_true rfl) ?_
  show qr_W (qe L xs vb) (d + 0) qx_e152 _ (0, [(0, .ref 42), (1, .int (qz 1)), (2, .int (qz 0)), (3, .int (qz 6)), (4, .int (qz x4)), (5, .int (qz x5)), (6, .int (qz x6))], [], _, 0, 0)
  have hF0 := qFr_rf [(42, 1)] [43] σ α
  have hz42_1 : (-2147483648) ≤ σ 42 1 ∧ σ 42 1 ≤ 2147483647 := hI.1 42 1
  refine qr_aload_n 1 rfl rfl rfl ?_
  refine qr_get 4 rfl rfl rfl (by decide) rfl ?_
  refine qr_aload_n 5 rfl rfl rfl ?_
  refine qr_get 8 rfl rfl rfl (by decide) rfl ?_
  refine qr_alen 9 rfl rfl (by first | exact Or.inl (by decide) | exact Or.inr (Or.inl rfl) | exact Or.inr (Or.inr (Or.inl rfl)) | exact Or.inr (Or.inr (Or.inr (Or.inl rfl)))) rfl ?_
  refine qy_v 24 rfl ?_
  refine qr_icmp_ge 22 12 rfl rfl rfl (by omega) (by omega) (fun h1 => ?_) (fun h1 => ?_)
  · skip
    refine qr_aload_n 23 rfl rfl rfl ?_
    refine qr_dup 24 rfl rfl rfl ?_
    refine qr_get 27 rfl rfl rfl (by decide) rfl ?_
    refine qr_iconst 28 rfl rfl ?_
    refine qr_iadd 29 rfl rfl ?_
    refine qr_put 32 rfl (by decide) rfl (Nat.le_of_ble_eq_true rfl) (Nat.le_of_ble_eq_true rfl) (Or.inl rfl) (qr_fitI rfl _) rfl ?_
    refine qy_wS (qw_s σ 42 1 ((σ 42 1) + 1)) rfl (fun σ2 e3 => ?_)
    have hI4 : qI σ2 α κ ρ := by rw [e3]; exact qI_s hI 42 1 rfl (show (-2147483648) ≤ ((σ 42 1) + 1) ∧ ((σ 42 1) + 1) ≤ 2147483647 by omega)
    have hF5 : qFr [(42, 1)] [43] σ α σ2 α := by rw [e3]; exact qFr_s hF0 42 1 _ (by decide)
    refine qr_getst 35 rfl rfl ?_
    refine qr_iload_n 36 rfl rfl rfl ?_
    refine qr_iaload 37 rfl rfl (by omega) (by decide) rfl ?_
    refine qy_v (-1) (by decide) ?_
    refine qr_istore _ 39 rfl (by decide) rfl rfl ?_
    refine qr_iload_n 40 rfl rfl rfl ?_
    refine qr_look (off := 108) 148 rfl (by omega) (by decide) (by decide) rfl ?_
    refine qr_iload 150 rfl rfl rfl ?_
    refine qr_iload 152 rfl rfl rfl ?_
    refine qr_iadd 153 rfl rfl ?_
    refine qy_can (fun v6 hv6 => ?_)
    refine qr_retI rfl rfl (by decide) (by decide) ?_
    have hw7 : σ2 42 1 = ((σ 42 1) + 1) := (congrFun (congrFun e3 42) 1).trans rfl
    exact ⟨_, _, rfl, hI4, hF5, v6, rfl, by omega, by omega⟩
  · skip
    refine qr_aload_n 13 rfl rfl rfl ?_
    refine qr_get 16 rfl rfl rfl (by decide) rfl ?_
    refine qr_aload_n 17 rfl rfl rfl ?_
    refine qr_get 20 rfl rfl rfl (by decide) rfl ?_
    refine qr_iload_n 21 rfl rfl rfl ?_
    refine qr_iastore 22 rfl (by decide) rfl (by omega) (by decide) rfl ?_
    refine qy_wA (qw_r α 43 (qzu (α 43) ((σ 42 1) : Int).toNat 1)) rfl (fun α8 e9 => ?_)
    have hI10 : qI σ α8 κ ρ := by rw [e9]; exact qI_r hI 43 _ rfl (show (-2147483648) ≤ 1 ∧ 1 ≤ 2147483647 by omega)
    have hF11 : qFr [(42, 1)] [43] σ α σ α8 := by rw [e9]; exact qFr_r hF0 43 _ (by decide)
    refine qr_aload_n 23 rfl rfl rfl ?_
    refine qr_dup 24 rfl rfl rfl ?_
    refine qr_get 27 rfl rfl rfl (by decide) rfl ?_
    refine qr_iconst 28 rfl rfl ?_
    refine qr_iadd 29 rfl rfl ?_
    refine qr_put 32 rfl (by decide) rfl (Nat.le_of_ble_eq_true rfl) (Nat.le_of_ble_eq_true rfl) (Or.inl rfl) (qr_fitI rfl _) rfl ?_
    refine qy_wS (qw_s σ 42 1 ((σ 42 1) + 1)) rfl (fun σ12 e13 => ?_)
    have hI14 : qI σ12 α8 κ ρ := by rw [e13]; exact qI_s hI10 42 1 rfl (show (-2147483648) ≤ ((σ 42 1) + 1) ∧ ((σ 42 1) + 1) ≤ 2147483647 by omega)
    have hF15 : qFr [(42, 1)] [43] σ α σ12 α8 := by rw [e13]; exact qFr_s hF11 42 1 _ (by decide)
    refine qr_getst 35 rfl rfl ?_
    refine qr_iload_n 36 rfl rfl rfl ?_
    refine qr_iaload 37 rfl rfl (by omega) (by decide) rfl ?_
    refine qy_v (-1) (by decide) ?_
    refine qr_istore _ 39 rfl (by decide) rfl rfl ?_
    refine qr_iload_n 40 rfl rfl rfl ?_
    refine qr_look (off := 108) 148 rfl (by omega) (by decide) (by decide) rfl ?_
    refine qr_iload 150 rfl rfl rfl ?_
    refine qr_iload 152 rfl rfl rfl ?_
    refine qr_iadd 153 rfl rfl ?_
    refine qy_can (fun v16 hv16 => ?_)
    refine qr_retI rfl rfl (by decide) (by decide) ?_
    have hw17 : σ12 42 1 = ((σ 42 1) + 1) := (congrFun (congrFun e13 42) 1).trans rfl
    exact ⟨_, _, rfl, hI14, hF15, v16, rfl, by omega, by omega⟩

set_option maxHeartbeats 4000000 in
set_option maxRecDepth 20000 in
/-- OneRoof$Acts.runFrom -/
theorem sf_151_42f6_6_0 {L : Nat} {xs : Nat → Int} {vb : Bool} {d : Nat} {σ α : Nat → Nat → Int} {κ : Nat → Option Nat} {ρ : Nat} {x4 : Int} {x5 : Int} {x6 : Int} (hI : qI σ α κ ρ) (r4 : (-2147483648) ≤ x4 ∧ x4 ≤ 2147483647) (r5 : (-2147483648) ≤ x5 ∧ x5 ≤ 2147483647) (r6 : 0 ≤ x6 ∧ x6 ≤ 39) (p0 : 0 ≤ σ 42 1 ∧ σ 42 1 ≤ 1900) : qm_T (qe L xs vb) (d + 2) 151 [.ref 42, .int (qz 6), .int (qz 6), .int (qz 0), .int (qz x4), .int (qz x5), .int (qz x6)] (qw σ α κ ρ) (fun r w' => ∃ σ' α', w' = qw σ' α' κ ρ ∧ qI σ' α' κ ρ ∧ qFr [(42, 1)] [43] σ α σ' α' ∧ ∃ v : Int, r = some (.int (qz v)) ∧ ((-2147483648) ≤ v ∧ v ≤ 2147483647) ∧ σ' 42 1 = σ 42 1 + 1) := by
  refine qr_start (d := d + 1) qv_e151 (Nat.le_of_ble_eq_true rfl) ?_
  show qr_W (qe L xs vb) (d + 1) qx_e151 _ (0, [(0, .ref 42), (1, .int (qz 6)), (2, .int (qz 6)), (3, .int (qz 0)), (4, .int (qz x4)), (5, .int (qz x5)), (6, .int (qz x6))], [], _, 0, 0)
  have hF0 := qFr_rf [(42, 1)] [43] σ α
  have hz42_1 : (-2147483648) ≤ σ 42 1 ∧ σ 42 1 ≤ 2147483647 := hI.1 42 1
  refine qr_iload_n 1 rfl rfl rfl ?_
  refine qr_istore _ 3 rfl (by decide) rfl rfl ?_
  refine qr_iconst 4 rfl rfl ?_
  refine qr_istore _ 6 rfl (by decide) rfl rfl ?_
  refine qr_iload 8 rfl rfl rfl ?_
  refine qr_getst 11 rfl rfl ?_
  refine qr_alen 12 rfl rfl (by first | exact Or.inl (by decide) | exact Or.inr (Or.inl rfl) | exact Or.inr (Or.inr (Or.inl rfl)) | exact Or.inr (Or.inr (Or.inr (Or.inl rfl)))) rfl ?_
  refine qy_v 7 rfl ?_
  refine qr_icmp_ge 89 15 rfl rfl rfl (by omega) (by omega) (fun h => False.elim (by omega)) (fun h1 => ?_)
  refine qr_iload 17 rfl rfl rfl ?_
  refine qr_if_lt 89 20 rfl rfl rfl (by omega) (fun h => False.elim (by omega)) (fun h2 => ?_)
  refine qr_iload 22 rfl rfl rfl ?_
  refine qr_getst 25 rfl rfl ?_
  refine qr_alen 26 rfl rfl (by first | exact Or.inl (by decide) | exact Or.inr (Or.inl rfl) | exact Or.inr (Or.inr (Or.inl rfl)) | exact Or.inr (Or.inr (Or.inr (Or.inl rfl)))) rfl ?_
  refine qy_v 7 rfl ?_
  refine qr_icmp_ge 89 29 rfl rfl rfl (by omega) (by omega) (fun h => False.elim (by omega)) (fun h3 => ?_)
  refine qr_getst 32 rfl rfl ?_
  refine qr_iload 34 rfl rfl rfl ?_
  refine qr_iconst 35 rfl rfl ?_
  refine qr_imul 36 rfl rfl ?_
  refine qy_v 24 rfl ?_
  refine qr_iload_n 37 rfl rfl rfl ?_
  refine qr_iadd 38 rfl rfl ?_
  refine qy_v 24 rfl ?_
  refine qr_iaload 39 rfl rfl (by omega) (by decide) rfl ?_
  refine qy_v 0 (by decide) ?_
  refine qr_istore _ 41 rfl (by decide) rfl rfl ?_
  refine qr_iload 43 rfl rfl rfl ?_
  refine qr_if_eq 75 46 rfl rfl rfl (by omega) (fun h4 => ?_) (fun h => False.elim (by omega))
  refine qr_getst 78 rfl rfl ?_
  refine qr_iload 80 rfl rfl rfl ?_
  refine qr_iaload 81 rfl rfl (by omega) (by decide) rfl ?_
  refine qy_v 0 (by decide) ?_
  refine qr_istore _ 83 rfl (by decide) rfl rfl ?_
  refine qr_iinc _ 86 rfl rfl (by decide) rfl rfl ?_
  refine qr_goto 6 rfl rfl ?_
  refine qr_iload 8 rfl rfl rfl ?_
  refine qr_getst 11 rfl rfl ?_
  refine qr_alen 12 rfl rfl (by first | exact Or.inl (by decide) | exact Or.inr (Or.inl rfl) | exact Or.inr (Or.inr (Or.inl rfl)) | exact Or.inr (Or.inr (Or.inr (Or.inl rfl)))) rfl ?_
  refine qy_v 7 rfl ?_
  refine qr_icmp_ge 89 15 rfl rfl rfl (by omega) (by omega) (fun h => False.elim (by omega)) (fun h5 => ?_)
  refine qr_iload 17 rfl rfl rfl ?_
  refine qr_if_lt 89 20 rfl rfl rfl (by omega) (fun h => False.elim (by omega)) (fun h6 => ?_)
  refine qr_iload 22 rfl rfl rfl ?_
  refine qr_getst 25 rfl rfl ?_
  refine qr_alen 26 rfl rfl (by first | exact Or.inl (by decide) | exact Or.inr (Or.inl rfl) | exact Or.inr (Or.inr (Or.inl rfl)) | exact Or.inr (Or.inr (Or.inr (Or.inl rfl)))) rfl ?_
  refine qy_v 7 rfl ?_
  refine qr_icmp_ge 89 29 rfl rfl rfl (by omega) (by omega) (fun h => False.elim (by omega)) (fun h7 => ?_)
  refine qr_getst 32 rfl rfl ?_
  refine qr_iload 34 rfl rfl rfl ?_
  refine qr_iconst 35 rfl rfl ?_
  refine qr_imul 36 rfl rfl ?_
  refine qy_v 0 rfl ?_
  refine qr_iload_n 37 rfl rfl rfl ?_
  refine qr_iadd 38 rfl rfl ?_
  refine qy_v 0 rfl ?_
  refine qr_iaload 39 rfl rfl (by omega) (by decide) rfl ?_
  refine qy_v 1 (by decide) ?_
  refine qr_istore _ 41 rfl (by decide) rfl rfl ?_
  refine qr_iload 43 rfl rfl rfl ?_
  refine qr_if_eq 75 46 rfl rfl rfl (by omega) (fun h => False.elim (by omega)) (fun h8 => ?_)
  as_aux_lemma =>
    refine qr_iload 48 rfl rfl rfl ?_
    refine qr_bipush 50 rfl (by decide) rfl ?_
    refine qr_icmp_le 57 53 rfl rfl rfl (by omega) (by omega) (fun h9 => ?_) (fun h => False.elim (by omega))
    refine qr_aload_n 58 rfl rfl rfl ?_
    refine qr_iload 60 rfl rfl rfl ?_
    refine qr_iload 62 rfl rfl rfl ?_
    refine qr_iload_n 63 rfl rfl rfl ?_
    refine qr_iload 65 rfl rfl rfl ?_
    refine qr_iload 67 rfl rfl rfl ?_
    refine qr_iload 69 rfl rfl rfl ?_
    refine qr_iconst 70 rfl rfl ?_
    refine qr_iadd 71 rfl rfl ?_
    refine qr_callN 74 rfl rfl rfl (sf_152_42b1_0_6 (d := d + 0) hI (by omega) (by omega) (by omega) (by omega)) ?_
    have hs12 : (-2147483648) ≤ σ 42 1 ∧ σ 42 1 ≤ 2147483647 := hI.1 42 1
    rintro _ _ ⟨σ13, α14, rfl, hI15, hG16, v10, rfl, hv10, hp11⟩
    have hF17 : qFr [(42, 1)] [43] σ α σ13 α14 := qFr_t hF0 hG16 (by decide) (by decide)
    have hs18 : (-2147483648) ≤ σ13 42 1 ∧ σ13 42 1 ≤ 2147483647 := hI15.1 42 1
    show qr_W (qe L xs vb) (d + 1) qx_e151 _ (74, _, [.int (qz v10)], qw σ13 α14 κ ρ, 0, 0)
    refine qr_retI rfl rfl (by decide) (by decide) ?_
    exact ⟨_, _, rfl, hI15, hF17, v10, rfl, by omega, by omega⟩

set_option maxHeartbeats 4000000 in
set_option maxRecDepth 20000 in
/-- OneRoof$Acts.run -/
theorem sf_150_42r6_0 {L : Nat} {xs : Nat → Int} {vb : Bool} {d : Nat} {σ α : Nat → Nat → Int} {κ : Nat → Option Nat} {ρ : Nat} {x3 : Int} {x4 : Int} {x5 : Int} (hI : qI σ α κ ρ) (r3 : (-2147483648) ≤ x3 ∧ x3 ≤ 2147483647) (r4 : (-2147483648) ≤ x4 ∧ x4 ≤ 2147483647) (r5 : 0 ≤ x5 ∧ x5 ≤ 39) (p0 : 0 ≤ σ 42 1 ∧ σ 42 1 ≤ 1900) : qm_T (qe L xs vb) (d + 3) 150 [.ref 42, .int (qz 6), .int (qz 0), .int (qz x3), .int (qz x4), .int (qz x5)] (qw σ α κ ρ) (fun r w' => ∃ σ' α', w' = qw σ' α' κ ρ ∧ qI σ' α' κ ρ ∧ qFr [(42, 1)] [43] σ α σ' α' ∧ ∃ v : Int, r = some (.int (qz v)) ∧ ((-2147483648) ≤ v ∧ v ≤ 2147483647) ∧ σ' 42 1 = σ 42 1 + 1) := by
  refine qr_start (d := d + 2) qv_e150 (Nat.le_of_ble_eq_true rfl) ?_
  show qr_W (qe L xs vb) (d + 2) qx_e150 _ (0, [(0, .ref 42), (1, .int (qz 6)), (2, .int (qz 0)), (3, .int (qz x3)), (4, .int (qz x4)), (5, .int (qz x5))], [], _, 0, 0)
  have hF0 := qFr_rf [(42, 1)] [43] σ α
  have hz42_1 : (-2147483648) ≤ σ 42 1 ∧ σ 42 1 ≤ 2147483647 := hI.1 42 1
  refine qr_aload_n 1 rfl rfl rfl ?_
  refine qr_iload_n 2 rfl rfl rfl ?_
  refine qr_iload_n 3 rfl rfl rfl ?_
  refine qr_iload_n 4 rfl rfl rfl ?_
  refine qr_iload_n 5 rfl rfl rfl ?_
  refine qr_iload 7 rfl rfl rfl ?_
  refine qr_iload 9 rfl rfl rfl ?_
  refine qr_callN 12 rfl rfl rfl (sf_151_42f6_6_0 (d := d + 0) hI (by omega) (by omega) (by omega) (by omega)) ?_
  have hs3 : (-2147483648) ≤ σ 42 1 ∧ σ 42 1 ≤ 2147483647 := hI.1 42 1
  rintro _ _ ⟨σ4, α5, rfl, hI6, hG7, v1, rfl, hv1, hp2⟩
  have hF8 : qFr [(42, 1)] [43] σ α σ4 α5 := qFr_t hF0 hG7 (by decide) (by decide)
  have hs9 : (-2147483648) ≤ σ4 42 1 ∧ σ4 42 1 ≤ 2147483647 := hI6.1 42 1
  show qr_W (qe L xs vb) (d + 2) qx_e150 _ (12, _, [.int (qz v1)], qw σ4 α5 κ ρ, 0, 0)
  refine qr_retI rfl rfl (by decide) (by decide) ?_
  exact ⟨_, _, rfl, hI6, hF8, v1, rfl, by omega, by omega⟩

set_option maxHeartbeats 4000000 in
set_option maxRecDepth 20000 in
/-- OneRoof$Acts.start -/
theorem sf_149_42s6_0 {L : Nat} {xs : Nat → Int} {vb : Bool} {d : Nat} {σ α : Nat → Nat → Int} {κ : Nat → Option Nat} {ρ : Nat} {x3 : Int} {x4 : Int} (hI : qI σ α κ ρ) (r3 : (-2147483648) ≤ x3 ∧ x3 ≤ 2147483647) (r4 : (-2147483648) ≤ x4 ∧ x4 ≤ 2147483647) (p0 : σ 42 1 = 0) : qm_T (qe L xs vb) (d + 4) 149 [.ref 42, .int (qz 6), .int (qz 0), .int (qz x3), .int (qz x4)] (qw σ α κ ρ) (fun r w' => ∃ σ' α', w' = qw σ' α' κ ρ ∧ qI σ' α' κ ρ ∧ qFr [(42, 1)] [43] σ α σ' α' ∧ ∃ v : Int, r = some (.int (qz v)) ∧ ((-2147483648) ≤ v ∧ v ≤ 2147483647)) := by
  refine qr_start (d := d + 3) qv_e149 (Nat.le_of_ble_eq_true rfl) ?_
  show qr_W (qe L xs vb) (d + 3) qx_e149 _ (0, [(0, .ref 42), (1, .int (qz 6)), (2, .int (qz 0)), (3, .int (qz x3)), (4, .int (qz x4))], [], _, 0, 0)
  have hF0 := qFr_rf [(42, 1)] [43] σ α
  have hz42_1 : (-2147483648) ≤ σ 42 1 ∧ σ 42 1 ≤ 2147483647 := hI.1 42 1
  refine qr_aload_n 1 rfl rfl rfl ?_
  refine qr_iload_n 2 rfl rfl rfl ?_
  refine qr_iload_n 3 rfl rfl rfl ?_
  refine qr_iload_n 4 rfl rfl rfl ?_
  refine qr_iload 6 rfl rfl rfl ?_
  refine qr_iconst 7 rfl rfl ?_
  refine qr_callN 10 rfl rfl rfl (sf_150_42r6_0 (d := d + 0) hI (by omega) (by omega) (by omega) (by omega)) ?_
  have hs3 : (-2147483648) ≤ σ 42 1 ∧ σ 42 1 ≤ 2147483647 := hI.1 42 1
  rintro _ _ ⟨σ4, α5, rfl, hI6, hG7, v1, rfl, hv1, hp2⟩
  have hF8 : qFr [(42, 1)] [43] σ α σ4 α5 := qFr_t hF0 hG7 (by decide) (by decide)
  have hs9 : (-2147483648) ≤ σ4 42 1 ∧ σ4 42 1 ≤ 2147483647 := hI6.1 42 1
  show qr_W (qe L xs vb) (d + 3) qx_e149 _ (10, _, [.int (qz v1)], qw σ4 α5 κ ρ, 0, 0)
  refine qr_retI rfl rfl (by decide) (by decide) ?_
  exact ⟨_, _, rfl, hI6, hF8, v1, rfl, by omega⟩

set_option maxHeartbeats 4000000 in
set_option maxRecDepth 20000 in
/-- OneRoof$Acts.runFrom -/
theorem sf_151_42m0 {L : Nat} {xs : Nat → Int} {vb : Bool} {d : Nat} {σ α : Nat → Nat → Int} {κ : Nat → Option Nat} {ρ : Nat} {x1 : Int} {x2 : Int} {x4 : Int} {x5 : Int} {x6 : Int} (hI : qI σ α κ ρ) (r1 : (-2147483648) ≤ x1 ∧ x1 ≤ (-1)) (r2 : (-2147483648) ≤ x2 ∧ x2 ≤ 2147483647) (r4 : (-2147483648) ≤ x4 ∧ x4 ≤ 2147483647) (r5 : (-2147483648) ≤ x5 ∧ x5 ≤ 2147483647) (r6 : 0 ≤ x6 ∧ x6 ≤ 40) : qm_T (qe L xs vb) (d + 1) 151 [.ref 42, .int (qz x1), .int (qz x2), .int (qz 0), .int (qz x4), .int (qz x5), .int (qz x6)] (qw σ α κ ρ) (fun r w' => ∃ σ' α', w' = qw σ' α' κ ρ ∧ qI σ' α' κ ρ ∧ qFr [(42, 1)] [43] σ α σ' α' ∧ ∃ v : Int, r = some (.int (qz v)) ∧ ((-2147483648) ≤ v ∧ v ≤ 2147483647)) := by
  refine qr_start (d := d + 0) qv_e151 (Nat.le_of_ble_eq_true rfl) ?_
  show qr_W (qe L xs vb) (d + 0) qx_e151 _ (0, [(0, .ref 42), (1, .int (qz x1)), (2, .int (qz x2)), (3, .int (qz 0)), (4, .int (qz x4)), (5, .int (qz x5)), (6, .int (qz x6))], [], _, 0, 0)
  have hF0 := qFr_rf [(42, 1)] [43] σ α
  refine qr_iload_n 1 rfl rfl rfl ?_
  refine qr_istore _ 3 rfl (by decide) rfl rfl ?_
  refine qr_iconst 4 rfl rfl ?_
  refine qr_istore _ 6 rfl (by decide) rfl rfl ?_
  refine qr_iload 8 rfl rfl rfl ?_
  refine qr_getst 11 rfl rfl ?_
  refine qr_alen 12 rfl rfl (by first | exact Or.inl (by decide) | exact Or.inr (Or.inl rfl) | exact Or.inr (Or.inr (Or.inl rfl)) | exact Or.inr (Or.inr (Or.inr (Or.inl rfl)))) rfl ?_
  refine qy_v 7 rfl ?_
  refine qr_icmp_ge 89 15 rfl rfl rfl (by omega) (by omega) (fun h => False.elim (by omega)) (fun h1 => ?_)
  refine qr_iload 17 rfl rfl rfl ?_
  refine qr_if_lt 89 20 rfl rfl rfl (by omega) (fun h2 => ?_) (fun h => False.elim (by omega))
  refine qr_iconst 90 rfl rfl ?_
  refine qr_retI rfl rfl (by decide) (by decide) ?_
  exact ⟨_, _, rfl, hI, hF0, 0, rfl, by omega⟩

set_option maxHeartbeats 4000000 in
set_option maxRecDepth 20000 in
/-- OneRoof$Acts.run -/
theorem sf_150_42m0 {L : Nat} {xs : Nat → Int} {vb : Bool} {d : Nat} {σ α : Nat → Nat → Int} {κ : Nat → Option Nat} {ρ : Nat} {x1 : Int} {x3 : Int} {x4 : Int} {x5 : Int} (hI : qI σ α κ ρ) (r1 : (-2147483648) ≤ x1 ∧ x1 ≤ (-1)) (r3 : (-2147483648) ≤ x3 ∧ x3 ≤ 2147483647) (r4 : (-2147483648) ≤ x4 ∧ x4 ≤ 2147483647) (r5 : 0 ≤ x5 ∧ x5 ≤ 40) : qm_T (qe L xs vb) (d + 2) 150 [.ref 42, .int (qz x1), .int (qz 0), .int (qz x3), .int (qz x4), .int (qz x5)] (qw σ α κ ρ) (fun r w' => ∃ σ' α', w' = qw σ' α' κ ρ ∧ qI σ' α' κ ρ ∧ qFr [(42, 1)] [43] σ α σ' α' ∧ ∃ v : Int, r = some (.int (qz v)) ∧ ((-2147483648) ≤ v ∧ v ≤ 2147483647)) := by
  refine qr_start (d := d + 1) qv_e150 (Nat.le_of_ble_eq_true rfl) ?_
  show qr_W (qe L xs vb) (d + 1) qx_e150 _ (0, [(0, .ref 42), (1, .int (qz x1)), (2, .int (qz 0)), (3, .int (qz x3)), (4, .int (qz x4)), (5, .int (qz x5))], [], _, 0, 0)
  have hF0 := qFr_rf [(42, 1)] [43] σ α
  refine qr_aload_n 1 rfl rfl rfl ?_
  refine qr_iload_n 2 rfl rfl rfl ?_
  refine qr_iload_n 3 rfl rfl rfl ?_
  refine qr_iload_n 4 rfl rfl rfl ?_
  refine qr_iload_n 5 rfl rfl rfl ?_
  refine qr_iload 7 rfl rfl rfl ?_
  refine qr_iload 9 rfl rfl rfl ?_
  refine qr_callN 12 rfl rfl rfl (sf_151_42m0 (d := d + 0) hI (by omega) (by omega) (by omega) (by omega) (by omega)) ?_
  rintro _ _ ⟨σ2, α3, rfl, hI4, hG5, v1, rfl, hv1⟩
  have hF6 : qFr [(42, 1)] [43] σ α σ2 α3 := qFr_t hF0 hG5 (by decide) (by decide)
  show qr_W (qe L xs vb) (d + 1) qx_e150 _ (12, _, [.int (qz v1)], qw σ2 α3 κ ρ, 0, 0)
  refine qr_retI rfl rfl (by decide) (by decide) ?_
  exact ⟨_, _, rfl, hI4, hF6, v1, rfl, by omega⟩

set_option maxHeartbeats 4000000 in
set_option maxRecDepth 20000 in
/-- OneRoof$Acts.start -/
theorem sf_149_42m0 {L : Nat} {xs : Nat → Int} {vb : Bool} {d : Nat} {σ α : Nat → Nat → Int} {κ : Nat → Option Nat} {ρ : Nat} {x1 : Int} {x3 : Int} {x4 : Int} (hI : qI σ α κ ρ) (r1 : (-2147483648) ≤ x1 ∧ x1 ≤ (-1)) (r3 : (-2147483648) ≤ x3 ∧ x3 ≤ 2147483647) (r4 : (-2147483648) ≤ x4 ∧ x4 ≤ 2147483647) (p0 : σ 42 1 = 0) : qm_T (qe L xs vb) (d + 3) 149 [.ref 42, .int (qz x1), .int (qz 0), .int (qz x3), .int (qz x4)] (qw σ α κ ρ) (fun r w' => ∃ σ' α', w' = qw σ' α' κ ρ ∧ qI σ' α' κ ρ ∧ qFr [(42, 1)] [43] σ α σ' α' ∧ ∃ v : Int, r = some (.int (qz v)) ∧ ((-2147483648) ≤ v ∧ v ≤ 2147483647)) := by
  refine qr_start (d := d + 2) qv_e149 (Nat.le_of_ble_eq_true rfl) ?_
  show qr_W (qe L xs vb) (d + 2) qx_e149 _ (0, [(0, .ref 42), (1, .int (qz x1)), (2, .int (qz 0)), (3, .int (qz x3)), (4, .int (qz x4))], [], _, 0, 0)
  have hF0 := qFr_rf [(42, 1)] [43] σ α
  have hz42_1 : (-2147483648) ≤ σ 42 1 ∧ σ 42 1 ≤ 2147483647 := hI.1 42 1
  refine qr_aload_n 1 rfl rfl rfl ?_
  refine qr_iload_n 2 rfl rfl rfl ?_
  refine qr_iload_n 3 rfl rfl rfl ?_
  refine qr_iload_n 4 rfl rfl rfl ?_
  refine qr_iload 6 rfl rfl rfl ?_
  refine qr_iconst 7 rfl rfl ?_
  refine qr_callN 10 rfl rfl rfl (sf_150_42m0 (d := d + 0) hI (by omega) (by omega) (by omega) (by omega)) ?_
  rintro _ _ ⟨σ2, α3, rfl, hI4, hG5, v1, rfl, hv1⟩
  have hF6 : qFr [(42, 1)] [43] σ α σ2 α3 := qFr_t hF0 hG5 (by decide) (by decide)
  show qr_W (qe L xs vb) (d + 2) qx_e149 _ (10, _, [.int (qz v1)], qw σ2 α3 κ ρ, 0, 0)
  refine qr_retI rfl rfl (by decide) (by decide) ?_
  exact ⟨_, _, rfl, hI4, hF6, v1, rfl, by omega⟩

set_option maxHeartbeats 4000000 in
set_option maxRecDepth 20000 in
/-- OneRoof$Acts.runFrom -/
theorem sf_151_42p0 {L : Nat} {xs : Nat → Int} {vb : Bool} {d : Nat} {σ α : Nat → Nat → Int} {κ : Nat → Option Nat} {ρ : Nat} {x1 : Int} {x2 : Int} {x4 : Int} {x5 : Int} {x6 : Int} (hI : qI σ α κ ρ) (r1 : 7 ≤ x1 ∧ x1 ≤ 2147483647) (r2 : (-2147483648) ≤ x2 ∧ x2 ≤ 2147483647) (r4 : (-2147483648) ≤ x4 ∧ x4 ≤ 2147483647) (r5 : (-2147483648) ≤ x5 ∧ x5 ≤ 2147483647) (r6 : 0 ≤ x6 ∧ x6 ≤ 40) : qm_T (qe L xs vb) (d + 1) 151 [.ref 42, .int (qz x1), .int (qz x2), .int (qz 0), .int (qz x4), .int (qz x5), .int (qz x6)] (qw σ α κ ρ) (fun r w' => ∃ σ' α', w' = qw σ' α' κ ρ ∧ qI σ' α' κ ρ ∧ qFr [(42, 1)] [43] σ α σ' α' ∧ ∃ v : Int, r = some (.int (qz v)) ∧ ((-2147483648) ≤ v ∧ v ≤ 2147483647)) := by
  refine qr_start (d := d + 0) qv_e151 (Nat.le_of_ble_eq_true rfl) ?_
  show qr_W (qe L xs vb) (d + 0) qx_e151 _ (0, [(0, .ref 42), (1, .int (qz x1)), (2, .int (qz x2)), (3, .int (qz 0)), (4, .int (qz x4)), (5, .int (qz x5)), (6, .int (qz x6))], [], _, 0, 0)
  have hF0 := qFr_rf [(42, 1)] [43] σ α
  refine qr_iload_n 1 rfl rfl rfl ?_
  refine qr_istore _ 3 rfl (by decide) rfl rfl ?_
  refine qr_iconst 4 rfl rfl ?_
  refine qr_istore _ 6 rfl (by decide) rfl rfl ?_
  refine qr_iload 8 rfl rfl rfl ?_
  refine qr_getst 11 rfl rfl ?_
  refine qr_alen 12 rfl rfl (by first | exact Or.inl (by decide) | exact Or.inr (Or.inl rfl) | exact Or.inr (Or.inr (Or.inl rfl)) | exact Or.inr (Or.inr (Or.inr (Or.inl rfl)))) rfl ?_
  refine qy_v 7 rfl ?_
  refine qr_icmp_ge 89 15 rfl rfl rfl (by omega) (by omega) (fun h => False.elim (by omega)) (fun h1 => ?_)
  refine qr_iload 17 rfl rfl rfl ?_
  refine qr_if_lt 89 20 rfl rfl rfl (by omega) (fun h => False.elim (by omega)) (fun h2 => ?_)
  refine qr_iload 22 rfl rfl rfl ?_
  refine qr_getst 25 rfl rfl ?_
  refine qr_alen 26 rfl rfl (by first | exact Or.inl (by decide) | exact Or.inr (Or.inl rfl) | exact Or.inr (Or.inr (Or.inl rfl)) | exact Or.inr (Or.inr (Or.inr (Or.inl rfl)))) rfl ?_
  refine qy_v 7 rfl ?_
  refine qr_icmp_ge 89 29 rfl rfl rfl (by omega) (by omega) (fun h3 => ?_) (fun h => False.elim (by omega))
  refine qr_iconst 90 rfl rfl ?_
  refine qr_retI rfl rfl (by decide) (by decide) ?_
  exact ⟨_, _, rfl, hI, hF0, 0, rfl, by omega⟩

set_option maxHeartbeats 4000000 in
set_option maxRecDepth 20000 in
/-- OneRoof$Acts.run -/
theorem sf_150_42p0 {L : Nat} {xs : Nat → Int} {vb : Bool} {d : Nat} {σ α : Nat → Nat → Int} {κ : Nat → Option Nat} {ρ : Nat} {x1 : Int} {x3 : Int} {x4 : Int} {x5 : Int} (hI : qI σ α κ ρ) (r1 : 7 ≤ x1 ∧ x1 ≤ 2147483647) (r3 : (-2147483648) ≤ x3 ∧ x3 ≤ 2147483647) (r4 : (-2147483648) ≤ x4 ∧ x4 ≤ 2147483647) (r5 : 0 ≤ x5 ∧ x5 ≤ 40) : qm_T (qe L xs vb) (d + 2) 150 [.ref 42, .int (qz x1), .int (qz 0), .int (qz x3), .int (qz x4), .int (qz x5)] (qw σ α κ ρ) (fun r w' => ∃ σ' α', w' = qw σ' α' κ ρ ∧ qI σ' α' κ ρ ∧ qFr [(42, 1)] [43] σ α σ' α' ∧ ∃ v : Int, r = some (.int (qz v)) ∧ ((-2147483648) ≤ v ∧ v ≤ 2147483647)) := by
  refine qr_start (d := d + 1) qv_e150 (Nat.le_of_ble_eq_true rfl) ?_
  show qr_W (qe L xs vb) (d + 1) qx_e150 _ (0, [(0, .ref 42), (1, .int (qz x1)), (2, .int (qz 0)), (3, .int (qz x3)), (4, .int (qz x4)), (5, .int (qz x5))], [], _, 0, 0)
  have hF0 := qFr_rf [(42, 1)] [43] σ α
  refine qr_aload_n 1 rfl rfl rfl ?_
  refine qr_iload_n 2 rfl rfl rfl ?_
  refine qr_iload_n 3 rfl rfl rfl ?_
  refine qr_iload_n 4 rfl rfl rfl ?_
  refine qr_iload_n 5 rfl rfl rfl ?_
  refine qr_iload 7 rfl rfl rfl ?_
  refine qr_iload 9 rfl rfl rfl ?_
  refine qr_callN 12 rfl rfl rfl (sf_151_42p0 (d := d + 0) hI (by omega) (by omega) (by omega) (by omega) (by omega)) ?_
  rintro _ _ ⟨σ2, α3, rfl, hI4, hG5, v1, rfl, hv1⟩
  have hF6 : qFr [(42, 1)] [43] σ α σ2 α3 := qFr_t hF0 hG5 (by decide) (by decide)
  show qr_W (qe L xs vb) (d + 1) qx_e150 _ (12, _, [.int (qz v1)], qw σ2 α3 κ ρ, 0, 0)
  refine qr_retI rfl rfl (by decide) (by decide) ?_
  exact ⟨_, _, rfl, hI4, hF6, v1, rfl, by omega⟩

set_option maxHeartbeats 4000000 in
set_option maxRecDepth 20000 in
/-- OneRoof$Acts.start -/
theorem sf_149_42p0 {L : Nat} {xs : Nat → Int} {vb : Bool} {d : Nat} {σ α : Nat → Nat → Int} {κ : Nat → Option Nat} {ρ : Nat} {x1 : Int} {x3 : Int} {x4 : Int} (hI : qI σ α κ ρ) (r1 : 7 ≤ x1 ∧ x1 ≤ 2147483647) (r3 : (-2147483648) ≤ x3 ∧ x3 ≤ 2147483647) (r4 : (-2147483648) ≤ x4 ∧ x4 ≤ 2147483647) (p0 : σ 42 1 = 0) : qm_T (qe L xs vb) (d + 3) 149 [.ref 42, .int (qz x1), .int (qz 0), .int (qz x3), .int (qz x4)] (qw σ α κ ρ) (fun r w' => ∃ σ' α', w' = qw σ' α' κ ρ ∧ qI σ' α' κ ρ ∧ qFr [(42, 1)] [43] σ α σ' α' ∧ ∃ v : Int, r = some (.int (qz v)) ∧ ((-2147483648) ≤ v ∧ v ≤ 2147483647)) := by
  refine qr_start (d := d + 2) qv_e149 (Nat.le_of_ble_eq_true rfl) ?_
  show qr_W (qe L xs vb) (d + 2) qx_e149 _ (0, [(0, .ref 42), (1, .int (qz x1)), (2, .int (qz 0)), (3, .int (qz x3)), (4, .int (qz x4))], [], _, 0, 0)
  have hF0 := qFr_rf [(42, 1)] [43] σ α
  have hz42_1 : (-2147483648) ≤ σ 42 1 ∧ σ 42 1 ≤ 2147483647 := hI.1 42 1
  refine qr_aload_n 1 rfl rfl rfl ?_
  refine qr_iload_n 2 rfl rfl rfl ?_
  refine qr_iload_n 3 rfl rfl rfl ?_
  refine qr_iload_n 4 rfl rfl rfl ?_
  refine qr_iload 6 rfl rfl rfl ?_
  refine qr_iconst 7 rfl rfl ?_
  refine qr_callN 10 rfl rfl rfl (sf_150_42p0 (d := d + 0) hI (by omega) (by omega) (by omega) (by omega)) ?_
  rintro _ _ ⟨σ2, α3, rfl, hI4, hG5, v1, rfl, hv1⟩
  have hF6 : qFr [(42, 1)] [43] σ α σ2 α3 := qFr_t hF0 hG5 (by decide) (by decide)
  show qr_W (qe L xs vb) (d + 2) qx_e149 _ (10, _, [.int (qz v1)], qw σ2 α3 κ ρ, 0, 0)
  refine qr_retI rfl rfl (by decide) (by decide) ?_
  exact ⟨_, _, rfl, hI4, hF6, v1, rfl, by omega⟩

set_option maxHeartbeats 4000000 in
set_option maxRecDepth 20000 in
/-- OneRoof$Acts.begin -/
theorem sf_152_42b10_0_0 {L : Nat} {xs : Nat → Int} {vb : Bool} {d : Nat} {σ α : Nat → Nat → Int} {κ : Nat → Option Nat} {ρ : Nat} {x4 : Int} {x5 : Int} {x6 : Int} (hI : qI σ α κ ρ) (r4 : (-2147483648) ≤ x4 ∧ x4 ≤ 2147483647) (r5 : (-2147483648) ≤ x5 ∧ x5 ≤ 2147483647) (r6 : 0 ≤ x6 ∧ x6 ≤ 39) (p0 : 0 ≤ σ 42 1 ∧ σ 42 1 ≤ 1800) : qm_T (qe L xs vb) (d + 4) 152 [.ref 42, .int (qz 10), .int (qz 0), .int (qz 0), .int (qz x4), .int (qz x5), .int (qz x6)] (qw σ α κ ρ) (fun r w' => ∃ σ' α', w' = qw σ' α' κ ρ ∧ qI σ' α' κ ρ ∧ qFr [(42, 1)] [43] σ α σ' α' ∧ ∃ v : Int, r = some (.int (qz v)) ∧ ((-2147483648) ≤ v ∧ v ≤ 2147483647) ∧ σ' 42 1 = σ 42 1 + 2) := by
  refine qr_start (d := d + 3) qv_e152 (Nat.le_of_ble_eq_true rfl) ?_
  show qr_W (qe L xs vb) (d + 3) qx_e152 _ (0, [(0, .ref 42), (1, .int (qz 10)), (2, .int (qz 0)), (3, .int (qz 0)), (4, .int (qz x4)), (5, .int (qz x5)), (6, .int (qz x6))], [], _, 0, 0)
  have hF0 := qFr_rf [(42, 1)] [43] σ α
  have hz42_1 : (-2147483648) ≤ σ 42 1 ∧ σ 42 1 ≤ 2147483647 := hI.1 42 1
  refine qr_aload_n 1 rfl rfl rfl ?_
  refine qr_get 4 rfl rfl rfl (by decide) rfl ?_
  refine qr_aload_n 5 rfl rfl rfl ?_
  refine qr_get 8 rfl rfl rfl (by decide) rfl ?_
  refine qr_alen 9 rfl rfl (by first | exact Or.inl (by decide) | exact Or.inr (Or.inl rfl) | exact Or.inr (Or.inr (Or.inl rfl)) | exact Or.inr (Or.inr (Or.inr (Or.inl rfl)))) rfl ?_
  refine qy_v 24 rfl ?_
  refine qr_icmp_ge 22 12 rfl rfl rfl (by omega) (by omega) (fun h1 => ?_) (fun h1 => ?_)
  · skip
    refine qr_aload_n 23 rfl rfl rfl ?_
    refine qr_dup 24 rfl rfl rfl ?_
    refine qr_get 27 rfl rfl rfl (by decide) rfl ?_
    refine qr_iconst 28 rfl rfl ?_
    refine qr_iadd 29 rfl rfl ?_
    refine qr_put 32 rfl (by decide) rfl (Nat.le_of_ble_eq_true rfl) (Nat.le_of_ble_eq_true rfl) (Or.inl rfl) (qr_fitI rfl _) rfl ?_
    refine qy_wS (qw_s σ 42 1 ((σ 42 1) + 1)) rfl (fun σ2 e3 => ?_)
    have hI4 : qI σ2 α κ ρ := by rw [e3]; exact qI_s hI 42 1 rfl (show (-2147483648) ≤ ((σ 42 1) + 1) ∧ ((σ 42 1) + 1) ≤ 2147483647 by omega)
    have hF5 : qFr [(42, 1)] [43] σ α σ2 α := by rw [e3]; exact qFr_s hF0 42 1 _ (by decide)
    refine qr_getst 35 rfl rfl ?_
    refine qr_iload_n 36 rfl rfl rfl ?_
    refine qr_iaload 37 rfl rfl (by omega) (by decide) rfl ?_
    refine qy_v (-1) (by decide) ?_
    refine qr_istore _ 39 rfl (by decide) rfl rfl ?_
    refine qr_iload_n 40 rfl rfl rfl ?_
    refine qr_look (off := 139) 179 rfl (by omega) (by decide) (by decide) rfl ?_
    refine qr_aload_n 180 rfl rfl rfl ?_
    refine qr_iload_n 181 rfl rfl rfl ?_
    refine qr_iconst 182 rfl rfl ?_
    refine qr_iload 184 rfl rfl rfl ?_
    refine qr_iload 186 rfl rfl rfl ?_
    refine qr_iload 188 rfl rfl rfl ?_
    refine qr_callN 191 rfl rfl rfl (sf_150_42r0_0 (d := d + 0) hI4 (by omega) (by omega) (by omega) (by omega)) ?_
    have hs8 : (-2147483648) ≤ σ2 42 1 ∧ σ2 42 1 ≤ 2147483647 := hI4.1 42 1
    have hs9 : σ2 42 1 = ((σ 42 1) + 1) := (congrFun (congrFun e3 42) 1).trans rfl
    rintro _ _ ⟨σ10, α11, rfl, hI12, hG13, v6, rfl, hv6, hp7⟩
    have hF14 : qFr [(42, 1)] [43] σ α σ10 α11 := qFr_t hF5 hG13 (by decide) (by decide)
    have hs15 : (-2147483648) ≤ σ10 42 1 ∧ σ10 42 1 ≤ 2147483647 := hI12.1 42 1
    show qr_W (qe L xs vb) (d + 3) qx_e152 _ (191, _, [.int (qz v6)], qw σ10 α11 κ ρ, 0, 0)
    refine qr_iconst 192 rfl rfl ?_
    refine qr_imul 193 rfl rfl ?_
    refine qy_can (fun v16 hv16 => ?_)
    refine qr_retI rfl rfl (by decide) (by decide) ?_
    exact ⟨_, _, rfl, hI12, hF14, v16, rfl, by omega, by omega⟩
  · skip
    refine qr_aload_n 13 rfl rfl rfl ?_
    refine qr_get 16 rfl rfl rfl (by decide) rfl ?_
    refine qr_aload_n 17 rfl rfl rfl ?_
    refine qr_get 20 rfl rfl rfl (by decide) rfl ?_
    refine qr_iload_n 21 rfl rfl rfl ?_
    refine qr_iastore 22 rfl (by decide) rfl (by omega) (by decide) rfl ?_
    refine qy_wA (qw_r α 43 (qzu (α 43) ((σ 42 1) : Int).toNat 10)) rfl (fun α17 e18 => ?_)
    have hI19 : qI σ α17 κ ρ := by rw [e18]; exact qI_r hI 43 _ rfl (show (-2147483648) ≤ 10 ∧ 10 ≤ 2147483647 by omega)
    have hF20 : qFr [(42, 1)] [43] σ α σ α17 := by rw [e18]; exact qFr_r hF0 43 _ (by decide)
    refine qr_aload_n 23 rfl rfl rfl ?_
    refine qr_dup 24 rfl rfl rfl ?_
    refine qr_get 27 rfl rfl rfl (by decide) rfl ?_
    refine qr_iconst 28 rfl rfl ?_
    refine qr_iadd 29 rfl rfl ?_
    refine qr_put 32 rfl (by decide) rfl (Nat.le_of_ble_eq_true rfl) (Nat.le_of_ble_eq_true rfl) (Or.inl rfl) (qr_fitI rfl _) rfl ?_
    refine qy_wS (qw_s σ 42 1 ((σ 42 1) + 1)) rfl (fun σ21 e22 => ?_)
    have hI23 : qI σ21 α17 κ ρ := by rw [e22]; exact qI_s hI19 42 1 rfl (show (-2147483648) ≤ ((σ 42 1) + 1) ∧ ((σ 42 1) + 1) ≤ 2147483647 by omega)
    have hF24 : qFr [(42, 1)] [43] σ α σ21 α17 := by rw [e22]; exact qFr_s hF20 42 1 _ (by decide)
    refine qr_getst 35 rfl rfl ?_
    refine qr_iload_n 36 rfl rfl rfl ?_
    refine qr_iaload 37 rfl rfl (by omega) (by decide) rfl ?_
    refine qy_v (-1) (by decide) ?_
    refine qr_istore _ 39 rfl (by decide) rfl rfl ?_
    refine qr_iload_n 40 rfl rfl rfl ?_
    refine qr_look (off := 139) 179 rfl (by omega) (by decide) (by decide) rfl ?_
    refine qr_aload_n 180 rfl rfl rfl ?_
    refine qr_iload_n 181 rfl rfl rfl ?_
    refine qr_iconst 182 rfl rfl ?_
    refine qr_iload 184 rfl rfl rfl ?_
    refine qr_iload 186 rfl rfl rfl ?_
    refine qr_iload 188 rfl rfl rfl ?_
    refine qr_callN 191 rfl rfl rfl (sf_150_42r0_0 (d := d + 0) hI23 (by omega) (by omega) (by omega) (by omega)) ?_
    have hs27 : (-2147483648) ≤ σ21 42 1 ∧ σ21 42 1 ≤ 2147483647 := hI23.1 42 1
    have hs28 : σ21 42 1 = ((σ 42 1) + 1) := (congrFun (congrFun e22 42) 1).trans rfl
    rintro _ _ ⟨σ29, α30, rfl, hI31, hG32, v25, rfl, hv25, hp26⟩
    have hF33 : qFr [(42, 1)] [43] σ α σ29 α30 := qFr_t hF24 hG32 (by decide) (by decide)
    have hs34 : (-2147483648) ≤ σ29 42 1 ∧ σ29 42 1 ≤ 2147483647 := hI31.1 42 1
    show qr_W (qe L xs vb) (d + 3) qx_e152 _ (191, _, [.int (qz v25)], qw σ29 α30 κ ρ, 0, 0)
    refine qr_iconst 192 rfl rfl ?_
    refine qr_imul 193 rfl rfl ?_
    refine qy_can (fun v35 hv35 => ?_)
    refine qr_retI rfl rfl (by decide) (by decide) ?_
    exact ⟨_, _, rfl, hI31, hF33, v35, rfl, by omega, by omega⟩

set_option maxHeartbeats 4000000 in
set_option maxRecDepth 20000 in
/-- OneRoof$Acts.runFrom -/
theorem sf_151_42f0_0_1 {L : Nat} {xs : Nat → Int} {vb : Bool} {d : Nat} {σ α : Nat → Nat → Int} {κ : Nat → Option Nat} {ρ : Nat} {x4 : Int} {x5 : Int} {x6 : Int} (hI : qI σ α κ ρ) (r4 : (-2147483648) ≤ x4 ∧ x4 ≤ 2147483647) (r5 : (-2147483648) ≤ x5 ∧ x5 ≤ 2147483647) (r6 : 0 ≤ x6 ∧ x6 ≤ 38) (p0 : 0 ≤ σ 42 1 ∧ σ 42 1 ≤ 1800) : qm_T (qe L xs vb) (d + 5) 151 [.ref 42, .int (qz 0), .int (qz 0), .int (qz 1), .int (qz x4), .int (qz x5), .int (qz x6)] (qw σ α κ ρ) (fun r w' => ∃ σ' α', w' = qw σ' α' κ ρ ∧ qI σ' α' κ ρ ∧ qFr [(42, 1)] [43] σ α σ' α' ∧ ∃ v : Int, r = some (.int (qz v)) ∧ ((-2147483648) ≤ v ∧ v ≤ 2147483647) ∧ σ' 42 1 = σ 42 1 + 2) := by
  refine qr_start (d := d + 4) qv_e151 (Nat.le_of_ble_eq_true rfl) ?_
  show qr_W (qe L xs vb) (d + 4) qx_e151 _ (0, [(0, .ref 42), (1, .int (qz 0)), (2, .int (qz 0)), (3, .int (qz 1)), (4, .int (qz x4)), (5, .int (qz x5)), (6, .int (qz x6))], [], _, 0, 0)
  have hF0 := qFr_rf [(42, 1)] [43] σ α
  have hz42_1 : (-2147483648) ≤ σ 42 1 ∧ σ 42 1 ≤ 2147483647 := hI.1 42 1
  refine qr_iload_n 1 rfl rfl rfl ?_
  refine qr_istore _ 3 rfl (by decide) rfl rfl ?_
  refine qr_iconst 4 rfl rfl ?_
  refine qr_istore _ 6 rfl (by decide) rfl rfl ?_
  refine qr_iload 8 rfl rfl rfl ?_
  refine qr_getst 11 rfl rfl ?_
  refine qr_alen 12 rfl rfl (by first | exact Or.inl (by decide) | exact Or.inr (Or.inl rfl) | exact Or.inr (Or.inr (Or.inl rfl)) | exact Or.inr (Or.inr (Or.inr (Or.inl rfl)))) rfl ?_
  refine qy_v 7 rfl ?_
  refine qr_icmp_ge 89 15 rfl rfl rfl (by omega) (by omega) (fun h => False.elim (by omega)) (fun h1 => ?_)
  refine qr_iload 17 rfl rfl rfl ?_
  refine qr_if_lt 89 20 rfl rfl rfl (by omega) (fun h => False.elim (by omega)) (fun h2 => ?_)
  refine qr_iload 22 rfl rfl rfl ?_
  refine qr_getst 25 rfl rfl ?_
  refine qr_alen 26 rfl rfl (by first | exact Or.inl (by decide) | exact Or.inr (Or.inl rfl) | exact Or.inr (Or.inr (Or.inl rfl)) | exact Or.inr (Or.inr (Or.inr (Or.inl rfl)))) rfl ?_
  refine qy_v 7 rfl ?_
  refine qr_icmp_ge 89 29 rfl rfl rfl (by omega) (by omega) (fun h => False.elim (by omega)) (fun h3 => ?_)
  refine qr_getst 32 rfl rfl ?_
  refine qr_iload 34 rfl rfl rfl ?_
  refine qr_iconst 35 rfl rfl ?_
  refine qr_imul 36 rfl rfl ?_
  refine qy_v 0 rfl ?_
  refine qr_iload_n 37 rfl rfl rfl ?_
  refine qr_iadd 38 rfl rfl ?_
  refine qy_v 1 rfl ?_
  refine qr_iaload 39 rfl rfl (by omega) (by decide) rfl ?_
  refine qy_v 10 (by decide) ?_
  refine qr_istore _ 41 rfl (by decide) rfl rfl ?_
  refine qr_iload 43 rfl rfl rfl ?_
  refine qr_if_eq 75 46 rfl rfl rfl (by omega) (fun h => False.elim (by omega)) (fun h4 => ?_)
  refine qr_iload 48 rfl rfl rfl ?_
  refine qr_bipush 50 rfl (by decide) rfl ?_
  refine qr_icmp_le 57 53 rfl rfl rfl (by omega) (by omega) (fun h5 => ?_) (fun h => False.elim (by omega))
  refine qr_aload_n 58 rfl rfl rfl ?_
  refine qr_iload 60 rfl rfl rfl ?_
  refine qr_iload 62 rfl rfl rfl ?_
  refine qr_iload_n 63 rfl rfl rfl ?_
  refine qr_iload 65 rfl rfl rfl ?_
  refine qr_iload 67 rfl rfl rfl ?_
  refine qr_iload 69 rfl rfl rfl ?_
  refine qr_iconst 70 rfl rfl ?_
  refine qr_iadd 71 rfl rfl ?_
  refine qr_callN 74 rfl rfl rfl (sf_152_42b10_0_0 (d := d + 0) hI (by omega) (by omega) (by omega) (by omega)) ?_
  have hs8 : (-2147483648) ≤ σ 42 1 ∧ σ 42 1 ≤ 2147483647 := hI.1 42 1
  rintro _ _ ⟨σ9, α10, rfl, hI11, hG12, v6, rfl, hv6, hp7⟩
  have hF13 : qFr [(42, 1)] [43] σ α σ9 α10 := qFr_t hF0 hG12 (by decide) (by decide)
  have hs14 : (-2147483648) ≤ σ9 42 1 ∧ σ9 42 1 ≤ 2147483647 := hI11.1 42 1
  show qr_W (qe L xs vb) (d + 4) qx_e151 _ (74, _, [.int (qz v6)], qw σ9 α10 κ ρ, 0, 0)
  refine qr_retI rfl rfl (by decide) (by decide) ?_
  exact ⟨_, _, rfl, hI11, hF13, v6, rfl, by omega, by omega⟩

set_option maxHeartbeats 4000000 in
set_option maxRecDepth 20000 in
/-- OneRoof$Acts.run -/
theorem sf_150_42r0_1 {L : Nat} {xs : Nat → Int} {vb : Bool} {d : Nat} {σ α : Nat → Nat → Int} {κ : Nat → Option Nat} {ρ : Nat} {x3 : Int} {x4 : Int} {x5 : Int} (hI : qI σ α κ ρ) (r3 : (-2147483648) ≤ x3 ∧ x3 ≤ 2147483647) (r4 : (-2147483648) ≤ x4 ∧ x4 ≤ 2147483647) (r5 : 0 ≤ x5 ∧ x5 ≤ 38) (p0 : 0 ≤ σ 42 1 ∧ σ 42 1 ≤ 1800) : qm_T (qe L xs vb) (d + 6) 150 [.ref 42, .int (qz 0), .int (qz 1), .int (qz x3), .int (qz x4), .int (qz x5)] (qw σ α κ ρ) (fun r w' => ∃ σ' α', w' = qw σ' α' κ ρ ∧ qI σ' α' κ ρ ∧ qFr [(42, 1)] [43] σ α σ' α' ∧ ∃ v : Int, r = some (.int (qz v)) ∧ ((-2147483648) ≤ v ∧ v ≤ 2147483647) ∧ σ' 42 1 = σ 42 1 + 2) := by
  refine qr_start (d := d + 5) qv_e150 (Nat.le_of_ble_eq_true rfl) ?_
  show qr_W (qe L xs vb) (d + 5) qx_e150 _ (0, [(0, .ref 42), (1, .int (qz 0)), (2, .int (qz 1)), (3, .int (qz x3)), (4, .int (qz x4)), (5, .int (qz x5))], [], _, 0, 0)
  have hF0 := qFr_rf [(42, 1)] [43] σ α
  have hz42_1 : (-2147483648) ≤ σ 42 1 ∧ σ 42 1 ≤ 2147483647 := hI.1 42 1
  refine qr_aload_n 1 rfl rfl rfl ?_
  refine qr_iload_n 2 rfl rfl rfl ?_
  refine qr_iload_n 3 rfl rfl rfl ?_
  refine qr_iload_n 4 rfl rfl rfl ?_
  refine qr_iload_n 5 rfl rfl rfl ?_
  refine qr_iload 7 rfl rfl rfl ?_
  refine qr_iload 9 rfl rfl rfl ?_
  refine qr_callN 12 rfl rfl rfl (sf_151_42f0_0_1 (d := d + 0) hI (by omega) (by omega) (by omega) (by omega)) ?_
  have hs3 : (-2147483648) ≤ σ 42 1 ∧ σ 42 1 ≤ 2147483647 := hI.1 42 1
  rintro _ _ ⟨σ4, α5, rfl, hI6, hG7, v1, rfl, hv1, hp2⟩
  have hF8 : qFr [(42, 1)] [43] σ α σ4 α5 := qFr_t hF0 hG7 (by decide) (by decide)
  have hs9 : (-2147483648) ≤ σ4 42 1 ∧ σ4 42 1 ≤ 2147483647 := hI6.1 42 1
  show qr_W (qe L xs vb) (d + 5) qx_e150 _ (12, _, [.int (qz v1)], qw σ4 α5 κ ρ, 0, 0)
  refine qr_retI rfl rfl (by decide) (by decide) ?_
  exact ⟨_, _, rfl, hI6, hF8, v1, rfl, by omega, by omega⟩

set_option maxHeartbeats 4000000 in
set_option maxRecDepth 20000 in
/-- OneRoof$Acts.start -/
theorem sf_149_42s0_1 {L : Nat} {xs : Nat → Int} {vb : Bool} {d : Nat} {σ α : Nat → Nat → Int} {κ : Nat → Option Nat} {ρ : Nat} {x3 : Int} {x4 : Int} (hI : qI σ α κ ρ) (r3 : (-2147483648) ≤ x3 ∧ x3 ≤ 2147483647) (r4 : (-2147483648) ≤ x4 ∧ x4 ≤ 2147483647) (p0 : σ 42 1 = 0) : qm_T (qe L xs vb) (d + 7) 149 [.ref 42, .int (qz 0), .int (qz 1), .int (qz x3), .int (qz x4)] (qw σ α κ ρ) (fun r w' => ∃ σ' α', w' = qw σ' α' κ ρ ∧ qI σ' α' κ ρ ∧ qFr [(42, 1)] [43] σ α σ' α' ∧ ∃ v : Int, r = some (.int (qz v)) ∧ ((-2147483648) ≤ v ∧ v ≤ 2147483647)) := by
  refine qr_start (d := d + 6) qv_e149 (Nat.le_of_ble_eq_true rfl) ?_
  show qr_W (qe L xs vb) (d + 6) qx_e149 _ (0, [(0, .ref 42), (1, .int (qz 0)), (2, .int (qz 1)), (3, .int (qz x3)), (4, .int (qz x4))], [], _, 0, 0)
  have hF0 := qFr_rf [(42, 1)] [43] σ α
  have hz42_1 : (-2147483648) ≤ σ 42 1 ∧ σ 42 1 ≤ 2147483647 := hI.1 42 1
  refine qr_aload_n 1 rfl rfl rfl ?_
  refine qr_iload_n 2 rfl rfl rfl ?_
  refine qr_iload_n 3 rfl rfl rfl ?_
  refine qr_iload_n 4 rfl rfl rfl ?_
  refine qr_iload 6 rfl rfl rfl ?_
  refine qr_iconst 7 rfl rfl ?_
  refine qr_callN 10 rfl rfl rfl (sf_150_42r0_1 (d := d + 0) hI (by omega) (by omega) (by omega) (by omega)) ?_
  have hs3 : (-2147483648) ≤ σ 42 1 ∧ σ 42 1 ≤ 2147483647 := hI.1 42 1
  rintro _ _ ⟨σ4, α5, rfl, hI6, hG7, v1, rfl, hv1, hp2⟩
  have hF8 : qFr [(42, 1)] [43] σ α σ4 α5 := qFr_t hF0 hG7 (by decide) (by decide)
  have hs9 : (-2147483648) ≤ σ4 42 1 ∧ σ4 42 1 ≤ 2147483647 := hI6.1 42 1
  show qr_W (qe L xs vb) (d + 6) qx_e149 _ (10, _, [.int (qz v1)], qw σ4 α5 κ ρ, 0, 0)
  refine qr_retI rfl rfl (by decide) (by decide) ?_
  exact ⟨_, _, rfl, hI6, hF8, v1, rfl, by omega⟩

set_option maxHeartbeats 4000000 in
set_option maxRecDepth 20000 in
/-- OneRoof$Acts.begin -/
theorem sf_152_42b10_0_1 {L : Nat} {xs : Nat → Int} {vb : Bool} {d : Nat} {σ α : Nat → Nat → Int} {κ : Nat → Option Nat} {ρ : Nat} {x4 : Int} {x5 : Int} {x6 : Int} (hI : qI σ α κ ρ) (r4 : (-2147483648) ≤ x4 ∧ x4 ≤ 2147483647) (r5 : (-2147483648) ≤ x5 ∧ x5 ≤ 2147483647) (r6 : 0 ≤ x6 ∧ x6 ≤ 38) (p0 : 0 ≤ σ 42 1 ∧ σ 42 1 ≤ 1700) : qm_T (qe L xs vb) (d + 6) 152 [.ref 42, .int (qz 10), .int (qz 0), .int (qz 1), .int (qz x4), .int (qz x5), .int (qz x6)] (qw σ α κ ρ) (fun r w' => ∃ σ' α', w' = qw σ' α' κ ρ ∧ qI σ' α' κ ρ ∧ qFr [(42, 1)] [43] σ α σ' α' ∧ ∃ v : Int, r = some (.int (qz v)) ∧ ((-2147483648) ≤ v ∧ v ≤ 2147483647) ∧ σ' 42 1 = σ 42 1 + 3) := by
  refine qr_start (d := d + 5) qv_e152 (Nat.le_of_ble_eq_true rfl) ?_
  show qr_W (qe L xs vb) (d + 5) qx_e152 _ (0, [(0, .ref 42), (1, .int (qz 10)), (2, .int (qz 0)), (3, .int (qz 1)), (4, .int (qz x4)), (5, .int (qz x5)), (6, .int (qz x6))], [], _, 0, 0)
  have hF0 := qFr_rf [(42, 1)] [43] σ α
  have hz42_1 : (-2147483648) ≤ σ 42 1 ∧ σ 42 1 ≤ 2147483647 := hI.1 42 1
  refine qr_aload_n 1 rfl rfl rfl ?_
  refine qr_get 4 rfl rfl rfl (by decide) rfl ?_
  refine qr_aload_n 5 rfl rfl rfl ?_
  refine qr_get 8 rfl rfl rfl (by decide) rfl ?_
  refine qr_alen 9 rfl rfl (by first | exact Or.inl (by decide) | exact Or.inr (Or.inl rfl) | exact Or.inr (Or.inr (Or.inl rfl)) | exact Or.inr (Or.inr (Or.inr (Or.inl rfl)))) rfl ?_
  refine qy_v 24 rfl ?_
  refine qr_icmp_ge 22 12 rfl rfl rfl (by omega) (by omega) (fun h1 => ?_) (fun h1 => ?_)
  · skip
    refine qr_aload_n 23 rfl rfl rfl ?_
    refine qr_dup 24 rfl rfl rfl ?_
    refine qr_get 27 rfl rfl rfl (by decide) rfl ?_
    refine qr_iconst 28 rfl rfl ?_
    refine qr_iadd 29 rfl rfl ?_
    refine qr_put 32 rfl (by decide) rfl (Nat.le_of_ble_eq_true rfl) (Nat.le_of_ble_eq_true rfl) (Or.inl rfl) (qr_fitI rfl _) rfl ?_
    refine qy_wS (qw_s σ 42 1 ((σ 42 1) + 1)) rfl (fun σ2 e3 => ?_)
    have hI4 : qI σ2 α κ ρ := by rw [e3]; exact qI_s hI 42 1 rfl (show (-2147483648) ≤ ((σ 42 1) + 1) ∧ ((σ 42 1) + 1) ≤ 2147483647 by omega)
    have hF5 : qFr [(42, 1)] [43] σ α σ2 α := by rw [e3]; exact qFr_s hF0 42 1 _ (by decide)
    refine qr_getst 35 rfl rfl ?_
    refine qr_iload_n 36 rfl rfl rfl ?_
    refine qr_iaload 37 rfl rfl (by omega) (by decide) rfl ?_
    refine qy_v (-1) (by decide) ?_
    refine qr_istore _ 39 rfl (by decide) rfl rfl ?_
    refine qr_iload_n 40 rfl rfl rfl ?_
    refine qr_look (off := 139) 179 rfl (by omega) (by decide) (by decide) rfl ?_
    refine qr_aload_n 180 rfl rfl rfl ?_
    refine qr_iload_n 181 rfl rfl rfl ?_
    refine qr_iconst 182 rfl rfl ?_
    refine qr_iload 184 rfl rfl rfl ?_
    refine qr_iload 186 rfl rfl rfl ?_
    refine qr_iload 188 rfl rfl rfl ?_
    refine qr_callN 191 rfl rfl rfl (sf_150_42r1_0 (d := d + 0) hI4 (by omega) (by omega) (by omega) (by omega)) ?_
    have hs8 : (-2147483648) ≤ σ2 42 1 ∧ σ2 42 1 ≤ 2147483647 := hI4.1 42 1
    have hs9 : σ2 42 1 = ((σ 42 1) + 1) := (congrFun (congrFun e3 42) 1).trans rfl
    rintro _ _ ⟨σ10, α11, rfl, hI12, hG13, v6, rfl, hv6, hp7⟩
    have hF14 : qFr [(42, 1)] [43] σ α σ10 α11 := qFr_t hF5 hG13 (by decide) (by decide)
    have hs15 : (-2147483648) ≤ σ10 42 1 ∧ σ10 42 1 ≤ 2147483647 := hI12.1 42 1
    show qr_W (qe L xs vb) (d + 5) qx_e152 _ (191, _, [.int (qz v6)], qw σ10 α11 κ ρ, 0, 0)
    refine qr_iconst 192 rfl rfl ?_
    refine qr_imul 193 rfl rfl ?_
    refine qy_can (fun v16 hv16 => ?_)
    refine qr_retI rfl rfl (by decide) (by decide) ?_
    exact ⟨_, _, rfl, hI12, hF14, v16, rfl, by omega, by omega⟩
  · skip
    refine qr_aload_n 13 rfl rfl rfl ?_
    refine qr_get 16 rfl rfl rfl (by decide) rfl ?_
    refine qr_aload_n 17 rfl rfl rfl ?_
    refine qr_get 20 rfl rfl rfl (by decide) rfl ?_
    refine qr_iload_n 21 rfl rfl rfl ?_
    refine qr_iastore 22 rfl (by decide) rfl (by omega) (by decide) rfl ?_
    refine qy_wA (qw_r α 43 (qzu (α 43) ((σ 42 1) : Int).toNat 10)) rfl (fun α17 e18 => ?_)
    have hI19 : qI σ α17 κ ρ := by rw [e18]; exact qI_r hI 43 _ rfl (show (-2147483648) ≤ 10 ∧ 10 ≤ 2147483647 by omega)
    have hF20 : qFr [(42, 1)] [43] σ α σ α17 := by rw [e18]; exact qFr_r hF0 43 _ (by decide)
    refine qr_aload_n 23 rfl rfl rfl ?_
    refine qr_dup 24 rfl rfl rfl ?_
    refine qr_get 27 rfl rfl rfl (by decide) rfl ?_
    refine qr_iconst 28 rfl rfl ?_
    refine qr_iadd 29 rfl rfl ?_
    refine qr_put 32 rfl (by decide) rfl (Nat.le_of_ble_eq_true rfl) (Nat.le_of_ble_eq_true rfl) (Or.inl rfl) (qr_fitI rfl _) rfl ?_
    refine qy_wS (qw_s σ 42 1 ((σ 42 1) + 1)) rfl (fun σ21 e22 => ?_)
    have hI23 : qI σ21 α17 κ ρ := by rw [e22]; exact qI_s hI19 42 1 rfl (show (-2147483648) ≤ ((σ 42 1) + 1) ∧ ((σ 42 1) + 1) ≤ 2147483647 by omega)
    have hF24 : qFr [(42, 1)] [43] σ α σ21 α17 := by rw [e22]; exact qFr_s hF20 42 1 _ (by decide)
    refine qr_getst 35 rfl rfl ?_
    refine qr_iload_n 36 rfl rfl rfl ?_
    refine qr_iaload 37 rfl rfl (by omega) (by decide) rfl ?_
    refine qy_v (-1) (by decide) ?_
    refine qr_istore _ 39 rfl (by decide) rfl rfl ?_
    refine qr_iload_n 40 rfl rfl rfl ?_
    refine qr_look (off := 139) 179 rfl (by omega) (by decide) (by decide) rfl ?_
    refine qr_aload_n 180 rfl rfl rfl ?_
    refine qr_iload_n 181 rfl rfl rfl ?_
    refine qr_iconst 182 rfl rfl ?_
    refine qr_iload 184 rfl rfl rfl ?_
    refine qr_iload 186 rfl rfl rfl ?_
    refine qr_iload 188 rfl rfl rfl ?_
    refine qr_callN 191 rfl rfl rfl (sf_150_42r1_0 (d := d + 0) hI23 (by omega) (by omega) (by omega) (by omega)) ?_
    have hs27 : (-2147483648) ≤ σ21 42 1 ∧ σ21 42 1 ≤ 2147483647 := hI23.1 42 1
    have hs28 : σ21 42 1 = ((σ 42 1) + 1) := (congrFun (congrFun e22 42) 1).trans rfl
    rintro _ _ ⟨σ29, α30, rfl, hI31, hG32, v25, rfl, hv25, hp26⟩
    have hF33 : qFr [(42, 1)] [43] σ α σ29 α30 := qFr_t hF24 hG32 (by decide) (by decide)
    have hs34 : (-2147483648) ≤ σ29 42 1 ∧ σ29 42 1 ≤ 2147483647 := hI31.1 42 1
    show qr_W (qe L xs vb) (d + 5) qx_e152 _ (191, _, [.int (qz v25)], qw σ29 α30 κ ρ, 0, 0)
    refine qr_iconst 192 rfl rfl ?_
    refine qr_imul 193 rfl rfl ?_
    refine qy_can (fun v35 hv35 => ?_)
    refine qr_retI rfl rfl (by decide) (by decide) ?_
    exact ⟨_, _, rfl, hI31, hF33, v35, rfl, by omega, by omega⟩

set_option maxHeartbeats 4000000 in
set_option maxRecDepth 20000 in
/-- OneRoof$Acts.runFrom -/
theorem sf_151_42f1_1_1 {L : Nat} {xs : Nat → Int} {vb : Bool} {d : Nat} {σ α : Nat → Nat → Int} {κ : Nat → Option Nat} {ρ : Nat} {x4 : Int} {x5 : Int} {x6 : Int} (hI : qI σ α κ ρ) (r4 : (-2147483648) ≤ x4 ∧ x4 ≤ 2147483647) (r5 : (-2147483648) ≤ x5 ∧ x5 ≤ 2147483647) (r6 : 0 ≤ x6 ∧ x6 ≤ 37) (p0 : 0 ≤ σ 42 1 ∧ σ 42 1 ≤ 1700) : qm_T (qe L xs vb) (d + 7) 151 [.ref 42, .int (qz 1), .int (qz 1), .int (qz 1), .int (qz x4), .int (qz x5), .int (qz x6)] (qw σ α κ ρ) (fun r w' => ∃ σ' α', w' = qw σ' α' κ ρ ∧ qI σ' α' κ ρ ∧ qFr [(42, 1)] [43] σ α σ' α' ∧ ∃ v : Int, r = some (.int (qz v)) ∧ ((-2147483648) ≤ v ∧ v ≤ 2147483647) ∧ σ' 42 1 = σ 42 1 + 3) := by
  refine qr_start (d := d + 6) qv_e151 (Nat.le_of_ble_eq_true rfl) ?_
  show qr_W (qe L xs vb) (d + 6) qx_e151 _ (0, [(0, .ref 42), (1, .int (qz 1)), (2, .int (qz 1)), (3, .int (qz 1)), (4, .int (qz x4)), (5, .int (qz x5)), (6, .int (qz x6))], [], _, 0, 0)
  have hF0 := qFr_rf [(42, 1)] [43] σ α
  have hz42_1 : (-2147483648) ≤ σ 42 1 ∧ σ 42 1 ≤ 2147483647 := hI.1 42 1
  refine qr_iload_n 1 rfl rfl rfl ?_
  refine qr_istore _ 3 rfl (by decide) rfl rfl ?_
  refine qr_iconst 4 rfl rfl ?_
  refine qr_istore _ 6 rfl (by decide) rfl rfl ?_
  refine qr_iload 8 rfl rfl rfl ?_
  refine qr_getst 11 rfl rfl ?_
  refine qr_alen 12 rfl rfl (by first | exact Or.inl (by decide) | exact Or.inr (Or.inl rfl) | exact Or.inr (Or.inr (Or.inl rfl)) | exact Or.inr (Or.inr (Or.inr (Or.inl rfl)))) rfl ?_
  refine qy_v 7 rfl ?_
  refine qr_icmp_ge 89 15 rfl rfl rfl (by omega) (by omega) (fun h => False.elim (by omega)) (fun h1 => ?_)
  refine qr_iload 17 rfl rfl rfl ?_
  refine qr_if_lt 89 20 rfl rfl rfl (by omega) (fun h => False.elim (by omega)) (fun h2 => ?_)
  refine qr_iload 22 rfl rfl rfl ?_
  refine qr_getst 25 rfl rfl ?_
  refine qr_alen 26 rfl rfl (by first | exact Or.inl (by decide) | exact Or.inr (Or.inl rfl) | exact Or.inr (Or.inr (Or.inl rfl)) | exact Or.inr (Or.inr (Or.inr (Or.inl rfl)))) rfl ?_
  refine qy_v 7 rfl ?_
  refine qr_icmp_ge 89 29 rfl rfl rfl (by omega) (by omega) (fun h => False.elim (by omega)) (fun h3 => ?_)
  refine qr_getst 32 rfl rfl ?_
  refine qr_iload 34 rfl rfl rfl ?_
  refine qr_iconst 35 rfl rfl ?_
  refine qr_imul 36 rfl rfl ?_
  refine qy_v 4 rfl ?_
  refine qr_iload_n 37 rfl rfl rfl ?_
  refine qr_iadd 38 rfl rfl ?_
  refine qy_v 5 rfl ?_
  refine qr_iaload 39 rfl rfl (by omega) (by decide) rfl ?_
  refine qy_v 0 (by decide) ?_
  refine qr_istore _ 41 rfl (by decide) rfl rfl ?_
  refine qr_iload 43 rfl rfl rfl ?_
  refine qr_if_eq 75 46 rfl rfl rfl (by omega) (fun h4 => ?_) (fun h => False.elim (by omega))
  refine qr_getst 78 rfl rfl ?_
  refine qr_iload 80 rfl rfl rfl ?_
  refine qr_iaload 81 rfl rfl (by omega) (by decide) rfl ?_
  refine qy_v 0 (by decide) ?_
  refine qr_istore _ 83 rfl (by decide) rfl rfl ?_
  refine qr_iinc _ 86 rfl rfl (by decide) rfl rfl ?_
  refine qr_goto 6 rfl rfl ?_
  refine qr_iload 8 rfl rfl rfl ?_
  refine qr_getst 11 rfl rfl ?_
  refine qr_alen 12 rfl rfl (by first | exact Or.inl (by decide) | exact Or.inr (Or.inl rfl) | exact Or.inr (Or.inr (Or.inl rfl)) | exact Or.inr (Or.inr (Or.inr (Or.inl rfl)))) rfl ?_
  refine qy_v 7 rfl ?_
  refine qr_icmp_ge 89 15 rfl rfl rfl (by omega) (by omega) (fun h => False.elim (by omega)) (fun h5 => ?_)
  refine qr_iload 17 rfl rfl rfl ?_
  refine qr_if_lt 89 20 rfl rfl rfl (by omega) (fun h => False.elim (by omega)) (fun h6 => ?_)
  refine qr_iload 22 rfl rfl rfl ?_
  refine qr_getst 25 rfl rfl ?_
  refine qr_alen 26 rfl rfl (by first | exact Or.inl (by decide) | exact Or.inr (Or.inl rfl) | exact Or.inr (Or.inr (Or.inl rfl)) | exact Or.inr (Or.inr (Or.inr (Or.inl rfl)))) rfl ?_
  refine qy_v 7 rfl ?_
  refine qr_icmp_ge 89 29 rfl rfl rfl (by omega) (by omega) (fun h => False.elim (by omega)) (fun h7 => ?_)
  refine qr_getst 32 rfl rfl ?_
  refine qr_iload 34 rfl rfl rfl ?_
  refine qr_iconst 35 rfl rfl ?_
  refine qr_imul 36 rfl rfl ?_
  refine qy_v 0 rfl ?_
  refine qr_iload_n 37 rfl rfl rfl ?_
  refine qr_iadd 38 rfl rfl ?_
  refine qy_v 1 rfl ?_
  refine qr_iaload 39 rfl rfl (by omega) (by decide) rfl ?_
  refine qy_v 10 (by decide) ?_
  refine qr_istore _ 41 rfl (by decide) rfl rfl ?_
  refine qr_iload 43 rfl rfl rfl ?_
  refine qr_if_eq 75 46 rfl rfl rfl (by omega) (fun h => False.elim (by omega)) (fun h8 => ?_)
  as_aux_lemma =>
    refine qr_iload 48 rfl rfl rfl ?_
    refine qr_bipush 50 rfl (by decide) rfl ?_
    refine qr_icmp_le 57 53 rfl rfl rfl (by omega) (by omega) (fun h9 => ?_) (fun h => False.elim (by omega))
    refine qr_aload_n 58 rfl rfl rfl ?_
    refine qr_iload 60 rfl rfl rfl ?_
    refine qr_iload 62 rfl rfl rfl ?_
    refine qr_iload_n 63 rfl rfl rfl ?_
    refine qr_iload 65 rfl rfl rfl ?_
    refine qr_iload 67 rfl rfl rfl ?_
    refine qr_iload 69 rfl rfl rfl ?_
    refine qr_iconst 70 rfl rfl ?_
    refine qr_iadd 71 rfl rfl ?_
    refine qr_callN 74 rfl rfl rfl (sf_152_42b10_0_1 (d := d + 0) hI (by omega) (by omega) (by omega) (by omega)) ?_
    have hs12 : (-2147483648) ≤ σ 42 1 ∧ σ 42 1 ≤ 2147483647 := hI.1 42 1
    rintro _ _ ⟨σ13, α14, rfl, hI15, hG16, v10, rfl, hv10, hp11⟩
    have hF17 : qFr [(42, 1)] [43] σ α σ13 α14 := qFr_t hF0 hG16 (by decide) (by decide)
    have hs18 : (-2147483648) ≤ σ13 42 1 ∧ σ13 42 1 ≤ 2147483647 := hI15.1 42 1
    show qr_W (qe L xs vb) (d + 6) qx_e151 _ (74, _, [.int (qz v10)], qw σ13 α14 κ ρ, 0, 0)
    refine qr_retI rfl rfl (by decide) (by decide) ?_
    exact ⟨_, _, rfl, hI15, hF17, v10, rfl, by omega, by omega⟩

set_option maxHeartbeats 4000000 in
set_option maxRecDepth 20000 in
/-- OneRoof$Acts.run -/
theorem sf_150_42r1_1 {L : Nat} {xs : Nat → Int} {vb : Bool} {d : Nat} {σ α : Nat → Nat → Int} {κ : Nat → Option Nat} {ρ : Nat} {x3 : Int} {x4 : Int} {x5 : Int} (hI : qI σ α κ ρ) (r3 : (-2147483648) ≤ x3 ∧ x3 ≤ 2147483647) (r4 : (-2147483648) ≤ x4 ∧ x4 ≤ 2147483647) (r5 : 0 ≤ x5 ∧ x5 ≤ 37) (p0 : 0 ≤ σ 42 1 ∧ σ 42 1 ≤ 1700) : qm_T (qe L xs vb) (d + 8) 150 [.ref 42, .int (qz 1), .int (qz 1), .int (qz x3), .int (qz x4), .int (qz x5)] (qw σ α κ ρ) (fun r w' => ∃ σ' α', w' = qw σ' α' κ ρ ∧ qI σ' α' κ ρ ∧ qFr [(42, 1)] [43] σ α σ' α' ∧ ∃ v : Int, r = some (.int (qz v)) ∧ ((-2147483648) ≤ v ∧ v ≤ 2147483647) ∧ σ' 42 1 = σ 42 1 + 3) := by
  refine qr_start (d := d + 7) qv_e150 (Nat.le_of_ble_eq_true rfl) ?_
  show qr_W (qe L xs vb) (d + 7) qx_e150 _ (0, [(0, .ref 42), (1, .int (qz 1)), (2, .int (qz 1)), (3, .int (qz x3)), (4, .int (qz x4)), (5, .int (qz x5))], [], _, 0, 0)
  have hF0 := qFr_rf [(42, 1)] [43] σ α
  have hz42_1 : (-2147483648) ≤ σ 42 1 ∧ σ 42 1 ≤ 2147483647 := hI.1 42 1
  refine qr_aload_n 1 rfl rfl rfl ?_
  refine qr_iload_n 2 rfl rfl rfl ?_
  refine qr_iload_n 3 rfl rfl rfl ?_
  refine qr_iload_n 4 rfl rfl rfl ?_
  refine qr_iload_n 5 rfl rfl rfl ?_
  refine qr_iload 7 rfl rfl rfl ?_
  refine qr_iload 9 rfl rfl rfl ?_
  refine qr_callN 12 rfl rfl rfl (sf_151_42f1_1_1 (d := d + 0) hI (by omega) (by omega) (by omega) (by omega)) ?_
  have hs3 : (-2147483648) ≤ σ 42 1 ∧ σ 42 1 ≤ 2147483647 := hI.1 42 1
  rintro _ _ ⟨σ4, α5, rfl, hI6, hG7, v1, rfl, hv1, hp2⟩
  have hF8 : qFr [(42, 1)] [43] σ α σ4 α5 := qFr_t hF0 hG7 (by decide) (by decide)
  have hs9 : (-2147483648) ≤ σ4 42 1 ∧ σ4 42 1 ≤ 2147483647 := hI6.1 42 1
  show qr_W (qe L xs vb) (d + 7) qx_e150 _ (12, _, [.int (qz v1)], qw σ4 α5 κ ρ, 0, 0)
  refine qr_retI rfl rfl (by decide) (by decide) ?_
  exact ⟨_, _, rfl, hI6, hF8, v1, rfl, by omega, by omega⟩

set_option maxHeartbeats 4000000 in
set_option maxRecDepth 20000 in
/-- OneRoof$Acts.start -/
theorem sf_149_42s1_1 {L : Nat} {xs : Nat → Int} {vb : Bool} {d : Nat} {σ α : Nat → Nat → Int} {κ : Nat → Option Nat} {ρ : Nat} {x3 : Int} {x4 : Int} (hI : qI σ α κ ρ) (r3 : (-2147483648) ≤ x3 ∧ x3 ≤ 2147483647) (r4 : (-2147483648) ≤ x4 ∧ x4 ≤ 2147483647) (p0 : σ 42 1 = 0) : qm_T (qe L xs vb) (d + 9) 149 [.ref 42, .int (qz 1), .int (qz 1), .int (qz x3), .int (qz x4)] (qw σ α κ ρ) (fun r w' => ∃ σ' α', w' = qw σ' α' κ ρ ∧ qI σ' α' κ ρ ∧ qFr [(42, 1)] [43] σ α σ' α' ∧ ∃ v : Int, r = some (.int (qz v)) ∧ ((-2147483648) ≤ v ∧ v ≤ 2147483647)) := by
  refine qr_start (d := d + 8) qv_e149 (Nat.le_of_ble_eq_true rfl) ?_
  show qr_W (qe L xs vb) (d + 8) qx_e149 _ (0, [(0, .ref 42), (1, .int (qz 1)), (2, .int (qz 1)), (3, .int (qz x3)), (4, .int (qz x4))], [], _, 0, 0)
  have hF0 := qFr_rf [(42, 1)] [43] σ α
  have hz42_1 : (-2147483648) ≤ σ 42 1 ∧ σ 42 1 ≤ 2147483647 := hI.1 42 1
  refine qr_aload_n 1 rfl rfl rfl ?_
  refine qr_iload_n 2 rfl rfl rfl ?_
  refine qr_iload_n 3 rfl rfl rfl ?_
  refine qr_iload_n 4 rfl rfl rfl ?_
  refine qr_iload 6 rfl rfl rfl ?_
  refine qr_iconst 7 rfl rfl ?_
  refine qr_callN 10 rfl rfl rfl (sf_150_42r1_1 (d := d + 0) hI (by omega) (by omega) (by omega) (by omega)) ?_
  have hs3 : (-2147483648) ≤ σ 42 1 ∧ σ 42 1 ≤ 2147483647 := hI.1 42 1
  rintro _ _ ⟨σ4, α5, rfl, hI6, hG7, v1, rfl, hv1, hp2⟩
  have hF8 : qFr [(42, 1)] [43] σ α σ4 α5 := qFr_t hF0 hG7 (by decide) (by decide)
  have hs9 : (-2147483648) ≤ σ4 42 1 ∧ σ4 42 1 ≤ 2147483647 := hI6.1 42 1
  show qr_W (qe L xs vb) (d + 8) qx_e149 _ (10, _, [.int (qz v1)], qw σ4 α5 κ ρ, 0, 0)
  refine qr_retI rfl rfl (by decide) (by decide) ?_
  exact ⟨_, _, rfl, hI6, hF8, v1, rfl, by omega⟩

set_option maxHeartbeats 4000000 in
set_option maxRecDepth 20000 in
/-- OneRoof$Acts.begin -/
theorem sf_152_42b10_0_2 {L : Nat} {xs : Nat → Int} {vb : Bool} {d : Nat} {σ α : Nat → Nat → Int} {κ : Nat → Option Nat} {ρ : Nat} {x4 : Int} {x5 : Int} {x6 : Int} (hI : qI σ α κ ρ) (r4 : (-2147483648) ≤ x4 ∧ x4 ≤ 2147483647) (r5 : (-2147483648) ≤ x5 ∧ x5 ≤ 2147483647) (r6 : 0 ≤ x6 ∧ x6 ≤ 37) (p0 : 0 ≤ σ 42 1 ∧ σ 42 1 ≤ 1600) : qm_T (qe L xs vb) (d + 8) 152 [.ref 42, .int (qz 10), .int (qz 0), .int (qz 2), .int (qz x4), .int (qz x5), .int (qz x6)] (qw σ α κ ρ) (fun r w' => ∃ σ' α', w' = qw σ' α' κ ρ ∧ qI σ' α' κ ρ ∧ qFr [(42, 1)] [43] σ α σ' α' ∧ ∃ v : Int, r = some (.int (qz v)) ∧ ((-2147483648) ≤ v ∧ v ≤ 2147483647) ∧ σ' 42 1 = σ 42 1 + 4) := by
  refine qr_start (d := d + 7) qv_e152 (Nat.le_of_ble_eq_true rfl) ?_
  show qr_W (qe L xs vb) (d + 7) qx_e152 _ (0, [(0, .ref 42), (1, .int (qz 10)), (2, .int (qz 0)), (3, .int (qz 2)), (4, .int (qz x4)), (5, .int (qz x5)), (6, .int (qz x6))], [], _, 0, 0)
  have hF0 := qFr_rf [(42, 1)] [43] σ α
  have hz42_1 : (-2147483648) ≤ σ 42 1 ∧ σ 42 1 ≤ 2147483647 := hI.1 42 1
  refine qr_aload_n 1 rfl rfl rfl ?_
  refine qr_get 4 rfl rfl rfl (by decide) rfl ?_
  refine qr_aload_n 5 rfl rfl rfl ?_
  refine qr_get 8 rfl rfl rfl (by decide) rfl ?_
  refine qr_alen 9 rfl rfl (by first | exact Or.inl (by decide) | exact Or.inr (Or.inl rfl) | exact Or.inr (Or.inr (Or.inl rfl)) | exact Or.inr (Or.inr (Or.inr (Or.inl rfl)))) rfl ?_
  refine qy_v 24 rfl ?_
  refine qr_icmp_ge 22 12 rfl rfl rfl (by omega) (by omega) (fun h1 => ?_) (fun h1 => ?_)
  · skip
    refine qr_aload_n 23 rfl rfl rfl ?_
    refine qr_dup 24 rfl rfl rfl ?_
    refine qr_get 27 rfl rfl rfl (by decide) rfl ?_
    refine qr_iconst 28 rfl rfl ?_
    refine qr_iadd 29 rfl rfl ?_
    refine qr_put 32 rfl (by decide) rfl (Nat.le_of_ble_eq_true rfl) (Nat.le_of_ble_eq_true rfl) (Or.inl rfl) (qr_fitI rfl _) rfl ?_
    refine qy_wS (qw_s σ 42 1 ((σ 42 1) + 1)) rfl (fun σ2 e3 => ?_)
    have hI4 : qI σ2 α κ ρ := by rw [e3]; exact qI_s hI 42 1 rfl (show (-2147483648) ≤ ((σ 42 1) + 1) ∧ ((σ 42 1) + 1) ≤ 2147483647 by omega)
    have hF5 : qFr [(42, 1)] [43] σ α σ2 α := by rw [e3]; exact qFr_s hF0 42 1 _ (by decide)
    refine qr_getst 35 rfl rfl ?_
    refine qr_iload_n 36 rfl rfl rfl ?_
    refine qr_iaload 37 rfl rfl (by omega) (by decide) rfl ?_
    refine qy_v (-1) (by decide) ?_
    refine qr_istore _ 39 rfl (by decide) rfl rfl ?_
    refine qr_iload_n 40 rfl rfl rfl ?_
    refine qr_look (off := 139) 179 rfl (by omega) (by decide) (by decide) rfl ?_
    refine qr_aload_n 180 rfl rfl rfl ?_
    refine qr_iload_n 181 rfl rfl rfl ?_
    refine qr_iconst 182 rfl rfl ?_
    refine qr_iload 184 rfl rfl rfl ?_
    refine qr_iload 186 rfl rfl rfl ?_
    refine qr_iload 188 rfl rfl rfl ?_
    refine qr_callN 191 rfl rfl rfl (sf_150_42r2_0 (d := d + 0) hI4 (by omega) (by omega) (by omega) (by omega)) ?_
    have hs8 : (-2147483648) ≤ σ2 42 1 ∧ σ2 42 1 ≤ 2147483647 := hI4.1 42 1
    have hs9 : σ2 42 1 = ((σ 42 1) + 1) := (congrFun (congrFun e3 42) 1).trans rfl
    rintro _ _ ⟨σ10, α11, rfl, hI12, hG13, v6, rfl, hv6, hp7⟩
    have hF14 : qFr [(42, 1)] [43] σ α σ10 α11 := qFr_t hF5 hG13 (by decide) (by decide)
    have hs15 : (-2147483648) ≤ σ10 42 1 ∧ σ10 42 1 ≤ 2147483647 := hI12.1 42 1
    show qr_W (qe L xs vb) (d + 7) qx_e152 _ (191, _, [.int (qz v6)], qw σ10 α11 κ ρ, 0, 0)
    refine qr_iconst 192 rfl rfl ?_
    refine qr_imul 193 rfl rfl ?_
    refine qy_can (fun v16 hv16 => ?_)
    refine qr_retI rfl rfl (by decide) (by decide) ?_
    exact ⟨_, _, rfl, hI12, hF14, v16, rfl, by omega, by omega⟩
  · skip
    refine qr_aload_n 13 rfl rfl rfl ?_
    refine qr_get 16 rfl rfl rfl (by decide) rfl ?_
    refine qr_aload_n 17 rfl rfl rfl ?_
    refine qr_get 20 rfl rfl rfl (by decide) rfl ?_
    refine qr_iload_n 21 rfl rfl rfl ?_
    refine qr_iastore 22 rfl (by decide) rfl (by omega) (by decide) rfl ?_
    refine qy_wA (qw_r α 43 (qzu (α 43) ((σ 42 1) : Int).toNat 10)) rfl (fun α17 e18 => ?_)
    have hI19 : qI σ α17 κ ρ := by rw [e18]; exact qI_r hI 43 _ rfl (show (-2147483648) ≤ 10 ∧ 10 ≤ 2147483647 by omega)
    have hF20 : qFr [(42, 1)] [43] σ α σ α17 := by rw [e18]; exact qFr_r hF0 43 _ (by decide)
    refine qr_aload_n 23 rfl rfl rfl ?_
    refine qr_dup 24 rfl rfl rfl ?_
    refine qr_get 27 rfl rfl rfl (by decide) rfl ?_
    refine qr_iconst 28 rfl rfl ?_
    refine qr_iadd 29 rfl rfl ?_
    refine qr_put 32 rfl (by decide) rfl (Nat.le_of_ble_eq_true rfl) (Nat.le_of_ble_eq_true rfl) (Or.inl rfl) (qr_fitI rfl _) rfl ?_
    refine qy_wS (qw_s σ 42 1 ((σ 42 1) + 1)) rfl (fun σ21 e22 => ?_)
    have hI23 : qI σ21 α17 κ ρ := by rw [e22]; exact qI_s hI19 42 1 rfl (show (-2147483648) ≤ ((σ 42 1) + 1) ∧ ((σ 42 1) + 1) ≤ 2147483647 by omega)
    have hF24 : qFr [(42, 1)] [43] σ α σ21 α17 := by rw [e22]; exact qFr_s hF20 42 1 _ (by decide)
    refine qr_getst 35 rfl rfl ?_
    refine qr_iload_n 36 rfl rfl rfl ?_
    refine qr_iaload 37 rfl rfl (by omega) (by decide) rfl ?_
    refine qy_v (-1) (by decide) ?_
    refine qr_istore _ 39 rfl (by decide) rfl rfl ?_
    refine qr_iload_n 40 rfl rfl rfl ?_
    refine qr_look (off := 139) 179 rfl (by omega) (by decide) (by decide) rfl ?_
    refine qr_aload_n 180 rfl rfl rfl ?_
    refine qr_iload_n 181 rfl rfl rfl ?_
    refine qr_iconst 182 rfl rfl ?_
    refine qr_iload 184 rfl rfl rfl ?_
    refine qr_iload 186 rfl rfl rfl ?_
    refine qr_iload 188 rfl rfl rfl ?_
    refine qr_callN 191 rfl rfl rfl (sf_150_42r2_0 (d := d + 0) hI23 (by omega) (by omega) (by omega) (by omega)) ?_
    have hs27 : (-2147483648) ≤ σ21 42 1 ∧ σ21 42 1 ≤ 2147483647 := hI23.1 42 1
    have hs28 : σ21 42 1 = ((σ 42 1) + 1) := (congrFun (congrFun e22 42) 1).trans rfl
    rintro _ _ ⟨σ29, α30, rfl, hI31, hG32, v25, rfl, hv25, hp26⟩
    have hF33 : qFr [(42, 1)] [43] σ α σ29 α30 := qFr_t hF24 hG32 (by decide) (by decide)
    have hs34 : (-2147483648) ≤ σ29 42 1 ∧ σ29 42 1 ≤ 2147483647 := hI31.1 42 1
    show qr_W (qe L xs vb) (d + 7) qx_e152 _ (191, _, [.int (qz v25)], qw σ29 α30 κ ρ, 0, 0)
    refine qr_iconst 192 rfl rfl ?_
    refine qr_imul 193 rfl rfl ?_
    refine qy_can (fun v35 hv35 => ?_)
    refine qr_retI rfl rfl (by decide) (by decide) ?_
    exact ⟨_, _, rfl, hI31, hF33, v35, rfl, by omega, by omega⟩

set_option maxHeartbeats 4000000 in
set_option maxRecDepth 20000 in
/-- OneRoof$Acts.runFrom -/
theorem sf_151_42f2_2_1 {L : Nat} {xs : Nat → Int} {vb : Bool} {d : Nat} {σ α : Nat → Nat → Int} {κ : Nat → Option Nat} {ρ : Nat} {x4 : Int} {x5 : Int} {x6 : Int} (hI : qI σ α κ ρ) (r4 : (-2147483648) ≤ x4 ∧ x4 ≤ 2147483647) (r5 : (-2147483648) ≤ x5 ∧ x5 ≤ 2147483647) (r6 : 0 ≤ x6 ∧ x6 ≤ 36) (p0 : 0 ≤ σ 42 1 ∧ σ 42 1 ≤ 1600) : qm_T (qe L xs vb) (d + 9) 151 [.ref 42, .int (qz 2), .int (qz 2), .int (qz 1), .int (qz x4), .int (qz x5), .int (qz x6)] (qw σ α κ ρ) (fun r w' => ∃ σ' α', w' = qw σ' α' κ ρ ∧ qI σ' α' κ ρ ∧ qFr [(42, 1)] [43] σ α σ' α' ∧ ∃ v : Int, r = some (.int (qz v)) ∧ ((-2147483648) ≤ v ∧ v ≤ 2147483647) ∧ σ' 42 1 = σ 42 1 + 4) := by
  refine qr_start (d := d + 8) qv_e151 (Nat.le_of_ble_eq_true rfl) ?_
  show qr_W (qe L xs vb) (d + 8) qx_e151 _ (0, [(0, .ref 42), (1, .int (qz 2)), (2, .int (qz 2)), (3, .int (qz 1)), (4, .int (qz x4)), (5, .int (qz x5)), (6, .int (qz x6))], [], _, 0, 0)
  have hF0 := qFr_rf [(42, 1)] [43] σ α
  have hz42_1 : (-2147483648) ≤ σ 42 1 ∧ σ 42 1 ≤ 2147483647 := hI.1 42 1
  refine qr_iload_n 1 rfl rfl rfl ?_
  refine qr_istore _ 3 rfl (by decide) rfl rfl ?_
  refine qr_iconst 4 rfl rfl ?_
  refine qr_istore _ 6 rfl (by decide) rfl rfl ?_
  refine qr_iload 8 rfl rfl rfl ?_
  refine qr_getst 11 rfl rfl ?_
  refine qr_alen 12 rfl rfl (by first | exact Or.inl (by decide) | exact Or.inr (Or.inl rfl) | exact Or.inr (Or.inr (Or.inl rfl)) | exact Or.inr (Or.inr (Or.inr (Or.inl rfl)))) rfl ?_
  refine qy_v 7 rfl ?_
  refine qr_icmp_ge 89 15 rfl rfl rfl (by omega) (by omega) (fun h => False.elim (by omega)) (fun h1 => ?_)
  refine qr_iload 17 rfl rfl rfl ?_
  refine qr_if_lt 89 20 rfl rfl rfl (by omega) (fun h => False.elim (by omega)) (fun h2 => ?_)
  refine qr_iload 22 rfl rfl rfl ?_
  refine qr_getst 25 rfl rfl ?_
  refine qr_alen 26 rfl rfl (by first | exact Or.inl (by decide) | exact Or.inr (Or.inl rfl) | exact Or.inr (Or.inr (Or.inl rfl)) | exact Or.inr (Or.inr (Or.inr (Or.inl rfl)))) rfl ?_
  refine qy_v 7 rfl ?_
  refine qr_icmp_ge 89 29 rfl rfl rfl (by omega) (by omega) (fun h => False.elim (by omega)) (fun h3 => ?_)
  refine qr_getst 32 rfl rfl ?_
  refine qr_iload 34 rfl rfl rfl ?_
  refine qr_iconst 35 rfl rfl ?_
  refine qr_imul 36 rfl rfl ?_
  refine qy_v 8 rfl ?_
  refine qr_iload_n 37 rfl rfl rfl ?_
  refine qr_iadd 38 rfl rfl ?_
  refine qy_v 9 rfl ?_
  refine qr_iaload 39 rfl rfl (by omega) (by decide) rfl ?_
  refine qy_v 0 (by decide) ?_
  refine qr_istore _ 41 rfl (by decide) rfl rfl ?_
  refine qr_iload 43 rfl rfl rfl ?_
  refine qr_if_eq 75 46 rfl rfl rfl (by omega) (fun h4 => ?_) (fun h => False.elim (by omega))
  refine qr_getst 78 rfl rfl ?_
  refine qr_iload 80 rfl rfl rfl ?_
  refine qr_iaload 81 rfl rfl (by omega) (by decide) rfl ?_
  refine qy_v 1 (by decide) ?_
  refine qr_istore _ 83 rfl (by decide) rfl rfl ?_
  refine qr_iinc _ 86 rfl rfl (by decide) rfl rfl ?_
  refine qr_goto 6 rfl rfl ?_
  refine qr_iload 8 rfl rfl rfl ?_
  refine qr_getst 11 rfl rfl ?_
  refine qr_alen 12 rfl rfl (by first | exact Or.inl (by decide) | exact Or.inr (Or.inl rfl) | exact Or.inr (Or.inr (Or.inl rfl)) | exact Or.inr (Or.inr (Or.inr (Or.inl rfl)))) rfl ?_
  refine qy_v 7 rfl ?_
  refine qr_icmp_ge 89 15 rfl rfl rfl (by omega) (by omega) (fun h => False.elim (by omega)) (fun h5 => ?_)
  refine qr_iload 17 rfl rfl rfl ?_
  refine qr_if_lt 89 20 rfl rfl rfl (by omega) (fun h => False.elim (by omega)) (fun h6 => ?_)
  refine qr_iload 22 rfl rfl rfl ?_
  refine qr_getst 25 rfl rfl ?_
  refine qr_alen 26 rfl rfl (by first | exact Or.inl (by decide) | exact Or.inr (Or.inl rfl) | exact Or.inr (Or.inr (Or.inl rfl)) | exact Or.inr (Or.inr (Or.inr (Or.inl rfl)))) rfl ?_
  refine qy_v 7 rfl ?_
  refine qr_icmp_ge 89 29 rfl rfl rfl (by omega) (by omega) (fun h => False.elim (by omega)) (fun h7 => ?_)
  refine qr_getst 32 rfl rfl ?_
  refine qr_iload 34 rfl rfl rfl ?_
  refine qr_iconst 35 rfl rfl ?_
  refine qr_imul 36 rfl rfl ?_
  refine qy_v 4 rfl ?_
  refine qr_iload_n 37 rfl rfl rfl ?_
  refine qr_iadd 38 rfl rfl ?_
  refine qy_v 5 rfl ?_
  refine qr_iaload 39 rfl rfl (by omega) (by decide) rfl ?_
  refine qy_v 0 (by decide) ?_
  refine qr_istore _ 41 rfl (by decide) rfl rfl ?_
  refine qr_iload 43 rfl rfl rfl ?_
  refine qr_if_eq 75 46 rfl rfl rfl (by omega) (fun h8 => ?_) (fun h => False.elim (by omega))
  as_aux_lemma =>
    refine qr_getst 78 rfl rfl ?_
    refine qr_iload 80 rfl rfl rfl ?_
    refine qr_iaload 81 rfl rfl (by omega) (by decide) rfl ?_
    refine qy_v 0 (by decide) ?_
    refine qr_istore _ 83 rfl (by decide) rfl rfl ?_
    refine qr_iinc _ 86 rfl rfl (by decide) rfl rfl ?_
    refine qr_goto 6 rfl rfl ?_
    refine qr_iload 8 rfl rfl rfl ?_
    refine qr_getst 11 rfl rfl ?_
    refine qr_alen 12 rfl rfl (by first | exact Or.inl (by decide) | exact Or.inr (Or.inl rfl) | exact Or.inr (Or.inr (Or.inl rfl)) | exact Or.inr (Or.inr (Or.inr (Or.inl rfl)))) rfl ?_
    refine qy_v 7 rfl ?_
    refine qr_icmp_ge 89 15 rfl rfl rfl (by omega) (by omega) (fun h => False.elim (by omega)) (fun h9 => ?_)
    refine qr_iload 17 rfl rfl rfl ?_
    refine qr_if_lt 89 20 rfl rfl rfl (by omega) (fun h => False.elim (by omega)) (fun h10 => ?_)
    refine qr_iload 22 rfl rfl rfl ?_
    refine qr_getst 25 rfl rfl ?_
    refine qr_alen 26 rfl rfl (by first | exact Or.inl (by decide) | exact Or.inr (Or.inl rfl) | exact Or.inr (Or.inr (Or.inl rfl)) | exact Or.inr (Or.inr (Or.inr (Or.inl rfl)))) rfl ?_
    refine qy_v 7 rfl ?_
    refine qr_icmp_ge 89 29 rfl rfl rfl (by omega) (by omega) (fun h => False.elim (by omega)) (fun h11 => ?_)
    refine qr_getst 32 rfl rfl ?_
    refine qr_iload 34 rfl rfl rfl ?_
    refine qr_iconst 35 rfl rfl ?_
    refine qr_imul 36 rfl rfl ?_
    refine qy_v 0 rfl ?_
    refine qr_iload_n 37 rfl rfl rfl ?_
    refine qr_iadd 38 rfl rfl ?_
    refine qy_v 1 rfl ?_
    refine qr_iaload 39 rfl rfl (by omega) (by decide) rfl ?_
    refine qy_v 10 (by decide) ?_
    refine qr_istore _ 41 rfl (by decide) rfl rfl ?_
    refine qr_iload 43 rfl rfl rfl ?_
    refine qr_if_eq 75 46 rfl rfl rfl (by omega) (fun h => False.elim (by omega)) (fun h12 => ?_)
    refine qr_iload 48 rfl rfl rfl ?_
    refine qr_bipush 50 rfl (by decide) rfl ?_
    refine qr_icmp_le 57 53 rfl rfl rfl (by omega) (by omega) (fun h13 => ?_) (fun h => False.elim (by omega))
    refine qr_aload_n 58 rfl rfl rfl ?_
    refine qr_iload 60 rfl rfl rfl ?_
    refine qr_iload 62 rfl rfl rfl ?_
    refine qr_iload_n 63 rfl rfl rfl ?_
    refine qr_iload 65 rfl rfl rfl ?_
    refine qr_iload 67 rfl rfl rfl ?_
    refine qr_iload 69 rfl rfl rfl ?_
    refine qr_iconst 70 rfl rfl ?_
    refine qr_iadd 71 rfl rfl ?_
    refine qr_callN 74 rfl rfl rfl (sf_152_42b10_0_2 (d := d + 0) hI (by omega) (by omega) (by omega) (by omega)) ?_
    have hs16 : (-2147483648) ≤ σ 42 1 ∧ σ 42 1 ≤ 2147483647 := hI.1 42 1
    rintro _ _ ⟨σ17, α18, rfl, hI19, hG20, v14, rfl, hv14, hp15⟩
    have hF21 : qFr [(42, 1)] [43] σ α σ17 α18 := qFr_t hF0 hG20 (by decide) (by decide)
    have hs22 : (-2147483648) ≤ σ17 42 1 ∧ σ17 42 1 ≤ 2147483647 := hI19.1 42 1
    show qr_W (qe L xs vb) (d + 8) qx_e151 _ (74, _, [.int (qz v14)], qw σ17 α18 κ ρ, 0, 0)
    refine qr_retI rfl rfl (by decide) (by decide) ?_
    exact ⟨_, _, rfl, hI19, hF21, v14, rfl, by omega, by omega⟩

set_option maxHeartbeats 4000000 in
set_option maxRecDepth 20000 in
/-- OneRoof$Acts.run -/
theorem sf_150_42r2_1 {L : Nat} {xs : Nat → Int} {vb : Bool} {d : Nat} {σ α : Nat → Nat → Int} {κ : Nat → Option Nat} {ρ : Nat} {x3 : Int} {x4 : Int} {x5 : Int} (hI : qI σ α κ ρ) (r3 : (-2147483648) ≤ x3 ∧ x3 ≤ 2147483647) (r4 : (-2147483648) ≤ x4 ∧ x4 ≤ 2147483647) (r5 : 0 ≤ x5 ∧ x5 ≤ 36) (p0 : 0 ≤ σ 42 1 ∧ σ 42 1 ≤ 1600) : qm_T (qe L xs vb) (d + 10) 150 [.ref 42, .int (qz 2), .int (qz 1), .int (qz x3), .int (qz x4), .int (qz x5)] (qw σ α κ ρ) (fun r w' => ∃ σ' α', w' = qw σ' α' κ ρ ∧ qI σ' α' κ ρ ∧ qFr [(42, 1)] [43] σ α σ' α' ∧ ∃ v : Int, r = some (.int (qz v)) ∧ ((-2147483648) ≤ v ∧ v ≤ 2147483647) ∧ σ' 42 1 = σ 42 1 + 4) := by
  refine qr_start (d := d + 9) qv_e150 (Nat.le_of_ble_eq_true rfl) ?_
  show qr_W (qe L xs vb) (d + 9) qx_e150 _ (0, [(0, .ref 42), (1, .int (qz 2)), (2, .int (qz 1)), (3, .int (qz x3)), (4, .int (qz x4)), (5, .int (qz x5))], [], _, 0, 0)
  have hF0 := qFr_rf [(42, 1)] [43] σ α
  have hz42_1 : (-2147483648) ≤ σ 42 1 ∧ σ 42 1 ≤ 2147483647 := hI.1 42 1
  refine qr_aload_n 1 rfl rfl rfl ?_
  refine qr_iload_n 2 rfl rfl rfl ?_
  refine qr_iload_n 3 rfl rfl rfl ?_
  refine qr_iload_n 4 rfl rfl rfl ?_
  refine qr_iload_n 5 rfl rfl rfl ?_
  refine qr_iload 7 rfl rfl rfl ?_
  refine qr_iload 9 rfl rfl rfl ?_
  refine qr_callN 12 rfl rfl rfl (sf_151_42f2_2_1 (d := d + 0) hI (by omega) (by omega) (by omega) (by omega)) ?_
  have hs3 : (-2147483648) ≤ σ 42 1 ∧ σ 42 1 ≤ 2147483647 := hI.1 42 1
  rintro _ _ ⟨σ4, α5, rfl, hI6, hG7, v1, rfl, hv1, hp2⟩
  have hF8 : qFr [(42, 1)] [43] σ α σ4 α5 := qFr_t hF0 hG7 (by decide) (by decide)
  have hs9 : (-2147483648) ≤ σ4 42 1 ∧ σ4 42 1 ≤ 2147483647 := hI6.1 42 1
  show qr_W (qe L xs vb) (d + 9) qx_e150 _ (12, _, [.int (qz v1)], qw σ4 α5 κ ρ, 0, 0)
  refine qr_retI rfl rfl (by decide) (by decide) ?_
  exact ⟨_, _, rfl, hI6, hF8, v1, rfl, by omega, by omega⟩

set_option maxHeartbeats 4000000 in
set_option maxRecDepth 20000 in
/-- OneRoof$Acts.start -/
theorem sf_149_42s2_1 {L : Nat} {xs : Nat → Int} {vb : Bool} {d : Nat} {σ α : Nat → Nat → Int} {κ : Nat → Option Nat} {ρ : Nat} {x3 : Int} {x4 : Int} (hI : qI σ α κ ρ) (r3 : (-2147483648) ≤ x3 ∧ x3 ≤ 2147483647) (r4 : (-2147483648) ≤ x4 ∧ x4 ≤ 2147483647) (p0 : σ 42 1 = 0) : qm_T (qe L xs vb) (d + 11) 149 [.ref 42, .int (qz 2), .int (qz 1), .int (qz x3), .int (qz x4)] (qw σ α κ ρ) (fun r w' => ∃ σ' α', w' = qw σ' α' κ ρ ∧ qI σ' α' κ ρ ∧ qFr [(42, 1)] [43] σ α σ' α' ∧ ∃ v : Int, r = some (.int (qz v)) ∧ ((-2147483648) ≤ v ∧ v ≤ 2147483647)) := by
  refine qr_start (d := d + 10) qv_e149 (Nat.le_of_ble_eq_true rfl) ?_
  show qr_W (qe L xs vb) (d + 10) qx_e149 _ (0, [(0, .ref 42), (1, .int (qz 2)), (2, .int (qz 1)), (3, .int (qz x3)), (4, .int (qz x4))], [], _, 0, 0)
  have hF0 := qFr_rf [(42, 1)] [43] σ α
  have hz42_1 : (-2147483648) ≤ σ 42 1 ∧ σ 42 1 ≤ 2147483647 := hI.1 42 1
  refine qr_aload_n 1 rfl rfl rfl ?_
  refine qr_iload_n 2 rfl rfl rfl ?_
  refine qr_iload_n 3 rfl rfl rfl ?_
  refine qr_iload_n 4 rfl rfl rfl ?_
  refine qr_iload 6 rfl rfl rfl ?_
  refine qr_iconst 7 rfl rfl ?_
  refine qr_callN 10 rfl rfl rfl (sf_150_42r2_1 (d := d + 0) hI (by omega) (by omega) (by omega) (by omega)) ?_
  have hs3 : (-2147483648) ≤ σ 42 1 ∧ σ 42 1 ≤ 2147483647 := hI.1 42 1
  rintro _ _ ⟨σ4, α5, rfl, hI6, hG7, v1, rfl, hv1, hp2⟩
  have hF8 : qFr [(42, 1)] [43] σ α σ4 α5 := qFr_t hF0 hG7 (by decide) (by decide)
  have hs9 : (-2147483648) ≤ σ4 42 1 ∧ σ4 42 1 ≤ 2147483647 := hI6.1 42 1
  show qr_W (qe L xs vb) (d + 10) qx_e149 _ (10, _, [.int (qz v1)], qw σ4 α5 κ ρ, 0, 0)
  refine qr_retI rfl rfl (by decide) (by decide) ?_
  exact ⟨_, _, rfl, hI6, hF8, v1, rfl, by omega⟩

set_option maxHeartbeats 4000000 in
set_option maxRecDepth 20000 in
/-- OneRoof$Acts.begin -/
theorem sf_152_42b10_0_3 {L : Nat} {xs : Nat → Int} {vb : Bool} {d : Nat} {σ α : Nat → Nat → Int} {κ : Nat → Option Nat} {ρ : Nat} {x4 : Int} {x5 : Int} {x6 : Int} (hI : qI σ α κ ρ) (r4 : (-2147483648) ≤ x4 ∧ x4 ≤ 2147483647) (r5 : (-2147483648) ≤ x5 ∧ x5 ≤ 2147483647) (r6 : 0 ≤ x6 ∧ x6 ≤ 39) (p0 : 0 ≤ σ 42 1 ∧ σ 42 1 ≤ 1800) : qm_T (qe L xs vb) (d + 4) 152 [.ref 42, .int (qz 10), .int (qz 0), .int (qz 3), .int (qz x4), .int (qz x5), .int (qz x6)] (qw σ α κ ρ) (fun r w' => ∃ σ' α', w' = qw σ' α' κ ρ ∧ qI σ' α' κ ρ ∧ qFr [(42, 1)] [43] σ α σ' α' ∧ ∃ v : Int, r = some (.int (qz v)) ∧ ((-2147483648) ≤ v ∧ v ≤ 2147483647) ∧ σ' 42 1 = σ 42 1 + 2) := by
  refine qr_start (d := d + 3) qv_e152 (Nat.le_of_ble_eq_true rfl) ?_
  show qr_W (qe L xs vb) (d + 3) qx_e152 _ (0, [(0, .ref 42), (1, .int (qz 10)), (2, .int (qz 0)), (3, .int (qz 3)), (4, .int (qz x4)), (5, .int (qz x5)), (6, .int (qz x6))], [], _, 0, 0)
  have hF0 := qFr_rf [(42, 1)] [43] σ α
  have hz42_1 : (-2147483648) ≤ σ 42 1 ∧ σ 42 1 ≤ 2147483647 := hI.1 42 1
  refine qr_aload_n 1 rfl rfl rfl ?_
  refine qr_get 4 rfl rfl rfl (by decide) rfl ?_
  refine qr_aload_n 5 rfl rfl rfl ?_
  refine qr_get 8 rfl rfl rfl (by decide) rfl ?_
  refine qr_alen 9 rfl rfl (by first | exact Or.inl (by decide) | exact Or.inr (Or.inl rfl) | exact Or.inr (Or.inr (Or.inl rfl)) | exact Or.inr (Or.inr (Or.inr (Or.inl rfl)))) rfl ?_
  refine qy_v 24 rfl ?_
  refine qr_icmp_ge 22 12 rfl rfl rfl (by omega) (by omega) (fun h1 => ?_) (fun h1 => ?_)
  · skip
    refine qr_aload_n 23 rfl rfl rfl ?_
    refine qr_dup 24 rfl rfl rfl ?_
    refine qr_get 27 rfl rfl rfl (by decide) rfl ?_
    refine qr_iconst 28 rfl rfl ?_
    refine qr_iadd 29 rfl rfl ?_
    refine qr_put 32 rfl (by decide) rfl (Nat.le_of_ble_eq_true rfl) (Nat.le_of_ble_eq_true rfl) (Or.inl rfl) (qr_fitI rfl _) rfl ?_
    refine qy_wS (qw_s σ 42 1 ((σ 42 1) + 1)) rfl (fun σ2 e3 => ?_)
    have hI4 : qI σ2 α κ ρ := by rw [e3]; exact qI_s hI 42 1 rfl (show (-2147483648) ≤ ((σ 42 1) + 1) ∧ ((σ 42 1) + 1) ≤ 2147483647 by omega)
    have hF5 : qFr [(42, 1)] [43] σ α σ2 α := by rw [e3]; exact qFr_s hF0 42 1 _ (by decide)
    refine qr_getst 35 rfl rfl ?_
    refine qr_iload_n 36 rfl rfl rfl ?_
    refine qr_iaload 37 rfl rfl (by omega) (by decide) rfl ?_
    refine qy_v (-1) (by decide) ?_
    refine qr_istore _ 39 rfl (by decide) rfl rfl ?_
    refine qr_iload_n 40 rfl rfl rfl ?_
    refine qr_look (off := 139) 179 rfl (by omega) (by decide) (by decide) rfl ?_
    refine qr_aload_n 180 rfl rfl rfl ?_
    refine qr_iload_n 181 rfl rfl rfl ?_
    refine qr_iconst 182 rfl rfl ?_
    refine qr_iload 184 rfl rfl rfl ?_
    refine qr_iload 186 rfl rfl rfl ?_
    refine qr_iload 188 rfl rfl rfl ?_
    refine qr_callN 191 rfl rfl rfl (sf_150_42r3_0 (d := d + 0) hI4 (by omega) (by omega) (by omega) (by omega)) ?_
    have hs8 : (-2147483648) ≤ σ2 42 1 ∧ σ2 42 1 ≤ 2147483647 := hI4.1 42 1
    have hs9 : σ2 42 1 = ((σ 42 1) + 1) := (congrFun (congrFun e3 42) 1).trans rfl
    rintro _ _ ⟨σ10, α11, rfl, hI12, hG13, v6, rfl, hv6, hp7⟩
    have hF14 : qFr [(42, 1)] [43] σ α σ10 α11 := qFr_t hF5 hG13 (by decide) (by decide)
    have hs15 : (-2147483648) ≤ σ10 42 1 ∧ σ10 42 1 ≤ 2147483647 := hI12.1 42 1
    show qr_W (qe L xs vb) (d + 3) qx_e152 _ (191, _, [.int (qz v6)], qw σ10 α11 κ ρ, 0, 0)
    refine qr_iconst 192 rfl rfl ?_
    refine qr_imul 193 rfl rfl ?_
    refine qy_can (fun v16 hv16 => ?_)
    refine qr_retI rfl rfl (by decide) (by decide) ?_
    exact ⟨_, _, rfl, hI12, hF14, v16, rfl, by omega, by omega⟩
  · skip
    refine qr_aload_n 13 rfl rfl rfl ?_
    refine qr_get 16 rfl rfl rfl (by decide) rfl ?_
    refine qr_aload_n 17 rfl rfl rfl ?_
    refine qr_get 20 rfl rfl rfl (by decide) rfl ?_
    refine qr_iload_n 21 rfl rfl rfl ?_
    refine qr_iastore 22 rfl (by decide) rfl (by omega) (by decide) rfl ?_
    refine qy_wA (qw_r α 43 (qzu (α 43) ((σ 42 1) : Int).toNat 10)) rfl (fun α17 e18 => ?_)
    have hI19 : qI σ α17 κ ρ := by rw [e18]; exact qI_r hI 43 _ rfl (show (-2147483648) ≤ 10 ∧ 10 ≤ 2147483647 by omega)
    have hF20 : qFr [(42, 1)] [43] σ α σ α17 := by rw [e18]; exact qFr_r hF0 43 _ (by decide)
    refine qr_aload_n 23 rfl rfl rfl ?_
    refine qr_dup 24 rfl rfl rfl ?_
    refine qr_get 27 rfl rfl rfl (by decide) rfl ?_
    refine qr_iconst 28 rfl rfl ?_
    refine qr_iadd 29 rfl rfl ?_
    refine qr_put 32 rfl (by decide) rfl (Nat.le_of_ble_eq_true rfl) (Nat.le_of_ble_eq_true rfl) (Or.inl rfl) (qr_fitI rfl _) rfl ?_
    refine qy_wS (qw_s σ 42 1 ((σ 42 1) + 1)) rfl (fun σ21 e22 => ?_)
    have hI23 : qI σ21 α17 κ ρ := by rw [e22]; exact qI_s hI19 42 1 rfl (show (-2147483648) ≤ ((σ 42 1) + 1) ∧ ((σ 42 1) + 1) ≤ 2147483647 by omega)
    have hF24 : qFr [(42, 1)] [43] σ α σ21 α17 := by rw [e22]; exact qFr_s hF20 42 1 _ (by decide)
    refine qr_getst 35 rfl rfl ?_
    refine qr_iload_n 36 rfl rfl rfl ?_
    refine qr_iaload 37 rfl rfl (by omega) (by decide) rfl ?_
    refine qy_v (-1) (by decide) ?_
    refine qr_istore _ 39 rfl (by decide) rfl rfl ?_
    refine qr_iload_n 40 rfl rfl rfl ?_
    refine qr_look (off := 139) 179 rfl (by omega) (by decide) (by decide) rfl ?_
    refine qr_aload_n 180 rfl rfl rfl ?_
    refine qr_iload_n 181 rfl rfl rfl ?_
    refine qr_iconst 182 rfl rfl ?_
    refine qr_iload 184 rfl rfl rfl ?_
    refine qr_iload 186 rfl rfl rfl ?_
    refine qr_iload 188 rfl rfl rfl ?_
    refine qr_callN 191 rfl rfl rfl (sf_150_42r3_0 (d := d + 0) hI23 (by omega) (by omega) (by omega) (by omega)) ?_
    have hs27 : (-2147483648) ≤ σ21 42 1 ∧ σ21 42 1 ≤ 2147483647 := hI23.1 42 1
    have hs28 : σ21 42 1 = ((σ 42 1) + 1) := (congrFun (congrFun e22 42) 1).trans rfl
    rintro _ _ ⟨σ29, α30, rfl, hI31, hG32, v25, rfl, hv25, hp26⟩
    have hF33 : qFr [(42, 1)] [43] σ α σ29 α30 := qFr_t hF24 hG32 (by decide) (by decide)
    have hs34 : (-2147483648) ≤ σ29 42 1 ∧ σ29 42 1 ≤ 2147483647 := hI31.1 42 1
    show qr_W (qe L xs vb) (d + 3) qx_e152 _ (191, _, [.int (qz v25)], qw σ29 α30 κ ρ, 0, 0)
    refine qr_iconst 192 rfl rfl ?_
    refine qr_imul 193 rfl rfl ?_
    refine qy_can (fun v35 hv35 => ?_)
    refine qr_retI rfl rfl (by decide) (by decide) ?_
    exact ⟨_, _, rfl, hI31, hF33, v35, rfl, by omega, by omega⟩

set_option maxHeartbeats 4000000 in
set_option maxRecDepth 20000 in
/-- OneRoof$Acts.runFrom -/
theorem sf_151_42f0_3_1 {L : Nat} {xs : Nat → Int} {vb : Bool} {d : Nat} {σ α : Nat → Nat → Int} {κ : Nat → Option Nat} {ρ : Nat} {x4 : Int} {x5 : Int} {x6 : Int} (hI : qI σ α κ ρ) (r4 : (-2147483648) ≤ x4 ∧ x4 ≤ 2147483647) (r5 : (-2147483648) ≤ x5 ∧ x5 ≤ 2147483647) (r6 : 0 ≤ x6 ∧ x6 ≤ 38) (p0 : 0 ≤ σ 42 1 ∧ σ 42 1 ≤ 1800) : qm_T (qe L xs vb) (d + 5) 151 [.ref 42, .int (qz 0), .int (qz 3), .int (qz 1), .int (qz x4), .int (qz x5), .int (qz x6)] (qw σ α κ ρ) (fun r w' => ∃ σ' α', w' = qw σ' α' κ ρ ∧ qI σ' α' κ ρ ∧ qFr [(42, 1)] [43] σ α σ' α' ∧ ∃ v : Int, r = some (.int (qz v)) ∧ ((-2147483648) ≤ v ∧ v ≤ 2147483647) ∧ σ' 42 1 = σ 42 1 + 2) := by
  refine qr_start (d := d + 4) qv_e151 (Nat.le_of_ble_eq_true rfl) ?_
  show qr_W (qe L xs vb) (d + 4) qx_e151 _ (0, [(0, .ref 42), (1, .int (qz 0)), (2, .int (qz 3)), (3, .int (qz 1)), (4, .int (qz x4)), (5, .int (qz x5)), (6, .int (qz x6))], [], _, 0, 0)
  have hF0 := qFr_rf [(42, 1)] [43] σ α
  have hz42_1 : (-2147483648) ≤ σ 42 1 ∧ σ 42 1 ≤ 2147483647 := hI.1 42 1
  refine qr_iload_n 1 rfl rfl rfl ?_
  refine qr_istore _ 3 rfl (by decide) rfl rfl ?_
  refine qr_iconst 4 rfl rfl ?_
  refine qr_istore _ 6 rfl (by decide) rfl rfl ?_
  refine qr_iload 8 rfl rfl rfl ?_
  refine qr_getst 11 rfl rfl ?_
  refine qr_alen 12 rfl rfl (by first | exact Or.inl (by decide) | exact Or.inr (Or.inl rfl) | exact Or.inr (Or.inr (Or.inl rfl)) | exact Or.inr (Or.inr (Or.inr (Or.inl rfl)))) rfl ?_
  refine qy_v 7 rfl ?_
  refine qr_icmp_ge 89 15 rfl rfl rfl (by omega) (by omega) (fun h => False.elim (by omega)) (fun h1 => ?_)
  refine qr_iload 17 rfl rfl rfl ?_
  refine qr_if_lt 89 20 rfl rfl rfl (by omega) (fun h => False.elim (by omega)) (fun h2 => ?_)
  refine qr_iload 22 rfl rfl rfl ?_
  refine qr_getst 25 rfl rfl ?_
  refine qr_alen 26 rfl rfl (by first | exact Or.inl (by decide) | exact Or.inr (Or.inl rfl) | exact Or.inr (Or.inr (Or.inl rfl)) | exact Or.inr (Or.inr (Or.inr (Or.inl rfl)))) rfl ?_
  refine qy_v 7 rfl ?_
  refine qr_icmp_ge 89 29 rfl rfl rfl (by omega) (by omega) (fun h => False.elim (by omega)) (fun h3 => ?_)
  refine qr_getst 32 rfl rfl ?_
  refine qr_iload 34 rfl rfl rfl ?_
  refine qr_iconst 35 rfl rfl ?_
  refine qr_imul 36 rfl rfl ?_
  refine qy_v 0 rfl ?_
  refine qr_iload_n 37 rfl rfl rfl ?_
  refine qr_iadd 38 rfl rfl ?_
  refine qy_v 1 rfl ?_
  refine qr_iaload 39 rfl rfl (by omega) (by decide) rfl ?_
  refine qy_v 10 (by decide) ?_
  refine qr_istore _ 41 rfl (by decide) rfl rfl ?_
  refine qr_iload 43 rfl rfl rfl ?_
  refine qr_if_eq 75 46 rfl rfl rfl (by omega) (fun h => False.elim (by omega)) (fun h4 => ?_)
  refine qr_iload 48 rfl rfl rfl ?_
  refine qr_bipush 50 rfl (by decide) rfl ?_
  refine qr_icmp_le 57 53 rfl rfl rfl (by omega) (by omega) (fun h5 => ?_) (fun h => False.elim (by omega))
  refine qr_aload_n 58 rfl rfl rfl ?_
  refine qr_iload 60 rfl rfl rfl ?_
  refine qr_iload 62 rfl rfl rfl ?_
  refine qr_iload_n 63 rfl rfl rfl ?_
  refine qr_iload 65 rfl rfl rfl ?_
  refine qr_iload 67 rfl rfl rfl ?_
  refine qr_iload 69 rfl rfl rfl ?_
  refine qr_iconst 70 rfl rfl ?_
  refine qr_iadd 71 rfl rfl ?_
  refine qr_callN 74 rfl rfl rfl (sf_152_42b10_0_3 (d := d + 0) hI (by omega) (by omega) (by omega) (by omega)) ?_
  have hs8 : (-2147483648) ≤ σ 42 1 ∧ σ 42 1 ≤ 2147483647 := hI.1 42 1
  rintro _ _ ⟨σ9, α10, rfl, hI11, hG12, v6, rfl, hv6, hp7⟩
  have hF13 : qFr [(42, 1)] [43] σ α σ9 α10 := qFr_t hF0 hG12 (by decide) (by decide)
  have hs14 : (-2147483648) ≤ σ9 42 1 ∧ σ9 42 1 ≤ 2147483647 := hI11.1 42 1
  show qr_W (qe L xs vb) (d + 4) qx_e151 _ (74, _, [.int (qz v6)], qw σ9 α10 κ ρ, 0, 0)
  refine qr_retI rfl rfl (by decide) (by decide) ?_
  exact ⟨_, _, rfl, hI11, hF13, v6, rfl, by omega, by omega⟩

set_option maxHeartbeats 4000000 in
set_option maxRecDepth 20000 in
/-- OneRoof$Acts.begin -/
theorem sf_152_42b40_3_3 {L : Nat} {xs : Nat → Int} {vb : Bool} {d : Nat} {σ α : Nat → Nat → Int} {κ : Nat → Option Nat} {ρ : Nat} {x4 : Int} {x5 : Int} {x6 : Int} (hI : qI σ α κ ρ) (r4 : (-2147483648) ≤ x4 ∧ x4 ≤ 2147483647) (r5 : (-2147483648) ≤ x5 ∧ x5 ≤ 2147483647) (r6 : 0 ≤ x6 ∧ x6 ≤ 38) (p0 : 0 ≤ σ 42 1 ∧ σ 42 1 ≤ 1700) : qm_T (qe L xs vb) (d + 6) 152 [.ref 42, .int (qz 40), .int (qz 3), .int (qz 3), .int (qz x4), .int (qz x5), .int (qz x6)] (qw σ α κ ρ) (fun r w' => ∃ σ' α', w' = qw σ' α' κ ρ ∧ qI σ' α' κ ρ ∧ qFr [(42, 1)] [43] σ α σ' α' ∧ ∃ v : Int, r = some (.int (qz v)) ∧ ((-2147483648) ≤ v ∧ v ≤ 2147483647) ∧ σ' 42 1 = σ 42 1 + 3) := by
  refine qr_start (d := d + 5) qv_e152 (Nat.le_of_ble_eq_true rfl) ?_
  show qr_W (qe L xs vb) (d + 5) qx_e152 _ (0, [(0, .ref 42), (1, .int (qz 40)), (2, .int (qz 3)), (3, .int (qz 3)), (4, .int (qz x4)), (5, .int (qz x5)), (6, .int (qz x6))], [], _, 0, 0)
  have hF0 := qFr_rf [(42, 1)] [43] σ α
  have hz42_1 : (-2147483648) ≤ σ 42 1 ∧ σ 42 1 ≤ 2147483647 := hI.1 42 1
  refine qr_aload_n 1 rfl rfl rfl ?_
  refine qr_get 4 rfl rfl rfl (by decide) rfl ?_
  refine qr_aload_n 5 rfl rfl rfl ?_
  refine qr_get 8 rfl rfl rfl (by decide) rfl ?_
  refine qr_alen 9 rfl rfl (by first | exact Or.inl (by decide) | exact Or.inr (Or.inl rfl) | exact Or.inr (Or.inr (Or.inl rfl)) | exact Or.inr (Or.inr (Or.inr (Or.inl rfl)))) rfl ?_
  refine qy_v 24 rfl ?_
  refine qr_icmp_ge 22 12 rfl rfl rfl (by omega) (by omega) (fun h1 => ?_) (fun h1 => ?_)
  · skip
    refine qr_aload_n 23 rfl rfl rfl ?_
    refine qr_dup 24 rfl rfl rfl ?_
    refine qr_get 27 rfl rfl rfl (by decide) rfl ?_
    refine qr_iconst 28 rfl rfl ?_
    refine qr_iadd 29 rfl rfl ?_
    refine qr_put 32 rfl (by decide) rfl (Nat.le_of_ble_eq_true rfl) (Nat.le_of_ble_eq_true rfl) (Or.inl rfl) (qr_fitI rfl _) rfl ?_
    refine qy_wS (qw_s σ 42 1 ((σ 42 1) + 1)) rfl (fun σ2 e3 => ?_)
    have hI4 : qI σ2 α κ ρ := by rw [e3]; exact qI_s hI 42 1 rfl (show (-2147483648) ≤ ((σ 42 1) + 1) ∧ ((σ 42 1) + 1) ≤ 2147483647 by omega)
    have hF5 : qFr [(42, 1)] [43] σ α σ2 α := by rw [e3]; exact qFr_s hF0 42 1 _ (by decide)
    refine qr_getst 35 rfl rfl ?_
    refine qr_iload_n 36 rfl rfl rfl ?_
    refine qr_iaload 37 rfl rfl (by omega) (by decide) rfl ?_
    refine qy_v 0 (by decide) ?_
    refine qr_istore _ 39 rfl (by decide) rfl rfl ?_
    refine qr_iload_n 40 rfl rfl rfl ?_
    refine qr_look (off := 211) 251 rfl (by omega) (by decide) (by decide) rfl ?_
    refine qr_aload_n 252 rfl rfl rfl ?_
    refine qr_iload 254 rfl rfl rfl ?_
    refine qr_iload_n 255 rfl rfl rfl ?_
    refine qr_iconst 256 rfl rfl ?_
    refine qr_iload 258 rfl rfl rfl ?_
    refine qr_iload 260 rfl rfl rfl ?_
    refine qr_iload 262 rfl rfl rfl ?_
    refine qr_callN 265 rfl rfl rfl (sf_151_42f0_3_1 (d := d + 0) hI4 (by omega) (by omega) (by omega) (by omega)) ?_
    have hs8 : (-2147483648) ≤ σ2 42 1 ∧ σ2 42 1 ≤ 2147483647 := hI4.1 42 1
    have hs9 : σ2 42 1 = ((σ 42 1) + 1) := (congrFun (congrFun e3 42) 1).trans rfl
    rintro _ _ ⟨σ10, α11, rfl, hI12, hG13, v6, rfl, hv6, hp7⟩
    have hF14 : qFr [(42, 1)] [43] σ α σ10 α11 := qFr_t hF5 hG13 (by decide) (by decide)
    have hs15 : (-2147483648) ≤ σ10 42 1 ∧ σ10 42 1 ≤ 2147483647 := hI12.1 42 1
    show qr_W (qe L xs vb) (d + 5) qx_e152 _ (265, _, [.int (qz v6)], qw σ10 α11 κ ρ, 0, 0)
    refine qr_ineg 266 rfl rfl ?_
    refine qy_can (fun v16 hv16 => ?_)
    refine qr_retI rfl rfl (by decide) (by decide) ?_
    exact ⟨_, _, rfl, hI12, hF14, v16, rfl, by omega, by omega⟩
  · skip
    refine qr_aload_n 13 rfl rfl rfl ?_
    refine qr_get 16 rfl rfl rfl (by decide) rfl ?_
    refine qr_aload_n 17 rfl rfl rfl ?_
    refine qr_get 20 rfl rfl rfl (by decide) rfl ?_
    refine qr_iload_n 21 rfl rfl rfl ?_
    refine qr_iastore 22 rfl (by decide) rfl (by omega) (by decide) rfl ?_
    refine qy_wA (qw_r α 43 (qzu (α 43) ((σ 42 1) : Int).toNat 40)) rfl (fun α17 e18 => ?_)
    have hI19 : qI σ α17 κ ρ := by rw [e18]; exact qI_r hI 43 _ rfl (show (-2147483648) ≤ 40 ∧ 40 ≤ 2147483647 by omega)
    have hF20 : qFr [(42, 1)] [43] σ α σ α17 := by rw [e18]; exact qFr_r hF0 43 _ (by decide)
    refine qr_aload_n 23 rfl rfl rfl ?_
    refine qr_dup 24 rfl rfl rfl ?_
    refine qr_get 27 rfl rfl rfl (by decide) rfl ?_
    refine qr_iconst 28 rfl rfl ?_
    refine qr_iadd 29 rfl rfl ?_
    refine qr_put 32 rfl (by decide) rfl (Nat.le_of_ble_eq_true rfl) (Nat.le_of_ble_eq_true rfl) (Or.inl rfl) (qr_fitI rfl _) rfl ?_
    refine qy_wS (qw_s σ 42 1 ((σ 42 1) + 1)) rfl (fun σ21 e22 => ?_)
    have hI23 : qI σ21 α17 κ ρ := by rw [e22]; exact qI_s hI19 42 1 rfl (show (-2147483648) ≤ ((σ 42 1) + 1) ∧ ((σ 42 1) + 1) ≤ 2147483647 by omega)
    have hF24 : qFr [(42, 1)] [43] σ α σ21 α17 := by rw [e22]; exact qFr_s hF20 42 1 _ (by decide)
    refine qr_getst 35 rfl rfl ?_
    refine qr_iload_n 36 rfl rfl rfl ?_
    refine qr_iaload 37 rfl rfl (by omega) (by decide) rfl ?_
    refine qy_v 0 (by decide) ?_
    refine qr_istore _ 39 rfl (by decide) rfl rfl ?_
    refine qr_iload_n 40 rfl rfl rfl ?_
    refine qr_look (off := 211) 251 rfl (by omega) (by decide) (by decide) rfl ?_
    refine qr_aload_n 252 rfl rfl rfl ?_
    refine qr_iload 254 rfl rfl rfl ?_
    refine qr_iload_n 255 rfl rfl rfl ?_
    refine qr_iconst 256 rfl rfl ?_
    refine qr_iload 258 rfl rfl rfl ?_
    refine qr_iload 260 rfl rfl rfl ?_
    refine qr_iload 262 rfl rfl rfl ?_
    refine qr_callN 265 rfl rfl rfl (sf_151_42f0_3_1 (d := d + 0) hI23 (by omega) (by omega) (by omega) (by omega)) ?_
    have hs27 : (-2147483648) ≤ σ21 42 1 ∧ σ21 42 1 ≤ 2147483647 := hI23.1 42 1
    have hs28 : σ21 42 1 = ((σ 42 1) + 1) := (congrFun (congrFun e22 42) 1).trans rfl
    rintro _ _ ⟨σ29, α30, rfl, hI31, hG32, v25, rfl, hv25, hp26⟩
    have hF33 : qFr [(42, 1)] [43] σ α σ29 α30 := qFr_t hF24 hG32 (by decide) (by decide)
    have hs34 : (-2147483648) ≤ σ29 42 1 ∧ σ29 42 1 ≤ 2147483647 := hI31.1 42 1
    show qr_W (qe L xs vb) (d + 5) qx_e152 _ (265, _, [.int (qz v25)], qw σ29 α30 κ ρ, 0, 0)
    refine qr_ineg 266 rfl rfl ?_
    refine qy_can (fun v35 hv35 => ?_)
    refine qr_retI rfl rfl (by decide) (by decide) ?_
    exact ⟨_, _, rfl, hI31, hF33, v35, rfl, by omega, by omega⟩

set_option maxHeartbeats 4000000 in
set_option maxRecDepth 20000 in
/-- OneRoof$Acts.runFrom -/
theorem sf_151_42f3_3_1 {L : Nat} {xs : Nat → Int} {vb : Bool} {d : Nat} {σ α : Nat → Nat → Int} {κ : Nat → Option Nat} {ρ : Nat} {x4 : Int} {x5 : Int} {x6 : Int} (hI : qI σ α κ ρ) (r4 : (-2147483648) ≤ x4 ∧ x4 ≤ 2147483647) (r5 : (-2147483648) ≤ x5 ∧ x5 ≤ 2147483647) (r6 : 0 ≤ x6 ∧ x6 ≤ 37) (p0 : 0 ≤ σ 42 1 ∧ σ 42 1 ≤ 1700) : qm_T (qe L xs vb) (d + 7) 151 [.ref 42, .int (qz 3), .int (qz 3), .int (qz 1), .int (qz x4), .int (qz x5), .int (qz x6)] (qw σ α κ ρ) (fun r w' => ∃ σ' α', w' = qw σ' α' κ ρ ∧ qI σ' α' κ ρ ∧ qFr [(42, 1)] [43] σ α σ' α' ∧ ∃ v : Int, r = some (.int (qz v)) ∧ ((-2147483648) ≤ v ∧ v ≤ 2147483647) ∧ σ' 42 1 = σ 42 1 + 3) := by
  refine qr_start (d := d + 6) qv_e151 (Nat.le_of_ble_eq_true rfl) ?_
  show qr_W (qe L xs vb) (d + 6) qx_e151 _ (0, [(0, .ref 42), (1, .int (qz 3)), (2, .int (qz 3)), (3, .int (qz 1)), (4, .int (qz x4)), (5, .int (qz x5)), (6, .int (qz x6))], [], _, 0, 0)
  have hF0 := qFr_rf [(42, 1)] [43] σ α
  have hz42_1 : (-2147483648) ≤ σ 42 1 ∧ σ 42 1 ≤ 2147483647 := hI.1 42 1
  refine qr_iload_n 1 rfl rfl rfl ?_
  refine qr_istore _ 3 rfl (by decide) rfl rfl ?_
  refine qr_iconst 4 rfl rfl ?_
  refine qr_istore _ 6 rfl (by decide) rfl rfl ?_
  refine qr_iload 8 rfl rfl rfl ?_
  refine qr_getst 11 rfl rfl ?_
  refine qr_alen 12 rfl rfl (by first | exact Or.inl (by decide) | exact Or.inr (Or.inl rfl) | exact Or.inr (Or.inr (Or.inl rfl)) | exact Or.inr (Or.inr (Or.inr (Or.inl rfl)))) rfl ?_
  refine qy_v 7 rfl ?_
  refine qr_icmp_ge 89 15 rfl rfl rfl (by omega) (by omega) (fun h => False.elim (by omega)) (fun h1 => ?_)
  refine qr_iload 17 rfl rfl rfl ?_
  refine qr_if_lt 89 20 rfl rfl rfl (by omega) (fun h => False.elim (by omega)) (fun h2 => ?_)
  refine qr_iload 22 rfl rfl rfl ?_
  refine qr_getst 25 rfl rfl ?_
  refine qr_alen 26 rfl rfl (by first | exact Or.inl (by decide) | exact Or.inr (Or.inl rfl) | exact Or.inr (Or.inr (Or.inl rfl)) | exact Or.inr (Or.inr (Or.inr (Or.inl rfl)))) rfl ?_
  refine qy_v 7 rfl ?_
  refine qr_icmp_ge 89 29 rfl rfl rfl (by omega) (by omega) (fun h => False.elim (by omega)) (fun h3 => ?_)
  refine qr_getst 32 rfl rfl ?_
  refine qr_iload 34 rfl rfl rfl ?_
  refine qr_iconst 35 rfl rfl ?_
  refine qr_imul 36 rfl rfl ?_
  refine qy_v 12 rfl ?_
  refine qr_iload_n 37 rfl rfl rfl ?_
  refine qr_iadd 38 rfl rfl ?_
  refine qy_v 13 rfl ?_
  refine qr_iaload 39 rfl rfl (by omega) (by decide) rfl ?_
  refine qy_v 40 (by decide) ?_
  refine qr_istore _ 41 rfl (by decide) rfl rfl ?_
  refine qr_iload 43 rfl rfl rfl ?_
  refine qr_if_eq 75 46 rfl rfl rfl (by omega) (fun h => False.elim (by omega)) (fun h4 => ?_)
  refine qr_iload 48 rfl rfl rfl ?_
  refine qr_bipush 50 rfl (by decide) rfl ?_
  refine qr_icmp_le 57 53 rfl rfl rfl (by omega) (by omega) (fun h5 => ?_) (fun h => False.elim (by omega))
  refine qr_aload_n 58 rfl rfl rfl ?_
  refine qr_iload 60 rfl rfl rfl ?_
  refine qr_iload 62 rfl rfl rfl ?_
  refine qr_iload_n 63 rfl rfl rfl ?_
  refine qr_iload 65 rfl rfl rfl ?_
  refine qr_iload 67 rfl rfl rfl ?_
  refine qr_iload 69 rfl rfl rfl ?_
  refine qr_iconst 70 rfl rfl ?_
  refine qr_iadd 71 rfl rfl ?_
  refine qr_callN 74 rfl rfl rfl (sf_152_42b40_3_3 (d := d + 0) hI (by omega) (by omega) (by omega) (by omega)) ?_
  have hs8 : (-2147483648) ≤ σ 42 1 ∧ σ 42 1 ≤ 2147483647 := hI.1 42 1
  rintro _ _ ⟨σ9, α10, rfl, hI11, hG12, v6, rfl, hv6, hp7⟩
  have hF13 : qFr [(42, 1)] [43] σ α σ9 α10 := qFr_t hF0 hG12 (by decide) (by decide)
  have hs14 : (-2147483648) ≤ σ9 42 1 ∧ σ9 42 1 ≤ 2147483647 := hI11.1 42 1
  show qr_W (qe L xs vb) (d + 6) qx_e151 _ (74, _, [.int (qz v6)], qw σ9 α10 κ ρ, 0, 0)
  refine qr_retI rfl rfl (by decide) (by decide) ?_
  exact ⟨_, _, rfl, hI11, hF13, v6, rfl, by omega, by omega⟩

set_option maxHeartbeats 4000000 in
set_option maxRecDepth 20000 in
/-- OneRoof$Acts.run -/
theorem sf_150_42r3_1 {L : Nat} {xs : Nat → Int} {vb : Bool} {d : Nat} {σ α : Nat → Nat → Int} {κ : Nat → Option Nat} {ρ : Nat} {x3 : Int} {x4 : Int} {x5 : Int} (hI : qI σ α κ ρ) (r3 : (-2147483648) ≤ x3 ∧ x3 ≤ 2147483647) (r4 : (-2147483648) ≤ x4 ∧ x4 ≤ 2147483647) (r5 : 0 ≤ x5 ∧ x5 ≤ 37) (p0 : 0 ≤ σ 42 1 ∧ σ 42 1 ≤ 1700) : qm_T (qe L xs vb) (d + 8) 150 [.ref 42, .int (qz 3), .int (qz 1), .int (qz x3), .int (qz x4), .int (qz x5)] (qw σ α κ ρ) (fun r w' => ∃ σ' α', w' = qw σ' α' κ ρ ∧ qI σ' α' κ ρ ∧ qFr [(42, 1)] [43] σ α σ' α' ∧ ∃ v : Int, r = some (.int (qz v)) ∧ ((-2147483648) ≤ v ∧ v ≤ 2147483647) ∧ σ' 42 1 = σ 42 1 + 3) := by
  refine qr_start (d := d + 7) qv_e150 (Nat.le_of_ble_eq_true rfl) ?_
  show qr_W (qe L xs vb) (d + 7) qx_e150 _ (0, [(0, .ref 42), (1, .int (qz 3)), (2, .int (qz 1)), (3, .int (qz x3)), (4, .int (qz x4)), (5, .int (qz x5))], [], _, 0, 0)
  have hF0 := qFr_rf [(42, 1)] [43] σ α
  have hz42_1 : (-2147483648) ≤ σ 42 1 ∧ σ 42 1 ≤ 2147483647 := hI.1 42 1
  refine qr_aload_n 1 rfl rfl rfl ?_
  refine qr_iload_n 2 rfl rfl rfl ?_
  refine qr_iload_n 3 rfl rfl rfl ?_
  refine qr_iload_n 4 rfl rfl rfl ?_
  refine qr_iload_n 5 rfl rfl rfl ?_
  refine qr_iload 7 rfl rfl rfl ?_
  refine qr_iload 9 rfl rfl rfl ?_
  refine qr_callN 12 rfl rfl rfl (sf_151_42f3_3_1 (d := d + 0) hI (by omega) (by omega) (by omega) (by omega)) ?_
  have hs3 : (-2147483648) ≤ σ 42 1 ∧ σ 42 1 ≤ 2147483647 := hI.1 42 1
  rintro _ _ ⟨σ4, α5, rfl, hI6, hG7, v1, rfl, hv1, hp2⟩
  have hF8 : qFr [(42, 1)] [43] σ α σ4 α5 := qFr_t hF0 hG7 (by decide) (by decide)
  have hs9 : (-2147483648) ≤ σ4 42 1 ∧ σ4 42 1 ≤ 2147483647 := hI6.1 42 1
  show qr_W (qe L xs vb) (d + 7) qx_e150 _ (12, _, [.int (qz v1)], qw σ4 α5 κ ρ, 0, 0)
  refine qr_retI rfl rfl (by decide) (by decide) ?_
  exact ⟨_, _, rfl, hI6, hF8, v1, rfl, by omega, by omega⟩

