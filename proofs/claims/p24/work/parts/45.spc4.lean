section
set_option maxHeartbeats 4000000 in
set_option maxRecDepth 20000 in
/-- OneRoof$Acts.run -/
theorem sf_151_42m2 {L : Nat} {xs : Nat → Int} {vb : Bool} {d : Nat} {σ α : Nat → Nat → Int} {κ : Nat → Option Nat} {ρ : Nat} {x1 : Int} {x3 : Int} {x4 : Int} {x5 : Int} (hI : qI σ α κ ρ) (r1 : (-2147483648) ≤ x1 ∧ x1 ≤ (-1)) (r3 : (-2147483648) ≤ x3 ∧ x3 ≤ 2147483647) (r4 : (-2147483648) ≤ x4 ∧ x4 ≤ 2147483647) (r5 : 0 ≤ x5 ∧ x5 ≤ 40) : qm_T (qe L xs vb) (d + 2) 151 [.ref 42, .int (qz x1), .int (qz 2), .int (qz x3), .int (qz x4), .int (qz x5)] (qw σ α κ ρ) (fun r w' => ∃ σ' α', w' = qw σ' α' κ ρ ∧ qI σ' α' κ ρ ∧ qFr [(42, 1)] [43] σ α σ' α' ∧ ∃ v : Int, r = some (.int (qz v)) ∧ ((-2147483648) ≤ v ∧ v ≤ 2147483647)) := by
  refine qr_start (d := d + 1) qv_e151 (Nat.le_of_ble_eq_true rfl) ?_
  show qr_W (qe L xs vb) (d + 1) qx_e151 _ (0, [(0, .ref 42), (1, .int (qz x1)), (2, .int (qz 2)), (3, .int (qz x3)), (4, .int (qz x4)), (5, .int (qz x5))], [], _, 0, 0)
  have hF0 := qFr_rf [(42, 1)] [43] σ α
  refine qr_aload_n 1 rfl rfl rfl ?_
  refine qr_iload_n 2 rfl rfl rfl ?_
  refine qr_iload_n 3 rfl rfl rfl ?_
  refine qr_iload_n 4 rfl rfl rfl ?_
  refine qr_iload_n 5 rfl rfl rfl ?_
  refine qr_iload 7 rfl rfl rfl ?_
  refine qr_iload 9 rfl rfl rfl ?_
  refine qr_callN 12 rfl rfl rfl (sf_152_42m2 (d := d + 0) hI r1 (qrg r1 (by decide) (by decide)) r3 r4 r5) ?_
  rintro _ _ ⟨σ2, α3, rfl, hI4, hG5, v1, rfl, hv1⟩
  have hF6 : qFr [(42, 1)] [43] σ α σ2 α3 := qFr_t hF0 hG5 (by decide) (by decide)
  show qr_W (qe L xs vb) (d + 1) qx_e151 _ (12, _, [.int (qz v1)], qw σ2 α3 κ ρ, 0, 0)
  refine qr_retI rfl rfl (by decide) (by decide) ?_
  exact ⟨_, _, rfl, hI4, hF6, v1, rfl, hv1⟩

set_option maxHeartbeats 4000000 in
set_option maxRecDepth 20000 in
/-- OneRoof$Acts.start -/
theorem sf_150_42m2 {L : Nat} {xs : Nat → Int} {vb : Bool} {d : Nat} {σ α : Nat → Nat → Int} {κ : Nat → Option Nat} {ρ : Nat} {x1 : Int} {x3 : Int} {x4 : Int} (hI : qI σ α κ ρ) (r1 : (-2147483648) ≤ x1 ∧ x1 ≤ (-1)) (r3 : (-2147483648) ≤ x3 ∧ x3 ≤ 2147483647) (r4 : (-2147483648) ≤ x4 ∧ x4 ≤ 2147483647) (p0 : σ 42 1 = 0) : qm_T (qe L xs vb) (d + 3) 150 [.ref 42, .int (qz x1), .int (qz 2), .int (qz x3), .int (qz x4)] (qw σ α κ ρ) (fun r w' => ∃ σ' α', w' = qw σ' α' κ ρ ∧ qI σ' α' κ ρ ∧ qFr [(42, 1)] [43] σ α σ' α' ∧ ∃ v : Int, r = some (.int (qz v)) ∧ ((-2147483648) ≤ v ∧ v ≤ 2147483647)) := by
  refine qr_start (d := d + 2) qv_e150 (Nat.le_of_ble_eq_true rfl) ?_
  show qr_W (qe L xs vb) (d + 2) qx_e150 _ (0, [(0, .ref 42), (1, .int (qz x1)), (2, .int (qz 2)), (3, .int (qz x3)), (4, .int (qz x4))], [], _, 0, 0)
  have hF0 := qFr_rf [(42, 1)] [43] σ α
  have hz42_1 : (-2147483648) ≤ σ 42 1 ∧ σ 42 1 ≤ 2147483647 := hI.1 42 1
  refine qr_aload_n 1 rfl rfl rfl ?_
  refine qr_iload_n 2 rfl rfl rfl ?_
  refine qr_iload_n 3 rfl rfl rfl ?_
  refine qr_iload_n 4 rfl rfl rfl ?_
  refine qr_iload 6 rfl rfl rfl ?_
  refine qr_iconst 7 rfl rfl ?_
  refine qr_callN 10 rfl rfl rfl (sf_151_42m2 (d := d + 0) hI r1 r3 r4 (by decide)) ?_
  rintro _ _ ⟨σ2, α3, rfl, hI4, hG5, v1, rfl, hv1⟩
  have hF6 : qFr [(42, 1)] [43] σ α σ2 α3 := qFr_t hF0 hG5 (by decide) (by decide)
  show qr_W (qe L xs vb) (d + 2) qx_e150 _ (10, _, [.int (qz v1)], qw σ2 α3 κ ρ, 0, 0)
  refine qr_retI rfl rfl (by decide) (by decide) ?_
  exact ⟨_, _, rfl, hI4, hF6, v1, rfl, hv1⟩

set_option maxHeartbeats 4000000 in
set_option maxRecDepth 20000 in
/-- OneRoof$Acts.runFrom -/
theorem sf_152_42p2 {L : Nat} {xs : Nat → Int} {vb : Bool} {d : Nat} {σ α : Nat → Nat → Int} {κ : Nat → Option Nat} {ρ : Nat} {x1 : Int} {x2 : Int} {x4 : Int} {x5 : Int} {x6 : Int} (hI : qI σ α κ ρ) (r1 : 7 ≤ x1 ∧ x1 ≤ 2147483647) (r2 : (-2147483648) ≤ x2 ∧ x2 ≤ 2147483647) (r4 : (-2147483648) ≤ x4 ∧ x4 ≤ 2147483647) (r5 : (-2147483648) ≤ x5 ∧ x5 ≤ 2147483647) (r6 : 0 ≤ x6 ∧ x6 ≤ 40) : qm_T (qe L xs vb) (d + 1) 152 [.ref 42, .int (qz x1), .int (qz x2), .int (qz 2), .int (qz x4), .int (qz x5), .int (qz x6)] (qw σ α κ ρ) (fun r w' => ∃ σ' α', w' = qw σ' α' κ ρ ∧ qI σ' α' κ ρ ∧ qFr [(42, 1)] [43] σ α σ' α' ∧ ∃ v : Int, r = some (.int (qz v)) ∧ ((-2147483648) ≤ v ∧ v ≤ 2147483647)) := by
  refine qr_start (d := d + 0) qv_e152 (Nat.le_of_ble_eq_true rfl) ?_
  show qr_W (qe L xs vb) (d + 0) qx_e152 _ (0, [(0, .ref 42), (1, .int (qz x1)), (2, .int (qz x2)), (3, .int (qz 2)), (4, .int (qz x4)), (5, .int (qz x5)), (6, .int (qz x6))], [], _, 0, 0)
  have hF0 := qFr_rf [(42, 1)] [43] σ α
  refine qr_iload_n 1 rfl rfl rfl ?_
  refine qr_istore _ 3 rfl (by decide) rfl rfl ?_
  refine qr_iconst 4 rfl rfl ?_
  refine qr_istore _ 6 rfl (by decide) rfl rfl ?_
  refine qr_iload 8 rfl rfl rfl ?_
  refine qr_getst 11 rfl rfl ?_
  refine qr_alen 12 rfl rfl (by first | exact Or.inl (by decide) | exact Or.inr (Or.inl rfl) | exact Or.inr (Or.inr (Or.inl rfl)) | exact Or.inr (Or.inr (Or.inr (Or.inl rfl)))) rfl ?_
  refine qy_v 7 rfl ?_
  refine qr_icmp_ge 89 15 rfl rfl rfl (by decide) (by decide) (fun h => False.elim (by omega)) (fun h1 => ?_)
  refine qr_iload 17 rfl rfl rfl ?_
  refine qr_if_lt 89 20 rfl rfl rfl (qrg r1 (by decide) (by decide)) (fun h => False.elim (by omega)) (fun h2 => ?_)
  refine qr_iload 22 rfl rfl rfl ?_
  refine qr_getst 25 rfl rfl ?_
  refine qr_alen 26 rfl rfl (by first | exact Or.inl (by decide) | exact Or.inr (Or.inl rfl) | exact Or.inr (Or.inr (Or.inl rfl)) | exact Or.inr (Or.inr (Or.inr (Or.inl rfl)))) rfl ?_
  refine qy_v 7 rfl ?_
  refine qr_icmp_ge 89 29 rfl rfl rfl (qrg r1 (by decide) (by decide)) (by decide) (fun h3 => ?_) (fun h => False.elim (by omega))
  refine qr_iconst 90 rfl rfl ?_
  refine qr_retI rfl rfl (by decide) (by decide) ?_
  exact ⟨_, _, rfl, hI, hF0, 0, rfl, (by decide)⟩

set_option maxHeartbeats 4000000 in
set_option maxRecDepth 20000 in
/-- OneRoof$Acts.run -/
theorem sf_151_42p2 {L : Nat} {xs : Nat → Int} {vb : Bool} {d : Nat} {σ α : Nat → Nat → Int} {κ : Nat → Option Nat} {ρ : Nat} {x1 : Int} {x3 : Int} {x4 : Int} {x5 : Int} (hI : qI σ α κ ρ) (r1 : 7 ≤ x1 ∧ x1 ≤ 2147483647) (r3 : (-2147483648) ≤ x3 ∧ x3 ≤ 2147483647) (r4 : (-2147483648) ≤ x4 ∧ x4 ≤ 2147483647) (r5 : 0 ≤ x5 ∧ x5 ≤ 40) : qm_T (qe L xs vb) (d + 2) 151 [.ref 42, .int (qz x1), .int (qz 2), .int (qz x3), .int (qz x4), .int (qz x5)] (qw σ α κ ρ) (fun r w' => ∃ σ' α', w' = qw σ' α' κ ρ ∧ qI σ' α' κ ρ ∧ qFr [(42, 1)] [43] σ α σ' α' ∧ ∃ v : Int, r = some (.int (qz v)) ∧ ((-2147483648) ≤ v ∧ v ≤ 2147483647)) := by
  refine qr_start (d := d + 1) qv_e151 (Nat.le_of_ble_eq_true rfl) ?_
  show qr_W (qe L xs vb) (d + 1) qx_e151 _ (0, [(0, .ref 42), (1, .int (qz x1)), (2, .int (qz 2)), (3, .int (qz x3)), (4, .int (qz x4)), (5, .int (qz x5))], [], _, 0, 0)
  have hF0 := qFr_rf [(42, 1)] [43] σ α
  refine qr_aload_n 1 rfl rfl rfl ?_
  refine qr_iload_n 2 rfl rfl rfl ?_
  refine qr_iload_n 3 rfl rfl rfl ?_
  refine qr_iload_n 4 rfl rfl rfl ?_
  refine qr_iload_n 5 rfl rfl rfl ?_
  refine qr_iload 7 rfl rfl rfl ?_
  refine qr_iload 9 rfl rfl rfl ?_
  refine qr_callN 12 rfl rfl rfl (sf_152_42p2 (d := d + 0) hI r1 (qrg r1 (by decide) (by decide)) r3 r4 r5) ?_
  rintro _ _ ⟨σ2, α3, rfl, hI4, hG5, v1, rfl, hv1⟩
  have hF6 : qFr [(42, 1)] [43] σ α σ2 α3 := qFr_t hF0 hG5 (by decide) (by decide)
  show qr_W (qe L xs vb) (d + 1) qx_e151 _ (12, _, [.int (qz v1)], qw σ2 α3 κ ρ, 0, 0)
  refine qr_retI rfl rfl (by decide) (by decide) ?_
  exact ⟨_, _, rfl, hI4, hF6, v1, rfl, hv1⟩

set_option maxHeartbeats 4000000 in
set_option maxRecDepth 20000 in
/-- OneRoof$Acts.start -/
theorem sf_150_42p2 {L : Nat} {xs : Nat → Int} {vb : Bool} {d : Nat} {σ α : Nat → Nat → Int} {κ : Nat → Option Nat} {ρ : Nat} {x1 : Int} {x3 : Int} {x4 : Int} (hI : qI σ α κ ρ) (r1 : 7 ≤ x1 ∧ x1 ≤ 2147483647) (r3 : (-2147483648) ≤ x3 ∧ x3 ≤ 2147483647) (r4 : (-2147483648) ≤ x4 ∧ x4 ≤ 2147483647) (p0 : σ 42 1 = 0) : qm_T (qe L xs vb) (d + 3) 150 [.ref 42, .int (qz x1), .int (qz 2), .int (qz x3), .int (qz x4)] (qw σ α κ ρ) (fun r w' => ∃ σ' α', w' = qw σ' α' κ ρ ∧ qI σ' α' κ ρ ∧ qFr [(42, 1)] [43] σ α σ' α' ∧ ∃ v : Int, r = some (.int (qz v)) ∧ ((-2147483648) ≤ v ∧ v ≤ 2147483647)) := by
  refine qr_start (d := d + 2) qv_e150 (Nat.le_of_ble_eq_true rfl) ?_
  show qr_W (qe L xs vb) (d + 2) qx_e150 _ (0, [(0, .ref 42), (1, .int (qz x1)), (2, .int (qz 2)), (3, .int (qz x3)), (4, .int (qz x4))], [], _, 0, 0)
  have hF0 := qFr_rf [(42, 1)] [43] σ α
  have hz42_1 : (-2147483648) ≤ σ 42 1 ∧ σ 42 1 ≤ 2147483647 := hI.1 42 1
  refine qr_aload_n 1 rfl rfl rfl ?_
  refine qr_iload_n 2 rfl rfl rfl ?_
  refine qr_iload_n 3 rfl rfl rfl ?_
  refine qr_iload_n 4 rfl rfl rfl ?_
  refine qr_iload 6 rfl rfl rfl ?_
  refine qr_iconst 7 rfl rfl ?_
  refine qr_callN 10 rfl rfl rfl (sf_151_42p2 (d := d + 0) hI r1 r3 r4 (by decide)) ?_
  rintro _ _ ⟨σ2, α3, rfl, hI4, hG5, v1, rfl, hv1⟩
  have hF6 : qFr [(42, 1)] [43] σ α σ2 α3 := qFr_t hF0 hG5 (by decide) (by decide)
  show qr_W (qe L xs vb) (d + 2) qx_e150 _ (10, _, [.int (qz v1)], qw σ2 α3 κ ρ, 0, 0)
  refine qr_retI rfl rfl (by decide) (by decide) ?_
  exact ⟨_, _, rfl, hI4, hF6, v1, rfl, hv1⟩

set_option maxHeartbeats 4000000 in
set_option maxRecDepth 20000 in
/-- OneRoof$Acts.begin -/
theorem sf_153_42b2_0_0 {L : Nat} {xs : Nat → Int} {vb : Bool} {d : Nat} {σ α : Nat → Nat → Int} {κ : Nat → Option Nat} {ρ : Nat} {x4 : Int} {x5 : Int} {x6 : Int} (hI : qI σ α κ ρ) (r4 : (-2147483648) ≤ x4 ∧ x4 ≤ 2147483647) (r5 : (-2147483648) ≤ x5 ∧ x5 ≤ 2147483647) (r6 : 0 ≤ x6 ∧ x6 ≤ 38) (p0 : 0 ≤ σ 42 1 ∧ σ 42 1 ≤ 1700) : qm_T (qe L xs vb) (d + 7) 153 [.ref 42, .int (qz 2), .int (qz 0), .int (qz 0), .int (qz x4), .int (qz x5), .int (qz x6)] (qw σ α κ ρ) (fun r w' => ∃ σ' α', w' = qw σ' α' κ ρ ∧ qI σ' α' κ ρ ∧ qFr [(42, 1)] [43] σ α σ' α' ∧ ∃ v : Int, r = some (.int (qz v)) ∧ ((-2147483648) ≤ v ∧ v ≤ 2147483647) ∧ σ' 42 1 = σ 42 1 + 4) := by
  refine qr_start (d := d + 6) qv_e153 (Nat.le_of_ble_eq_true rfl) ?_
  show qr_W (qe L xs vb) (d + 6) qx_e153 _ (0, [(0, .ref 42), (1, .int (qz 2)), (2, .int (qz 0)), (3, .int (qz 0)), (4, .int (qz x4)), (5, .int (qz x5)), (6, .int (qz x6))], [], _, 0, 0)
  have hF0 := qFr_rf [(42, 1)] [43] σ α
  have hz42_1 : (-2147483648) ≤ σ 42 1 ∧ σ 42 1 ≤ 2147483647 := hI.1 42 1
  refine qr_aload_n 1 rfl rfl rfl ?_
  refine qr_get 4 rfl rfl rfl (by decide) rfl ?_
  refine qr_aload_n 5 rfl rfl rfl ?_
  refine qr_get 8 rfl rfl rfl (by decide) rfl ?_
  refine qr_alen 9 rfl rfl (by first | exact Or.inl (by decide) | exact Or.inr (Or.inl rfl) | exact Or.inr (Or.inr (Or.inl rfl)) | exact Or.inr (Or.inr (Or.inr (Or.inl rfl)))) rfl ?_
  refine qy_v 24 rfl ?_
  refine qr_icmp_ge 22 12 rfl rfl rfl hz42_1 (by decide) (fun h1 => ?_) (fun h1 => ?_)
  · skip
    refine qr_aload_n 23 rfl rfl rfl ?_
    refine qr_dup 24 rfl rfl rfl ?_
    refine qr_get 27 rfl rfl rfl (by decide) rfl ?_
    refine qr_iconst 28 rfl rfl ?_
    refine qr_iadd 29 rfl rfl ?_
    refine qr_put 32 rfl (by decide) rfl (Nat.le_of_ble_eq_true rfl) (Nat.le_of_ble_eq_true rfl) (Or.inl rfl) (qr_fitI rfl _) rfl ?_
    refine qy_wS (qw_s σ 42 1 ((σ 42 1) + 1)) rfl (fun σ2 e3 => ?_)
    have hI4 : qI σ2 α κ ρ := by rw [e3]; exact qI_s hI 42 1 rfl (show (-2147483648) ≤ ((σ 42 1) + 1) ∧ ((σ 42 1) + 1) ≤ 2147483647 by omega)
    have hF5 : qFr [(42, 1)] [43] σ α σ2 α := by rw [e3]; exact qFr_s hF0 42 1 _ (by decide)
    refine qr_getst 35 rfl rfl ?_
    refine qr_iload_n 36 rfl rfl rfl ?_
    refine qr_iaload 37 rfl rfl (by decide) (by decide) rfl ?_
    refine qy_v (-1) (by decide) ?_
    refine qr_istore _ 39 rfl (by decide) rfl rfl ?_
    refine qr_iload_n 40 rfl rfl rfl ?_
    refine qr_look (off := 114) 154 rfl (by omega) (by decide) (by decide) rfl ?_
    refine qr_aload_n 155 rfl rfl rfl ?_
    refine qr_iload_n 156 rfl rfl rfl ?_
    refine qr_iconst 157 rfl rfl ?_
    refine qr_iload 159 rfl rfl rfl ?_
    refine qr_iload 161 rfl rfl rfl ?_
    refine qr_iload 163 rfl rfl rfl ?_
    have hs6 : (-2147483648) ≤ σ2 42 1 ∧ σ2 42 1 ≤ 2147483647 := hI4.1 42 1
    have hs7 : σ2 42 1 = ((σ 42 1) + 1) := (congrFun (congrFun e3 42) 1).trans rfl
    refine qr_callN 166 rfl rfl rfl (sf_151_42r0_1 (d := d + 0) hI4 r4 r5 r6 (by omega)) ?_
    have hs10 : (-2147483648) ≤ σ2 42 1 ∧ σ2 42 1 ≤ 2147483647 := hI4.1 42 1
    have hs11 : σ2 42 1 = ((σ 42 1) + 1) := (congrFun (congrFun e3 42) 1).trans rfl
    rintro _ _ ⟨σ12, α13, rfl, hI14, hG15, v8, rfl, hv8, hp9⟩
    have hF16 : qFr [(42, 1)] [43] σ α σ12 α13 := qFr_t hF5 hG15 (by decide) (by decide)
    have hs17 : (-2147483648) ≤ σ12 42 1 ∧ σ12 42 1 ≤ 2147483647 := hI14.1 42 1
    show qr_W (qe L xs vb) (d + 6) qx_e153 _ (166, _, [.int (qz v8)], qw σ12 α13 κ ρ, 0, 0)
    refine qr_aload_n 167 rfl rfl rfl ?_
    refine qr_iload_n 168 rfl rfl rfl ?_
    refine qr_iconst 169 rfl rfl ?_
    refine qr_iconst 170 rfl rfl ?_
    refine qr_iload 172 rfl rfl rfl ?_
    refine qr_iload 174 rfl rfl rfl ?_
    have hs18 : (-2147483648) ≤ σ12 42 1 ∧ σ12 42 1 ≤ 2147483647 := hI14.1 42 1
    refine qr_callN 177 rfl rfl rfl (sf_151_42r0_2 (d := d + 3) hI14 (by decide) r5 (qrg r6 (by decide) (by decide)) (by omega)) ?_
    have hs21 : (-2147483648) ≤ σ12 42 1 ∧ σ12 42 1 ≤ 2147483647 := hI14.1 42 1
    rintro _ _ ⟨σ22, α23, rfl, hI24, hG25, v19, rfl, hv19, hp20⟩
    have hF26 : qFr [(42, 1)] [43] σ α σ22 α23 := qFr_t hF16 hG25 (by decide) (by decide)
    have hs27 : (-2147483648) ≤ σ22 42 1 ∧ σ22 42 1 ≤ 2147483647 := hI24.1 42 1
    show qr_W (qe L xs vb) (d + 6) qx_e153 _ (177, _, [.int (qz v19), .int (qz v8)], qw σ22 α23 κ ρ, 0, 0)
    refine qr_isub 178 rfl rfl ?_
    refine qy_can (fun v28 hv28 => ?_)
    refine qr_retI rfl rfl (by decide) (by decide) ?_
    have hw29 : σ22 42 1 = (σ22 42 1) := rfl
    exact ⟨_, _, rfl, hI24, hF26, v28, rfl, hv28, by omega⟩
  · skip
    refine qr_aload_n 13 rfl rfl rfl ?_
    refine qr_get 16 rfl rfl rfl (by decide) rfl ?_
    refine qr_aload_n 17 rfl rfl rfl ?_
    refine qr_get 20 rfl rfl rfl (by decide) rfl ?_
    refine qr_iload_n 21 rfl rfl rfl ?_
    refine qr_iastore 22 rfl (by decide) rfl (by omega) (by decide) rfl ?_
    refine qy_wA (qw_r α 43 (qzu (α 43) ((σ 42 1) : Int).toNat 2)) rfl (fun α30 e31 => ?_)
    have hI32 : qI σ α30 κ ρ := by rw [e31]; exact qI_r hI 43 _ rfl (show (-2147483648) ≤ 2 ∧ 2 ≤ 2147483647 by omega)
    have hF33 : qFr [(42, 1)] [43] σ α σ α30 := by rw [e31]; exact qFr_r hF0 43 _ (by decide)
    refine qr_aload_n 23 rfl rfl rfl ?_
    refine qr_dup 24 rfl rfl rfl ?_
    refine qr_get 27 rfl rfl rfl (by decide) rfl ?_
    refine qr_iconst 28 rfl rfl ?_
    refine qr_iadd 29 rfl rfl ?_
    refine qr_put 32 rfl (by decide) rfl (Nat.le_of_ble_eq_true rfl) (Nat.le_of_ble_eq_true rfl) (Or.inl rfl) (qr_fitI rfl _) rfl ?_
    refine qy_wS (qw_s σ 42 1 ((σ 42 1) + 1)) rfl (fun σ34 e35 => ?_)
    have hI36 : qI σ34 α30 κ ρ := by rw [e35]; exact qI_s hI32 42 1 rfl (show (-2147483648) ≤ ((σ 42 1) + 1) ∧ ((σ 42 1) + 1) ≤ 2147483647 by omega)
    have hF37 : qFr [(42, 1)] [43] σ α σ34 α30 := by rw [e35]; exact qFr_s hF33 42 1 _ (by decide)
    refine qr_getst 35 rfl rfl ?_
    refine qr_iload_n 36 rfl rfl rfl ?_
    refine qr_iaload 37 rfl rfl (by decide) (by decide) rfl ?_
    refine qy_v (-1) (by decide) ?_
    refine qr_istore _ 39 rfl (by decide) rfl rfl ?_
    refine qr_iload_n 40 rfl rfl rfl ?_
    refine qr_look (off := 114) 154 rfl (by omega) (by decide) (by decide) rfl ?_
    refine qr_aload_n 155 rfl rfl rfl ?_
    refine qr_iload_n 156 rfl rfl rfl ?_
    refine qr_iconst 157 rfl rfl ?_
    refine qr_iload 159 rfl rfl rfl ?_
    refine qr_iload 161 rfl rfl rfl ?_
    refine qr_iload 163 rfl rfl rfl ?_
    have hs38 : (-2147483648) ≤ σ34 42 1 ∧ σ34 42 1 ≤ 2147483647 := hI36.1 42 1
    have hs39 : σ34 42 1 = ((σ 42 1) + 1) := (congrFun (congrFun e35 42) 1).trans rfl
    refine qr_callN 166 rfl rfl rfl (sf_151_42r0_1 (d := d + 0) hI36 r4 r5 r6 (by omega)) ?_
    have hs42 : (-2147483648) ≤ σ34 42 1 ∧ σ34 42 1 ≤ 2147483647 := hI36.1 42 1
    have hs43 : σ34 42 1 = ((σ 42 1) + 1) := (congrFun (congrFun e35 42) 1).trans rfl
    rintro _ _ ⟨σ44, α45, rfl, hI46, hG47, v40, rfl, hv40, hp41⟩
    have hF48 : qFr [(42, 1)] [43] σ α σ44 α45 := qFr_t hF37 hG47 (by decide) (by decide)
    have hs49 : (-2147483648) ≤ σ44 42 1 ∧ σ44 42 1 ≤ 2147483647 := hI46.1 42 1
    show qr_W (qe L xs vb) (d + 6) qx_e153 _ (166, _, [.int (qz v40)], qw σ44 α45 κ ρ, 0, 0)
    refine qr_aload_n 167 rfl rfl rfl ?_
    refine qr_iload_n 168 rfl rfl rfl ?_
    refine qr_iconst 169 rfl rfl ?_
    refine qr_iconst 170 rfl rfl ?_
    refine qr_iload 172 rfl rfl rfl ?_
    refine qr_iload 174 rfl rfl rfl ?_
    have hs50 : (-2147483648) ≤ σ44 42 1 ∧ σ44 42 1 ≤ 2147483647 := hI46.1 42 1
    refine qr_callN 177 rfl rfl rfl (sf_151_42r0_2 (d := d + 3) hI46 (by decide) r5 (qrg r6 (by decide) (by decide)) (by omega)) ?_
    have hs53 : (-2147483648) ≤ σ44 42 1 ∧ σ44 42 1 ≤ 2147483647 := hI46.1 42 1
    rintro _ _ ⟨σ54, α55, rfl, hI56, hG57, v51, rfl, hv51, hp52⟩
    have hF58 : qFr [(42, 1)] [43] σ α σ54 α55 := qFr_t hF48 hG57 (by decide) (by decide)
    have hs59 : (-2147483648) ≤ σ54 42 1 ∧ σ54 42 1 ≤ 2147483647 := hI56.1 42 1
    show qr_W (qe L xs vb) (d + 6) qx_e153 _ (177, _, [.int (qz v51), .int (qz v40)], qw σ54 α55 κ ρ, 0, 0)
    refine qr_isub 178 rfl rfl ?_
    refine qy_can (fun v60 hv60 => ?_)
    refine qr_retI rfl rfl (by decide) (by decide) ?_
    have hw61 : σ54 42 1 = (σ54 42 1) := rfl
    exact ⟨_, _, rfl, hI56, hF58, v60, rfl, hv60, by omega⟩

set_option maxHeartbeats 4000000 in
set_option maxRecDepth 20000 in
/-- OneRoof$Acts.runFrom -/
theorem sf_152_42f0_0_3 {L : Nat} {xs : Nat → Int} {vb : Bool} {d : Nat} {σ α : Nat → Nat → Int} {κ : Nat → Option Nat} {ρ : Nat} {x4 : Int} {x5 : Int} {x6 : Int} (hI : qI σ α κ ρ) (r4 : (-2147483648) ≤ x4 ∧ x4 ≤ 2147483647) (r5 : (-2147483648) ≤ x5 ∧ x5 ≤ 2147483647) (r6 : 0 ≤ x6 ∧ x6 ≤ 37) (p0 : 0 ≤ σ 42 1 ∧ σ 42 1 ≤ 1700) : qm_T (qe L xs vb) (d + 8) 152 [.ref 42, .int (qz 0), .int (qz 0), .int (qz 3), .int (qz x4), .int (qz x5), .int (qz x6)] (qw σ α κ ρ) (fun r w' => ∃ σ' α', w' = qw σ' α' κ ρ ∧ qI σ' α' κ ρ ∧ qFr [(42, 1)] [43] σ α σ' α' ∧ ∃ v : Int, r = some (.int (qz v)) ∧ ((-2147483648) ≤ v ∧ v ≤ 2147483647) ∧ σ' 42 1 = σ 42 1 + 4) := by
  refine qr_start (d := d + 7) qv_e152 (Nat.le_of_ble_eq_true rfl) ?_
  show qr_W (qe L xs vb) (d + 7) qx_e152 _ (0, [(0, .ref 42), (1, .int (qz 0)), (2, .int (qz 0)), (3, .int (qz 3)), (4, .int (qz x4)), (5, .int (qz x5)), (6, .int (qz x6))], [], _, 0, 0)
  have hF0 := qFr_rf [(42, 1)] [43] σ α
  have hz42_1 : (-2147483648) ≤ σ 42 1 ∧ σ 42 1 ≤ 2147483647 := hI.1 42 1
  refine qr_iload_n 1 rfl rfl rfl ?_
  refine qr_istore _ 3 rfl (by decide) rfl rfl ?_
  refine qr_iconst 4 rfl rfl ?_
  refine qr_istore _ 6 rfl (by decide) rfl rfl ?_
  refine qr_iload 8 rfl rfl rfl ?_
  refine qr_getst 11 rfl rfl ?_
  refine qr_alen 12 rfl rfl (by first | exact Or.inl (by decide) | exact Or.inr (Or.inl rfl) | exact Or.inr (Or.inr (Or.inl rfl)) | exact Or.inr (Or.inr (Or.inr (Or.inl rfl)))) rfl ?_
  refine qy_v 7 rfl ?_
  refine qr_icmp_ge 89 15 rfl rfl rfl (by decide) (by decide) (fun h => False.elim (by omega)) (fun h1 => ?_)
  refine qr_iload 17 rfl rfl rfl ?_
  refine qr_if_lt 89 20 rfl rfl rfl (by decide) (fun h => False.elim (by omega)) (fun h2 => ?_)
  refine qr_iload 22 rfl rfl rfl ?_
  refine qr_getst 25 rfl rfl ?_
  refine qr_alen 26 rfl rfl (by first | exact Or.inl (by decide) | exact Or.inr (Or.inl rfl) | exact Or.inr (Or.inr (Or.inl rfl)) | exact Or.inr (Or.inr (Or.inr (Or.inl rfl)))) rfl ?_
  refine qy_v 7 rfl ?_
  refine qr_icmp_ge 89 29 rfl rfl rfl (by decide) (by decide) (fun h => False.elim (by omega)) (fun h3 => ?_)
  refine qr_getst 32 rfl rfl ?_
  refine qr_iload 34 rfl rfl rfl ?_
  refine qr_iconst 35 rfl rfl ?_
  refine qr_imul 36 rfl rfl ?_
  refine qy_v 0 rfl ?_
  refine qr_iload_n 37 rfl rfl rfl ?_
  refine qr_iadd 38 rfl rfl ?_
  refine qy_v 3 rfl ?_
  refine qr_iaload 39 rfl rfl (by decide) (by decide) rfl ?_
  refine qy_v 2 (by decide) ?_
  refine qr_istore _ 41 rfl (by decide) rfl rfl ?_
  refine qr_iload 43 rfl rfl rfl ?_
  refine qr_if_eq 75 46 rfl rfl rfl (by decide) (fun h => False.elim (by omega)) (fun h4 => ?_)
  refine qr_iload 48 rfl rfl rfl ?_
  refine qr_bipush 50 rfl (by decide) rfl ?_
  refine qr_icmp_le 57 53 rfl rfl rfl (qrg r6 (by decide) (by decide)) (by decide) (fun h5 => ?_) (fun h => False.elim (by omega))
  refine qr_aload_n 58 rfl rfl rfl ?_
  refine qr_iload 60 rfl rfl rfl ?_
  refine qr_iload 62 rfl rfl rfl ?_
  refine qr_iload_n 63 rfl rfl rfl ?_
  refine qr_iload 65 rfl rfl rfl ?_
  refine qr_iload 67 rfl rfl rfl ?_
  refine qr_iload 69 rfl rfl rfl ?_
  refine qr_iconst 70 rfl rfl ?_
  refine qr_iadd 71 rfl rfl ?_
  have hs6 : (-2147483648) ≤ σ 42 1 ∧ σ 42 1 ≤ 2147483647 := hI.1 42 1
  refine qr_callN 74 rfl rfl rfl (sf_153_42b2_0_0 (d := d + 0) hI r4 r5 (by omega) (by omega)) ?_
  have hs9 : (-2147483648) ≤ σ 42 1 ∧ σ 42 1 ≤ 2147483647 := hI.1 42 1
  rintro _ _ ⟨σ10, α11, rfl, hI12, hG13, v7, rfl, hv7, hp8⟩
  have hF14 : qFr [(42, 1)] [43] σ α σ10 α11 := qFr_t hF0 hG13 (by decide) (by decide)
  have hs15 : (-2147483648) ≤ σ10 42 1 ∧ σ10 42 1 ≤ 2147483647 := hI12.1 42 1
  show qr_W (qe L xs vb) (d + 7) qx_e152 _ (74, _, [.int (qz v7)], qw σ10 α11 κ ρ, 0, 0)
  refine qr_retI rfl rfl (by decide) (by decide) ?_
  have hw16 : σ10 42 1 = (σ10 42 1) := rfl
  exact ⟨_, _, rfl, hI12, hF14, v7, rfl, hv7, by omega⟩

set_option maxHeartbeats 4000000 in
set_option maxRecDepth 20000 in
/-- OneRoof$Acts.run -/
theorem sf_151_42r0_3 {L : Nat} {xs : Nat → Int} {vb : Bool} {d : Nat} {σ α : Nat → Nat → Int} {κ : Nat → Option Nat} {ρ : Nat} {x3 : Int} {x4 : Int} {x5 : Int} (hI : qI σ α κ ρ) (r3 : (-2147483648) ≤ x3 ∧ x3 ≤ 2147483647) (r4 : (-2147483648) ≤ x4 ∧ x4 ≤ 2147483647) (r5 : 0 ≤ x5 ∧ x5 ≤ 37) (p0 : 0 ≤ σ 42 1 ∧ σ 42 1 ≤ 1700) : qm_T (qe L xs vb) (d + 9) 151 [.ref 42, .int (qz 0), .int (qz 3), .int (qz x3), .int (qz x4), .int (qz x5)] (qw σ α κ ρ) (fun r w' => ∃ σ' α', w' = qw σ' α' κ ρ ∧ qI σ' α' κ ρ ∧ qFr [(42, 1)] [43] σ α σ' α' ∧ ∃ v : Int, r = some (.int (qz v)) ∧ ((-2147483648) ≤ v ∧ v ≤ 2147483647) ∧ σ' 42 1 = σ 42 1 + 4) := by
  refine qr_start (d := d + 8) qv_e151 (Nat.le_of_ble_eq_true rfl) ?_
  show qr_W (qe L xs vb) (d + 8) qx_e151 _ (0, [(0, .ref 42), (1, .int (qz 0)), (2, .int (qz 3)), (3, .int (qz x3)), (4, .int (qz x4)), (5, .int (qz x5))], [], _, 0, 0)
  have hF0 := qFr_rf [(42, 1)] [43] σ α
  have hz42_1 : (-2147483648) ≤ σ 42 1 ∧ σ 42 1 ≤ 2147483647 := hI.1 42 1
  refine qr_aload_n 1 rfl rfl rfl ?_
  refine qr_iload_n 2 rfl rfl rfl ?_
  refine qr_iload_n 3 rfl rfl rfl ?_
  refine qr_iload_n 4 rfl rfl rfl ?_
  refine qr_iload_n 5 rfl rfl rfl ?_
  refine qr_iload 7 rfl rfl rfl ?_
  refine qr_iload 9 rfl rfl rfl ?_
  have hs1 : (-2147483648) ≤ σ 42 1 ∧ σ 42 1 ≤ 2147483647 := hI.1 42 1
  refine qr_callN 12 rfl rfl rfl (sf_152_42f0_0_3 (d := d + 0) hI r3 r4 r5 (by omega)) ?_
  have hs4 : (-2147483648) ≤ σ 42 1 ∧ σ 42 1 ≤ 2147483647 := hI.1 42 1
  rintro _ _ ⟨σ5, α6, rfl, hI7, hG8, v2, rfl, hv2, hp3⟩
  have hF9 : qFr [(42, 1)] [43] σ α σ5 α6 := qFr_t hF0 hG8 (by decide) (by decide)
  have hs10 : (-2147483648) ≤ σ5 42 1 ∧ σ5 42 1 ≤ 2147483647 := hI7.1 42 1
  show qr_W (qe L xs vb) (d + 8) qx_e151 _ (12, _, [.int (qz v2)], qw σ5 α6 κ ρ, 0, 0)
  refine qr_retI rfl rfl (by decide) (by decide) ?_
  have hw11 : σ5 42 1 = (σ5 42 1) := rfl
  exact ⟨_, _, rfl, hI7, hF9, v2, rfl, hv2, by omega⟩

set_option maxHeartbeats 4000000 in
set_option maxRecDepth 20000 in
/-- OneRoof$Acts.start -/
theorem sf_150_42s0_3 {L : Nat} {xs : Nat → Int} {vb : Bool} {d : Nat} {σ α : Nat → Nat → Int} {κ : Nat → Option Nat} {ρ : Nat} {x3 : Int} {x4 : Int} (hI : qI σ α κ ρ) (r3 : (-2147483648) ≤ x3 ∧ x3 ≤ 2147483647) (r4 : (-2147483648) ≤ x4 ∧ x4 ≤ 2147483647) (p0 : σ 42 1 = 0) : qm_T (qe L xs vb) (d + 10) 150 [.ref 42, .int (qz 0), .int (qz 3), .int (qz x3), .int (qz x4)] (qw σ α κ ρ) (fun r w' => ∃ σ' α', w' = qw σ' α' κ ρ ∧ qI σ' α' κ ρ ∧ qFr [(42, 1)] [43] σ α σ' α' ∧ ∃ v : Int, r = some (.int (qz v)) ∧ ((-2147483648) ≤ v ∧ v ≤ 2147483647)) := by
  refine qr_start (d := d + 9) qv_e150 (Nat.le_of_ble_eq_true rfl) ?_
  show qr_W (qe L xs vb) (d + 9) qx_e150 _ (0, [(0, .ref 42), (1, .int (qz 0)), (2, .int (qz 3)), (3, .int (qz x3)), (4, .int (qz x4))], [], _, 0, 0)
  have hF0 := qFr_rf [(42, 1)] [43] σ α
  have hz42_1 : (-2147483648) ≤ σ 42 1 ∧ σ 42 1 ≤ 2147483647 := hI.1 42 1
  refine qr_aload_n 1 rfl rfl rfl ?_
  refine qr_iload_n 2 rfl rfl rfl ?_
  refine qr_iload_n 3 rfl rfl rfl ?_
  refine qr_iload_n 4 rfl rfl rfl ?_
  refine qr_iload 6 rfl rfl rfl ?_
  refine qr_iconst 7 rfl rfl ?_
  have hs1 : (-2147483648) ≤ σ 42 1 ∧ σ 42 1 ≤ 2147483647 := hI.1 42 1
  refine qr_callN 10 rfl rfl rfl (sf_151_42r0_3 (d := d + 0) hI r3 r4 (by decide) (by omega)) ?_
  have hs4 : (-2147483648) ≤ σ 42 1 ∧ σ 42 1 ≤ 2147483647 := hI.1 42 1
  rintro _ _ ⟨σ5, α6, rfl, hI7, hG8, v2, rfl, hv2, hp3⟩
  have hF9 : qFr [(42, 1)] [43] σ α σ5 α6 := qFr_t hF0 hG8 (by decide) (by decide)
  have hs10 : (-2147483648) ≤ σ5 42 1 ∧ σ5 42 1 ≤ 2147483647 := hI7.1 42 1
  show qr_W (qe L xs vb) (d + 9) qx_e150 _ (10, _, [.int (qz v2)], qw σ5 α6 κ ρ, 0, 0)
  refine qr_retI rfl rfl (by decide) (by decide) ?_
  exact ⟨_, _, rfl, hI7, hF9, v2, rfl, hv2⟩

set_option maxHeartbeats 4000000 in
set_option maxRecDepth 20000 in
/-- OneRoof$Acts.begin -/
theorem sf_153_42b2_0_1 {L : Nat} {xs : Nat → Int} {vb : Bool} {d : Nat} {σ α : Nat → Nat → Int} {κ : Nat → Option Nat} {ρ : Nat} {x4 : Int} {x5 : Int} {x6 : Int} (hI : qI σ α κ ρ) (r4 : (-2147483648) ≤ x4 ∧ x4 ≤ 2147483647) (r5 : (-2147483648) ≤ x5 ∧ x5 ≤ 2147483647) (r6 : 0 ≤ x6 ∧ x6 ≤ 37) (p0 : 0 ≤ σ 42 1 ∧ σ 42 1 ≤ 1600) : qm_T (qe L xs vb) (d + 9) 153 [.ref 42, .int (qz 2), .int (qz 0), .int (qz 1), .int (qz x4), .int (qz x5), .int (qz x6)] (qw σ α κ ρ) (fun r w' => ∃ σ' α', w' = qw σ' α' κ ρ ∧ qI σ' α' κ ρ ∧ qFr [(42, 1)] [43] σ α σ' α' ∧ ∃ v : Int, r = some (.int (qz v)) ∧ ((-2147483648) ≤ v ∧ v ≤ 2147483647) ∧ σ' 42 1 = σ 42 1 + 5) := by
  refine qr_start (d := d + 8) qv_e153 (Nat.le_of_ble_eq_true rfl) ?_
  show qr_W (qe L xs vb) (d + 8) qx_e153 _ (0, [(0, .ref 42), (1, .int (qz 2)), (2, .int (qz 0)), (3, .int (qz 1)), (4, .int (qz x4)), (5, .int (qz x5)), (6, .int (qz x6))], [], _, 0, 0)
  have hF0 := qFr_rf [(42, 1)] [43] σ α
  have hz42_1 : (-2147483648) ≤ σ 42 1 ∧ σ 42 1 ≤ 2147483647 := hI.1 42 1
  refine qr_aload_n 1 rfl rfl rfl ?_
  refine qr_get 4 rfl rfl rfl (by decide) rfl ?_
  refine qr_aload_n 5 rfl rfl rfl ?_
  refine qr_get 8 rfl rfl rfl (by decide) rfl ?_
  refine qr_alen 9 rfl rfl (by first | exact Or.inl (by decide) | exact Or.inr (Or.inl rfl) | exact Or.inr (Or.inr (Or.inl rfl)) | exact Or.inr (Or.inr (Or.inr (Or.inl rfl)))) rfl ?_
  refine qy_v 24 rfl ?_
  refine qr_icmp_ge 22 12 rfl rfl rfl hz42_1 (by decide) (fun h1 => ?_) (fun h1 => ?_)
  · skip
    refine qr_aload_n 23 rfl rfl rfl ?_
    refine qr_dup 24 rfl rfl rfl ?_
    refine qr_get 27 rfl rfl rfl (by decide) rfl ?_
    refine qr_iconst 28 rfl rfl ?_
    refine qr_iadd 29 rfl rfl ?_
    refine qr_put 32 rfl (by decide) rfl (Nat.le_of_ble_eq_true rfl) (Nat.le_of_ble_eq_true rfl) (Or.inl rfl) (qr_fitI rfl _) rfl ?_
    refine qy_wS (qw_s σ 42 1 ((σ 42 1) + 1)) rfl (fun σ2 e3 => ?_)
    have hI4 : qI σ2 α κ ρ := by rw [e3]; exact qI_s hI 42 1 rfl (show (-2147483648) ≤ ((σ 42 1) + 1) ∧ ((σ 42 1) + 1) ≤ 2147483647 by omega)
    have hF5 : qFr [(42, 1)] [43] σ α σ2 α := by rw [e3]; exact qFr_s hF0 42 1 _ (by decide)
    refine qr_getst 35 rfl rfl ?_
    refine qr_iload_n 36 rfl rfl rfl ?_
    refine qr_iaload 37 rfl rfl (by decide) (by decide) rfl ?_
    refine qy_v (-1) (by decide) ?_
    refine qr_istore _ 39 rfl (by decide) rfl rfl ?_
    refine qr_iload_n 40 rfl rfl rfl ?_
    refine qr_look (off := 114) 154 rfl (by omega) (by decide) (by decide) rfl ?_
    refine qr_aload_n 155 rfl rfl rfl ?_
    refine qr_iload_n 156 rfl rfl rfl ?_
    refine qr_iconst 157 rfl rfl ?_
    refine qr_iload 159 rfl rfl rfl ?_
    refine qr_iload 161 rfl rfl rfl ?_
    refine qr_iload 163 rfl rfl rfl ?_
    have hs6 : (-2147483648) ≤ σ2 42 1 ∧ σ2 42 1 ≤ 2147483647 := hI4.1 42 1
    have hs7 : σ2 42 1 = ((σ 42 1) + 1) := (congrFun (congrFun e3 42) 1).trans rfl
    refine qr_callN 166 rfl rfl rfl (sf_151_42r1_1 (d := d + 0) hI4 r4 r5 r6 (by omega)) ?_
    have hs10 : (-2147483648) ≤ σ2 42 1 ∧ σ2 42 1 ≤ 2147483647 := hI4.1 42 1
    have hs11 : σ2 42 1 = ((σ 42 1) + 1) := (congrFun (congrFun e3 42) 1).trans rfl
    rintro _ _ ⟨σ12, α13, rfl, hI14, hG15, v8, rfl, hv8, hp9⟩
    have hF16 : qFr [(42, 1)] [43] σ α σ12 α13 := qFr_t hF5 hG15 (by decide) (by decide)
    have hs17 : (-2147483648) ≤ σ12 42 1 ∧ σ12 42 1 ≤ 2147483647 := hI14.1 42 1
    show qr_W (qe L xs vb) (d + 8) qx_e153 _ (166, _, [.int (qz v8)], qw σ12 α13 κ ρ, 0, 0)
    refine qr_aload_n 167 rfl rfl rfl ?_
    refine qr_iload_n 168 rfl rfl rfl ?_
    refine qr_iconst 169 rfl rfl ?_
    refine qr_iconst 170 rfl rfl ?_
    refine qr_iload 172 rfl rfl rfl ?_
    refine qr_iload 174 rfl rfl rfl ?_
    have hs18 : (-2147483648) ≤ σ12 42 1 ∧ σ12 42 1 ≤ 2147483647 := hI14.1 42 1
    refine qr_callN 177 rfl rfl rfl (sf_151_42r1_2 (d := d + 5) hI14 (by decide) r5 (qrg r6 (by decide) (by decide)) (by omega)) ?_
    have hs21 : (-2147483648) ≤ σ12 42 1 ∧ σ12 42 1 ≤ 2147483647 := hI14.1 42 1
    rintro _ _ ⟨σ22, α23, rfl, hI24, hG25, v19, rfl, hv19, hp20⟩
    have hF26 : qFr [(42, 1)] [43] σ α σ22 α23 := qFr_t hF16 hG25 (by decide) (by decide)
    have hs27 : (-2147483648) ≤ σ22 42 1 ∧ σ22 42 1 ≤ 2147483647 := hI24.1 42 1
    show qr_W (qe L xs vb) (d + 8) qx_e153 _ (177, _, [.int (qz v19), .int (qz v8)], qw σ22 α23 κ ρ, 0, 0)
    refine qr_isub 178 rfl rfl ?_
    refine qy_can (fun v28 hv28 => ?_)
    refine qr_retI rfl rfl (by decide) (by decide) ?_
    have hw29 : σ22 42 1 = (σ22 42 1) := rfl
    exact ⟨_, _, rfl, hI24, hF26, v28, rfl, hv28, by omega⟩
  · skip
    refine qr_aload_n 13 rfl rfl rfl ?_
    refine qr_get 16 rfl rfl rfl (by decide) rfl ?_
    refine qr_aload_n 17 rfl rfl rfl ?_
    refine qr_get 20 rfl rfl rfl (by decide) rfl ?_
    refine qr_iload_n 21 rfl rfl rfl ?_
    refine qr_iastore 22 rfl (by decide) rfl (by omega) (by decide) rfl ?_
    refine qy_wA (qw_r α 43 (qzu (α 43) ((σ 42 1) : Int).toNat 2)) rfl (fun α30 e31 => ?_)
    have hI32 : qI σ α30 κ ρ := by rw [e31]; exact qI_r hI 43 _ rfl (show (-2147483648) ≤ 2 ∧ 2 ≤ 2147483647 by omega)
    have hF33 : qFr [(42, 1)] [43] σ α σ α30 := by rw [e31]; exact qFr_r hF0 43 _ (by decide)
    refine qr_aload_n 23 rfl rfl rfl ?_
    refine qr_dup 24 rfl rfl rfl ?_
    refine qr_get 27 rfl rfl rfl (by decide) rfl ?_
    refine qr_iconst 28 rfl rfl ?_
    refine qr_iadd 29 rfl rfl ?_
    refine qr_put 32 rfl (by decide) rfl (Nat.le_of_ble_eq_true rfl) (Nat.le_of_ble_eq_true rfl) (Or.inl rfl) (qr_fitI rfl _) rfl ?_
    refine qy_wS (qw_s σ 42 1 ((σ 42 1) + 1)) rfl (fun σ34 e35 => ?_)
    have hI36 : qI σ34 α30 κ ρ := by rw [e35]; exact qI_s hI32 42 1 rfl (show (-2147483648) ≤ ((σ 42 1) + 1) ∧ ((σ 42 1) + 1) ≤ 2147483647 by omega)
    have hF37 : qFr [(42, 1)] [43] σ α σ34 α30 := by rw [e35]; exact qFr_s hF33 42 1 _ (by decide)
    refine qr_getst 35 rfl rfl ?_
    refine qr_iload_n 36 rfl rfl rfl ?_
    refine qr_iaload 37 rfl rfl (by decide) (by decide) rfl ?_
    refine qy_v (-1) (by decide) ?_
    refine qr_istore _ 39 rfl (by decide) rfl rfl ?_
    refine qr_iload_n 40 rfl rfl rfl ?_
    refine qr_look (off := 114) 154 rfl (by omega) (by decide) (by decide) rfl ?_
    refine qr_aload_n 155 rfl rfl rfl ?_
    refine qr_iload_n 156 rfl rfl rfl ?_
    refine qr_iconst 157 rfl rfl ?_
    refine qr_iload 159 rfl rfl rfl ?_
    refine qr_iload 161 rfl rfl rfl ?_
    refine qr_iload 163 rfl rfl rfl ?_
    have hs38 : (-2147483648) ≤ σ34 42 1 ∧ σ34 42 1 ≤ 2147483647 := hI36.1 42 1
    have hs39 : σ34 42 1 = ((σ 42 1) + 1) := (congrFun (congrFun e35 42) 1).trans rfl
    refine qr_callN 166 rfl rfl rfl (sf_151_42r1_1 (d := d + 0) hI36 r4 r5 r6 (by omega)) ?_
    have hs42 : (-2147483648) ≤ σ34 42 1 ∧ σ34 42 1 ≤ 2147483647 := hI36.1 42 1
    have hs43 : σ34 42 1 = ((σ 42 1) + 1) := (congrFun (congrFun e35 42) 1).trans rfl
    rintro _ _ ⟨σ44, α45, rfl, hI46, hG47, v40, rfl, hv40, hp41⟩
    have hF48 : qFr [(42, 1)] [43] σ α σ44 α45 := qFr_t hF37 hG47 (by decide) (by decide)
    have hs49 : (-2147483648) ≤ σ44 42 1 ∧ σ44 42 1 ≤ 2147483647 := hI46.1 42 1
    show qr_W (qe L xs vb) (d + 8) qx_e153 _ (166, _, [.int (qz v40)], qw σ44 α45 κ ρ, 0, 0)
    refine qr_aload_n 167 rfl rfl rfl ?_
    refine qr_iload_n 168 rfl rfl rfl ?_
    refine qr_iconst 169 rfl rfl ?_
    refine qr_iconst 170 rfl rfl ?_
    refine qr_iload 172 rfl rfl rfl ?_
    refine qr_iload 174 rfl rfl rfl ?_
    have hs50 : (-2147483648) ≤ σ44 42 1 ∧ σ44 42 1 ≤ 2147483647 := hI46.1 42 1
    refine qr_callN 177 rfl rfl rfl (sf_151_42r1_2 (d := d + 5) hI46 (by decide) r5 (qrg r6 (by decide) (by decide)) (by omega)) ?_
    have hs53 : (-2147483648) ≤ σ44 42 1 ∧ σ44 42 1 ≤ 2147483647 := hI46.1 42 1
    rintro _ _ ⟨σ54, α55, rfl, hI56, hG57, v51, rfl, hv51, hp52⟩
    have hF58 : qFr [(42, 1)] [43] σ α σ54 α55 := qFr_t hF48 hG57 (by decide) (by decide)
    have hs59 : (-2147483648) ≤ σ54 42 1 ∧ σ54 42 1 ≤ 2147483647 := hI56.1 42 1
    show qr_W (qe L xs vb) (d + 8) qx_e153 _ (177, _, [.int (qz v51), .int (qz v40)], qw σ54 α55 κ ρ, 0, 0)
    refine qr_isub 178 rfl rfl ?_
    refine qy_can (fun v60 hv60 => ?_)
    refine qr_retI rfl rfl (by decide) (by decide) ?_
    have hw61 : σ54 42 1 = (σ54 42 1) := rfl
    exact ⟨_, _, rfl, hI56, hF58, v60, rfl, hv60, by omega⟩

set_option maxHeartbeats 4000000 in
set_option maxRecDepth 20000 in
/-- OneRoof$Acts.runFrom -/
theorem sf_152_42f1_1_3 {L : Nat} {xs : Nat → Int} {vb : Bool} {d : Nat} {σ α : Nat → Nat → Int} {κ : Nat → Option Nat} {ρ : Nat} {x4 : Int} {x5 : Int} {x6 : Int} (hI : qI σ α κ ρ) (r4 : (-2147483648) ≤ x4 ∧ x4 ≤ 2147483647) (r5 : (-2147483648) ≤ x5 ∧ x5 ≤ 2147483647) (r6 : 0 ≤ x6 ∧ x6 ≤ 36) (p0 : 0 ≤ σ 42 1 ∧ σ 42 1 ≤ 1600) : qm_T (qe L xs vb) (d + 10) 152 [.ref 42, .int (qz 1), .int (qz 1), .int (qz 3), .int (qz x4), .int (qz x5), .int (qz x6)] (qw σ α κ ρ) (fun r w' => ∃ σ' α', w' = qw σ' α' κ ρ ∧ qI σ' α' κ ρ ∧ qFr [(42, 1)] [43] σ α σ' α' ∧ ∃ v : Int, r = some (.int (qz v)) ∧ ((-2147483648) ≤ v ∧ v ≤ 2147483647) ∧ σ' 42 1 = σ 42 1 + 5) := by
  refine qr_start (d := d + 9) qv_e152 (Nat.le_of_ble_eq_true rfl) ?_
  show qr_W (qe L xs vb) (d + 9) qx_e152 _ (0, [(0, .ref 42), (1, .int (qz 1)), (2, .int (qz 1)), (3, .int (qz 3)), (4, .int (qz x4)), (5, .int (qz x5)), (6, .int (qz x6))], [], _, 0, 0)
  have hF0 := qFr_rf [(42, 1)] [43] σ α
  have hz42_1 : (-2147483648) ≤ σ 42 1 ∧ σ 42 1 ≤ 2147483647 := hI.1 42 1
  refine qr_iload_n 1 rfl rfl rfl ?_
  refine qr_istore _ 3 rfl (by decide) rfl rfl ?_
  refine qr_iconst 4 rfl rfl ?_
  refine qr_istore _ 6 rfl (by decide) rfl rfl ?_
  refine qr_iload 8 rfl rfl rfl ?_
  refine qr_getst 11 rfl rfl ?_
  refine qr_alen 12 rfl rfl (by first | exact Or.inl (by decide) | exact Or.inr (Or.inl rfl) | exact Or.inr (Or.inr (Or.inl rfl)) | exact Or.inr (Or.inr (Or.inr (Or.inl rfl)))) rfl ?_
  refine qy_v 7 rfl ?_
  refine qr_icmp_ge 89 15 rfl rfl rfl (by decide) (by decide) (fun h => False.elim (by omega)) (fun h1 => ?_)
  refine qr_iload 17 rfl rfl rfl ?_
  refine qr_if_lt 89 20 rfl rfl rfl (by decide) (fun h => False.elim (by omega)) (fun h2 => ?_)
  refine qr_iload 22 rfl rfl rfl ?_
  refine qr_getst 25 rfl rfl ?_
  refine qr_alen 26 rfl rfl (by first | exact Or.inl (by decide) | exact Or.inr (Or.inl rfl) | exact Or.inr (Or.inr (Or.inl rfl)) | exact Or.inr (Or.inr (Or.inr (Or.inl rfl)))) rfl ?_
  refine qy_v 7 rfl ?_
  refine qr_icmp_ge 89 29 rfl rfl rfl (by decide) (by decide) (fun h => False.elim (by omega)) (fun h3 => ?_)
  refine qr_getst 32 rfl rfl ?_
  refine qr_iload 34 rfl rfl rfl ?_
  refine qr_iconst 35 rfl rfl ?_
  refine qr_imul 36 rfl rfl ?_
  refine qy_v 4 rfl ?_
  refine qr_iload_n 37 rfl rfl rfl ?_
  refine qr_iadd 38 rfl rfl ?_
  refine qy_v 7 rfl ?_
  refine qr_iaload 39 rfl rfl (by decide) (by decide) rfl ?_
  refine qy_v 0 (by decide) ?_
  refine qr_istore _ 41 rfl (by decide) rfl rfl ?_
  refine qr_iload 43 rfl rfl rfl ?_
  refine qr_if_eq 75 46 rfl rfl rfl (by decide) (fun h4 => ?_) (fun h => False.elim (by omega))
  refine qr_getst 78 rfl rfl ?_
  refine qr_iload 80 rfl rfl rfl ?_
  refine qr_iaload 81 rfl rfl (by decide) (by decide) rfl ?_
  refine qy_v 0 (by decide) ?_
  refine qr_istore _ 83 rfl (by decide) rfl rfl ?_
  refine qr_iinc _ 86 rfl rfl (by decide) rfl rfl ?_
  refine qr_goto 6 rfl rfl ?_
  refine qr_iload 8 rfl rfl rfl ?_
  refine qr_getst 11 rfl rfl ?_
  refine qr_alen 12 rfl rfl (by first | exact Or.inl (by decide) | exact Or.inr (Or.inl rfl) | exact Or.inr (Or.inr (Or.inl rfl)) | exact Or.inr (Or.inr (Or.inr (Or.inl rfl)))) rfl ?_
  refine qy_v 7 rfl ?_
  refine qr_icmp_ge 89 15 rfl rfl rfl (by omega) (by decide) (fun h => False.elim (by omega)) (fun h5 => ?_)
  refine qr_iload 17 rfl rfl rfl ?_
  refine qr_if_lt 89 20 rfl rfl rfl (by decide) (fun h => False.elim (by omega)) (fun h6 => ?_)
  refine qr_iload 22 rfl rfl rfl ?_
  refine qr_getst 25 rfl rfl ?_
  refine qr_alen 26 rfl rfl (by first | exact Or.inl (by decide) | exact Or.inr (Or.inl rfl) | exact Or.inr (Or.inr (Or.inl rfl)) | exact Or.inr (Or.inr (Or.inr (Or.inl rfl)))) rfl ?_
  refine qy_v 7 rfl ?_
  refine qr_icmp_ge 89 29 rfl rfl rfl (by decide) (by decide) (fun h => False.elim (by omega)) (fun h7 => ?_)
  refine qr_getst 32 rfl rfl ?_
  refine qr_iload 34 rfl rfl rfl ?_
  refine qr_iconst 35 rfl rfl ?_
  refine qr_imul 36 rfl rfl ?_
  refine qy_v 0 rfl ?_
  refine qr_iload_n 37 rfl rfl rfl ?_
  refine qr_iadd 38 rfl rfl ?_
  refine qy_v 3 rfl ?_
  refine qr_iaload 39 rfl rfl (by decide) (by decide) rfl ?_
  refine qy_v 2 (by decide) ?_
  refine qr_istore _ 41 rfl (by decide) rfl rfl ?_
  refine qr_iload 43 rfl rfl rfl ?_
  refine qr_if_eq 75 46 rfl rfl rfl (by decide) (fun h => False.elim (by omega)) (fun h8 => ?_)
  as_aux_lemma =>
    refine qr_iload 48 rfl rfl rfl ?_
    refine qr_bipush 50 rfl (by decide) rfl ?_
    refine qr_icmp_le 57 53 rfl rfl rfl (qrg r6 (by decide) (by decide)) (by decide) (fun h9 => ?_) (fun h => False.elim (by omega))
    refine qr_aload_n 58 rfl rfl rfl ?_
    refine qr_iload 60 rfl rfl rfl ?_
    refine qr_iload 62 rfl rfl rfl ?_
    refine qr_iload_n 63 rfl rfl rfl ?_
    refine qr_iload 65 rfl rfl rfl ?_
    refine qr_iload 67 rfl rfl rfl ?_
    refine qr_iload 69 rfl rfl rfl ?_
    refine qr_iconst 70 rfl rfl ?_
    refine qr_iadd 71 rfl rfl ?_
    have hs10 : (-2147483648) ≤ σ 42 1 ∧ σ 42 1 ≤ 2147483647 := hI.1 42 1
    refine qr_callN 74 rfl rfl rfl (sf_153_42b2_0_1 (d := d + 0) hI r4 r5 (by omega) (by omega)) ?_
    have hs13 : (-2147483648) ≤ σ 42 1 ∧ σ 42 1 ≤ 2147483647 := hI.1 42 1
    rintro _ _ ⟨σ14, α15, rfl, hI16, hG17, v11, rfl, hv11, hp12⟩
    have hF18 : qFr [(42, 1)] [43] σ α σ14 α15 := qFr_t hF0 hG17 (by decide) (by decide)
    have hs19 : (-2147483648) ≤ σ14 42 1 ∧ σ14 42 1 ≤ 2147483647 := hI16.1 42 1
    show qr_W (qe L xs vb) (d + 9) qx_e152 _ (74, _, [.int (qz v11)], qw σ14 α15 κ ρ, 0, 0)
    refine qr_retI rfl rfl (by decide) (by decide) ?_
    have hw20 : σ14 42 1 = (σ14 42 1) := rfl
    exact ⟨_, _, rfl, hI16, hF18, v11, rfl, hv11, by omega⟩

set_option maxHeartbeats 4000000 in
set_option maxRecDepth 20000 in
/-- OneRoof$Acts.run -/
theorem sf_151_42r1_3 {L : Nat} {xs : Nat → Int} {vb : Bool} {d : Nat} {σ α : Nat → Nat → Int} {κ : Nat → Option Nat} {ρ : Nat} {x3 : Int} {x4 : Int} {x5 : Int} (hI : qI σ α κ ρ) (r3 : (-2147483648) ≤ x3 ∧ x3 ≤ 2147483647) (r4 : (-2147483648) ≤ x4 ∧ x4 ≤ 2147483647) (r5 : 0 ≤ x5 ∧ x5 ≤ 36) (p0 : 0 ≤ σ 42 1 ∧ σ 42 1 ≤ 1600) : qm_T (qe L xs vb) (d + 11) 151 [.ref 42, .int (qz 1), .int (qz 3), .int (qz x3), .int (qz x4), .int (qz x5)] (qw σ α κ ρ) (fun r w' => ∃ σ' α', w' = qw σ' α' κ ρ ∧ qI σ' α' κ ρ ∧ qFr [(42, 1)] [43] σ α σ' α' ∧ ∃ v : Int, r = some (.int (qz v)) ∧ ((-2147483648) ≤ v ∧ v ≤ 2147483647) ∧ σ' 42 1 = σ 42 1 + 5) := by
  refine qr_start (d := d + 10) qv_e151 (Nat.le_of_ble_eq_true rfl) ?_
  show qr_W (qe L xs vb) (d + 10) qx_e151 _ (0, [(0, .ref 42), (1, .int (qz 1)), (2, .int (qz 3)), (3, .int (qz x3)), (4, .int (qz x4)), (5, .int (qz x5))], [], _, 0, 0)
  have hF0 := qFr_rf [(42, 1)] [43] σ α
  have hz42_1 : (-2147483648) ≤ σ 42 1 ∧ σ 42 1 ≤ 2147483647 := hI.1 42 1
  refine qr_aload_n 1 rfl rfl rfl ?_
  refine qr_iload_n 2 rfl rfl rfl ?_
  refine qr_iload_n 3 rfl rfl rfl ?_
  refine qr_iload_n 4 rfl rfl rfl ?_
  refine qr_iload_n 5 rfl rfl rfl ?_
  refine qr_iload 7 rfl rfl rfl ?_
  refine qr_iload 9 rfl rfl rfl ?_
  have hs1 : (-2147483648) ≤ σ 42 1 ∧ σ 42 1 ≤ 2147483647 := hI.1 42 1
  refine qr_callN 12 rfl rfl rfl (sf_152_42f1_1_3 (d := d + 0) hI r3 r4 r5 (by omega)) ?_
  have hs4 : (-2147483648) ≤ σ 42 1 ∧ σ 42 1 ≤ 2147483647 := hI.1 42 1
  rintro _ _ ⟨σ5, α6, rfl, hI7, hG8, v2, rfl, hv2, hp3⟩
  have hF9 : qFr [(42, 1)] [43] σ α σ5 α6 := qFr_t hF0 hG8 (by decide) (by decide)
  have hs10 : (-2147483648) ≤ σ5 42 1 ∧ σ5 42 1 ≤ 2147483647 := hI7.1 42 1
  show qr_W (qe L xs vb) (d + 10) qx_e151 _ (12, _, [.int (qz v2)], qw σ5 α6 κ ρ, 0, 0)
  refine qr_retI rfl rfl (by decide) (by decide) ?_
  have hw11 : σ5 42 1 = (σ5 42 1) := rfl
  exact ⟨_, _, rfl, hI7, hF9, v2, rfl, hv2, by omega⟩

set_option maxHeartbeats 4000000 in
set_option maxRecDepth 20000 in
/-- OneRoof$Acts.start -/
theorem sf_150_42s1_3 {L : Nat} {xs : Nat → Int} {vb : Bool} {d : Nat} {σ α : Nat → Nat → Int} {κ : Nat → Option Nat} {ρ : Nat} {x3 : Int} {x4 : Int} (hI : qI σ α κ ρ) (r3 : (-2147483648) ≤ x3 ∧ x3 ≤ 2147483647) (r4 : (-2147483648) ≤ x4 ∧ x4 ≤ 2147483647) (p0 : σ 42 1 = 0) : qm_T (qe L xs vb) (d + 12) 150 [.ref 42, .int (qz 1), .int (qz 3), .int (qz x3), .int (qz x4)] (qw σ α κ ρ) (fun r w' => ∃ σ' α', w' = qw σ' α' κ ρ ∧ qI σ' α' κ ρ ∧ qFr [(42, 1)] [43] σ α σ' α' ∧ ∃ v : Int, r = some (.int (qz v)) ∧ ((-2147483648) ≤ v ∧ v ≤ 2147483647)) := by
  refine qr_start (d := d + 11) qv_e150 (Nat.le_of_ble_eq_true rfl) ?_
  show qr_W (qe L xs vb) (d + 11) qx_e150 _ (0, [(0, .ref 42), (1, .int (qz 1)), (2, .int (qz 3)), (3, .int (qz x3)), (4, .int (qz x4))], [], _, 0, 0)
  have hF0 := qFr_rf [(42, 1)] [43] σ α
  have hz42_1 : (-2147483648) ≤ σ 42 1 ∧ σ 42 1 ≤ 2147483647 := hI.1 42 1
  refine qr_aload_n 1 rfl rfl rfl ?_
  refine qr_iload_n 2 rfl rfl rfl ?_
  refine qr_iload_n 3 rfl rfl rfl ?_
  refine qr_iload_n 4 rfl rfl rfl ?_
  refine qr_iload 6 rfl rfl rfl ?_
  refine qr_iconst 7 rfl rfl ?_
  have hs1 : (-2147483648) ≤ σ 42 1 ∧ σ 42 1 ≤ 2147483647 := hI.1 42 1
  refine qr_callN 10 rfl rfl rfl (sf_151_42r1_3 (d := d + 0) hI r3 r4 (by decide) (by omega)) ?_
  have hs4 : (-2147483648) ≤ σ 42 1 ∧ σ 42 1 ≤ 2147483647 := hI.1 42 1
  rintro _ _ ⟨σ5, α6, rfl, hI7, hG8, v2, rfl, hv2, hp3⟩
  have hF9 : qFr [(42, 1)] [43] σ α σ5 α6 := qFr_t hF0 hG8 (by decide) (by decide)
  have hs10 : (-2147483648) ≤ σ5 42 1 ∧ σ5 42 1 ≤ 2147483647 := hI7.1 42 1
  show qr_W (qe L xs vb) (d + 11) qx_e150 _ (10, _, [.int (qz v2)], qw σ5 α6 κ ρ, 0, 0)
  refine qr_retI rfl rfl (by decide) (by decide) ?_
  exact ⟨_, _, rfl, hI7, hF9, v2, rfl, hv2⟩

set_option maxHeartbeats 4000000 in
set_option maxRecDepth 20000 in
/-- OneRoof$Acts.begin -/
theorem sf_153_42b2_0_2 {L : Nat} {xs : Nat → Int} {vb : Bool} {d : Nat} {σ α : Nat → Nat → Int} {κ : Nat → Option Nat} {ρ : Nat} {x4 : Int} {x5 : Int} {x6 : Int} (hI : qI σ α κ ρ) (r4 : (-2147483648) ≤ x4 ∧ x4 ≤ 2147483647) (r5 : (-2147483648) ≤ x5 ∧ x5 ≤ 2147483647) (r6 : 0 ≤ x6 ∧ x6 ≤ 36) (p0 : 0 ≤ σ 42 1 ∧ σ 42 1 ≤ 1500) : qm_T (qe L xs vb) (d + 11) 153 [.ref 42, .int (qz 2), .int (qz 0), .int (qz 2), .int (qz x4), .int (qz x5), .int (qz x6)] (qw σ α κ ρ) (fun r w' => ∃ σ' α', w' = qw σ' α' κ ρ ∧ qI σ' α' κ ρ ∧ qFr [(42, 1)] [43] σ α σ' α' ∧ ∃ v : Int, r = some (.int (qz v)) ∧ ((-2147483648) ≤ v ∧ v ≤ 2147483647) ∧ σ' 42 1 = σ 42 1 + 7) := by
  refine qr_start (d := d + 10) qv_e153 (Nat.le_of_ble_eq_true rfl) ?_
  show qr_W (qe L xs vb) (d + 10) qx_e153 _ (0, [(0, .ref 42), (1, .int (qz 2)), (2, .int (qz 0)), (3, .int (qz 2)), (4, .int (qz x4)), (5, .int (qz x5)), (6, .int (qz x6))], [], _, 0, 0)
  have hF0 := qFr_rf [(42, 1)] [43] σ α
  have hz42_1 : (-2147483648) ≤ σ 42 1 ∧ σ 42 1 ≤ 2147483647 := hI.1 42 1
  refine qr_aload_n 1 rfl rfl rfl ?_
  refine qr_get 4 rfl rfl rfl (by decide) rfl ?_
  refine qr_aload_n 5 rfl rfl rfl ?_
  refine qr_get 8 rfl rfl rfl (by decide) rfl ?_
  refine qr_alen 9 rfl rfl (by first | exact Or.inl (by decide) | exact Or.inr (Or.inl rfl) | exact Or.inr (Or.inr (Or.inl rfl)) | exact Or.inr (Or.inr (Or.inr (Or.inl rfl)))) rfl ?_
  refine qy_v 24 rfl ?_
  refine qr_icmp_ge 22 12 rfl rfl rfl hz42_1 (by decide) (fun h1 => ?_) (fun h1 => ?_)
  · skip
    refine qr_aload_n 23 rfl rfl rfl ?_
    refine qr_dup 24 rfl rfl rfl ?_
    refine qr_get 27 rfl rfl rfl (by decide) rfl ?_
    refine qr_iconst 28 rfl rfl ?_
    refine qr_iadd 29 rfl rfl ?_
    refine qr_put 32 rfl (by decide) rfl (Nat.le_of_ble_eq_true rfl) (Nat.le_of_ble_eq_true rfl) (Or.inl rfl) (qr_fitI rfl _) rfl ?_
    refine qy_wS (qw_s σ 42 1 ((σ 42 1) + 1)) rfl (fun σ2 e3 => ?_)
    have hI4 : qI σ2 α κ ρ := by rw [e3]; exact qI_s hI 42 1 rfl (show (-2147483648) ≤ ((σ 42 1) + 1) ∧ ((σ 42 1) + 1) ≤ 2147483647 by omega)
    have hF5 : qFr [(42, 1)] [43] σ α σ2 α := by rw [e3]; exact qFr_s hF0 42 1 _ (by decide)
    refine qr_getst 35 rfl rfl ?_
    refine qr_iload_n 36 rfl rfl rfl ?_
    refine qr_iaload 37 rfl rfl (by decide) (by decide) rfl ?_
    refine qy_v (-1) (by decide) ?_
    refine qr_istore _ 39 rfl (by decide) rfl rfl ?_
    refine qr_iload_n 40 rfl rfl rfl ?_
    refine qr_look (off := 114) 154 rfl (by omega) (by decide) (by decide) rfl ?_
    refine qr_aload_n 155 rfl rfl rfl ?_
    refine qr_iload_n 156 rfl rfl rfl ?_
    refine qr_iconst 157 rfl rfl ?_
    refine qr_iload 159 rfl rfl rfl ?_
    refine qr_iload 161 rfl rfl rfl ?_
    refine qr_iload 163 rfl rfl rfl ?_
    have hs6 : (-2147483648) ≤ σ2 42 1 ∧ σ2 42 1 ≤ 2147483647 := hI4.1 42 1
    have hs7 : σ2 42 1 = ((σ 42 1) + 1) := (congrFun (congrFun e3 42) 1).trans rfl
    refine qr_callN 166 rfl rfl rfl (sf_151_42r2_1 (d := d + 0) hI4 r4 r5 r6 (by omega)) ?_
    have hs10 : (-2147483648) ≤ σ2 42 1 ∧ σ2 42 1 ≤ 2147483647 := hI4.1 42 1
    have hs11 : σ2 42 1 = ((σ 42 1) + 1) := (congrFun (congrFun e3 42) 1).trans rfl
    rintro _ _ ⟨σ12, α13, rfl, hI14, hG15, v8, rfl, hv8, hp9⟩
    have hF16 : qFr [(42, 1)] [43] σ α σ12 α13 := qFr_t hF5 hG15 (by decide) (by decide)
    have hs17 : (-2147483648) ≤ σ12 42 1 ∧ σ12 42 1 ≤ 2147483647 := hI14.1 42 1
    show qr_W (qe L xs vb) (d + 10) qx_e153 _ (166, _, [.int (qz v8)], qw σ12 α13 κ ρ, 0, 0)
    refine qr_aload_n 167 rfl rfl rfl ?_
    refine qr_iload_n 168 rfl rfl rfl ?_
    refine qr_iconst 169 rfl rfl ?_
    refine qr_iconst 170 rfl rfl ?_
    refine qr_iload 172 rfl rfl rfl ?_
    refine qr_iload 174 rfl rfl rfl ?_
    have hs18 : (-2147483648) ≤ σ12 42 1 ∧ σ12 42 1 ≤ 2147483647 := hI14.1 42 1
    refine qr_callN 177 rfl rfl rfl (sf_151_42r2_2 (d := d + 5) hI14 (by decide) r5 (qrg r6 (by decide) (by decide)) (by omega)) ?_
    have hs21 : (-2147483648) ≤ σ12 42 1 ∧ σ12 42 1 ≤ 2147483647 := hI14.1 42 1
    rintro _ _ ⟨σ22, α23, rfl, hI24, hG25, v19, rfl, hv19, hp20⟩
    have hF26 : qFr [(42, 1)] [43] σ α σ22 α23 := qFr_t hF16 hG25 (by decide) (by decide)
    have hs27 : (-2147483648) ≤ σ22 42 1 ∧ σ22 42 1 ≤ 2147483647 := hI24.1 42 1
    show qr_W (qe L xs vb) (d + 10) qx_e153 _ (177, _, [.int (qz v19), .int (qz v8)], qw σ22 α23 κ ρ, 0, 0)
    refine qr_isub 178 rfl rfl ?_
    refine qy_can (fun v28 hv28 => ?_)
    refine qr_retI rfl rfl (by decide) (by decide) ?_
    have hw29 : σ22 42 1 = (σ22 42 1) := rfl
    exact ⟨_, _, rfl, hI24, hF26, v28, rfl, hv28, by omega⟩
  · skip
    refine qr_aload_n 13 rfl rfl rfl ?_
    refine qr_get 16 rfl rfl rfl (by decide) rfl ?_
    refine qr_aload_n 17 rfl rfl rfl ?_
    refine qr_get 20 rfl rfl rfl (by decide) rfl ?_
    refine qr_iload_n 21 rfl rfl rfl ?_
    refine qr_iastore 22 rfl (by decide) rfl (by omega) (by decide) rfl ?_
    refine qy_wA (qw_r α 43 (qzu (α 43) ((σ 42 1) : Int).toNat 2)) rfl (fun α30 e31 => ?_)
    have hI32 : qI σ α30 κ ρ := by rw [e31]; exact qI_r hI 43 _ rfl (show (-2147483648) ≤ 2 ∧ 2 ≤ 2147483647 by omega)
    have hF33 : qFr [(42, 1)] [43] σ α σ α30 := by rw [e31]; exact qFr_r hF0 43 _ (by decide)
    refine qr_aload_n 23 rfl rfl rfl ?_
    refine qr_dup 24 rfl rfl rfl ?_
    refine qr_get 27 rfl rfl rfl (by decide) rfl ?_
    refine qr_iconst 28 rfl rfl ?_
    refine qr_iadd 29 rfl rfl ?_
    refine qr_put 32 rfl (by decide) rfl (Nat.le_of_ble_eq_true rfl) (Nat.le_of_ble_eq_true rfl) (Or.inl rfl) (qr_fitI rfl _) rfl ?_
    refine qy_wS (qw_s σ 42 1 ((σ 42 1) + 1)) rfl (fun σ34 e35 => ?_)
    have hI36 : qI σ34 α30 κ ρ := by rw [e35]; exact qI_s hI32 42 1 rfl (show (-2147483648) ≤ ((σ 42 1) + 1) ∧ ((σ 42 1) + 1) ≤ 2147483647 by omega)
    have hF37 : qFr [(42, 1)] [43] σ α σ34 α30 := by rw [e35]; exact qFr_s hF33 42 1 _ (by decide)
    refine qr_getst 35 rfl rfl ?_
    refine qr_iload_n 36 rfl rfl rfl ?_
    refine qr_iaload 37 rfl rfl (by decide) (by decide) rfl ?_
    refine qy_v (-1) (by decide) ?_
    refine qr_istore _ 39 rfl (by decide) rfl rfl ?_
    refine qr_iload_n 40 rfl rfl rfl ?_
    refine qr_look (off := 114) 154 rfl (by omega) (by decide) (by decide) rfl ?_
    refine qr_aload_n 155 rfl rfl rfl ?_
    refine qr_iload_n 156 rfl rfl rfl ?_
    refine qr_iconst 157 rfl rfl ?_
    refine qr_iload 159 rfl rfl rfl ?_
    refine qr_iload 161 rfl rfl rfl ?_
    refine qr_iload 163 rfl rfl rfl ?_
    have hs38 : (-2147483648) ≤ σ34 42 1 ∧ σ34 42 1 ≤ 2147483647 := hI36.1 42 1
    have hs39 : σ34 42 1 = ((σ 42 1) + 1) := (congrFun (congrFun e35 42) 1).trans rfl
    refine qr_callN 166 rfl rfl rfl (sf_151_42r2_1 (d := d + 0) hI36 r4 r5 r6 (by omega)) ?_
    have hs42 : (-2147483648) ≤ σ34 42 1 ∧ σ34 42 1 ≤ 2147483647 := hI36.1 42 1
    have hs43 : σ34 42 1 = ((σ 42 1) + 1) := (congrFun (congrFun e35 42) 1).trans rfl
    rintro _ _ ⟨σ44, α45, rfl, hI46, hG47, v40, rfl, hv40, hp41⟩
    have hF48 : qFr [(42, 1)] [43] σ α σ44 α45 := qFr_t hF37 hG47 (by decide) (by decide)
    have hs49 : (-2147483648) ≤ σ44 42 1 ∧ σ44 42 1 ≤ 2147483647 := hI46.1 42 1
    show qr_W (qe L xs vb) (d + 10) qx_e153 _ (166, _, [.int (qz v40)], qw σ44 α45 κ ρ, 0, 0)
    refine qr_aload_n 167 rfl rfl rfl ?_
    refine qr_iload_n 168 rfl rfl rfl ?_
    refine qr_iconst 169 rfl rfl ?_
    refine qr_iconst 170 rfl rfl ?_
    refine qr_iload 172 rfl rfl rfl ?_
    refine qr_iload 174 rfl rfl rfl ?_
    have hs50 : (-2147483648) ≤ σ44 42 1 ∧ σ44 42 1 ≤ 2147483647 := hI46.1 42 1
    refine qr_callN 177 rfl rfl rfl (sf_151_42r2_2 (d := d + 5) hI46 (by decide) r5 (qrg r6 (by decide) (by decide)) (by omega)) ?_
    have hs53 : (-2147483648) ≤ σ44 42 1 ∧ σ44 42 1 ≤ 2147483647 := hI46.1 42 1
    rintro _ _ ⟨σ54, α55, rfl, hI56, hG57, v51, rfl, hv51, hp52⟩
    have hF58 : qFr [(42, 1)] [43] σ α σ54 α55 := qFr_t hF48 hG57 (by decide) (by decide)
    have hs59 : (-2147483648) ≤ σ54 42 1 ∧ σ54 42 1 ≤ 2147483647 := hI56.1 42 1
    show qr_W (qe L xs vb) (d + 10) qx_e153 _ (177, _, [.int (qz v51), .int (qz v40)], qw σ54 α55 κ ρ, 0, 0)
    refine qr_isub 178 rfl rfl ?_
    refine qy_can (fun v60 hv60 => ?_)
    refine qr_retI rfl rfl (by decide) (by decide) ?_
    have hw61 : σ54 42 1 = (σ54 42 1) := rfl
    exact ⟨_, _, rfl, hI56, hF58, v60, rfl, hv60, by omega⟩

set_option maxHeartbeats 4000000 in
set_option maxRecDepth 20000 in
/-- OneRoof$Acts.runFrom -/
theorem sf_152_42f2_2_3 {L : Nat} {xs : Nat → Int} {vb : Bool} {d : Nat} {σ α : Nat → Nat → Int} {κ : Nat → Option Nat} {ρ : Nat} {x4 : Int} {x5 : Int} {x6 : Int} (hI : qI σ α κ ρ) (r4 : (-2147483648) ≤ x4 ∧ x4 ≤ 2147483647) (r5 : (-2147483648) ≤ x5 ∧ x5 ≤ 2147483647) (r6 : 0 ≤ x6 ∧ x6 ≤ 35) (p0 : 0 ≤ σ 42 1 ∧ σ 42 1 ≤ 1500) : qm_T (qe L xs vb) (d + 12) 152 [.ref 42, .int (qz 2), .int (qz 2), .int (qz 3), .int (qz x4), .int (qz x5), .int (qz x6)] (qw σ α κ ρ) (fun r w' => ∃ σ' α', w' = qw σ' α' κ ρ ∧ qI σ' α' κ ρ ∧ qFr [(42, 1)] [43] σ α σ' α' ∧ ∃ v : Int, r = some (.int (qz v)) ∧ ((-2147483648) ≤ v ∧ v ≤ 2147483647) ∧ σ' 42 1 = σ 42 1 + 7) := by
  refine qr_start (d := d + 11) qv_e152 (Nat.le_of_ble_eq_true rfl) ?_
  show qr_W (qe L xs vb) (d + 11) qx_e152 _ (0, [(0, .ref 42), (1, .int (qz 2)), (2, .int (qz 2)), (3, .int (qz 3)), (4, .int (qz x4)), (5, .int (qz x5)), (6, .int (qz x6))], [], _, 0, 0)
  have hF0 := qFr_rf [(42, 1)] [43] σ α
  have hz42_1 : (-2147483648) ≤ σ 42 1 ∧ σ 42 1 ≤ 2147483647 := hI.1 42 1
  refine qr_iload_n 1 rfl rfl rfl ?_
  refine qr_istore _ 3 rfl (by decide) rfl rfl ?_
  refine qr_iconst 4 rfl rfl ?_
  refine qr_istore _ 6 rfl (by decide) rfl rfl ?_
  refine qr_iload 8 rfl rfl rfl ?_
  refine qr_getst 11 rfl rfl ?_
  refine qr_alen 12 rfl rfl (by first | exact Or.inl (by decide) | exact Or.inr (Or.inl rfl) | exact Or.inr (Or.inr (Or.inl rfl)) | exact Or.inr (Or.inr (Or.inr (Or.inl rfl)))) rfl ?_
  refine qy_v 7 rfl ?_
  refine qr_icmp_ge 89 15 rfl rfl rfl (by decide) (by decide) (fun h => False.elim (by omega)) (fun h1 => ?_)
  refine qr_iload 17 rfl rfl rfl ?_
  refine qr_if_lt 89 20 rfl rfl rfl (by decide) (fun h => False.elim (by omega)) (fun h2 => ?_)
  refine qr_iload 22 rfl rfl rfl ?_
  refine qr_getst 25 rfl rfl ?_
  refine qr_alen 26 rfl rfl (by first | exact Or.inl (by decide) | exact Or.inr (Or.inl rfl) | exact Or.inr (Or.inr (Or.inl rfl)) | exact Or.inr (Or.inr (Or.inr (Or.inl rfl)))) rfl ?_
  refine qy_v 7 rfl ?_
  refine qr_icmp_ge 89 29 rfl rfl rfl (by decide) (by decide) (fun h => False.elim (by omega)) (fun h3 => ?_)
  refine qr_getst 32 rfl rfl ?_
  refine qr_iload 34 rfl rfl rfl ?_
  refine qr_iconst 35 rfl rfl ?_
  refine qr_imul 36 rfl rfl ?_
  refine qy_v 8 rfl ?_
  refine qr_iload_n 37 rfl rfl rfl ?_
  refine qr_iadd 38 rfl rfl ?_
  refine qy_v 11 rfl ?_
  refine qr_iaload 39 rfl rfl (by decide) (by decide) rfl ?_
  refine qy_v 0 (by decide) ?_
  refine qr_istore _ 41 rfl (by decide) rfl rfl ?_
  refine qr_iload 43 rfl rfl rfl ?_
  refine qr_if_eq 75 46 rfl rfl rfl (by decide) (fun h4 => ?_) (fun h => False.elim (by omega))
  refine qr_getst 78 rfl rfl ?_
  refine qr_iload 80 rfl rfl rfl ?_
  refine qr_iaload 81 rfl rfl (by decide) (by decide) rfl ?_
  refine qy_v 1 (by decide) ?_
  refine qr_istore _ 83 rfl (by decide) rfl rfl ?_
  refine qr_iinc _ 86 rfl rfl (by decide) rfl rfl ?_
  refine qr_goto 6 rfl rfl ?_
  refine qr_iload 8 rfl rfl rfl ?_
  refine qr_getst 11 rfl rfl ?_
  refine qr_alen 12 rfl rfl (by first | exact Or.inl (by decide) | exact Or.inr (Or.inl rfl) | exact Or.inr (Or.inr (Or.inl rfl)) | exact Or.inr (Or.inr (Or.inr (Or.inl rfl)))) rfl ?_
  refine qy_v 7 rfl ?_
  refine qr_icmp_ge 89 15 rfl rfl rfl (by omega) (by decide) (fun h => False.elim (by omega)) (fun h5 => ?_)
  refine qr_iload 17 rfl rfl rfl ?_
  refine qr_if_lt 89 20 rfl rfl rfl (by decide) (fun h => False.elim (by omega)) (fun h6 => ?_)
  refine qr_iload 22 rfl rfl rfl ?_
  refine qr_getst 25 rfl rfl ?_
  refine qr_alen 26 rfl rfl (by first | exact Or.inl (by decide) | exact Or.inr (Or.inl rfl) | exact Or.inr (Or.inr (Or.inl rfl)) | exact Or.inr (Or.inr (Or.inr (Or.inl rfl)))) rfl ?_
  refine qy_v 7 rfl ?_
  refine qr_icmp_ge 89 29 rfl rfl rfl (by decide) (by decide) (fun h => False.elim (by omega)) (fun h7 => ?_)
  refine qr_getst 32 rfl rfl ?_
  refine qr_iload 34 rfl rfl rfl ?_
  refine qr_iconst 35 rfl rfl ?_
  refine qr_imul 36 rfl rfl ?_
  refine qy_v 4 rfl ?_
  refine qr_iload_n 37 rfl rfl rfl ?_
  refine qr_iadd 38 rfl rfl ?_
  refine qy_v 7 rfl ?_
  refine qr_iaload 39 rfl rfl (by decide) (by decide) rfl ?_
  refine qy_v 0 (by decide) ?_
  refine qr_istore _ 41 rfl (by decide) rfl rfl ?_
  refine qr_iload 43 rfl rfl rfl ?_
  refine qr_if_eq 75 46 rfl rfl rfl (by decide) (fun h8 => ?_) (fun h => False.elim (by omega))
  as_aux_lemma =>
    refine qr_getst 78 rfl rfl ?_
    refine qr_iload 80 rfl rfl rfl ?_
    refine qr_iaload 81 rfl rfl (by decide) (by decide) rfl ?_
    refine qy_v 0 (by decide) ?_
    refine qr_istore _ 83 rfl (by decide) rfl rfl ?_
    refine qr_iinc _ 86 rfl rfl (by decide) rfl rfl ?_
    refine qr_goto 6 rfl rfl ?_
    refine qr_iload 8 rfl rfl rfl ?_
    refine qr_getst 11 rfl rfl ?_
    refine qr_alen 12 rfl rfl (by first | exact Or.inl (by decide) | exact Or.inr (Or.inl rfl) | exact Or.inr (Or.inr (Or.inl rfl)) | exact Or.inr (Or.inr (Or.inr (Or.inl rfl)))) rfl ?_
    refine qy_v 7 rfl ?_
    refine qr_icmp_ge 89 15 rfl rfl rfl (by omega) (by decide) (fun h => False.elim (by omega)) (fun h9 => ?_)
    refine qr_iload 17 rfl rfl rfl ?_
    refine qr_if_lt 89 20 rfl rfl rfl (by decide) (fun h => False.elim (by omega)) (fun h10 => ?_)
    refine qr_iload 22 rfl rfl rfl ?_
    refine qr_getst 25 rfl rfl ?_
    refine qr_alen 26 rfl rfl (by first | exact Or.inl (by decide) | exact Or.inr (Or.inl rfl) | exact Or.inr (Or.inr (Or.inl rfl)) | exact Or.inr (Or.inr (Or.inr (Or.inl rfl)))) rfl ?_
    refine qy_v 7 rfl ?_
    refine qr_icmp_ge 89 29 rfl rfl rfl (by decide) (by decide) (fun h => False.elim (by omega)) (fun h11 => ?_)
    refine qr_getst 32 rfl rfl ?_
    refine qr_iload 34 rfl rfl rfl ?_
    refine qr_iconst 35 rfl rfl ?_
    refine qr_imul 36 rfl rfl ?_
    refine qy_v 0 rfl ?_
    refine qr_iload_n 37 rfl rfl rfl ?_
    refine qr_iadd 38 rfl rfl ?_
    refine qy_v 3 rfl ?_
    refine qr_iaload 39 rfl rfl (by decide) (by decide) rfl ?_
    refine qy_v 2 (by decide) ?_
    refine qr_istore _ 41 rfl (by decide) rfl rfl ?_
    refine qr_iload 43 rfl rfl rfl ?_
    refine qr_if_eq 75 46 rfl rfl rfl (by decide) (fun h => False.elim (by omega)) (fun h12 => ?_)
    refine qr_iload 48 rfl rfl rfl ?_
    refine qr_bipush 50 rfl (by decide) rfl ?_
    refine qr_icmp_le 57 53 rfl rfl rfl (qrg r6 (by decide) (by decide)) (by decide) (fun h13 => ?_) (fun h => False.elim (by omega))
    refine qr_aload_n 58 rfl rfl rfl ?_
    refine qr_iload 60 rfl rfl rfl ?_
    refine qr_iload 62 rfl rfl rfl ?_
    refine qr_iload_n 63 rfl rfl rfl ?_
    refine qr_iload 65 rfl rfl rfl ?_
    refine qr_iload 67 rfl rfl rfl ?_
    refine qr_iload 69 rfl rfl rfl ?_
    refine qr_iconst 70 rfl rfl ?_
    refine qr_iadd 71 rfl rfl ?_
    have hs14 : (-2147483648) ≤ σ 42 1 ∧ σ 42 1 ≤ 2147483647 := hI.1 42 1
    refine qr_callN 74 rfl rfl rfl (sf_153_42b2_0_2 (d := d + 0) hI r4 r5 (by omega) (by omega)) ?_
    have hs17 : (-2147483648) ≤ σ 42 1 ∧ σ 42 1 ≤ 2147483647 := hI.1 42 1
    rintro _ _ ⟨σ18, α19, rfl, hI20, hG21, v15, rfl, hv15, hp16⟩
    have hF22 : qFr [(42, 1)] [43] σ α σ18 α19 := qFr_t hF0 hG21 (by decide) (by decide)
    have hs23 : (-2147483648) ≤ σ18 42 1 ∧ σ18 42 1 ≤ 2147483647 := hI20.1 42 1
    show qr_W (qe L xs vb) (d + 11) qx_e152 _ (74, _, [.int (qz v15)], qw σ18 α19 κ ρ, 0, 0)
    refine qr_retI rfl rfl (by decide) (by decide) ?_
    have hw24 : σ18 42 1 = (σ18 42 1) := rfl
    exact ⟨_, _, rfl, hI20, hF22, v15, rfl, hv15, by omega⟩

set_option maxHeartbeats 4000000 in
set_option maxRecDepth 20000 in
/-- OneRoof$Acts.run -/
theorem sf_151_42r2_3 {L : Nat} {xs : Nat → Int} {vb : Bool} {d : Nat} {σ α : Nat → Nat → Int} {κ : Nat → Option Nat} {ρ : Nat} {x3 : Int} {x4 : Int} {x5 : Int} (hI : qI σ α κ ρ) (r3 : (-2147483648) ≤ x3 ∧ x3 ≤ 2147483647) (r4 : (-2147483648) ≤ x4 ∧ x4 ≤ 2147483647) (r5 : 0 ≤ x5 ∧ x5 ≤ 35) (p0 : 0 ≤ σ 42 1 ∧ σ 42 1 ≤ 1500) : qm_T (qe L xs vb) (d + 13) 151 [.ref 42, .int (qz 2), .int (qz 3), .int (qz x3), .int (qz x4), .int (qz x5)] (qw σ α κ ρ) (fun r w' => ∃ σ' α', w' = qw σ' α' κ ρ ∧ qI σ' α' κ ρ ∧ qFr [(42, 1)] [43] σ α σ' α' ∧ ∃ v : Int, r = some (.int (qz v)) ∧ ((-2147483648) ≤ v ∧ v ≤ 2147483647) ∧ σ' 42 1 = σ 42 1 + 7) := by
  refine qr_start (d := d + 12) qv_e151 (Nat.le_of_ble_eq_true rfl) ?_
  show qr_W (qe L xs vb) (d + 12) qx_e151 _ (0, [(0, .ref 42), (1, .int (qz 2)), (2, .int (qz 3)), (3, .int (qz x3)), (4, .int (qz x4)), (5, .int (qz x5))], [], _, 0, 0)
  have hF0 := qFr_rf [(42, 1)] [43] σ α
  have hz42_1 : (-2147483648) ≤ σ 42 1 ∧ σ 42 1 ≤ 2147483647 := hI.1 42 1
  refine qr_aload_n 1 rfl rfl rfl ?_
  refine qr_iload_n 2 rfl rfl rfl ?_
  refine qr_iload_n 3 rfl rfl rfl ?_
  refine qr_iload_n 4 rfl rfl rfl ?_
  refine qr_iload_n 5 rfl rfl rfl ?_
  refine qr_iload 7 rfl rfl rfl ?_
  refine qr_iload 9 rfl rfl rfl ?_
  have hs1 : (-2147483648) ≤ σ 42 1 ∧ σ 42 1 ≤ 2147483647 := hI.1 42 1
  refine qr_callN 12 rfl rfl rfl (sf_152_42f2_2_3 (d := d + 0) hI r3 r4 r5 (by omega)) ?_
  have hs4 : (-2147483648) ≤ σ 42 1 ∧ σ 42 1 ≤ 2147483647 := hI.1 42 1
  rintro _ _ ⟨σ5, α6, rfl, hI7, hG8, v2, rfl, hv2, hp3⟩
  have hF9 : qFr [(42, 1)] [43] σ α σ5 α6 := qFr_t hF0 hG8 (by decide) (by decide)
  have hs10 : (-2147483648) ≤ σ5 42 1 ∧ σ5 42 1 ≤ 2147483647 := hI7.1 42 1
  show qr_W (qe L xs vb) (d + 12) qx_e151 _ (12, _, [.int (qz v2)], qw σ5 α6 κ ρ, 0, 0)
  refine qr_retI rfl rfl (by decide) (by decide) ?_
  have hw11 : σ5 42 1 = (σ5 42 1) := rfl
  exact ⟨_, _, rfl, hI7, hF9, v2, rfl, hv2, by omega⟩

set_option maxHeartbeats 4000000 in
set_option maxRecDepth 20000 in
/-- OneRoof$Acts.start -/
theorem sf_150_42s2_3 {L : Nat} {xs : Nat → Int} {vb : Bool} {d : Nat} {σ α : Nat → Nat → Int} {κ : Nat → Option Nat} {ρ : Nat} {x3 : Int} {x4 : Int} (hI : qI σ α κ ρ) (r3 : (-2147483648) ≤ x3 ∧ x3 ≤ 2147483647) (r4 : (-2147483648) ≤ x4 ∧ x4 ≤ 2147483647) (p0 : σ 42 1 = 0) : qm_T (qe L xs vb) (d + 14) 150 [.ref 42, .int (qz 2), .int (qz 3), .int (qz x3), .int (qz x4)] (qw σ α κ ρ) (fun r w' => ∃ σ' α', w' = qw σ' α' κ ρ ∧ qI σ' α' κ ρ ∧ qFr [(42, 1)] [43] σ α σ' α' ∧ ∃ v : Int, r = some (.int (qz v)) ∧ ((-2147483648) ≤ v ∧ v ≤ 2147483647)) := by
  refine qr_start (d := d + 13) qv_e150 (Nat.le_of_ble_eq_true rfl) ?_
  show qr_W (qe L xs vb) (d + 13) qx_e150 _ (0, [(0, .ref 42), (1, .int (qz 2)), (2, .int (qz 3)), (3, .int (qz x3)), (4, .int (qz x4))], [], _, 0, 0)
  have hF0 := qFr_rf [(42, 1)] [43] σ α
  have hz42_1 : (-2147483648) ≤ σ 42 1 ∧ σ 42 1 ≤ 2147483647 := hI.1 42 1
  refine qr_aload_n 1 rfl rfl rfl ?_
  refine qr_iload_n 2 rfl rfl rfl ?_
  refine qr_iload_n 3 rfl rfl rfl ?_
  refine qr_iload_n 4 rfl rfl rfl ?_
  refine qr_iload 6 rfl rfl rfl ?_
  refine qr_iconst 7 rfl rfl ?_
  have hs1 : (-2147483648) ≤ σ 42 1 ∧ σ 42 1 ≤ 2147483647 := hI.1 42 1
  refine qr_callN 10 rfl rfl rfl (sf_151_42r2_3 (d := d + 0) hI r3 r4 (by decide) (by omega)) ?_
  have hs4 : (-2147483648) ≤ σ 42 1 ∧ σ 42 1 ≤ 2147483647 := hI.1 42 1
  rintro _ _ ⟨σ5, α6, rfl, hI7, hG8, v2, rfl, hv2, hp3⟩
  have hF9 : qFr [(42, 1)] [43] σ α σ5 α6 := qFr_t hF0 hG8 (by decide) (by decide)
  have hs10 : (-2147483648) ≤ σ5 42 1 ∧ σ5 42 1 ≤ 2147483647 := hI7.1 42 1
  show qr_W (qe L xs vb) (d + 13) qx_e150 _ (10, _, [.int (qz v2)], qw σ5 α6 κ ρ, 0, 0)
  refine qr_retI rfl rfl (by decide) (by decide) ?_
  exact ⟨_, _, rfl, hI7, hF9, v2, rfl, hv2⟩

set_option maxHeartbeats 4000000 in
set_option maxRecDepth 20000 in
/-- OneRoof$Acts.begin -/
theorem sf_153_42b2_0_3 {L : Nat} {xs : Nat → Int} {vb : Bool} {d : Nat} {σ α : Nat → Nat → Int} {κ : Nat → Option Nat} {ρ : Nat} {x4 : Int} {x5 : Int} {x6 : Int} (hI : qI σ α κ ρ) (r4 : (-2147483648) ≤ x4 ∧ x4 ≤ 2147483647) (r5 : (-2147483648) ≤ x5 ∧ x5 ≤ 2147483647) (r6 : 0 ≤ x6 ∧ x6 ≤ 37) (p0 : 0 ≤ σ 42 1 ∧ σ 42 1 ≤ 1600) : qm_T (qe L xs vb) (d + 9) 153 [.ref 42, .int (qz 2), .int (qz 0), .int (qz 3), .int (qz x4), .int (qz x5), .int (qz x6)] (qw σ α κ ρ) (fun r w' => ∃ σ' α', w' = qw σ' α' κ ρ ∧ qI σ' α' κ ρ ∧ qFr [(42, 1)] [43] σ α σ' α' ∧ ∃ v : Int, r = some (.int (qz v)) ∧ ((-2147483648) ≤ v ∧ v ≤ 2147483647) ∧ σ' 42 1 = σ 42 1 + 5) := by
  refine qr_start (d := d + 8) qv_e153 (Nat.le_of_ble_eq_true rfl) ?_
  show qr_W (qe L xs vb) (d + 8) qx_e153 _ (0, [(0, .ref 42), (1, .int (qz 2)), (2, .int (qz 0)), (3, .int (qz 3)), (4, .int (qz x4)), (5, .int (qz x5)), (6, .int (qz x6))], [], _, 0, 0)
  have hF0 := qFr_rf [(42, 1)] [43] σ α
  have hz42_1 : (-2147483648) ≤ σ 42 1 ∧ σ 42 1 ≤ 2147483647 := hI.1 42 1
  refine qr_aload_n 1 rfl rfl rfl ?_
  refine qr_get 4 rfl rfl rfl (by decide) rfl ?_
  refine qr_aload_n 5 rfl rfl rfl ?_
  refine qr_get 8 rfl rfl rfl (by decide) rfl ?_
  refine qr_alen 9 rfl rfl (by first | exact Or.inl (by decide) | exact Or.inr (Or.inl rfl) | exact Or.inr (Or.inr (Or.inl rfl)) | exact Or.inr (Or.inr (Or.inr (Or.inl rfl)))) rfl ?_
  refine qy_v 24 rfl ?_
  refine qr_icmp_ge 22 12 rfl rfl rfl hz42_1 (by decide) (fun h1 => ?_) (fun h1 => ?_)
  · skip
    refine qr_aload_n 23 rfl rfl rfl ?_
    refine qr_dup 24 rfl rfl rfl ?_
    refine qr_get 27 rfl rfl rfl (by decide) rfl ?_
    refine qr_iconst 28 rfl rfl ?_
    refine qr_iadd 29 rfl rfl ?_
    refine qr_put 32 rfl (by decide) rfl (Nat.le_of_ble_eq_true rfl) (Nat.le_of_ble_eq_true rfl) (Or.inl rfl) (qr_fitI rfl _) rfl ?_
    refine qy_wS (qw_s σ 42 1 ((σ 42 1) + 1)) rfl (fun σ2 e3 => ?_)
    have hI4 : qI σ2 α κ ρ := by rw [e3]; exact qI_s hI 42 1 rfl (show (-2147483648) ≤ ((σ 42 1) + 1) ∧ ((σ 42 1) + 1) ≤ 2147483647 by omega)
    have hF5 : qFr [(42, 1)] [43] σ α σ2 α := by rw [e3]; exact qFr_s hF0 42 1 _ (by decide)
    refine qr_getst 35 rfl rfl ?_
    refine qr_iload_n 36 rfl rfl rfl ?_
    refine qr_iaload 37 rfl rfl (by decide) (by decide) rfl ?_
    refine qy_v (-1) (by decide) ?_
    refine qr_istore _ 39 rfl (by decide) rfl rfl ?_
    refine qr_iload_n 40 rfl rfl rfl ?_
    refine qr_look (off := 114) 154 rfl (by omega) (by decide) (by decide) rfl ?_
    refine qr_aload_n 155 rfl rfl rfl ?_
    refine qr_iload_n 156 rfl rfl rfl ?_
    refine qr_iconst 157 rfl rfl ?_
    refine qr_iload 159 rfl rfl rfl ?_
    refine qr_iload 161 rfl rfl rfl ?_
    refine qr_iload 163 rfl rfl rfl ?_
    have hs6 : (-2147483648) ≤ σ2 42 1 ∧ σ2 42 1 ≤ 2147483647 := hI4.1 42 1
    have hs7 : σ2 42 1 = ((σ 42 1) + 1) := (congrFun (congrFun e3 42) 1).trans rfl
    refine qr_callN 166 rfl rfl rfl (sf_151_42r3_1 (d := d + 0) hI4 r4 r5 r6 (by omega)) ?_
    have hs10 : (-2147483648) ≤ σ2 42 1 ∧ σ2 42 1 ≤ 2147483647 := hI4.1 42 1
    have hs11 : σ2 42 1 = ((σ 42 1) + 1) := (congrFun (congrFun e3 42) 1).trans rfl
    rintro _ _ ⟨σ12, α13, rfl, hI14, hG15, v8, rfl, hv8, hp9⟩
    have hF16 : qFr [(42, 1)] [43] σ α σ12 α13 := qFr_t hF5 hG15 (by decide) (by decide)
    have hs17 : (-2147483648) ≤ σ12 42 1 ∧ σ12 42 1 ≤ 2147483647 := hI14.1 42 1
    show qr_W (qe L xs vb) (d + 8) qx_e153 _ (166, _, [.int (qz v8)], qw σ12 α13 κ ρ, 0, 0)
    refine qr_aload_n 167 rfl rfl rfl ?_
    refine qr_iload_n 168 rfl rfl rfl ?_
    refine qr_iconst 169 rfl rfl ?_
    refine qr_iconst 170 rfl rfl ?_
    refine qr_iload 172 rfl rfl rfl ?_
    refine qr_iload 174 rfl rfl rfl ?_
    have hs18 : (-2147483648) ≤ σ12 42 1 ∧ σ12 42 1 ≤ 2147483647 := hI14.1 42 1
    refine qr_callN 177 rfl rfl rfl (sf_151_42r3_2 (d := d + 5) hI14 (by decide) r5 (qrg r6 (by decide) (by decide)) (by omega)) ?_
    have hs21 : (-2147483648) ≤ σ12 42 1 ∧ σ12 42 1 ≤ 2147483647 := hI14.1 42 1
    rintro _ _ ⟨σ22, α23, rfl, hI24, hG25, v19, rfl, hv19, hp20⟩
    have hF26 : qFr [(42, 1)] [43] σ α σ22 α23 := qFr_t hF16 hG25 (by decide) (by decide)
    have hs27 : (-2147483648) ≤ σ22 42 1 ∧ σ22 42 1 ≤ 2147483647 := hI24.1 42 1
    show qr_W (qe L xs vb) (d + 8) qx_e153 _ (177, _, [.int (qz v19), .int (qz v8)], qw σ22 α23 κ ρ, 0, 0)
    refine qr_isub 178 rfl rfl ?_
    refine qy_can (fun v28 hv28 => ?_)
    refine qr_retI rfl rfl (by decide) (by decide) ?_
    have hw29 : σ22 42 1 = (σ22 42 1) := rfl
    exact ⟨_, _, rfl, hI24, hF26, v28, rfl, hv28, by omega⟩
  · skip
    refine qr_aload_n 13 rfl rfl rfl ?_
    refine qr_get 16 rfl rfl rfl (by decide) rfl ?_
    refine qr_aload_n 17 rfl rfl rfl ?_
    refine qr_get 20 rfl rfl rfl (by decide) rfl ?_
    refine qr_iload_n 21 rfl rfl rfl ?_
    refine qr_iastore 22 rfl (by decide) rfl (by omega) (by decide) rfl ?_
    refine qy_wA (qw_r α 43 (qzu (α 43) ((σ 42 1) : Int).toNat 2)) rfl (fun α30 e31 => ?_)
    have hI32 : qI σ α30 κ ρ := by rw [e31]; exact qI_r hI 43 _ rfl (show (-2147483648) ≤ 2 ∧ 2 ≤ 2147483647 by omega)
    have hF33 : qFr [(42, 1)] [43] σ α σ α30 := by rw [e31]; exact qFr_r hF0 43 _ (by decide)
    refine qr_aload_n 23 rfl rfl rfl ?_
    refine qr_dup 24 rfl rfl rfl ?_
    refine qr_get 27 rfl rfl rfl (by decide) rfl ?_
    refine qr_iconst 28 rfl rfl ?_
    refine qr_iadd 29 rfl rfl ?_
    refine qr_put 32 rfl (by decide) rfl (Nat.le_of_ble_eq_true rfl) (Nat.le_of_ble_eq_true rfl) (Or.inl rfl) (qr_fitI rfl _) rfl ?_
    refine qy_wS (qw_s σ 42 1 ((σ 42 1) + 1)) rfl (fun σ34 e35 => ?_)
    have hI36 : qI σ34 α30 κ ρ := by rw [e35]; exact qI_s hI32 42 1 rfl (show (-2147483648) ≤ ((σ 42 1) + 1) ∧ ((σ 42 1) + 1) ≤ 2147483647 by omega)
    have hF37 : qFr [(42, 1)] [43] σ α σ34 α30 := by rw [e35]; exact qFr_s hF33 42 1 _ (by decide)
    refine qr_getst 35 rfl rfl ?_
    refine qr_iload_n 36 rfl rfl rfl ?_
    refine qr_iaload 37 rfl rfl (by decide) (by decide) rfl ?_
    refine qy_v (-1) (by decide) ?_
    refine qr_istore _ 39 rfl (by decide) rfl rfl ?_
    refine qr_iload_n 40 rfl rfl rfl ?_
    refine qr_look (off := 114) 154 rfl (by omega) (by decide) (by decide) rfl ?_
    refine qr_aload_n 155 rfl rfl rfl ?_
    refine qr_iload_n 156 rfl rfl rfl ?_
    refine qr_iconst 157 rfl rfl ?_
    refine qr_iload 159 rfl rfl rfl ?_
    refine qr_iload 161 rfl rfl rfl ?_
    refine qr_iload 163 rfl rfl rfl ?_
    have hs38 : (-2147483648) ≤ σ34 42 1 ∧ σ34 42 1 ≤ 2147483647 := hI36.1 42 1
    have hs39 : σ34 42 1 = ((σ 42 1) + 1) := (congrFun (congrFun e35 42) 1).trans rfl
    refine qr_callN 166 rfl rfl rfl (sf_151_42r3_1 (d := d + 0) hI36 r4 r5 r6 (by omega)) ?_
    have hs42 : (-2147483648) ≤ σ34 42 1 ∧ σ34 42 1 ≤ 2147483647 := hI36.1 42 1
    have hs43 : σ34 42 1 = ((σ 42 1) + 1) := (congrFun (congrFun e35 42) 1).trans rfl
    rintro _ _ ⟨σ44, α45, rfl, hI46, hG47, v40, rfl, hv40, hp41⟩
    have hF48 : qFr [(42, 1)] [43] σ α σ44 α45 := qFr_t hF37 hG47 (by decide) (by decide)
    have hs49 : (-2147483648) ≤ σ44 42 1 ∧ σ44 42 1 ≤ 2147483647 := hI46.1 42 1
    show qr_W (qe L xs vb) (d + 8) qx_e153 _ (166, _, [.int (qz v40)], qw σ44 α45 κ ρ, 0, 0)
    refine qr_aload_n 167 rfl rfl rfl ?_
    refine qr_iload_n 168 rfl rfl rfl ?_
    refine qr_iconst 169 rfl rfl ?_
    refine qr_iconst 170 rfl rfl ?_
    refine qr_iload 172 rfl rfl rfl ?_
    refine qr_iload 174 rfl rfl rfl ?_
    have hs50 : (-2147483648) ≤ σ44 42 1 ∧ σ44 42 1 ≤ 2147483647 := hI46.1 42 1
    refine qr_callN 177 rfl rfl rfl (sf_151_42r3_2 (d := d + 5) hI46 (by decide) r5 (qrg r6 (by decide) (by decide)) (by omega)) ?_
    have hs53 : (-2147483648) ≤ σ44 42 1 ∧ σ44 42 1 ≤ 2147483647 := hI46.1 42 1
    rintro _ _ ⟨σ54, α55, rfl, hI56, hG57, v51, rfl, hv51, hp52⟩
    have hF58 : qFr [(42, 1)] [43] σ α σ54 α55 := qFr_t hF48 hG57 (by decide) (by decide)
    have hs59 : (-2147483648) ≤ σ54 42 1 ∧ σ54 42 1 ≤ 2147483647 := hI56.1 42 1
    show qr_W (qe L xs vb) (d + 8) qx_e153 _ (177, _, [.int (qz v51), .int (qz v40)], qw σ54 α55 κ ρ, 0, 0)
    refine qr_isub 178 rfl rfl ?_
    refine qy_can (fun v60 hv60 => ?_)
    refine qr_retI rfl rfl (by decide) (by decide) ?_
    have hw61 : σ54 42 1 = (σ54 42 1) := rfl
    exact ⟨_, _, rfl, hI56, hF58, v60, rfl, hv60, by omega⟩

set_option maxHeartbeats 4000000 in
set_option maxRecDepth 20000 in
/-- OneRoof$Acts.runFrom -/
theorem sf_152_42f3_3_3 {L : Nat} {xs : Nat → Int} {vb : Bool} {d : Nat} {σ α : Nat → Nat → Int} {κ : Nat → Option Nat} {ρ : Nat} {x4 : Int} {x5 : Int} {x6 : Int} (hI : qI σ α κ ρ) (r4 : (-2147483648) ≤ x4 ∧ x4 ≤ 2147483647) (r5 : (-2147483648) ≤ x5 ∧ x5 ≤ 2147483647) (r6 : 0 ≤ x6 ∧ x6 ≤ 36) (p0 : 0 ≤ σ 42 1 ∧ σ 42 1 ≤ 1600) : qm_T (qe L xs vb) (d + 10) 152 [.ref 42, .int (qz 3), .int (qz 3), .int (qz 3), .int (qz x4), .int (qz x5), .int (qz x6)] (qw σ α κ ρ) (fun r w' => ∃ σ' α', w' = qw σ' α' κ ρ ∧ qI σ' α' κ ρ ∧ qFr [(42, 1)] [43] σ α σ' α' ∧ ∃ v : Int, r = some (.int (qz v)) ∧ ((-2147483648) ≤ v ∧ v ≤ 2147483647) ∧ σ' 42 1 = σ 42 1 + 5) := by
  refine qr_start (d := d + 9) qv_e152 (Nat.le_of_ble_eq_true rfl) ?_
  show qr_W (qe L xs vb) (d + 9) qx_e152 _ (0, [(0, .ref 42), (1, .int (qz 3)), (2, .int (qz 3)), (3, .int (qz 3)), (4, .int (qz x4)), (5, .int (qz x5)), (6, .int (qz x6))], [], _, 0, 0)
  have hF0 := qFr_rf [(42, 1)] [43] σ α
  have hz42_1 : (-2147483648) ≤ σ 42 1 ∧ σ 42 1 ≤ 2147483647 := hI.1 42 1
  refine qr_iload_n 1 rfl rfl rfl ?_
  refine qr_istore _ 3 rfl (by decide) rfl rfl ?_
  refine qr_iconst 4 rfl rfl ?_
  refine qr_istore _ 6 rfl (by decide) rfl rfl ?_
  refine qr_iload 8 rfl rfl rfl ?_
  refine qr_getst 11 rfl rfl ?_
  refine qr_alen 12 rfl rfl (by first | exact Or.inl (by decide) | exact Or.inr (Or.inl rfl) | exact Or.inr (Or.inr (Or.inl rfl)) | exact Or.inr (Or.inr (Or.inr (Or.inl rfl)))) rfl ?_
  refine qy_v 7 rfl ?_
  refine qr_icmp_ge 89 15 rfl rfl rfl (by decide) (by decide) (fun h => False.elim (by omega)) (fun h1 => ?_)
  refine qr_iload 17 rfl rfl rfl ?_
  refine qr_if_lt 89 20 rfl rfl rfl (by decide) (fun h => False.elim (by omega)) (fun h2 => ?_)
  refine qr_iload 22 rfl rfl rfl ?_
  refine qr_getst 25 rfl rfl ?_
  refine qr_alen 26 rfl rfl (by first | exact Or.inl (by decide) | exact Or.inr (Or.inl rfl) | exact Or.inr (Or.inr (Or.inl rfl)) | exact Or.inr (Or.inr (Or.inr (Or.inl rfl)))) rfl ?_
  refine qy_v 7 rfl ?_
  refine qr_icmp_ge 89 29 rfl rfl rfl (by decide) (by decide) (fun h => False.elim (by omega)) (fun h3 => ?_)
  refine qr_getst 32 rfl rfl ?_
  refine qr_iload 34 rfl rfl rfl ?_
  refine qr_iconst 35 rfl rfl ?_
  refine qr_imul 36 rfl rfl ?_
  refine qy_v 12 rfl ?_
  refine qr_iload_n 37 rfl rfl rfl ?_
  refine qr_iadd 38 rfl rfl ?_
  refine qy_v 15 rfl ?_
  refine qr_iaload 39 rfl rfl (by decide) (by decide) rfl ?_
  refine qy_v 0 (by decide) ?_
  refine qr_istore _ 41 rfl (by decide) rfl rfl ?_
  refine qr_iload 43 rfl rfl rfl ?_
  refine qr_if_eq 75 46 rfl rfl rfl (by decide) (fun h4 => ?_) (fun h => False.elim (by omega))
  refine qr_getst 78 rfl rfl ?_
  refine qr_iload 80 rfl rfl rfl ?_
  refine qr_iaload 81 rfl rfl (by decide) (by decide) rfl ?_
  refine qy_v 0 (by decide) ?_
  refine qr_istore _ 83 rfl (by decide) rfl rfl ?_
  refine qr_iinc _ 86 rfl rfl (by decide) rfl rfl ?_
  refine qr_goto 6 rfl rfl ?_
  refine qr_iload 8 rfl rfl rfl ?_
  refine qr_getst 11 rfl rfl ?_
  refine qr_alen 12 rfl rfl (by first | exact Or.inl (by decide) | exact Or.inr (Or.inl rfl) | exact Or.inr (Or.inr (Or.inl rfl)) | exact Or.inr (Or.inr (Or.inr (Or.inl rfl)))) rfl ?_
  refine qy_v 7 rfl ?_
  refine qr_icmp_ge 89 15 rfl rfl rfl (by omega) (by decide) (fun h => False.elim (by omega)) (fun h5 => ?_)
  refine qr_iload 17 rfl rfl rfl ?_
  refine qr_if_lt 89 20 rfl rfl rfl (by decide) (fun h => False.elim (by omega)) (fun h6 => ?_)
  refine qr_iload 22 rfl rfl rfl ?_
  refine qr_getst 25 rfl rfl ?_
  refine qr_alen 26 rfl rfl (by first | exact Or.inl (by decide) | exact Or.inr (Or.inl rfl) | exact Or.inr (Or.inr (Or.inl rfl)) | exact Or.inr (Or.inr (Or.inr (Or.inl rfl)))) rfl ?_
  refine qy_v 7 rfl ?_
  refine qr_icmp_ge 89 29 rfl rfl rfl (by decide) (by decide) (fun h => False.elim (by omega)) (fun h7 => ?_)
  refine qr_getst 32 rfl rfl ?_
  refine qr_iload 34 rfl rfl rfl ?_
  refine qr_iconst 35 rfl rfl ?_
  refine qr_imul 36 rfl rfl ?_
  refine qy_v 0 rfl ?_
  refine qr_iload_n 37 rfl rfl rfl ?_
  refine qr_iadd 38 rfl rfl ?_
  refine qy_v 3 rfl ?_
  refine qr_iaload 39 rfl rfl (by decide) (by decide) rfl ?_
  refine qy_v 2 (by decide) ?_
  refine qr_istore _ 41 rfl (by decide) rfl rfl ?_
  refine qr_iload 43 rfl rfl rfl ?_
  refine qr_if_eq 75 46 rfl rfl rfl (by decide) (fun h => False.elim (by omega)) (fun h8 => ?_)
  as_aux_lemma =>
    refine qr_iload 48 rfl rfl rfl ?_
    refine qr_bipush 50 rfl (by decide) rfl ?_
    refine qr_icmp_le 57 53 rfl rfl rfl (qrg r6 (by decide) (by decide)) (by decide) (fun h9 => ?_) (fun h => False.elim (by omega))
    refine qr_aload_n 58 rfl rfl rfl ?_
    refine qr_iload 60 rfl rfl rfl ?_
    refine qr_iload 62 rfl rfl rfl ?_
    refine qr_iload_n 63 rfl rfl rfl ?_
    refine qr_iload 65 rfl rfl rfl ?_
    refine qr_iload 67 rfl rfl rfl ?_
    refine qr_iload 69 rfl rfl rfl ?_
    refine qr_iconst 70 rfl rfl ?_
    refine qr_iadd 71 rfl rfl ?_
    have hs10 : (-2147483648) ≤ σ 42 1 ∧ σ 42 1 ≤ 2147483647 := hI.1 42 1
    refine qr_callN 74 rfl rfl rfl (sf_153_42b2_0_3 (d := d + 0) hI r4 r5 (by omega) (by omega)) ?_
    have hs13 : (-2147483648) ≤ σ 42 1 ∧ σ 42 1 ≤ 2147483647 := hI.1 42 1
    rintro _ _ ⟨σ14, α15, rfl, hI16, hG17, v11, rfl, hv11, hp12⟩
    have hF18 : qFr [(42, 1)] [43] σ α σ14 α15 := qFr_t hF0 hG17 (by decide) (by decide)
    have hs19 : (-2147483648) ≤ σ14 42 1 ∧ σ14 42 1 ≤ 2147483647 := hI16.1 42 1
    show qr_W (qe L xs vb) (d + 9) qx_e152 _ (74, _, [.int (qz v11)], qw σ14 α15 κ ρ, 0, 0)
    refine qr_retI rfl rfl (by decide) (by decide) ?_
    have hw20 : σ14 42 1 = (σ14 42 1) := rfl
    exact ⟨_, _, rfl, hI16, hF18, v11, rfl, hv11, by omega⟩

set_option maxHeartbeats 4000000 in
set_option maxRecDepth 20000 in
/-- OneRoof$Acts.run -/
theorem sf_151_42r3_3 {L : Nat} {xs : Nat → Int} {vb : Bool} {d : Nat} {σ α : Nat → Nat → Int} {κ : Nat → Option Nat} {ρ : Nat} {x3 : Int} {x4 : Int} {x5 : Int} (hI : qI σ α κ ρ) (r3 : (-2147483648) ≤ x3 ∧ x3 ≤ 2147483647) (r4 : (-2147483648) ≤ x4 ∧ x4 ≤ 2147483647) (r5 : 0 ≤ x5 ∧ x5 ≤ 36) (p0 : 0 ≤ σ 42 1 ∧ σ 42 1 ≤ 1600) : qm_T (qe L xs vb) (d + 11) 151 [.ref 42, .int (qz 3), .int (qz 3), .int (qz x3), .int (qz x4), .int (qz x5)] (qw σ α κ ρ) (fun r w' => ∃ σ' α', w' = qw σ' α' κ ρ ∧ qI σ' α' κ ρ ∧ qFr [(42, 1)] [43] σ α σ' α' ∧ ∃ v : Int, r = some (.int (qz v)) ∧ ((-2147483648) ≤ v ∧ v ≤ 2147483647) ∧ σ' 42 1 = σ 42 1 + 5) := by
  refine qr_start (d := d + 10) qv_e151 (Nat.le_of_ble_eq_true rfl) ?_
  show qr_W (qe L xs vb) (d + 10) qx_e151 _ (0, [(0, .ref 42), (1, .int (qz 3)), (2, .int (qz 3)), (3, .int (qz x3)), (4, .int (qz x4)), (5, .int (qz x5))], [], _, 0, 0)
  have hF0 := qFr_rf [(42, 1)] [43] σ α
  have hz42_1 : (-2147483648) ≤ σ 42 1 ∧ σ 42 1 ≤ 2147483647 := hI.1 42 1
  refine qr_aload_n 1 rfl rfl rfl ?_
  refine qr_iload_n 2 rfl rfl rfl ?_
  refine qr_iload_n 3 rfl rfl rfl ?_
  refine qr_iload_n 4 rfl rfl rfl ?_
  refine qr_iload_n 5 rfl rfl rfl ?_
  refine qr_iload 7 rfl rfl rfl ?_
  refine qr_iload 9 rfl rfl rfl ?_
  have hs1 : (-2147483648) ≤ σ 42 1 ∧ σ 42 1 ≤ 2147483647 := hI.1 42 1
  refine qr_callN 12 rfl rfl rfl (sf_152_42f3_3_3 (d := d + 0) hI r3 r4 r5 (by omega)) ?_
  have hs4 : (-2147483648) ≤ σ 42 1 ∧ σ 42 1 ≤ 2147483647 := hI.1 42 1
  rintro _ _ ⟨σ5, α6, rfl, hI7, hG8, v2, rfl, hv2, hp3⟩
  have hF9 : qFr [(42, 1)] [43] σ α σ5 α6 := qFr_t hF0 hG8 (by decide) (by decide)
  have hs10 : (-2147483648) ≤ σ5 42 1 ∧ σ5 42 1 ≤ 2147483647 := hI7.1 42 1
  show qr_W (qe L xs vb) (d + 10) qx_e151 _ (12, _, [.int (qz v2)], qw σ5 α6 κ ρ, 0, 0)
  refine qr_retI rfl rfl (by decide) (by decide) ?_
  have hw11 : σ5 42 1 = (σ5 42 1) := rfl
  exact ⟨_, _, rfl, hI7, hF9, v2, rfl, hv2, by omega⟩

set_option maxHeartbeats 4000000 in
set_option maxRecDepth 20000 in
/-- OneRoof$Acts.start -/
theorem sf_150_42s3_3 {L : Nat} {xs : Nat → Int} {vb : Bool} {d : Nat} {σ α : Nat → Nat → Int} {κ : Nat → Option Nat} {ρ : Nat} {x3 : Int} {x4 : Int} (hI : qI σ α κ ρ) (r3 : (-2147483648) ≤ x3 ∧ x3 ≤ 2147483647) (r4 : (-2147483648) ≤ x4 ∧ x4 ≤ 2147483647) (p0 : σ 42 1 = 0) : qm_T (qe L xs vb) (d + 12) 150 [.ref 42, .int (qz 3), .int (qz 3), .int (qz x3), .int (qz x4)] (qw σ α κ ρ) (fun r w' => ∃ σ' α', w' = qw σ' α' κ ρ ∧ qI σ' α' κ ρ ∧ qFr [(42, 1)] [43] σ α σ' α' ∧ ∃ v : Int, r = some (.int (qz v)) ∧ ((-2147483648) ≤ v ∧ v ≤ 2147483647)) := by
  refine qr_start (d := d + 11) qv_e150 (Nat.le_of_ble_eq_true rfl) ?_
  show qr_W (qe L xs vb) (d + 11) qx_e150 _ (0, [(0, .ref 42), (1, .int (qz 3)), (2, .int (qz 3)), (3, .int (qz x3)), (4, .int (qz x4))], [], _, 0, 0)
  have hF0 := qFr_rf [(42, 1)] [43] σ α
  have hz42_1 : (-2147483648) ≤ σ 42 1 ∧ σ 42 1 ≤ 2147483647 := hI.1 42 1
  refine qr_aload_n 1 rfl rfl rfl ?_
  refine qr_iload_n 2 rfl rfl rfl ?_
  refine qr_iload_n 3 rfl rfl rfl ?_
  refine qr_iload_n 4 rfl rfl rfl ?_
  refine qr_iload 6 rfl rfl rfl ?_
  refine qr_iconst 7 rfl rfl ?_
  have hs1 : (-2147483648) ≤ σ 42 1 ∧ σ 42 1 ≤ 2147483647 := hI.1 42 1
  refine qr_callN 10 rfl rfl rfl (sf_151_42r3_3 (d := d + 0) hI r3 r4 (by decide) (by omega)) ?_
  have hs4 : (-2147483648) ≤ σ 42 1 ∧ σ 42 1 ≤ 2147483647 := hI.1 42 1
  rintro _ _ ⟨σ5, α6, rfl, hI7, hG8, v2, rfl, hv2, hp3⟩
  have hF9 : qFr [(42, 1)] [43] σ α σ5 α6 := qFr_t hF0 hG8 (by decide) (by decide)
  have hs10 : (-2147483648) ≤ σ5 42 1 ∧ σ5 42 1 ≤ 2147483647 := hI7.1 42 1
  show qr_W (qe L xs vb) (d + 11) qx_e150 _ (10, _, [.int (qz v2)], qw σ5 α6 κ ρ, 0, 0)
  refine qr_retI rfl rfl (by decide) (by decide) ?_
  exact ⟨_, _, rfl, hI7, hF9, v2, rfl, hv2⟩

set_option maxHeartbeats 4000000 in
set_option maxRecDepth 20000 in
/-- OneRoof$Acts.begin -/
theorem sf_153_42b2_0_4 {L : Nat} {xs : Nat → Int} {vb : Bool} {d : Nat} {σ α : Nat → Nat → Int} {κ : Nat → Option Nat} {ρ : Nat} {x4 : Int} {x5 : Int} {x6 : Int} (hI : qI σ α κ ρ) (r4 : (-2147483648) ≤ x4 ∧ x4 ≤ 2147483647) (r5 : (-2147483648) ≤ x5 ∧ x5 ≤ 2147483647) (r6 : 0 ≤ x6 ∧ x6 ≤ 38) (p0 : 0 ≤ σ 42 1 ∧ σ 42 1 ≤ 1700) : qm_T (qe L xs vb) (d + 7) 153 [.ref 42, .int (qz 2), .int (qz 0), .int (qz 4), .int (qz x4), .int (qz x5), .int (qz x6)] (qw σ α κ ρ) (fun r w' => ∃ σ' α', w' = qw σ' α' κ ρ ∧ qI σ' α' κ ρ ∧ qFr [(42, 1)] [43] σ α σ' α' ∧ ∃ v : Int, r = some (.int (qz v)) ∧ ((-2147483648) ≤ v ∧ v ≤ 2147483647) ∧ σ' 42 1 = σ 42 1 + 4) := by
  refine qr_start (d := d + 6) qv_e153 (Nat.le_of_ble_eq_true rfl) ?_
  show qr_W (qe L xs vb) (d + 6) qx_e153 _ (0, [(0, .ref 42), (1, .int (qz 2)), (2, .int (qz 0)), (3, .int (qz 4)), (4, .int (qz x4)), (5, .int (qz x5)), (6, .int (qz x6))], [], _, 0, 0)
  have hF0 := qFr_rf [(42, 1)] [43] σ α
  have hz42_1 : (-2147483648) ≤ σ 42 1 ∧ σ 42 1 ≤ 2147483647 := hI.1 42 1
  refine qr_aload_n 1 rfl rfl rfl ?_
  refine qr_get 4 rfl rfl rfl (by decide) rfl ?_
  refine qr_aload_n 5 rfl rfl rfl ?_
  refine qr_get 8 rfl rfl rfl (by decide) rfl ?_
  refine qr_alen 9 rfl rfl (by first | exact Or.inl (by decide) | exact Or.inr (Or.inl rfl) | exact Or.inr (Or.inr (Or.inl rfl)) | exact Or.inr (Or.inr (Or.inr (Or.inl rfl)))) rfl ?_
  refine qy_v 24 rfl ?_
  refine qr_icmp_ge 22 12 rfl rfl rfl hz42_1 (by decide) (fun h1 => ?_) (fun h1 => ?_)
  · skip
    refine qr_aload_n 23 rfl rfl rfl ?_
    refine qr_dup 24 rfl rfl rfl ?_
    refine qr_get 27 rfl rfl rfl (by decide) rfl ?_
    refine qr_iconst 28 rfl rfl ?_
    refine qr_iadd 29 rfl rfl ?_
    refine qr_put 32 rfl (by decide) rfl (Nat.le_of_ble_eq_true rfl) (Nat.le_of_ble_eq_true rfl) (Or.inl rfl) (qr_fitI rfl _) rfl ?_
    refine qy_wS (qw_s σ 42 1 ((σ 42 1) + 1)) rfl (fun σ2 e3 => ?_)
    have hI4 : qI σ2 α κ ρ := by rw [e3]; exact qI_s hI 42 1 rfl (show (-2147483648) ≤ ((σ 42 1) + 1) ∧ ((σ 42 1) + 1) ≤ 2147483647 by omega)
    have hF5 : qFr [(42, 1)] [43] σ α σ2 α := by rw [e3]; exact qFr_s hF0 42 1 _ (by decide)
    refine qr_getst 35 rfl rfl ?_
    refine qr_iload_n 36 rfl rfl rfl ?_
    refine qr_iaload 37 rfl rfl (by decide) (by decide) rfl ?_
    refine qy_v (-1) (by decide) ?_
    refine qr_istore _ 39 rfl (by decide) rfl rfl ?_
    refine qr_iload_n 40 rfl rfl rfl ?_
    refine qr_look (off := 114) 154 rfl (by omega) (by decide) (by decide) rfl ?_
    refine qr_aload_n 155 rfl rfl rfl ?_
    refine qr_iload_n 156 rfl rfl rfl ?_
    refine qr_iconst 157 rfl rfl ?_
    refine qr_iload 159 rfl rfl rfl ?_
    refine qr_iload 161 rfl rfl rfl ?_
    refine qr_iload 163 rfl rfl rfl ?_
    have hs6 : (-2147483648) ≤ σ2 42 1 ∧ σ2 42 1 ≤ 2147483647 := hI4.1 42 1
    have hs7 : σ2 42 1 = ((σ 42 1) + 1) := (congrFun (congrFun e3 42) 1).trans rfl
    refine qr_callN 166 rfl rfl rfl (sf_151_42r4_1 (d := d + 0) hI4 r4 r5 r6 (by omega)) ?_
    have hs10 : (-2147483648) ≤ σ2 42 1 ∧ σ2 42 1 ≤ 2147483647 := hI4.1 42 1
    have hs11 : σ2 42 1 = ((σ 42 1) + 1) := (congrFun (congrFun e3 42) 1).trans rfl
    rintro _ _ ⟨σ12, α13, rfl, hI14, hG15, v8, rfl, hv8, hp9⟩
    have hF16 : qFr [(42, 1)] [43] σ α σ12 α13 := qFr_t hF5 hG15 (by decide) (by decide)
    have hs17 : (-2147483648) ≤ σ12 42 1 ∧ σ12 42 1 ≤ 2147483647 := hI14.1 42 1
    show qr_W (qe L xs vb) (d + 6) qx_e153 _ (166, _, [.int (qz v8)], qw σ12 α13 κ ρ, 0, 0)
    refine qr_aload_n 167 rfl rfl rfl ?_
    refine qr_iload_n 168 rfl rfl rfl ?_
    refine qr_iconst 169 rfl rfl ?_
    refine qr_iconst 170 rfl rfl ?_
    refine qr_iload 172 rfl rfl rfl ?_
    refine qr_iload 174 rfl rfl rfl ?_
    have hs18 : (-2147483648) ≤ σ12 42 1 ∧ σ12 42 1 ≤ 2147483647 := hI14.1 42 1
    refine qr_callN 177 rfl rfl rfl (sf_151_42r4_2 (d := d + 3) hI14 (by decide) r5 (qrg r6 (by decide) (by decide)) (by omega)) ?_
    have hs21 : (-2147483648) ≤ σ12 42 1 ∧ σ12 42 1 ≤ 2147483647 := hI14.1 42 1
    rintro _ _ ⟨σ22, α23, rfl, hI24, hG25, v19, rfl, hv19, hp20⟩
    have hF26 : qFr [(42, 1)] [43] σ α σ22 α23 := qFr_t hF16 hG25 (by decide) (by decide)
    have hs27 : (-2147483648) ≤ σ22 42 1 ∧ σ22 42 1 ≤ 2147483647 := hI24.1 42 1
    show qr_W (qe L xs vb) (d + 6) qx_e153 _ (177, _, [.int (qz v19), .int (qz v8)], qw σ22 α23 κ ρ, 0, 0)
    refine qr_isub 178 rfl rfl ?_
    refine qy_can (fun v28 hv28 => ?_)
    refine qr_retI rfl rfl (by decide) (by decide) ?_
    have hw29 : σ22 42 1 = (σ22 42 1) := rfl
    exact ⟨_, _, rfl, hI24, hF26, v28, rfl, hv28, by omega⟩
  · skip
    refine qr_aload_n 13 rfl rfl rfl ?_
    refine qr_get 16 rfl rfl rfl (by decide) rfl ?_
    refine qr_aload_n 17 rfl rfl rfl ?_
    refine qr_get 20 rfl rfl rfl (by decide) rfl ?_
    refine qr_iload_n 21 rfl rfl rfl ?_
    refine qr_iastore 22 rfl (by decide) rfl (by omega) (by decide) rfl ?_
    refine qy_wA (qw_r α 43 (qzu (α 43) ((σ 42 1) : Int).toNat 2)) rfl (fun α30 e31 => ?_)
    have hI32 : qI σ α30 κ ρ := by rw [e31]; exact qI_r hI 43 _ rfl (show (-2147483648) ≤ 2 ∧ 2 ≤ 2147483647 by omega)
    have hF33 : qFr [(42, 1)] [43] σ α σ α30 := by rw [e31]; exact qFr_r hF0 43 _ (by decide)
    refine qr_aload_n 23 rfl rfl rfl ?_
    refine qr_dup 24 rfl rfl rfl ?_
    refine qr_get 27 rfl rfl rfl (by decide) rfl ?_
    refine qr_iconst 28 rfl rfl ?_
    refine qr_iadd 29 rfl rfl ?_
    refine qr_put 32 rfl (by decide) rfl (Nat.le_of_ble_eq_true rfl) (Nat.le_of_ble_eq_true rfl) (Or.inl rfl) (qr_fitI rfl _) rfl ?_
    refine qy_wS (qw_s σ 42 1 ((σ 42 1) + 1)) rfl (fun σ34 e35 => ?_)
    have hI36 : qI σ34 α30 κ ρ := by rw [e35]; exact qI_s hI32 42 1 rfl (show (-2147483648) ≤ ((σ 42 1) + 1) ∧ ((σ 42 1) + 1) ≤ 2147483647 by omega)
    have hF37 : qFr [(42, 1)] [43] σ α σ34 α30 := by rw [e35]; exact qFr_s hF33 42 1 _ (by decide)
    refine qr_getst 35 rfl rfl ?_
    refine qr_iload_n 36 rfl rfl rfl ?_
    refine qr_iaload 37 rfl rfl (by decide) (by decide) rfl ?_
    refine qy_v (-1) (by decide) ?_
    refine qr_istore _ 39 rfl (by decide) rfl rfl ?_
    refine qr_iload_n 40 rfl rfl rfl ?_
    refine qr_look (off := 114) 154 rfl (by omega) (by decide) (by decide) rfl ?_
    refine qr_aload_n 155 rfl rfl rfl ?_
    refine qr_iload_n 156 rfl rfl rfl ?_
    refine qr_iconst 157 rfl rfl ?_
    refine qr_iload 159 rfl rfl rfl ?_
    refine qr_iload 161 rfl rfl rfl ?_
    refine qr_iload 163 rfl rfl rfl ?_
    have hs38 : (-2147483648) ≤ σ34 42 1 ∧ σ34 42 1 ≤ 2147483647 := hI36.1 42 1
    have hs39 : σ34 42 1 = ((σ 42 1) + 1) := (congrFun (congrFun e35 42) 1).trans rfl
    refine qr_callN 166 rfl rfl rfl (sf_151_42r4_1 (d := d + 0) hI36 r4 r5 r6 (by omega)) ?_
    have hs42 : (-2147483648) ≤ σ34 42 1 ∧ σ34 42 1 ≤ 2147483647 := hI36.1 42 1
    have hs43 : σ34 42 1 = ((σ 42 1) + 1) := (congrFun (congrFun e35 42) 1).trans rfl
    rintro _ _ ⟨σ44, α45, rfl, hI46, hG47, v40, rfl, hv40, hp41⟩
    have hF48 : qFr [(42, 1)] [43] σ α σ44 α45 := qFr_t hF37 hG47 (by decide) (by decide)
    have hs49 : (-2147483648) ≤ σ44 42 1 ∧ σ44 42 1 ≤ 2147483647 := hI46.1 42 1
    show qr_W (qe L xs vb) (d + 6) qx_e153 _ (166, _, [.int (qz v40)], qw σ44 α45 κ ρ, 0, 0)
    refine qr_aload_n 167 rfl rfl rfl ?_
    refine qr_iload_n 168 rfl rfl rfl ?_
    refine qr_iconst 169 rfl rfl ?_
    refine qr_iconst 170 rfl rfl ?_
    refine qr_iload 172 rfl rfl rfl ?_
    refine qr_iload 174 rfl rfl rfl ?_
    have hs50 : (-2147483648) ≤ σ44 42 1 ∧ σ44 42 1 ≤ 2147483647 := hI46.1 42 1
    refine qr_callN 177 rfl rfl rfl (sf_151_42r4_2 (d := d + 3) hI46 (by decide) r5 (qrg r6 (by decide) (by decide)) (by omega)) ?_
    have hs53 : (-2147483648) ≤ σ44 42 1 ∧ σ44 42 1 ≤ 2147483647 := hI46.1 42 1
    rintro _ _ ⟨σ54, α55, rfl, hI56, hG57, v51, rfl, hv51, hp52⟩
    have hF58 : qFr [(42, 1)] [43] σ α σ54 α55 := qFr_t hF48 hG57 (by decide) (by decide)
    have hs59 : (-2147483648) ≤ σ54 42 1 ∧ σ54 42 1 ≤ 2147483647 := hI56.1 42 1
    show qr_W (qe L xs vb) (d + 6) qx_e153 _ (177, _, [.int (qz v51), .int (qz v40)], qw σ54 α55 κ ρ, 0, 0)
    refine qr_isub 178 rfl rfl ?_
    refine qy_can (fun v60 hv60 => ?_)
    refine qr_retI rfl rfl (by decide) (by decide) ?_
    have hw61 : σ54 42 1 = (σ54 42 1) := rfl
    exact ⟨_, _, rfl, hI56, hF58, v60, rfl, hv60, by omega⟩

set_option maxHeartbeats 4000000 in
set_option maxRecDepth 20000 in
/-- OneRoof$Acts.runFrom -/
theorem sf_152_42f0_4_3 {L : Nat} {xs : Nat → Int} {vb : Bool} {d : Nat} {σ α : Nat → Nat → Int} {κ : Nat → Option Nat} {ρ : Nat} {x4 : Int} {x5 : Int} {x6 : Int} (hI : qI σ α κ ρ) (r4 : (-2147483648) ≤ x4 ∧ x4 ≤ 2147483647) (r5 : (-2147483648) ≤ x5 ∧ x5 ≤ 2147483647) (r6 : 0 ≤ x6 ∧ x6 ≤ 37) (p0 : 0 ≤ σ 42 1 ∧ σ 42 1 ≤ 1700) : qm_T (qe L xs vb) (d + 8) 152 [.ref 42, .int (qz 0), .int (qz 4), .int (qz 3), .int (qz x4), .int (qz x5), .int (qz x6)] (qw σ α κ ρ) (fun r w' => ∃ σ' α', w' = qw σ' α' κ ρ ∧ qI σ' α' κ ρ ∧ qFr [(42, 1)] [43] σ α σ' α' ∧ ∃ v : Int, r = some (.int (qz v)) ∧ ((-2147483648) ≤ v ∧ v ≤ 2147483647) ∧ σ' 42 1 = σ 42 1 + 4) := by
  refine qr_start (d := d + 7) qv_e152 (Nat.le_of_ble_eq_true rfl) ?_
  show qr_W (qe L xs vb) (d + 7) qx_e152 _ (0, [(0, .ref 42), (1, .int (qz 0)), (2, .int (qz 4)), (3, .int (qz 3)), (4, .int (qz x4)), (5, .int (qz x5)), (6, .int (qz x6))], [], _, 0, 0)
  have hF0 := qFr_rf [(42, 1)] [43] σ α
  have hz42_1 : (-2147483648) ≤ σ 42 1 ∧ σ 42 1 ≤ 2147483647 := hI.1 42 1
  refine qr_iload_n 1 rfl rfl rfl ?_
  refine qr_istore _ 3 rfl (by decide) rfl rfl ?_
  refine qr_iconst 4 rfl rfl ?_
  refine qr_istore _ 6 rfl (by decide) rfl rfl ?_
  refine qr_iload 8 rfl rfl rfl ?_
  refine qr_getst 11 rfl rfl ?_
  refine qr_alen 12 rfl rfl (by first | exact Or.inl (by decide) | exact Or.inr (Or.inl rfl) | exact Or.inr (Or.inr (Or.inl rfl)) | exact Or.inr (Or.inr (Or.inr (Or.inl rfl)))) rfl ?_
  refine qy_v 7 rfl ?_
  refine qr_icmp_ge 89 15 rfl rfl rfl (by decide) (by decide) (fun h => False.elim (by omega)) (fun h1 => ?_)
  refine qr_iload 17 rfl rfl rfl ?_
  refine qr_if_lt 89 20 rfl rfl rfl (by decide) (fun h => False.elim (by omega)) (fun h2 => ?_)
  refine qr_iload 22 rfl rfl rfl ?_
  refine qr_getst 25 rfl rfl ?_
  refine qr_alen 26 rfl rfl (by first | exact Or.inl (by decide) | exact Or.inr (Or.inl rfl) | exact Or.inr (Or.inr (Or.inl rfl)) | exact Or.inr (Or.inr (Or.inr (Or.inl rfl)))) rfl ?_
  refine qy_v 7 rfl ?_
  refine qr_icmp_ge 89 29 rfl rfl rfl (by decide) (by decide) (fun h => False.elim (by omega)) (fun h3 => ?_)
  refine qr_getst 32 rfl rfl ?_
  refine qr_iload 34 rfl rfl rfl ?_
  refine qr_iconst 35 rfl rfl ?_
  refine qr_imul 36 rfl rfl ?_
  refine qy_v 0 rfl ?_
  refine qr_iload_n 37 rfl rfl rfl ?_
  refine qr_iadd 38 rfl rfl ?_
  refine qy_v 3 rfl ?_
  refine qr_iaload 39 rfl rfl (by decide) (by decide) rfl ?_
  refine qy_v 2 (by decide) ?_
  refine qr_istore _ 41 rfl (by decide) rfl rfl ?_
  refine qr_iload 43 rfl rfl rfl ?_
  refine qr_if_eq 75 46 rfl rfl rfl (by decide) (fun h => False.elim (by omega)) (fun h4 => ?_)
  refine qr_iload 48 rfl rfl rfl ?_
  refine qr_bipush 50 rfl (by decide) rfl ?_
  refine qr_icmp_le 57 53 rfl rfl rfl (qrg r6 (by decide) (by decide)) (by decide) (fun h5 => ?_) (fun h => False.elim (by omega))
  refine qr_aload_n 58 rfl rfl rfl ?_
  refine qr_iload 60 rfl rfl rfl ?_
  refine qr_iload 62 rfl rfl rfl ?_
  refine qr_iload_n 63 rfl rfl rfl ?_
  refine qr_iload 65 rfl rfl rfl ?_
  refine qr_iload 67 rfl rfl rfl ?_
  refine qr_iload 69 rfl rfl rfl ?_
  refine qr_iconst 70 rfl rfl ?_
  refine qr_iadd 71 rfl rfl ?_
  have hs6 : (-2147483648) ≤ σ 42 1 ∧ σ 42 1 ≤ 2147483647 := hI.1 42 1
  refine qr_callN 74 rfl rfl rfl (sf_153_42b2_0_4 (d := d + 0) hI r4 r5 (by omega) (by omega)) ?_
  have hs9 : (-2147483648) ≤ σ 42 1 ∧ σ 42 1 ≤ 2147483647 := hI.1 42 1
  rintro _ _ ⟨σ10, α11, rfl, hI12, hG13, v7, rfl, hv7, hp8⟩
  have hF14 : qFr [(42, 1)] [43] σ α σ10 α11 := qFr_t hF0 hG13 (by decide) (by decide)
  have hs15 : (-2147483648) ≤ σ10 42 1 ∧ σ10 42 1 ≤ 2147483647 := hI12.1 42 1
  show qr_W (qe L xs vb) (d + 7) qx_e152 _ (74, _, [.int (qz v7)], qw σ10 α11 κ ρ, 0, 0)
  refine qr_retI rfl rfl (by decide) (by decide) ?_
  have hw16 : σ10 42 1 = (σ10 42 1) := rfl
  exact ⟨_, _, rfl, hI12, hF14, v7, rfl, hv7, by omega⟩

set_option maxHeartbeats 4000000 in
set_option maxRecDepth 20000 in
/-- OneRoof$Acts.begin -/
theorem sf_153_42b50_4_4 {L : Nat} {xs : Nat → Int} {vb : Bool} {d : Nat} {σ α : Nat → Nat → Int} {κ : Nat → Option Nat} {ρ : Nat} {x4 : Int} {x5 : Int} {x6 : Int} (hI : qI σ α κ ρ) (r4 : (-2147483648) ≤ x4 ∧ x4 ≤ 2147483647) (r5 : (-2147483648) ≤ x5 ∧ x5 ≤ 2147483647) (r6 : 0 ≤ x6 ∧ x6 ≤ 37) (p0 : 0 ≤ σ 42 1 ∧ σ 42 1 ≤ 1600) : qm_T (qe L xs vb) (d + 9) 153 [.ref 42, .int (qz 50), .int (qz 4), .int (qz 4), .int (qz x4), .int (qz x5), .int (qz x6)] (qw σ α κ ρ) (fun r w' => ∃ σ' α', w' = qw σ' α' κ ρ ∧ qI σ' α' κ ρ ∧ qFr [(42, 1)] [43] σ α σ' α' ∧ ∃ v : Int, r = some (.int (qz v)) ∧ ((-2147483648) ≤ v ∧ v ≤ 2147483647) ∧ σ' 42 1 = σ 42 1 + 5) := by
  refine qr_start (d := d + 8) qv_e153 (Nat.le_of_ble_eq_true rfl) ?_
  show qr_W (qe L xs vb) (d + 8) qx_e153 _ (0, [(0, .ref 42), (1, .int (qz 50)), (2, .int (qz 4)), (3, .int (qz 4)), (4, .int (qz x4)), (5, .int (qz x5)), (6, .int (qz x6))], [], _, 0, 0)
  have hF0 := qFr_rf [(42, 1)] [43] σ α
  have hz42_1 : (-2147483648) ≤ σ 42 1 ∧ σ 42 1 ≤ 2147483647 := hI.1 42 1
  refine qr_aload_n 1 rfl rfl rfl ?_
  refine qr_get 4 rfl rfl rfl (by decide) rfl ?_
  refine qr_aload_n 5 rfl rfl rfl ?_
  refine qr_get 8 rfl rfl rfl (by decide) rfl ?_
  refine qr_alen 9 rfl rfl (by first | exact Or.inl (by decide) | exact Or.inr (Or.inl rfl) | exact Or.inr (Or.inr (Or.inl rfl)) | exact Or.inr (Or.inr (Or.inr (Or.inl rfl)))) rfl ?_
  refine qy_v 24 rfl ?_
  refine qr_icmp_ge 22 12 rfl rfl rfl hz42_1 (by decide) (fun h1 => ?_) (fun h1 => ?_)
  · skip
    refine qr_aload_n 23 rfl rfl rfl ?_
    refine qr_dup 24 rfl rfl rfl ?_
    refine qr_get 27 rfl rfl rfl (by decide) rfl ?_
    refine qr_iconst 28 rfl rfl ?_
    refine qr_iadd 29 rfl rfl ?_
    refine qr_put 32 rfl (by decide) rfl (Nat.le_of_ble_eq_true rfl) (Nat.le_of_ble_eq_true rfl) (Or.inl rfl) (qr_fitI rfl _) rfl ?_
    refine qy_wS (qw_s σ 42 1 ((σ 42 1) + 1)) rfl (fun σ2 e3 => ?_)
    have hI4 : qI σ2 α κ ρ := by rw [e3]; exact qI_s hI 42 1 rfl (show (-2147483648) ≤ ((σ 42 1) + 1) ∧ ((σ 42 1) + 1) ≤ 2147483647 by omega)
    have hF5 : qFr [(42, 1)] [43] σ α σ2 α := by rw [e3]; exact qFr_s hF0 42 1 _ (by decide)
    refine qr_getst 35 rfl rfl ?_
    refine qr_iload_n 36 rfl rfl rfl ?_
    refine qr_iaload 37 rfl rfl (by decide) (by decide) rfl ?_
    refine qy_v 0 (by decide) ?_
    refine qr_istore _ 39 rfl (by decide) rfl rfl ?_
    refine qr_iload_n 40 rfl rfl rfl ?_
    refine qr_look (off := 227) 267 rfl (by omega) (by decide) (by decide) rfl ?_
    refine qr_aload_n 268 rfl rfl rfl ?_
    refine qr_iload 270 rfl rfl rfl ?_
    refine qr_iload_n 271 rfl rfl rfl ?_
    refine qr_iconst 272 rfl rfl ?_
    refine qr_iload 274 rfl rfl rfl ?_
    refine qr_iload 276 rfl rfl rfl ?_
    refine qr_iload 278 rfl rfl rfl ?_
    have hs6 : (-2147483648) ≤ σ2 42 1 ∧ σ2 42 1 ≤ 2147483647 := hI4.1 42 1
    have hs7 : σ2 42 1 = ((σ 42 1) + 1) := (congrFun (congrFun e3 42) 1).trans rfl
    refine qr_callN 281 rfl rfl rfl (sf_152_42f0_4_3 (d := d + 0) hI4 r4 r5 r6 (by omega)) ?_
    have hs10 : (-2147483648) ≤ σ2 42 1 ∧ σ2 42 1 ≤ 2147483647 := hI4.1 42 1
    have hs11 : σ2 42 1 = ((σ 42 1) + 1) := (congrFun (congrFun e3 42) 1).trans rfl
    rintro _ _ ⟨σ12, α13, rfl, hI14, hG15, v8, rfl, hv8, hp9⟩
    have hF16 : qFr [(42, 1)] [43] σ α σ12 α13 := qFr_t hF5 hG15 (by decide) (by decide)
    have hs17 : (-2147483648) ≤ σ12 42 1 ∧ σ12 42 1 ≤ 2147483647 := hI14.1 42 1
    show qr_W (qe L xs vb) (d + 8) qx_e153 _ (281, _, [.int (qz v8)], qw σ12 α13 κ ρ, 0, 0)
    refine qr_iconst 282 rfl rfl ?_
    refine qr_ixor 283 rfl rfl ?_
    refine qy_can (fun v18 hv18 => ?_)
    refine qr_retI rfl rfl (by decide) (by decide) ?_
    have hw19 : σ12 42 1 = (σ12 42 1) := rfl
    exact ⟨_, _, rfl, hI14, hF16, v18, rfl, hv18, by omega⟩
  · skip
    refine qr_aload_n 13 rfl rfl rfl ?_
    refine qr_get 16 rfl rfl rfl (by decide) rfl ?_
    refine qr_aload_n 17 rfl rfl rfl ?_
    refine qr_get 20 rfl rfl rfl (by decide) rfl ?_
    refine qr_iload_n 21 rfl rfl rfl ?_
    refine qr_iastore 22 rfl (by decide) rfl (by omega) (by decide) rfl ?_
    refine qy_wA (qw_r α 43 (qzu (α 43) ((σ 42 1) : Int).toNat 50)) rfl (fun α20 e21 => ?_)
    have hI22 : qI σ α20 κ ρ := by rw [e21]; exact qI_r hI 43 _ rfl (show (-2147483648) ≤ 50 ∧ 50 ≤ 2147483647 by omega)
    have hF23 : qFr [(42, 1)] [43] σ α σ α20 := by rw [e21]; exact qFr_r hF0 43 _ (by decide)
    refine qr_aload_n 23 rfl rfl rfl ?_
    refine qr_dup 24 rfl rfl rfl ?_
    refine qr_get 27 rfl rfl rfl (by decide) rfl ?_
    refine qr_iconst 28 rfl rfl ?_
    refine qr_iadd 29 rfl rfl ?_
    refine qr_put 32 rfl (by decide) rfl (Nat.le_of_ble_eq_true rfl) (Nat.le_of_ble_eq_true rfl) (Or.inl rfl) (qr_fitI rfl _) rfl ?_
    refine qy_wS (qw_s σ 42 1 ((σ 42 1) + 1)) rfl (fun σ24 e25 => ?_)
    have hI26 : qI σ24 α20 κ ρ := by rw [e25]; exact qI_s hI22 42 1 rfl (show (-2147483648) ≤ ((σ 42 1) + 1) ∧ ((σ 42 1) + 1) ≤ 2147483647 by omega)
    have hF27 : qFr [(42, 1)] [43] σ α σ24 α20 := by rw [e25]; exact qFr_s hF23 42 1 _ (by decide)
    refine qr_getst 35 rfl rfl ?_
    refine qr_iload_n 36 rfl rfl rfl ?_
    refine qr_iaload 37 rfl rfl (by decide) (by decide) rfl ?_
    refine qy_v 0 (by decide) ?_
    refine qr_istore _ 39 rfl (by decide) rfl rfl ?_
    refine qr_iload_n 40 rfl rfl rfl ?_
    refine qr_look (off := 227) 267 rfl (by omega) (by decide) (by decide) rfl ?_
    refine qr_aload_n 268 rfl rfl rfl ?_
    refine qr_iload 270 rfl rfl rfl ?_
    refine qr_iload_n 271 rfl rfl rfl ?_
    refine qr_iconst 272 rfl rfl ?_
    refine qr_iload 274 rfl rfl rfl ?_
    refine qr_iload 276 rfl rfl rfl ?_
    refine qr_iload 278 rfl rfl rfl ?_
    have hs28 : (-2147483648) ≤ σ24 42 1 ∧ σ24 42 1 ≤ 2147483647 := hI26.1 42 1
    have hs29 : σ24 42 1 = ((σ 42 1) + 1) := (congrFun (congrFun e25 42) 1).trans rfl
    refine qr_callN 281 rfl rfl rfl (sf_152_42f0_4_3 (d := d + 0) hI26 r4 r5 r6 (by omega)) ?_
    have hs32 : (-2147483648) ≤ σ24 42 1 ∧ σ24 42 1 ≤ 2147483647 := hI26.1 42 1
    have hs33 : σ24 42 1 = ((σ 42 1) + 1) := (congrFun (congrFun e25 42) 1).trans rfl
    rintro _ _ ⟨σ34, α35, rfl, hI36, hG37, v30, rfl, hv30, hp31⟩
    have hF38 : qFr [(42, 1)] [43] σ α σ34 α35 := qFr_t hF27 hG37 (by decide) (by decide)
    have hs39 : (-2147483648) ≤ σ34 42 1 ∧ σ34 42 1 ≤ 2147483647 := hI36.1 42 1
    show qr_W (qe L xs vb) (d + 8) qx_e153 _ (281, _, [.int (qz v30)], qw σ34 α35 κ ρ, 0, 0)
    refine qr_iconst 282 rfl rfl ?_
    refine qr_ixor 283 rfl rfl ?_
    refine qy_can (fun v40 hv40 => ?_)
    refine qr_retI rfl rfl (by decide) (by decide) ?_
    have hw41 : σ34 42 1 = (σ34 42 1) := rfl
    exact ⟨_, _, rfl, hI36, hF38, v40, rfl, hv40, by omega⟩

set_option maxHeartbeats 4000000 in
set_option maxRecDepth 20000 in
/-- OneRoof$Acts.runFrom -/
theorem sf_152_42f4_4_3 {L : Nat} {xs : Nat → Int} {vb : Bool} {d : Nat} {σ α : Nat → Nat → Int} {κ : Nat → Option Nat} {ρ : Nat} {x4 : Int} {x5 : Int} {x6 : Int} (hI : qI σ α κ ρ) (r4 : (-2147483648) ≤ x4 ∧ x4 ≤ 2147483647) (r5 : (-2147483648) ≤ x5 ∧ x5 ≤ 2147483647) (r6 : 0 ≤ x6 ∧ x6 ≤ 36) (p0 : 0 ≤ σ 42 1 ∧ σ 42 1 ≤ 1600) : qm_T (qe L xs vb) (d + 10) 152 [.ref 42, .int (qz 4), .int (qz 4), .int (qz 3), .int (qz x4), .int (qz x5), .int (qz x6)] (qw σ α κ ρ) (fun r w' => ∃ σ' α', w' = qw σ' α' κ ρ ∧ qI σ' α' κ ρ ∧ qFr [(42, 1)] [43] σ α σ' α' ∧ ∃ v : Int, r = some (.int (qz v)) ∧ ((-2147483648) ≤ v ∧ v ≤ 2147483647) ∧ σ' 42 1 = σ 42 1 + 5) := by
  refine qr_start (d := d + 9) qv_e152 (Nat.le_of_ble_eq_true rfl) ?_
  show qr_W (qe L xs vb) (d + 9) qx_e152 _ (0, [(0, .ref 42), (1, .int (qz 4)), (2, .int (qz 4)), (3, .int (qz 3)), (4, .int (qz x4)), (5, .int (qz x5)), (6, .int (qz x6))], [], _, 0, 0)
  have hF0 := qFr_rf [(42, 1)] [43] σ α
  have hz42_1 : (-2147483648) ≤ σ 42 1 ∧ σ 42 1 ≤ 2147483647 := hI.1 42 1
  refine qr_iload_n 1 rfl rfl rfl ?_
  refine qr_istore _ 3 rfl (by decide) rfl rfl ?_
  refine qr_iconst 4 rfl rfl ?_
  refine qr_istore _ 6 rfl (by decide) rfl rfl ?_
  refine qr_iload 8 rfl rfl rfl ?_
  refine qr_getst 11 rfl rfl ?_
  refine qr_alen 12 rfl rfl (by first | exact Or.inl (by decide) | exact Or.inr (Or.inl rfl) | exact Or.inr (Or.inr (Or.inl rfl)) | exact Or.inr (Or.inr (Or.inr (Or.inl rfl)))) rfl ?_
  refine qy_v 7 rfl ?_
  refine qr_icmp_ge 89 15 rfl rfl rfl (by decide) (by decide) (fun h => False.elim (by omega)) (fun h1 => ?_)
  refine qr_iload 17 rfl rfl rfl ?_
  refine qr_if_lt 89 20 rfl rfl rfl (by decide) (fun h => False.elim (by omega)) (fun h2 => ?_)
  refine qr_iload 22 rfl rfl rfl ?_
  refine qr_getst 25 rfl rfl ?_
  refine qr_alen 26 rfl rfl (by first | exact Or.inl (by decide) | exact Or.inr (Or.inl rfl) | exact Or.inr (Or.inr (Or.inl rfl)) | exact Or.inr (Or.inr (Or.inr (Or.inl rfl)))) rfl ?_
  refine qy_v 7 rfl ?_
  refine qr_icmp_ge 89 29 rfl rfl rfl (by decide) (by decide) (fun h => False.elim (by omega)) (fun h3 => ?_)
  refine qr_getst 32 rfl rfl ?_
  refine qr_iload 34 rfl rfl rfl ?_
  refine qr_iconst 35 rfl rfl ?_
  refine qr_imul 36 rfl rfl ?_
  refine qy_v 16 rfl ?_
  refine qr_iload_n 37 rfl rfl rfl ?_
  refine qr_iadd 38 rfl rfl ?_
  refine qy_v 19 rfl ?_
  refine qr_iaload 39 rfl rfl (by decide) (by decide) rfl ?_
  refine qy_v 50 (by decide) ?_
  refine qr_istore _ 41 rfl (by decide) rfl rfl ?_
  refine qr_iload 43 rfl rfl rfl ?_
  refine qr_if_eq 75 46 rfl rfl rfl (by decide) (fun h => False.elim (by omega)) (fun h4 => ?_)
  refine qr_iload 48 rfl rfl rfl ?_
  refine qr_bipush 50 rfl (by decide) rfl ?_
  refine qr_icmp_le 57 53 rfl rfl rfl (qrg r6 (by decide) (by decide)) (by decide) (fun h5 => ?_) (fun h => False.elim (by omega))
  refine qr_aload_n 58 rfl rfl rfl ?_
  refine qr_iload 60 rfl rfl rfl ?_
  refine qr_iload 62 rfl rfl rfl ?_
  refine qr_iload_n 63 rfl rfl rfl ?_
  refine qr_iload 65 rfl rfl rfl ?_
  refine qr_iload 67 rfl rfl rfl ?_
  refine qr_iload 69 rfl rfl rfl ?_
  refine qr_iconst 70 rfl rfl ?_
  refine qr_iadd 71 rfl rfl ?_
  have hs6 : (-2147483648) ≤ σ 42 1 ∧ σ 42 1 ≤ 2147483647 := hI.1 42 1
  refine qr_callN 74 rfl rfl rfl (sf_153_42b50_4_4 (d := d + 0) hI r4 r5 (by omega) (by omega)) ?_
  have hs9 : (-2147483648) ≤ σ 42 1 ∧ σ 42 1 ≤ 2147483647 := hI.1 42 1
  rintro _ _ ⟨σ10, α11, rfl, hI12, hG13, v7, rfl, hv7, hp8⟩
  have hF14 : qFr [(42, 1)] [43] σ α σ10 α11 := qFr_t hF0 hG13 (by decide) (by decide)
  have hs15 : (-2147483648) ≤ σ10 42 1 ∧ σ10 42 1 ≤ 2147483647 := hI12.1 42 1
  show qr_W (qe L xs vb) (d + 9) qx_e152 _ (74, _, [.int (qz v7)], qw σ10 α11 κ ρ, 0, 0)
  refine qr_retI rfl rfl (by decide) (by decide) ?_
  have hw16 : σ10 42 1 = (σ10 42 1) := rfl
  exact ⟨_, _, rfl, hI12, hF14, v7, rfl, hv7, by omega⟩

set_option maxHeartbeats 4000000 in
set_option maxRecDepth 20000 in
/-- OneRoof$Acts.run -/
theorem sf_151_42r4_3 {L : Nat} {xs : Nat → Int} {vb : Bool} {d : Nat} {σ α : Nat → Nat → Int} {κ : Nat → Option Nat} {ρ : Nat} {x3 : Int} {x4 : Int} {x5 : Int} (hI : qI σ α κ ρ) (r3 : (-2147483648) ≤ x3 ∧ x3 ≤ 2147483647) (r4 : (-2147483648) ≤ x4 ∧ x4 ≤ 2147483647) (r5 : 0 ≤ x5 ∧ x5 ≤ 36) (p0 : 0 ≤ σ 42 1 ∧ σ 42 1 ≤ 1600) : qm_T (qe L xs vb) (d + 11) 151 [.ref 42, .int (qz 4), .int (qz 3), .int (qz x3), .int (qz x4), .int (qz x5)] (qw σ α κ ρ) (fun r w' => ∃ σ' α', w' = qw σ' α' κ ρ ∧ qI σ' α' κ ρ ∧ qFr [(42, 1)] [43] σ α σ' α' ∧ ∃ v : Int, r = some (.int (qz v)) ∧ ((-2147483648) ≤ v ∧ v ≤ 2147483647) ∧ σ' 42 1 = σ 42 1 + 5) := by
  refine qr_start (d := d + 10) qv_e151 (Nat.le_of_ble_eq_true rfl) ?_
  show qr_W (qe L xs vb) (d + 10) qx_e151 _ (0, [(0, .ref 42), (1, .int (qz 4)), (2, .int (qz 3)), (3, .int (qz x3)), (4, .int (qz x4)), (5, .int (qz x5))], [], _, 0, 0)
  have hF0 := qFr_rf [(42, 1)] [43] σ α
  have hz42_1 : (-2147483648) ≤ σ 42 1 ∧ σ 42 1 ≤ 2147483647 := hI.1 42 1
  refine qr_aload_n 1 rfl rfl rfl ?_
  refine qr_iload_n 2 rfl rfl rfl ?_
  refine qr_iload_n 3 rfl rfl rfl ?_
  refine qr_iload_n 4 rfl rfl rfl ?_
  refine qr_iload_n 5 rfl rfl rfl ?_
  refine qr_iload 7 rfl rfl rfl ?_
  refine qr_iload 9 rfl rfl rfl ?_
  have hs1 : (-2147483648) ≤ σ 42 1 ∧ σ 42 1 ≤ 2147483647 := hI.1 42 1
  refine qr_callN 12 rfl rfl rfl (sf_152_42f4_4_3 (d := d + 0) hI r3 r4 r5 (by omega)) ?_
  have hs4 : (-2147483648) ≤ σ 42 1 ∧ σ 42 1 ≤ 2147483647 := hI.1 42 1
  rintro _ _ ⟨σ5, α6, rfl, hI7, hG8, v2, rfl, hv2, hp3⟩
  have hF9 : qFr [(42, 1)] [43] σ α σ5 α6 := qFr_t hF0 hG8 (by decide) (by decide)
  have hs10 : (-2147483648) ≤ σ5 42 1 ∧ σ5 42 1 ≤ 2147483647 := hI7.1 42 1
  show qr_W (qe L xs vb) (d + 10) qx_e151 _ (12, _, [.int (qz v2)], qw σ5 α6 κ ρ, 0, 0)
  refine qr_retI rfl rfl (by decide) (by decide) ?_
  have hw11 : σ5 42 1 = (σ5 42 1) := rfl
  exact ⟨_, _, rfl, hI7, hF9, v2, rfl, hv2, by omega⟩

set_option maxHeartbeats 4000000 in
set_option maxRecDepth 20000 in
/-- OneRoof$Acts.start -/
theorem sf_150_42s4_3 {L : Nat} {xs : Nat → Int} {vb : Bool} {d : Nat} {σ α : Nat → Nat → Int} {κ : Nat → Option Nat} {ρ : Nat} {x3 : Int} {x4 : Int} (hI : qI σ α κ ρ) (r3 : (-2147483648) ≤ x3 ∧ x3 ≤ 2147483647) (r4 : (-2147483648) ≤ x4 ∧ x4 ≤ 2147483647) (p0 : σ 42 1 = 0) : qm_T (qe L xs vb) (d + 12) 150 [.ref 42, .int (qz 4), .int (qz 3), .int (qz x3), .int (qz x4)] (qw σ α κ ρ) (fun r w' => ∃ σ' α', w' = qw σ' α' κ ρ ∧ qI σ' α' κ ρ ∧ qFr [(42, 1)] [43] σ α σ' α' ∧ ∃ v : Int, r = some (.int (qz v)) ∧ ((-2147483648) ≤ v ∧ v ≤ 2147483647)) := by
  refine qr_start (d := d + 11) qv_e150 (Nat.le_of_ble_eq_true rfl) ?_
  show qr_W (qe L xs vb) (d + 11) qx_e150 _ (0, [(0, .ref 42), (1, .int (qz 4)), (2, .int (qz 3)), (3, .int (qz x3)), (4, .int (qz x4))], [], _, 0, 0)
  have hF0 := qFr_rf [(42, 1)] [43] σ α
  have hz42_1 : (-2147483648) ≤ σ 42 1 ∧ σ 42 1 ≤ 2147483647 := hI.1 42 1
  refine qr_aload_n 1 rfl rfl rfl ?_
  refine qr_iload_n 2 rfl rfl rfl ?_
  refine qr_iload_n 3 rfl rfl rfl ?_
  refine qr_iload_n 4 rfl rfl rfl ?_
  refine qr_iload 6 rfl rfl rfl ?_
  refine qr_iconst 7 rfl rfl ?_
  have hs1 : (-2147483648) ≤ σ 42 1 ∧ σ 42 1 ≤ 2147483647 := hI.1 42 1
  refine qr_callN 10 rfl rfl rfl (sf_151_42r4_3 (d := d + 0) hI r3 r4 (by decide) (by omega)) ?_
  have hs4 : (-2147483648) ≤ σ 42 1 ∧ σ 42 1 ≤ 2147483647 := hI.1 42 1
  rintro _ _ ⟨σ5, α6, rfl, hI7, hG8, v2, rfl, hv2, hp3⟩
  have hF9 : qFr [(42, 1)] [43] σ α σ5 α6 := qFr_t hF0 hG8 (by decide) (by decide)
  have hs10 : (-2147483648) ≤ σ5 42 1 ∧ σ5 42 1 ≤ 2147483647 := hI7.1 42 1
  show qr_W (qe L xs vb) (d + 11) qx_e150 _ (10, _, [.int (qz v2)], qw σ5 α6 κ ρ, 0, 0)
  refine qr_retI rfl rfl (by decide) (by decide) ?_
  exact ⟨_, _, rfl, hI7, hF9, v2, rfl, hv2⟩

set_option maxHeartbeats 4000000 in
set_option maxRecDepth 20000 in
/-- OneRoof$Acts.begin -/
theorem sf_153_42b2_0_5 {L : Nat} {xs : Nat → Int} {vb : Bool} {d : Nat} {σ α : Nat → Nat → Int} {κ : Nat → Option Nat} {ρ : Nat} {x4 : Int} {x5 : Int} {x6 : Int} (hI : qI σ α κ ρ) (r4 : (-2147483648) ≤ x4 ∧ x4 ≤ 2147483647) (r5 : (-2147483648) ≤ x5 ∧ x5 ≤ 2147483647) (r6 : 0 ≤ x6 ∧ x6 ≤ 37) (p0 : 0 ≤ σ 42 1 ∧ σ 42 1 ≤ 1600) : qm_T (qe L xs vb) (d + 10) 153 [.ref 42, .int (qz 2), .int (qz 0), .int (qz 5), .int (qz x4), .int (qz x5), .int (qz x6)] (qw σ α κ ρ) (fun r w' => ∃ σ' α', w' = qw σ' α' κ ρ ∧ qI σ' α' κ ρ ∧ qFr [(42, 1)] [43] σ α σ' α' ∧ ∃ v : Int, r = some (.int (qz v)) ∧ ((-2147483648) ≤ v ∧ v ≤ 2147483647) ∧ σ' 42 1 = σ 42 1 + 6) := by
  refine qr_start (d := d + 9) qv_e153 (Nat.le_of_ble_eq_true rfl) ?_
  show qr_W (qe L xs vb) (d + 9) qx_e153 _ (0, [(0, .ref 42), (1, .int (qz 2)), (2, .int (qz 0)), (3, .int (qz 5)), (4, .int (qz x4)), (5, .int (qz x5)), (6, .int (qz x6))], [], _, 0, 0)
  have hF0 := qFr_rf [(42, 1)] [43] σ α
  have hz42_1 : (-2147483648) ≤ σ 42 1 ∧ σ 42 1 ≤ 2147483647 := hI.1 42 1
  refine qr_aload_n 1 rfl rfl rfl ?_
  refine qr_get 4 rfl rfl rfl (by decide) rfl ?_
  refine qr_aload_n 5 rfl rfl rfl ?_
  refine qr_get 8 rfl rfl rfl (by decide) rfl ?_
  refine qr_alen 9 rfl rfl (by first | exact Or.inl (by decide) | exact Or.inr (Or.inl rfl) | exact Or.inr (Or.inr (Or.inl rfl)) | exact Or.inr (Or.inr (Or.inr (Or.inl rfl)))) rfl ?_
  refine qy_v 24 rfl ?_
  refine qr_icmp_ge 22 12 rfl rfl rfl hz42_1 (by decide) (fun h1 => ?_) (fun h1 => ?_)
  · skip
    refine qr_aload_n 23 rfl rfl rfl ?_
    refine qr_dup 24 rfl rfl rfl ?_
    refine qr_get 27 rfl rfl rfl (by decide) rfl ?_
    refine qr_iconst 28 rfl rfl ?_
    refine qr_iadd 29 rfl rfl ?_
    refine qr_put 32 rfl (by decide) rfl (Nat.le_of_ble_eq_true rfl) (Nat.le_of_ble_eq_true rfl) (Or.inl rfl) (qr_fitI rfl _) rfl ?_
    refine qy_wS (qw_s σ 42 1 ((σ 42 1) + 1)) rfl (fun σ2 e3 => ?_)
    have hI4 : qI σ2 α κ ρ := by rw [e3]; exact qI_s hI 42 1 rfl (show (-2147483648) ≤ ((σ 42 1) + 1) ∧ ((σ 42 1) + 1) ≤ 2147483647 by omega)
    have hF5 : qFr [(42, 1)] [43] σ α σ2 α := by rw [e3]; exact qFr_s hF0 42 1 _ (by decide)
    refine qr_getst 35 rfl rfl ?_
    refine qr_iload_n 36 rfl rfl rfl ?_
    refine qr_iaload 37 rfl rfl (by decide) (by decide) rfl ?_
    refine qy_v (-1) (by decide) ?_
    refine qr_istore _ 39 rfl (by decide) rfl rfl ?_
    refine qr_iload_n 40 rfl rfl rfl ?_
    refine qr_look (off := 114) 154 rfl (by omega) (by decide) (by decide) rfl ?_
    refine qr_aload_n 155 rfl rfl rfl ?_
    refine qr_iload_n 156 rfl rfl rfl ?_
    refine qr_iconst 157 rfl rfl ?_
    refine qr_iload 159 rfl rfl rfl ?_
    refine qr_iload 161 rfl rfl rfl ?_
    refine qr_iload 163 rfl rfl rfl ?_
    have hs6 : (-2147483648) ≤ σ2 42 1 ∧ σ2 42 1 ≤ 2147483647 := hI4.1 42 1
    have hs7 : σ2 42 1 = ((σ 42 1) + 1) := (congrFun (congrFun e3 42) 1).trans rfl
    refine qr_callN 166 rfl rfl rfl (sf_151_42r5_1 (d := d + 0) hI4 r4 r5 r6 (by omega)) ?_
    have hs10 : (-2147483648) ≤ σ2 42 1 ∧ σ2 42 1 ≤ 2147483647 := hI4.1 42 1
    have hs11 : σ2 42 1 = ((σ 42 1) + 1) := (congrFun (congrFun e3 42) 1).trans rfl
    rintro _ _ ⟨σ12, α13, rfl, hI14, hG15, v8, rfl, hv8, hp9⟩
    have hF16 : qFr [(42, 1)] [43] σ α σ12 α13 := qFr_t hF5 hG15 (by decide) (by decide)
    have hs17 : (-2147483648) ≤ σ12 42 1 ∧ σ12 42 1 ≤ 2147483647 := hI14.1 42 1
    show qr_W (qe L xs vb) (d + 9) qx_e153 _ (166, _, [.int (qz v8)], qw σ12 α13 κ ρ, 0, 0)
    refine qr_aload_n 167 rfl rfl rfl ?_
    refine qr_iload_n 168 rfl rfl rfl ?_
    refine qr_iconst 169 rfl rfl ?_
    refine qr_iconst 170 rfl rfl ?_
    refine qr_iload 172 rfl rfl rfl ?_
    refine qr_iload 174 rfl rfl rfl ?_
    have hs18 : (-2147483648) ≤ σ12 42 1 ∧ σ12 42 1 ≤ 2147483647 := hI14.1 42 1
    refine qr_callN 177 rfl rfl rfl (sf_151_42r5_2 (d := d + 6) hI14 (by decide) r5 (qrg r6 (by decide) (by decide)) (by omega)) ?_
    have hs21 : (-2147483648) ≤ σ12 42 1 ∧ σ12 42 1 ≤ 2147483647 := hI14.1 42 1
    rintro _ _ ⟨σ22, α23, rfl, hI24, hG25, v19, rfl, hv19, hp20⟩
    have hF26 : qFr [(42, 1)] [43] σ α σ22 α23 := qFr_t hF16 hG25 (by decide) (by decide)
    have hs27 : (-2147483648) ≤ σ22 42 1 ∧ σ22 42 1 ≤ 2147483647 := hI24.1 42 1
    show qr_W (qe L xs vb) (d + 9) qx_e153 _ (177, _, [.int (qz v19), .int (qz v8)], qw σ22 α23 κ ρ, 0, 0)
    refine qr_isub 178 rfl rfl ?_
    refine qy_can (fun v28 hv28 => ?_)
    refine qr_retI rfl rfl (by decide) (by decide) ?_
    have hw29 : σ22 42 1 = (σ22 42 1) := rfl
    exact ⟨_, _, rfl, hI24, hF26, v28, rfl, hv28, by omega⟩
  · skip
    refine qr_aload_n 13 rfl rfl rfl ?_
    refine qr_get 16 rfl rfl rfl (by decide) rfl ?_
    refine qr_aload_n 17 rfl rfl rfl ?_
    refine qr_get 20 rfl rfl rfl (by decide) rfl ?_
    refine qr_iload_n 21 rfl rfl rfl ?_
    refine qr_iastore 22 rfl (by decide) rfl (by omega) (by decide) rfl ?_
    refine qy_wA (qw_r α 43 (qzu (α 43) ((σ 42 1) : Int).toNat 2)) rfl (fun α30 e31 => ?_)
    have hI32 : qI σ α30 κ ρ := by rw [e31]; exact qI_r hI 43 _ rfl (show (-2147483648) ≤ 2 ∧ 2 ≤ 2147483647 by omega)
    have hF33 : qFr [(42, 1)] [43] σ α σ α30 := by rw [e31]; exact qFr_r hF0 43 _ (by decide)
    refine qr_aload_n 23 rfl rfl rfl ?_
    refine qr_dup 24 rfl rfl rfl ?_
    refine qr_get 27 rfl rfl rfl (by decide) rfl ?_
    refine qr_iconst 28 rfl rfl ?_
    refine qr_iadd 29 rfl rfl ?_
    refine qr_put 32 rfl (by decide) rfl (Nat.le_of_ble_eq_true rfl) (Nat.le_of_ble_eq_true rfl) (Or.inl rfl) (qr_fitI rfl _) rfl ?_
    refine qy_wS (qw_s σ 42 1 ((σ 42 1) + 1)) rfl (fun σ34 e35 => ?_)
    have hI36 : qI σ34 α30 κ ρ := by rw [e35]; exact qI_s hI32 42 1 rfl (show (-2147483648) ≤ ((σ 42 1) + 1) ∧ ((σ 42 1) + 1) ≤ 2147483647 by omega)
    have hF37 : qFr [(42, 1)] [43] σ α σ34 α30 := by rw [e35]; exact qFr_s hF33 42 1 _ (by decide)
    refine qr_getst 35 rfl rfl ?_
    refine qr_iload_n 36 rfl rfl rfl ?_
    refine qr_iaload 37 rfl rfl (by decide) (by decide) rfl ?_
    refine qy_v (-1) (by decide) ?_
    refine qr_istore _ 39 rfl (by decide) rfl rfl ?_
    refine qr_iload_n 40 rfl rfl rfl ?_
    refine qr_look (off := 114) 154 rfl (by omega) (by decide) (by decide) rfl ?_
    refine qr_aload_n 155 rfl rfl rfl ?_
    refine qr_iload_n 156 rfl rfl rfl ?_
    refine qr_iconst 157 rfl rfl ?_
    refine qr_iload 159 rfl rfl rfl ?_
    refine qr_iload 161 rfl rfl rfl ?_
    refine qr_iload 163 rfl rfl rfl ?_
    have hs38 : (-2147483648) ≤ σ34 42 1 ∧ σ34 42 1 ≤ 2147483647 := hI36.1 42 1
    have hs39 : σ34 42 1 = ((σ 42 1) + 1) := (congrFun (congrFun e35 42) 1).trans rfl
    refine qr_callN 166 rfl rfl rfl (sf_151_42r5_1 (d := d + 0) hI36 r4 r5 r6 (by omega)) ?_
    have hs42 : (-2147483648) ≤ σ34 42 1 ∧ σ34 42 1 ≤ 2147483647 := hI36.1 42 1
    have hs43 : σ34 42 1 = ((σ 42 1) + 1) := (congrFun (congrFun e35 42) 1).trans rfl
    rintro _ _ ⟨σ44, α45, rfl, hI46, hG47, v40, rfl, hv40, hp41⟩
    have hF48 : qFr [(42, 1)] [43] σ α σ44 α45 := qFr_t hF37 hG47 (by decide) (by decide)
    have hs49 : (-2147483648) ≤ σ44 42 1 ∧ σ44 42 1 ≤ 2147483647 := hI46.1 42 1
    show qr_W (qe L xs vb) (d + 9) qx_e153 _ (166, _, [.int (qz v40)], qw σ44 α45 κ ρ, 0, 0)
    refine qr_aload_n 167 rfl rfl rfl ?_
    refine qr_iload_n 168 rfl rfl rfl ?_
    refine qr_iconst 169 rfl rfl ?_
    refine qr_iconst 170 rfl rfl ?_
    refine qr_iload 172 rfl rfl rfl ?_
    refine qr_iload 174 rfl rfl rfl ?_
    have hs50 : (-2147483648) ≤ σ44 42 1 ∧ σ44 42 1 ≤ 2147483647 := hI46.1 42 1
    refine qr_callN 177 rfl rfl rfl (sf_151_42r5_2 (d := d + 6) hI46 (by decide) r5 (qrg r6 (by decide) (by decide)) (by omega)) ?_
    have hs53 : (-2147483648) ≤ σ44 42 1 ∧ σ44 42 1 ≤ 2147483647 := hI46.1 42 1
    rintro _ _ ⟨σ54, α55, rfl, hI56, hG57, v51, rfl, hv51, hp52⟩
    have hF58 : qFr [(42, 1)] [43] σ α σ54 α55 := qFr_t hF48 hG57 (by decide) (by decide)
    have hs59 : (-2147483648) ≤ σ54 42 1 ∧ σ54 42 1 ≤ 2147483647 := hI56.1 42 1
    show qr_W (qe L xs vb) (d + 9) qx_e153 _ (177, _, [.int (qz v51), .int (qz v40)], qw σ54 α55 κ ρ, 0, 0)
    refine qr_isub 178 rfl rfl ?_
    refine qy_can (fun v60 hv60 => ?_)
    refine qr_retI rfl rfl (by decide) (by decide) ?_
    have hw61 : σ54 42 1 = (σ54 42 1) := rfl
    exact ⟨_, _, rfl, hI56, hF58, v60, rfl, hv60, by omega⟩

set_option maxHeartbeats 4000000 in
set_option maxRecDepth 20000 in
/-- OneRoof$Acts.runFrom -/
theorem sf_152_42f0_5_3 {L : Nat} {xs : Nat → Int} {vb : Bool} {d : Nat} {σ α : Nat → Nat → Int} {κ : Nat → Option Nat} {ρ : Nat} {x4 : Int} {x5 : Int} {x6 : Int} (hI : qI σ α κ ρ) (r4 : (-2147483648) ≤ x4 ∧ x4 ≤ 2147483647) (r5 : (-2147483648) ≤ x5 ∧ x5 ≤ 2147483647) (r6 : 0 ≤ x6 ∧ x6 ≤ 36) (p0 : 0 ≤ σ 42 1 ∧ σ 42 1 ≤ 1600) : qm_T (qe L xs vb) (d + 11) 152 [.ref 42, .int (qz 0), .int (qz 5), .int (qz 3), .int (qz x4), .int (qz x5), .int (qz x6)] (qw σ α κ ρ) (fun r w' => ∃ σ' α', w' = qw σ' α' κ ρ ∧ qI σ' α' κ ρ ∧ qFr [(42, 1)] [43] σ α σ' α' ∧ ∃ v : Int, r = some (.int (qz v)) ∧ ((-2147483648) ≤ v ∧ v ≤ 2147483647) ∧ σ' 42 1 = σ 42 1 + 6) := by
  refine qr_start (d := d + 10) qv_e152 (Nat.le_of_ble_eq_true rfl) ?_
  show qr_W (qe L xs vb) (d + 10) qx_e152 _ (0, [(0, .ref 42), (1, .int (qz 0)), (2, .int (qz 5)), (3, .int (qz 3)), (4, .int (qz x4)), (5, .int (qz x5)), (6, .int (qz x6))], [], _, 0, 0)
  have hF0 := qFr_rf [(42, 1)] [43] σ α
  have hz42_1 : (-2147483648) ≤ σ 42 1 ∧ σ 42 1 ≤ 2147483647 := hI.1 42 1
  refine qr_iload_n 1 rfl rfl rfl ?_
  refine qr_istore _ 3 rfl (by decide) rfl rfl ?_
  refine qr_iconst 4 rfl rfl ?_
  refine qr_istore _ 6 rfl (by decide) rfl rfl ?_
  refine qr_iload 8 rfl rfl rfl ?_
  refine qr_getst 11 rfl rfl ?_
  refine qr_alen 12 rfl rfl (by first | exact Or.inl (by decide) | exact Or.inr (Or.inl rfl) | exact Or.inr (Or.inr (Or.inl rfl)) | exact Or.inr (Or.inr (Or.inr (Or.inl rfl)))) rfl ?_
  refine qy_v 7 rfl ?_
  refine qr_icmp_ge 89 15 rfl rfl rfl (by decide) (by decide) (fun h => False.elim (by omega)) (fun h1 => ?_)
  refine qr_iload 17 rfl rfl rfl ?_
  refine qr_if_lt 89 20 rfl rfl rfl (by decide) (fun h => False.elim (by omega)) (fun h2 => ?_)
  refine qr_iload 22 rfl rfl rfl ?_
  refine qr_getst 25 rfl rfl ?_
  refine qr_alen 26 rfl rfl (by first | exact Or.inl (by decide) | exact Or.inr (Or.inl rfl) | exact Or.inr (Or.inr (Or.inl rfl)) | exact Or.inr (Or.inr (Or.inr (Or.inl rfl)))) rfl ?_
  refine qy_v 7 rfl ?_
  refine qr_icmp_ge 89 29 rfl rfl rfl (by decide) (by decide) (fun h => False.elim (by omega)) (fun h3 => ?_)
  refine qr_getst 32 rfl rfl ?_
  refine qr_iload 34 rfl rfl rfl ?_
  refine qr_iconst 35 rfl rfl ?_
  refine qr_imul 36 rfl rfl ?_
  refine qy_v 0 rfl ?_
  refine qr_iload_n 37 rfl rfl rfl ?_
  refine qr_iadd 38 rfl rfl ?_
  refine qy_v 3 rfl ?_
  refine qr_iaload 39 rfl rfl (by decide) (by decide) rfl ?_
  refine qy_v 2 (by decide) ?_
  refine qr_istore _ 41 rfl (by decide) rfl rfl ?_
  refine qr_iload 43 rfl rfl rfl ?_
  refine qr_if_eq 75 46 rfl rfl rfl (by decide) (fun h => False.elim (by omega)) (fun h4 => ?_)
  refine qr_iload 48 rfl rfl rfl ?_
  refine qr_bipush 50 rfl (by decide) rfl ?_
  refine qr_icmp_le 57 53 rfl rfl rfl (qrg r6 (by decide) (by decide)) (by decide) (fun h5 => ?_) (fun h => False.elim (by omega))
  refine qr_aload_n 58 rfl rfl rfl ?_
  refine qr_iload 60 rfl rfl rfl ?_
  refine qr_iload 62 rfl rfl rfl ?_
  refine qr_iload_n 63 rfl rfl rfl ?_
  refine qr_iload 65 rfl rfl rfl ?_
  refine qr_iload 67 rfl rfl rfl ?_
  refine qr_iload 69 rfl rfl rfl ?_
  refine qr_iconst 70 rfl rfl ?_
  refine qr_iadd 71 rfl rfl ?_
  have hs6 : (-2147483648) ≤ σ 42 1 ∧ σ 42 1 ≤ 2147483647 := hI.1 42 1
  refine qr_callN 74 rfl rfl rfl (sf_153_42b2_0_5 (d := d + 0) hI r4 r5 (by omega) (by omega)) ?_
  have hs9 : (-2147483648) ≤ σ 42 1 ∧ σ 42 1 ≤ 2147483647 := hI.1 42 1
  rintro _ _ ⟨σ10, α11, rfl, hI12, hG13, v7, rfl, hv7, hp8⟩
  have hF14 : qFr [(42, 1)] [43] σ α σ10 α11 := qFr_t hF0 hG13 (by decide) (by decide)
  have hs15 : (-2147483648) ≤ σ10 42 1 ∧ σ10 42 1 ≤ 2147483647 := hI12.1 42 1
  show qr_W (qe L xs vb) (d + 10) qx_e152 _ (74, _, [.int (qz v7)], qw σ10 α11 κ ρ, 0, 0)
  refine qr_retI rfl rfl (by decide) (by decide) ?_
  have hw16 : σ10 42 1 = (σ10 42 1) := rfl
  exact ⟨_, _, rfl, hI12, hF14, v7, rfl, hv7, by omega⟩

set_option maxHeartbeats 4000000 in
set_option maxRecDepth 20000 in
/-- OneRoof$Acts.begin -/
theorem sf_153_42b50_4_5 {L : Nat} {xs : Nat → Int} {vb : Bool} {d : Nat} {σ α : Nat → Nat → Int} {κ : Nat → Option Nat} {ρ : Nat} {x4 : Int} {x5 : Int} {x6 : Int} (hI : qI σ α κ ρ) (r4 : (-2147483648) ≤ x4 ∧ x4 ≤ 2147483647) (r5 : (-2147483648) ≤ x5 ∧ x5 ≤ 2147483647) (r6 : 0 ≤ x6 ∧ x6 ≤ 36) (p0 : 0 ≤ σ 42 1 ∧ σ 42 1 ≤ 1500) : qm_T (qe L xs vb) (d + 12) 153 [.ref 42, .int (qz 50), .int (qz 4), .int (qz 5), .int (qz x4), .int (qz x5), .int (qz x6)] (qw σ α κ ρ) (fun r w' => ∃ σ' α', w' = qw σ' α' κ ρ ∧ qI σ' α' κ ρ ∧ qFr [(42, 1)] [43] σ α σ' α' ∧ ∃ v : Int, r = some (.int (qz v)) ∧ ((-2147483648) ≤ v ∧ v ≤ 2147483647) ∧ σ' 42 1 = σ 42 1 + 7) := by
  refine qr_start (d := d + 11) qv_e153 (Nat.le_of_ble_eq_true rfl) ?_
  show qr_W (qe L xs vb) (d + 11) qx_e153 _ (0, [(0, .ref 42), (1, .int (qz 50)), (2, .int (qz 4)), (3, .int (qz 5)), (4, .int (qz x4)), (5, .int (qz x5)), (6, .int (qz x6))], [], _, 0, 0)
  have hF0 := qFr_rf [(42, 1)] [43] σ α
  have hz42_1 : (-2147483648) ≤ σ 42 1 ∧ σ 42 1 ≤ 2147483647 := hI.1 42 1
  refine qr_aload_n 1 rfl rfl rfl ?_
  refine qr_get 4 rfl rfl rfl (by decide) rfl ?_
  refine qr_aload_n 5 rfl rfl rfl ?_
  refine qr_get 8 rfl rfl rfl (by decide) rfl ?_
  refine qr_alen 9 rfl rfl (by first | exact Or.inl (by decide) | exact Or.inr (Or.inl rfl) | exact Or.inr (Or.inr (Or.inl rfl)) | exact Or.inr (Or.inr (Or.inr (Or.inl rfl)))) rfl ?_
  refine qy_v 24 rfl ?_
  refine qr_icmp_ge 22 12 rfl rfl rfl hz42_1 (by decide) (fun h1 => ?_) (fun h1 => ?_)
  · skip
    refine qr_aload_n 23 rfl rfl rfl ?_
    refine qr_dup 24 rfl rfl rfl ?_
    refine qr_get 27 rfl rfl rfl (by decide) rfl ?_
    refine qr_iconst 28 rfl rfl ?_
    refine qr_iadd 29 rfl rfl ?_
    refine qr_put 32 rfl (by decide) rfl (Nat.le_of_ble_eq_true rfl) (Nat.le_of_ble_eq_true rfl) (Or.inl rfl) (qr_fitI rfl _) rfl ?_
    refine qy_wS (qw_s σ 42 1 ((σ 42 1) + 1)) rfl (fun σ2 e3 => ?_)
    have hI4 : qI σ2 α κ ρ := by rw [e3]; exact qI_s hI 42 1 rfl (show (-2147483648) ≤ ((σ 42 1) + 1) ∧ ((σ 42 1) + 1) ≤ 2147483647 by omega)
    have hF5 : qFr [(42, 1)] [43] σ α σ2 α := by rw [e3]; exact qFr_s hF0 42 1 _ (by decide)
    refine qr_getst 35 rfl rfl ?_
    refine qr_iload_n 36 rfl rfl rfl ?_
    refine qr_iaload 37 rfl rfl (by decide) (by decide) rfl ?_
    refine qy_v 0 (by decide) ?_
    refine qr_istore _ 39 rfl (by decide) rfl rfl ?_
    refine qr_iload_n 40 rfl rfl rfl ?_
    refine qr_look (off := 227) 267 rfl (by omega) (by decide) (by decide) rfl ?_
    refine qr_aload_n 268 rfl rfl rfl ?_
    refine qr_iload 270 rfl rfl rfl ?_
    refine qr_iload_n 271 rfl rfl rfl ?_
    refine qr_iconst 272 rfl rfl ?_
    refine qr_iload 274 rfl rfl rfl ?_
    refine qr_iload 276 rfl rfl rfl ?_
    refine qr_iload 278 rfl rfl rfl ?_
    have hs6 : (-2147483648) ≤ σ2 42 1 ∧ σ2 42 1 ≤ 2147483647 := hI4.1 42 1
    have hs7 : σ2 42 1 = ((σ 42 1) + 1) := (congrFun (congrFun e3 42) 1).trans rfl
    refine qr_callN 281 rfl rfl rfl (sf_152_42f0_5_3 (d := d + 0) hI4 r4 r5 r6 (by omega)) ?_
    have hs10 : (-2147483648) ≤ σ2 42 1 ∧ σ2 42 1 ≤ 2147483647 := hI4.1 42 1
    have hs11 : σ2 42 1 = ((σ 42 1) + 1) := (congrFun (congrFun e3 42) 1).trans rfl
    rintro _ _ ⟨σ12, α13, rfl, hI14, hG15, v8, rfl, hv8, hp9⟩
    have hF16 : qFr [(42, 1)] [43] σ α σ12 α13 := qFr_t hF5 hG15 (by decide) (by decide)
    have hs17 : (-2147483648) ≤ σ12 42 1 ∧ σ12 42 1 ≤ 2147483647 := hI14.1 42 1
    show qr_W (qe L xs vb) (d + 11) qx_e153 _ (281, _, [.int (qz v8)], qw σ12 α13 κ ρ, 0, 0)
    refine qr_iconst 282 rfl rfl ?_
    refine qr_ixor 283 rfl rfl ?_
    refine qy_can (fun v18 hv18 => ?_)
    refine qr_retI rfl rfl (by decide) (by decide) ?_
    have hw19 : σ12 42 1 = (σ12 42 1) := rfl
    exact ⟨_, _, rfl, hI14, hF16, v18, rfl, hv18, by omega⟩
  · skip
    refine qr_aload_n 13 rfl rfl rfl ?_
    refine qr_get 16 rfl rfl rfl (by decide) rfl ?_
    refine qr_aload_n 17 rfl rfl rfl ?_
    refine qr_get 20 rfl rfl rfl (by decide) rfl ?_
    refine qr_iload_n 21 rfl rfl rfl ?_
    refine qr_iastore 22 rfl (by decide) rfl (by omega) (by decide) rfl ?_
    refine qy_wA (qw_r α 43 (qzu (α 43) ((σ 42 1) : Int).toNat 50)) rfl (fun α20 e21 => ?_)
    have hI22 : qI σ α20 κ ρ := by rw [e21]; exact qI_r hI 43 _ rfl (show (-2147483648) ≤ 50 ∧ 50 ≤ 2147483647 by omega)
    have hF23 : qFr [(42, 1)] [43] σ α σ α20 := by rw [e21]; exact qFr_r hF0 43 _ (by decide)
    refine qr_aload_n 23 rfl rfl rfl ?_
    refine qr_dup 24 rfl rfl rfl ?_
    refine qr_get 27 rfl rfl rfl (by decide) rfl ?_
    refine qr_iconst 28 rfl rfl ?_
    refine qr_iadd 29 rfl rfl ?_
    refine qr_put 32 rfl (by decide) rfl (Nat.le_of_ble_eq_true rfl) (Nat.le_of_ble_eq_true rfl) (Or.inl rfl) (qr_fitI rfl _) rfl ?_
    refine qy_wS (qw_s σ 42 1 ((σ 42 1) + 1)) rfl (fun σ24 e25 => ?_)
    have hI26 : qI σ24 α20 κ ρ := by rw [e25]; exact qI_s hI22 42 1 rfl (show (-2147483648) ≤ ((σ 42 1) + 1) ∧ ((σ 42 1) + 1) ≤ 2147483647 by omega)
    have hF27 : qFr [(42, 1)] [43] σ α σ24 α20 := by rw [e25]; exact qFr_s hF23 42 1 _ (by decide)
    refine qr_getst 35 rfl rfl ?_
    refine qr_iload_n 36 rfl rfl rfl ?_
    refine qr_iaload 37 rfl rfl (by decide) (by decide) rfl ?_
    refine qy_v 0 (by decide) ?_
    refine qr_istore _ 39 rfl (by decide) rfl rfl ?_
    refine qr_iload_n 40 rfl rfl rfl ?_
    refine qr_look (off := 227) 267 rfl (by omega) (by decide) (by decide) rfl ?_
    refine qr_aload_n 268 rfl rfl rfl ?_
    refine qr_iload 270 rfl rfl rfl ?_
    refine qr_iload_n 271 rfl rfl rfl ?_
    refine qr_iconst 272 rfl rfl ?_
    refine qr_iload 274 rfl rfl rfl ?_
    refine qr_iload 276 rfl rfl rfl ?_
    refine qr_iload 278 rfl rfl rfl ?_
    have hs28 : (-2147483648) ≤ σ24 42 1 ∧ σ24 42 1 ≤ 2147483647 := hI26.1 42 1
    have hs29 : σ24 42 1 = ((σ 42 1) + 1) := (congrFun (congrFun e25 42) 1).trans rfl
    refine qr_callN 281 rfl rfl rfl (sf_152_42f0_5_3 (d := d + 0) hI26 r4 r5 r6 (by omega)) ?_
    have hs32 : (-2147483648) ≤ σ24 42 1 ∧ σ24 42 1 ≤ 2147483647 := hI26.1 42 1
    have hs33 : σ24 42 1 = ((σ 42 1) + 1) := (congrFun (congrFun e25 42) 1).trans rfl
    rintro _ _ ⟨σ34, α35, rfl, hI36, hG37, v30, rfl, hv30, hp31⟩
    have hF38 : qFr [(42, 1)] [43] σ α σ34 α35 := qFr_t hF27 hG37 (by decide) (by decide)
    have hs39 : (-2147483648) ≤ σ34 42 1 ∧ σ34 42 1 ≤ 2147483647 := hI36.1 42 1
    show qr_W (qe L xs vb) (d + 11) qx_e153 _ (281, _, [.int (qz v30)], qw σ34 α35 κ ρ, 0, 0)
    refine qr_iconst 282 rfl rfl ?_
    refine qr_ixor 283 rfl rfl ?_
    refine qy_can (fun v40 hv40 => ?_)
    refine qr_retI rfl rfl (by decide) (by decide) ?_
    have hw41 : σ34 42 1 = (σ34 42 1) := rfl
    exact ⟨_, _, rfl, hI36, hF38, v40, rfl, hv40, by omega⟩

set_option maxHeartbeats 4000000 in
set_option maxRecDepth 20000 in
/-- OneRoof$Acts.runFrom -/
theorem sf_152_42f5_5_3 {L : Nat} {xs : Nat → Int} {vb : Bool} {d : Nat} {σ α : Nat → Nat → Int} {κ : Nat → Option Nat} {ρ : Nat} {x4 : Int} {x5 : Int} {x6 : Int} (hI : qI σ α κ ρ) (r4 : (-2147483648) ≤ x4 ∧ x4 ≤ 2147483647) (r5 : (-2147483648) ≤ x5 ∧ x5 ≤ 2147483647) (r6 : 0 ≤ x6 ∧ x6 ≤ 35) (p0 : 0 ≤ σ 42 1 ∧ σ 42 1 ≤ 1500) : qm_T (qe L xs vb) (d + 13) 152 [.ref 42, .int (qz 5), .int (qz 5), .int (qz 3), .int (qz x4), .int (qz x5), .int (qz x6)] (qw σ α κ ρ) (fun r w' => ∃ σ' α', w' = qw σ' α' κ ρ ∧ qI σ' α' κ ρ ∧ qFr [(42, 1)] [43] σ α σ' α' ∧ ∃ v : Int, r = some (.int (qz v)) ∧ ((-2147483648) ≤ v ∧ v ≤ 2147483647) ∧ σ' 42 1 = σ 42 1 + 7) := by
  refine qr_start (d := d + 12) qv_e152 (Nat.le_of_ble_eq_true rfl) ?_
  show qr_W (qe L xs vb) (d + 12) qx_e152 _ (0, [(0, .ref 42), (1, .int (qz 5)), (2, .int (qz 5)), (3, .int (qz 3)), (4, .int (qz x4)), (5, .int (qz x5)), (6, .int (qz x6))], [], _, 0, 0)
  have hF0 := qFr_rf [(42, 1)] [43] σ α
  have hz42_1 : (-2147483648) ≤ σ 42 1 ∧ σ 42 1 ≤ 2147483647 := hI.1 42 1
  refine qr_iload_n 1 rfl rfl rfl ?_
  refine qr_istore _ 3 rfl (by decide) rfl rfl ?_
  refine qr_iconst 4 rfl rfl ?_
  refine qr_istore _ 6 rfl (by decide) rfl rfl ?_
  refine qr_iload 8 rfl rfl rfl ?_
  refine qr_getst 11 rfl rfl ?_
  refine qr_alen 12 rfl rfl (by first | exact Or.inl (by decide) | exact Or.inr (Or.inl rfl) | exact Or.inr (Or.inr (Or.inl rfl)) | exact Or.inr (Or.inr (Or.inr (Or.inl rfl)))) rfl ?_
  refine qy_v 7 rfl ?_
  refine qr_icmp_ge 89 15 rfl rfl rfl (by decide) (by decide) (fun h => False.elim (by omega)) (fun h1 => ?_)
  refine qr_iload 17 rfl rfl rfl ?_
  refine qr_if_lt 89 20 rfl rfl rfl (by decide) (fun h => False.elim (by omega)) (fun h2 => ?_)
  refine qr_iload 22 rfl rfl rfl ?_
  refine qr_getst 25 rfl rfl ?_
  refine qr_alen 26 rfl rfl (by first | exact Or.inl (by decide) | exact Or.inr (Or.inl rfl) | exact Or.inr (Or.inr (Or.inl rfl)) | exact Or.inr (Or.inr (Or.inr (Or.inl rfl)))) rfl ?_
  refine qy_v 7 rfl ?_
  refine qr_icmp_ge 89 29 rfl rfl rfl (by decide) (by decide) (fun h => False.elim (by omega)) (fun h3 => ?_)
  refine qr_getst 32 rfl rfl ?_
  refine qr_iload 34 rfl rfl rfl ?_
  refine qr_iconst 35 rfl rfl ?_
  refine qr_imul 36 rfl rfl ?_
  refine qy_v 20 rfl ?_
  refine qr_iload_n 37 rfl rfl rfl ?_
  refine qr_iadd 38 rfl rfl ?_
  refine qy_v 23 rfl ?_
  refine qr_iaload 39 rfl rfl (by decide) (by decide) rfl ?_
  refine qy_v 0 (by decide) ?_
  refine qr_istore _ 41 rfl (by decide) rfl rfl ?_
  refine qr_iload 43 rfl rfl rfl ?_
  refine qr_if_eq 75 46 rfl rfl rfl (by decide) (fun h4 => ?_) (fun h => False.elim (by omega))
  refine qr_getst 78 rfl rfl ?_
  refine qr_iload 80 rfl rfl rfl ?_
  refine qr_iaload 81 rfl rfl (by decide) (by decide) rfl ?_
  refine qy_v 4 (by decide) ?_
  refine qr_istore _ 83 rfl (by decide) rfl rfl ?_
  refine qr_iinc _ 86 rfl rfl (by decide) rfl rfl ?_
  refine qr_goto 6 rfl rfl ?_
  refine qr_iload 8 rfl rfl rfl ?_
  refine qr_getst 11 rfl rfl ?_
  refine qr_alen 12 rfl rfl (by first | exact Or.inl (by decide) | exact Or.inr (Or.inl rfl) | exact Or.inr (Or.inr (Or.inl rfl)) | exact Or.inr (Or.inr (Or.inr (Or.inl rfl)))) rfl ?_
  refine qy_v 7 rfl ?_
  refine qr_icmp_ge 89 15 rfl rfl rfl (by omega) (by decide) (fun h => False.elim (by omega)) (fun h5 => ?_)
  refine qr_iload 17 rfl rfl rfl ?_
  refine qr_if_lt 89 20 rfl rfl rfl (by decide) (fun h => False.elim (by omega)) (fun h6 => ?_)
  refine qr_iload 22 rfl rfl rfl ?_
  refine qr_getst 25 rfl rfl ?_
  refine qr_alen 26 rfl rfl (by first | exact Or.inl (by decide) | exact Or.inr (Or.inl rfl) | exact Or.inr (Or.inr (Or.inl rfl)) | exact Or.inr (Or.inr (Or.inr (Or.inl rfl)))) rfl ?_
  refine qy_v 7 rfl ?_
  refine qr_icmp_ge 89 29 rfl rfl rfl (by decide) (by decide) (fun h => False.elim (by omega)) (fun h7 => ?_)
  refine qr_getst 32 rfl rfl ?_
  refine qr_iload 34 rfl rfl rfl ?_
  refine qr_iconst 35 rfl rfl ?_
  refine qr_imul 36 rfl rfl ?_
  refine qy_v 16 rfl ?_
  refine qr_iload_n 37 rfl rfl rfl ?_
  refine qr_iadd 38 rfl rfl ?_
  refine qy_v 19 rfl ?_
  refine qr_iaload 39 rfl rfl (by decide) (by decide) rfl ?_
  refine qy_v 50 (by decide) ?_
  refine qr_istore _ 41 rfl (by decide) rfl rfl ?_
  refine qr_iload 43 rfl rfl rfl ?_
  refine qr_if_eq 75 46 rfl rfl rfl (by decide) (fun h => False.elim (by omega)) (fun h8 => ?_)
  as_aux_lemma =>
    refine qr_iload 48 rfl rfl rfl ?_
    refine qr_bipush 50 rfl (by decide) rfl ?_
    refine qr_icmp_le 57 53 rfl rfl rfl (qrg r6 (by decide) (by decide)) (by decide) (fun h9 => ?_) (fun h => False.elim (by omega))
    refine qr_aload_n 58 rfl rfl rfl ?_
    refine qr_iload 60 rfl rfl rfl ?_
    refine qr_iload 62 rfl rfl rfl ?_
    refine qr_iload_n 63 rfl rfl rfl ?_
    refine qr_iload 65 rfl rfl rfl ?_
    refine qr_iload 67 rfl rfl rfl ?_
    refine qr_iload 69 rfl rfl rfl ?_
    refine qr_iconst 70 rfl rfl ?_
    refine qr_iadd 71 rfl rfl ?_
    have hs10 : (-2147483648) ≤ σ 42 1 ∧ σ 42 1 ≤ 2147483647 := hI.1 42 1
    refine qr_callN 74 rfl rfl rfl (sf_153_42b50_4_5 (d := d + 0) hI r4 r5 (by omega) (by omega)) ?_
    have hs13 : (-2147483648) ≤ σ 42 1 ∧ σ 42 1 ≤ 2147483647 := hI.1 42 1
    rintro _ _ ⟨σ14, α15, rfl, hI16, hG17, v11, rfl, hv11, hp12⟩
    have hF18 : qFr [(42, 1)] [43] σ α σ14 α15 := qFr_t hF0 hG17 (by decide) (by decide)
    have hs19 : (-2147483648) ≤ σ14 42 1 ∧ σ14 42 1 ≤ 2147483647 := hI16.1 42 1
    show qr_W (qe L xs vb) (d + 12) qx_e152 _ (74, _, [.int (qz v11)], qw σ14 α15 κ ρ, 0, 0)
    refine qr_retI rfl rfl (by decide) (by decide) ?_
    have hw20 : σ14 42 1 = (σ14 42 1) := rfl
    exact ⟨_, _, rfl, hI16, hF18, v11, rfl, hv11, by omega⟩

set_option maxHeartbeats 4000000 in
set_option maxRecDepth 20000 in
/-- OneRoof$Acts.run -/
theorem sf_151_42r5_3 {L : Nat} {xs : Nat → Int} {vb : Bool} {d : Nat} {σ α : Nat → Nat → Int} {κ : Nat → Option Nat} {ρ : Nat} {x3 : Int} {x4 : Int} {x5 : Int} (hI : qI σ α κ ρ) (r3 : (-2147483648) ≤ x3 ∧ x3 ≤ 2147483647) (r4 : (-2147483648) ≤ x4 ∧ x4 ≤ 2147483647) (r5 : 0 ≤ x5 ∧ x5 ≤ 35) (p0 : 0 ≤ σ 42 1 ∧ σ 42 1 ≤ 1500) : qm_T (qe L xs vb) (d + 14) 151 [.ref 42, .int (qz 5), .int (qz 3), .int (qz x3), .int (qz x4), .int (qz x5)] (qw σ α κ ρ) (fun r w' => ∃ σ' α', w' = qw σ' α' κ ρ ∧ qI σ' α' κ ρ ∧ qFr [(42, 1)] [43] σ α σ' α' ∧ ∃ v : Int, r = some (.int (qz v)) ∧ ((-2147483648) ≤ v ∧ v ≤ 2147483647) ∧ σ' 42 1 = σ 42 1 + 7) := by
  refine qr_start (d := d + 13) qv_e151 (Nat.le_of_ble_eq_true rfl) ?_
  show qr_W (qe L xs vb) (d + 13) qx_e151 _ (0, [(0, .ref 42), (1, .int (qz 5)), (2, .int (qz 3)), (3, .int (qz x3)), (4, .int (qz x4)), (5, .int (qz x5))], [], _, 0, 0)
  have hF0 := qFr_rf [(42, 1)] [43] σ α
  have hz42_1 : (-2147483648) ≤ σ 42 1 ∧ σ 42 1 ≤ 2147483647 := hI.1 42 1
  refine qr_aload_n 1 rfl rfl rfl ?_
  refine qr_iload_n 2 rfl rfl rfl ?_
  refine qr_iload_n 3 rfl rfl rfl ?_
  refine qr_iload_n 4 rfl rfl rfl ?_
  refine qr_iload_n 5 rfl rfl rfl ?_
  refine qr_iload 7 rfl rfl rfl ?_
  refine qr_iload 9 rfl rfl rfl ?_
  have hs1 : (-2147483648) ≤ σ 42 1 ∧ σ 42 1 ≤ 2147483647 := hI.1 42 1
  refine qr_callN 12 rfl rfl rfl (sf_152_42f5_5_3 (d := d + 0) hI r3 r4 r5 (by omega)) ?_
  have hs4 : (-2147483648) ≤ σ 42 1 ∧ σ 42 1 ≤ 2147483647 := hI.1 42 1
  rintro _ _ ⟨σ5, α6, rfl, hI7, hG8, v2, rfl, hv2, hp3⟩
  have hF9 : qFr [(42, 1)] [43] σ α σ5 α6 := qFr_t hF0 hG8 (by decide) (by decide)
  have hs10 : (-2147483648) ≤ σ5 42 1 ∧ σ5 42 1 ≤ 2147483647 := hI7.1 42 1
  show qr_W (qe L xs vb) (d + 13) qx_e151 _ (12, _, [.int (qz v2)], qw σ5 α6 κ ρ, 0, 0)
  refine qr_retI rfl rfl (by decide) (by decide) ?_
  have hw11 : σ5 42 1 = (σ5 42 1) := rfl
  exact ⟨_, _, rfl, hI7, hF9, v2, rfl, hv2, by omega⟩

set_option maxHeartbeats 4000000 in
set_option maxRecDepth 20000 in
/-- OneRoof$Acts.start -/
theorem sf_150_42s5_3 {L : Nat} {xs : Nat → Int} {vb : Bool} {d : Nat} {σ α : Nat → Nat → Int} {κ : Nat → Option Nat} {ρ : Nat} {x3 : Int} {x4 : Int} (hI : qI σ α κ ρ) (r3 : (-2147483648) ≤ x3 ∧ x3 ≤ 2147483647) (r4 : (-2147483648) ≤ x4 ∧ x4 ≤ 2147483647) (p0 : σ 42 1 = 0) : qm_T (qe L xs vb) (d + 15) 150 [.ref 42, .int (qz 5), .int (qz 3), .int (qz x3), .int (qz x4)] (qw σ α κ ρ) (fun r w' => ∃ σ' α', w' = qw σ' α' κ ρ ∧ qI σ' α' κ ρ ∧ qFr [(42, 1)] [43] σ α σ' α' ∧ ∃ v : Int, r = some (.int (qz v)) ∧ ((-2147483648) ≤ v ∧ v ≤ 2147483647)) := by
  refine qr_start (d := d + 14) qv_e150 (Nat.le_of_ble_eq_true rfl) ?_
  show qr_W (qe L xs vb) (d + 14) qx_e150 _ (0, [(0, .ref 42), (1, .int (qz 5)), (2, .int (qz 3)), (3, .int (qz x3)), (4, .int (qz x4))], [], _, 0, 0)
  have hF0 := qFr_rf [(42, 1)] [43] σ α
  have hz42_1 : (-2147483648) ≤ σ 42 1 ∧ σ 42 1 ≤ 2147483647 := hI.1 42 1
  refine qr_aload_n 1 rfl rfl rfl ?_
  refine qr_iload_n 2 rfl rfl rfl ?_
  refine qr_iload_n 3 rfl rfl rfl ?_
  refine qr_iload_n 4 rfl rfl rfl ?_
  refine qr_iload 6 rfl rfl rfl ?_
  refine qr_iconst 7 rfl rfl ?_
  have hs1 : (-2147483648) ≤ σ 42 1 ∧ σ 42 1 ≤ 2147483647 := hI.1 42 1
  refine qr_callN 10 rfl rfl rfl (sf_151_42r5_3 (d := d + 0) hI r3 r4 (by decide) (by omega)) ?_
  have hs4 : (-2147483648) ≤ σ 42 1 ∧ σ 42 1 ≤ 2147483647 := hI.1 42 1
  rintro _ _ ⟨σ5, α6, rfl, hI7, hG8, v2, rfl, hv2, hp3⟩
  have hF9 : qFr [(42, 1)] [43] σ α σ5 α6 := qFr_t hF0 hG8 (by decide) (by decide)
  have hs10 : (-2147483648) ≤ σ5 42 1 ∧ σ5 42 1 ≤ 2147483647 := hI7.1 42 1
  show qr_W (qe L xs vb) (d + 14) qx_e150 _ (10, _, [.int (qz v2)], qw σ5 α6 κ ρ, 0, 0)
  refine qr_retI rfl rfl (by decide) (by decide) ?_
  exact ⟨_, _, rfl, hI7, hF9, v2, rfl, hv2⟩

set_option maxHeartbeats 4000000 in
set_option maxRecDepth 20000 in
/-- OneRoof$Acts.begin -/
theorem sf_153_42b2_0_6 {L : Nat} {xs : Nat → Int} {vb : Bool} {d : Nat} {σ α : Nat → Nat → Int} {κ : Nat → Option Nat} {ρ : Nat} {x4 : Int} {x5 : Int} {x6 : Int} (hI : qI σ α κ ρ) (r4 : (-2147483648) ≤ x4 ∧ x4 ≤ 2147483647) (r5 : (-2147483648) ≤ x5 ∧ x5 ≤ 2147483647) (r6 : 0 ≤ x6 ∧ x6 ≤ 37) (p0 : 0 ≤ σ 42 1 ∧ σ 42 1 ≤ 1600) : qm_T (qe L xs vb) (d + 9) 153 [.ref 42, .int (qz 2), .int (qz 0), .int (qz 6), .int (qz x4), .int (qz x5), .int (qz x6)] (qw σ α κ ρ) (fun r w' => ∃ σ' α', w' = qw σ' α' κ ρ ∧ qI σ' α' κ ρ ∧ qFr [(42, 1)] [43] σ α σ' α' ∧ ∃ v : Int, r = some (.int (qz v)) ∧ ((-2147483648) ≤ v ∧ v ≤ 2147483647) ∧ σ' 42 1 = σ 42 1 + 7) := by
  refine qr_start (d := d + 8) qv_e153 (Nat.le_of_ble_eq_true rfl) ?_
  show qr_W (qe L xs vb) (d + 8) qx_e153 _ (0, [(0, .ref 42), (1, .int (qz 2)), (2, .int (qz 0)), (3, .int (qz 6)), (4, .int (qz x4)), (5, .int (qz x5)), (6, .int (qz x6))], [], _, 0, 0)
  have hF0 := qFr_rf [(42, 1)] [43] σ α
  have hz42_1 : (-2147483648) ≤ σ 42 1 ∧ σ 42 1 ≤ 2147483647 := hI.1 42 1
  refine qr_aload_n 1 rfl rfl rfl ?_
  refine qr_get 4 rfl rfl rfl (by decide) rfl ?_
  refine qr_aload_n 5 rfl rfl rfl ?_
  refine qr_get 8 rfl rfl rfl (by decide) rfl ?_
  refine qr_alen 9 rfl rfl (by first | exact Or.inl (by decide) | exact Or.inr (Or.inl rfl) | exact Or.inr (Or.inr (Or.inl rfl)) | exact Or.inr (Or.inr (Or.inr (Or.inl rfl)))) rfl ?_
  refine qy_v 24 rfl ?_
  refine qr_icmp_ge 22 12 rfl rfl rfl hz42_1 (by decide) (fun h1 => ?_) (fun h1 => ?_)
  · skip
    refine qr_aload_n 23 rfl rfl rfl ?_
    refine qr_dup 24 rfl rfl rfl ?_
    refine qr_get 27 rfl rfl rfl (by decide) rfl ?_
    refine qr_iconst 28 rfl rfl ?_
    refine qr_iadd 29 rfl rfl ?_
    refine qr_put 32 rfl (by decide) rfl (Nat.le_of_ble_eq_true rfl) (Nat.le_of_ble_eq_true rfl) (Or.inl rfl) (qr_fitI rfl _) rfl ?_
    refine qy_wS (qw_s σ 42 1 ((σ 42 1) + 1)) rfl (fun σ2 e3 => ?_)
    have hI4 : qI σ2 α κ ρ := by rw [e3]; exact qI_s hI 42 1 rfl (show (-2147483648) ≤ ((σ 42 1) + 1) ∧ ((σ 42 1) + 1) ≤ 2147483647 by omega)
    have hF5 : qFr [(42, 1)] [43] σ α σ2 α := by rw [e3]; exact qFr_s hF0 42 1 _ (by decide)
    refine qr_getst 35 rfl rfl ?_
    refine qr_iload_n 36 rfl rfl rfl ?_
    refine qr_iaload 37 rfl rfl (by decide) (by decide) rfl ?_
    refine qy_v (-1) (by decide) ?_
    refine qr_istore _ 39 rfl (by decide) rfl rfl ?_
    refine qr_iload_n 40 rfl rfl rfl ?_
    refine qr_look (off := 114) 154 rfl (by omega) (by decide) (by decide) rfl ?_
    refine qr_aload_n 155 rfl rfl rfl ?_
    refine qr_iload_n 156 rfl rfl rfl ?_
    refine qr_iconst 157 rfl rfl ?_
    refine qr_iload 159 rfl rfl rfl ?_
    refine qr_iload 161 rfl rfl rfl ?_
    refine qr_iload 163 rfl rfl rfl ?_
    have hs6 : (-2147483648) ≤ σ2 42 1 ∧ σ2 42 1 ≤ 2147483647 := hI4.1 42 1
    have hs7 : σ2 42 1 = ((σ 42 1) + 1) := (congrFun (congrFun e3 42) 1).trans rfl
    refine qr_callN 166 rfl rfl rfl (sf_151_42r6_1 (d := d + 0) hI4 r4 r5 r6 (by omega)) ?_
    have hs10 : (-2147483648) ≤ σ2 42 1 ∧ σ2 42 1 ≤ 2147483647 := hI4.1 42 1
    have hs11 : σ2 42 1 = ((σ 42 1) + 1) := (congrFun (congrFun e3 42) 1).trans rfl
    rintro _ _ ⟨σ12, α13, rfl, hI14, hG15, v8, rfl, hv8, hp9⟩
    have hF16 : qFr [(42, 1)] [43] σ α σ12 α13 := qFr_t hF5 hG15 (by decide) (by decide)
    have hs17 : (-2147483648) ≤ σ12 42 1 ∧ σ12 42 1 ≤ 2147483647 := hI14.1 42 1
    show qr_W (qe L xs vb) (d + 8) qx_e153 _ (166, _, [.int (qz v8)], qw σ12 α13 κ ρ, 0, 0)
    refine qr_aload_n 167 rfl rfl rfl ?_
    refine qr_iload_n 168 rfl rfl rfl ?_
    refine qr_iconst 169 rfl rfl ?_
    refine qr_iconst 170 rfl rfl ?_
    refine qr_iload 172 rfl rfl rfl ?_
    refine qr_iload 174 rfl rfl rfl ?_
    have hs18 : (-2147483648) ≤ σ12 42 1 ∧ σ12 42 1 ≤ 2147483647 := hI14.1 42 1
    refine qr_callN 177 rfl rfl rfl (sf_151_42r6_2 (d := d + 2) hI14 (by decide) r5 (qrg r6 (by decide) (by decide)) (by omega)) ?_
    have hs21 : (-2147483648) ≤ σ12 42 1 ∧ σ12 42 1 ≤ 2147483647 := hI14.1 42 1
    rintro _ _ ⟨σ22, α23, rfl, hI24, hG25, v19, rfl, hv19, hp20⟩
    have hF26 : qFr [(42, 1)] [43] σ α σ22 α23 := qFr_t hF16 hG25 (by decide) (by decide)
    have hs27 : (-2147483648) ≤ σ22 42 1 ∧ σ22 42 1 ≤ 2147483647 := hI24.1 42 1
    show qr_W (qe L xs vb) (d + 8) qx_e153 _ (177, _, [.int (qz v19), .int (qz v8)], qw σ22 α23 κ ρ, 0, 0)
    refine qr_isub 178 rfl rfl ?_
    refine qy_can (fun v28 hv28 => ?_)
    refine qr_retI rfl rfl (by decide) (by decide) ?_
    have hw29 : σ22 42 1 = (σ22 42 1) := rfl
    exact ⟨_, _, rfl, hI24, hF26, v28, rfl, hv28, by omega⟩
  · skip
    refine qr_aload_n 13 rfl rfl rfl ?_
    refine qr_get 16 rfl rfl rfl (by decide) rfl ?_
    refine qr_aload_n 17 rfl rfl rfl ?_
    refine qr_get 20 rfl rfl rfl (by decide) rfl ?_
    refine qr_iload_n 21 rfl rfl rfl ?_
    refine qr_iastore 22 rfl (by decide) rfl (by omega) (by decide) rfl ?_
    refine qy_wA (qw_r α 43 (qzu (α 43) ((σ 42 1) : Int).toNat 2)) rfl (fun α30 e31 => ?_)
    have hI32 : qI σ α30 κ ρ := by rw [e31]; exact qI_r hI 43 _ rfl (show (-2147483648) ≤ 2 ∧ 2 ≤ 2147483647 by omega)
    have hF33 : qFr [(42, 1)] [43] σ α σ α30 := by rw [e31]; exact qFr_r hF0 43 _ (by decide)
    refine qr_aload_n 23 rfl rfl rfl ?_
    refine qr_dup 24 rfl rfl rfl ?_
    refine qr_get 27 rfl rfl rfl (by decide) rfl ?_
    refine qr_iconst 28 rfl rfl ?_
    refine qr_iadd 29 rfl rfl ?_
    refine qr_put 32 rfl (by decide) rfl (Nat.le_of_ble_eq_true rfl) (Nat.le_of_ble_eq_true rfl) (Or.inl rfl) (qr_fitI rfl _) rfl ?_
    refine qy_wS (qw_s σ 42 1 ((σ 42 1) + 1)) rfl (fun σ34 e35 => ?_)
    have hI36 : qI σ34 α30 κ ρ := by rw [e35]; exact qI_s hI32 42 1 rfl (show (-2147483648) ≤ ((σ 42 1) + 1) ∧ ((σ 42 1) + 1) ≤ 2147483647 by omega)
    have hF37 : qFr [(42, 1)] [43] σ α σ34 α30 := by rw [e35]; exact qFr_s hF33 42 1 _ (by decide)
    refine qr_getst 35 rfl rfl ?_
    refine qr_iload_n 36 rfl rfl rfl ?_
    refine qr_iaload 37 rfl rfl (by decide) (by decide) rfl ?_
    refine qy_v (-1) (by decide) ?_
    refine qr_istore _ 39 rfl (by decide) rfl rfl ?_
    refine qr_iload_n 40 rfl rfl rfl ?_
    refine qr_look (off := 114) 154 rfl (by omega) (by decide) (by decide) rfl ?_
    refine qr_aload_n 155 rfl rfl rfl ?_
    refine qr_iload_n 156 rfl rfl rfl ?_
    refine qr_iconst 157 rfl rfl ?_
    refine qr_iload 159 rfl rfl rfl ?_
    refine qr_iload 161 rfl rfl rfl ?_
    refine qr_iload 163 rfl rfl rfl ?_
    have hs38 : (-2147483648) ≤ σ34 42 1 ∧ σ34 42 1 ≤ 2147483647 := hI36.1 42 1
    have hs39 : σ34 42 1 = ((σ 42 1) + 1) := (congrFun (congrFun e35 42) 1).trans rfl
    refine qr_callN 166 rfl rfl rfl (sf_151_42r6_1 (d := d + 0) hI36 r4 r5 r6 (by omega)) ?_
    have hs42 : (-2147483648) ≤ σ34 42 1 ∧ σ34 42 1 ≤ 2147483647 := hI36.1 42 1
    have hs43 : σ34 42 1 = ((σ 42 1) + 1) := (congrFun (congrFun e35 42) 1).trans rfl
    rintro _ _ ⟨σ44, α45, rfl, hI46, hG47, v40, rfl, hv40, hp41⟩
    have hF48 : qFr [(42, 1)] [43] σ α σ44 α45 := qFr_t hF37 hG47 (by decide) (by decide)
    have hs49 : (-2147483648) ≤ σ44 42 1 ∧ σ44 42 1 ≤ 2147483647 := hI46.1 42 1
    show qr_W (qe L xs vb) (d + 8) qx_e153 _ (166, _, [.int (qz v40)], qw σ44 α45 κ ρ, 0, 0)
    refine qr_aload_n 167 rfl rfl rfl ?_
    refine qr_iload_n 168 rfl rfl rfl ?_
    refine qr_iconst 169 rfl rfl ?_
    refine qr_iconst 170 rfl rfl ?_
    refine qr_iload 172 rfl rfl rfl ?_
    refine qr_iload 174 rfl rfl rfl ?_
    have hs50 : (-2147483648) ≤ σ44 42 1 ∧ σ44 42 1 ≤ 2147483647 := hI46.1 42 1
    refine qr_callN 177 rfl rfl rfl (sf_151_42r6_2 (d := d + 2) hI46 (by decide) r5 (qrg r6 (by decide) (by decide)) (by omega)) ?_
    have hs53 : (-2147483648) ≤ σ44 42 1 ∧ σ44 42 1 ≤ 2147483647 := hI46.1 42 1
    rintro _ _ ⟨σ54, α55, rfl, hI56, hG57, v51, rfl, hv51, hp52⟩
    have hF58 : qFr [(42, 1)] [43] σ α σ54 α55 := qFr_t hF48 hG57 (by decide) (by decide)
    have hs59 : (-2147483648) ≤ σ54 42 1 ∧ σ54 42 1 ≤ 2147483647 := hI56.1 42 1
    show qr_W (qe L xs vb) (d + 8) qx_e153 _ (177, _, [.int (qz v51), .int (qz v40)], qw σ54 α55 κ ρ, 0, 0)
    refine qr_isub 178 rfl rfl ?_
    refine qy_can (fun v60 hv60 => ?_)
    refine qr_retI rfl rfl (by decide) (by decide) ?_
    have hw61 : σ54 42 1 = (σ54 42 1) := rfl
    exact ⟨_, _, rfl, hI56, hF58, v60, rfl, hv60, by omega⟩

set_option maxHeartbeats 4000000 in
set_option maxRecDepth 20000 in
/-- OneRoof$Acts.runFrom -/
theorem sf_152_42f6_6_3 {L : Nat} {xs : Nat → Int} {vb : Bool} {d : Nat} {σ α : Nat → Nat → Int} {κ : Nat → Option Nat} {ρ : Nat} {x4 : Int} {x5 : Int} {x6 : Int} (hI : qI σ α κ ρ) (r4 : (-2147483648) ≤ x4 ∧ x4 ≤ 2147483647) (r5 : (-2147483648) ≤ x5 ∧ x5 ≤ 2147483647) (r6 : 0 ≤ x6 ∧ x6 ≤ 36) (p0 : 0 ≤ σ 42 1 ∧ σ 42 1 ≤ 1600) : qm_T (qe L xs vb) (d + 10) 152 [.ref 42, .int (qz 6), .int (qz 6), .int (qz 3), .int (qz x4), .int (qz x5), .int (qz x6)] (qw σ α κ ρ) (fun r w' => ∃ σ' α', w' = qw σ' α' κ ρ ∧ qI σ' α' κ ρ ∧ qFr [(42, 1)] [43] σ α σ' α' ∧ ∃ v : Int, r = some (.int (qz v)) ∧ ((-2147483648) ≤ v ∧ v ≤ 2147483647) ∧ σ' 42 1 = σ 42 1 + 7) := by
  refine qr_start (d := d + 9) qv_e152 (Nat.le_of_ble_eq_true rfl) ?_
  show qr_W (qe L xs vb) (d + 9) qx_e152 _ (0, [(0, .ref 42), (1, .int (qz 6)), (2, .int (qz 6)), (3, .int (qz 3)), (4, .int (qz x4)), (5, .int (qz x5)), (6, .int (qz x6))], [], _, 0, 0)
  have hF0 := qFr_rf [(42, 1)] [43] σ α
  have hz42_1 : (-2147483648) ≤ σ 42 1 ∧ σ 42 1 ≤ 2147483647 := hI.1 42 1
  refine qr_iload_n 1 rfl rfl rfl ?_
  refine qr_istore _ 3 rfl (by decide) rfl rfl ?_
  refine qr_iconst 4 rfl rfl ?_
  refine qr_istore _ 6 rfl (by decide) rfl rfl ?_
  refine qr_iload 8 rfl rfl rfl ?_
  refine qr_getst 11 rfl rfl ?_
  refine qr_alen 12 rfl rfl (by first | exact Or.inl (by decide) | exact Or.inr (Or.inl rfl) | exact Or.inr (Or.inr (Or.inl rfl)) | exact Or.inr (Or.inr (Or.inr (Or.inl rfl)))) rfl ?_
  refine qy_v 7 rfl ?_
  refine qr_icmp_ge 89 15 rfl rfl rfl (by decide) (by decide) (fun h => False.elim (by omega)) (fun h1 => ?_)
  refine qr_iload 17 rfl rfl rfl ?_
  refine qr_if_lt 89 20 rfl rfl rfl (by decide) (fun h => False.elim (by omega)) (fun h2 => ?_)
  refine qr_iload 22 rfl rfl rfl ?_
  refine qr_getst 25 rfl rfl ?_
  refine qr_alen 26 rfl rfl (by first | exact Or.inl (by decide) | exact Or.inr (Or.inl rfl) | exact Or.inr (Or.inr (Or.inl rfl)) | exact Or.inr (Or.inr (Or.inr (Or.inl rfl)))) rfl ?_
  refine qy_v 7 rfl ?_
  refine qr_icmp_ge 89 29 rfl rfl rfl (by decide) (by decide) (fun h => False.elim (by omega)) (fun h3 => ?_)
  refine qr_getst 32 rfl rfl ?_
  refine qr_iload 34 rfl rfl rfl ?_
  refine qr_iconst 35 rfl rfl ?_
  refine qr_imul 36 rfl rfl ?_
  refine qy_v 24 rfl ?_
  refine qr_iload_n 37 rfl rfl rfl ?_
  refine qr_iadd 38 rfl rfl ?_
  refine qy_v 27 rfl ?_
  refine qr_iaload 39 rfl rfl (by decide) (by decide) rfl ?_
  refine qy_v 0 (by decide) ?_
  refine qr_istore _ 41 rfl (by decide) rfl rfl ?_
  refine qr_iload 43 rfl rfl rfl ?_
  refine qr_if_eq 75 46 rfl rfl rfl (by decide) (fun h4 => ?_) (fun h => False.elim (by omega))
  refine qr_getst 78 rfl rfl ?_
  refine qr_iload 80 rfl rfl rfl ?_
  refine qr_iaload 81 rfl rfl (by decide) (by decide) rfl ?_
  refine qy_v 0 (by decide) ?_
  refine qr_istore _ 83 rfl (by decide) rfl rfl ?_
  refine qr_iinc _ 86 rfl rfl (by decide) rfl rfl ?_
  refine qr_goto 6 rfl rfl ?_
  refine qr_iload 8 rfl rfl rfl ?_
  refine qr_getst 11 rfl rfl ?_
  refine qr_alen 12 rfl rfl (by first | exact Or.inl (by decide) | exact Or.inr (Or.inl rfl) | exact Or.inr (Or.inr (Or.inl rfl)) | exact Or.inr (Or.inr (Or.inr (Or.inl rfl)))) rfl ?_
  refine qy_v 7 rfl ?_
  refine qr_icmp_ge 89 15 rfl rfl rfl (by omega) (by decide) (fun h => False.elim (by omega)) (fun h5 => ?_)
  refine qr_iload 17 rfl rfl rfl ?_
  refine qr_if_lt 89 20 rfl rfl rfl (by decide) (fun h => False.elim (by omega)) (fun h6 => ?_)
  refine qr_iload 22 rfl rfl rfl ?_
  refine qr_getst 25 rfl rfl ?_
  refine qr_alen 26 rfl rfl (by first | exact Or.inl (by decide) | exact Or.inr (Or.inl rfl) | exact Or.inr (Or.inr (Or.inl rfl)) | exact Or.inr (Or.inr (Or.inr (Or.inl rfl)))) rfl ?_
  refine qy_v 7 rfl ?_
  refine qr_icmp_ge 89 29 rfl rfl rfl (by decide) (by decide) (fun h => False.elim (by omega)) (fun h7 => ?_)
  refine qr_getst 32 rfl rfl ?_
  refine qr_iload 34 rfl rfl rfl ?_
  refine qr_iconst 35 rfl rfl ?_
  refine qr_imul 36 rfl rfl ?_
  refine qy_v 0 rfl ?_
  refine qr_iload_n 37 rfl rfl rfl ?_
  refine qr_iadd 38 rfl rfl ?_
  refine qy_v 3 rfl ?_
  refine qr_iaload 39 rfl rfl (by decide) (by decide) rfl ?_
  refine qy_v 2 (by decide) ?_
  refine qr_istore _ 41 rfl (by decide) rfl rfl ?_
  refine qr_iload 43 rfl rfl rfl ?_
  refine qr_if_eq 75 46 rfl rfl rfl (by decide) (fun h => False.elim (by omega)) (fun h8 => ?_)
  as_aux_lemma =>
    refine qr_iload 48 rfl rfl rfl ?_
    refine qr_bipush 50 rfl (by decide) rfl ?_
    refine qr_icmp_le 57 53 rfl rfl rfl (qrg r6 (by decide) (by decide)) (by decide) (fun h9 => ?_) (fun h => False.elim (by omega))
    refine qr_aload_n 58 rfl rfl rfl ?_
    refine qr_iload 60 rfl rfl rfl ?_
    refine qr_iload 62 rfl rfl rfl ?_
    refine qr_iload_n 63 rfl rfl rfl ?_
    refine qr_iload 65 rfl rfl rfl ?_
    refine qr_iload 67 rfl rfl rfl ?_
    refine qr_iload 69 rfl rfl rfl ?_
    refine qr_iconst 70 rfl rfl ?_
    refine qr_iadd 71 rfl rfl ?_
    have hs10 : (-2147483648) ≤ σ 42 1 ∧ σ 42 1 ≤ 2147483647 := hI.1 42 1
    refine qr_callN 74 rfl rfl rfl (sf_153_42b2_0_6 (d := d + 0) hI r4 r5 (by omega) (by omega)) ?_
    have hs13 : (-2147483648) ≤ σ 42 1 ∧ σ 42 1 ≤ 2147483647 := hI.1 42 1
    rintro _ _ ⟨σ14, α15, rfl, hI16, hG17, v11, rfl, hv11, hp12⟩
    have hF18 : qFr [(42, 1)] [43] σ α σ14 α15 := qFr_t hF0 hG17 (by decide) (by decide)
    have hs19 : (-2147483648) ≤ σ14 42 1 ∧ σ14 42 1 ≤ 2147483647 := hI16.1 42 1
    show qr_W (qe L xs vb) (d + 9) qx_e152 _ (74, _, [.int (qz v11)], qw σ14 α15 κ ρ, 0, 0)
    refine qr_retI rfl rfl (by decide) (by decide) ?_
    have hw20 : σ14 42 1 = (σ14 42 1) := rfl
    exact ⟨_, _, rfl, hI16, hF18, v11, rfl, hv11, by omega⟩

set_option maxHeartbeats 4000000 in
set_option maxRecDepth 20000 in
/-- OneRoof$Acts.run -/
theorem sf_151_42r6_3 {L : Nat} {xs : Nat → Int} {vb : Bool} {d : Nat} {σ α : Nat → Nat → Int} {κ : Nat → Option Nat} {ρ : Nat} {x3 : Int} {x4 : Int} {x5 : Int} (hI : qI σ α κ ρ) (r3 : (-2147483648) ≤ x3 ∧ x3 ≤ 2147483647) (r4 : (-2147483648) ≤ x4 ∧ x4 ≤ 2147483647) (r5 : 0 ≤ x5 ∧ x5 ≤ 36) (p0 : 0 ≤ σ 42 1 ∧ σ 42 1 ≤ 1600) : qm_T (qe L xs vb) (d + 11) 151 [.ref 42, .int (qz 6), .int (qz 3), .int (qz x3), .int (qz x4), .int (qz x5)] (qw σ α κ ρ) (fun r w' => ∃ σ' α', w' = qw σ' α' κ ρ ∧ qI σ' α' κ ρ ∧ qFr [(42, 1)] [43] σ α σ' α' ∧ ∃ v : Int, r = some (.int (qz v)) ∧ ((-2147483648) ≤ v ∧ v ≤ 2147483647) ∧ σ' 42 1 = σ 42 1 + 7) := by
  refine qr_start (d := d + 10) qv_e151 (Nat.le_of_ble_eq_true rfl) ?_
  show qr_W (qe L xs vb) (d + 10) qx_e151 _ (0, [(0, .ref 42), (1, .int (qz 6)), (2, .int (qz 3)), (3, .int (qz x3)), (4, .int (qz x4)), (5, .int (qz x5))], [], _, 0, 0)
  have hF0 := qFr_rf [(42, 1)] [43] σ α
  have hz42_1 : (-2147483648) ≤ σ 42 1 ∧ σ 42 1 ≤ 2147483647 := hI.1 42 1
  refine qr_aload_n 1 rfl rfl rfl ?_
  refine qr_iload_n 2 rfl rfl rfl ?_
  refine qr_iload_n 3 rfl rfl rfl ?_
  refine qr_iload_n 4 rfl rfl rfl ?_
  refine qr_iload_n 5 rfl rfl rfl ?_
  refine qr_iload 7 rfl rfl rfl ?_
  refine qr_iload 9 rfl rfl rfl ?_
  have hs1 : (-2147483648) ≤ σ 42 1 ∧ σ 42 1 ≤ 2147483647 := hI.1 42 1
  refine qr_callN 12 rfl rfl rfl (sf_152_42f6_6_3 (d := d + 0) hI r3 r4 r5 (by omega)) ?_
  have hs4 : (-2147483648) ≤ σ 42 1 ∧ σ 42 1 ≤ 2147483647 := hI.1 42 1
  rintro _ _ ⟨σ5, α6, rfl, hI7, hG8, v2, rfl, hv2, hp3⟩
  have hF9 : qFr [(42, 1)] [43] σ α σ5 α6 := qFr_t hF0 hG8 (by decide) (by decide)
  have hs10 : (-2147483648) ≤ σ5 42 1 ∧ σ5 42 1 ≤ 2147483647 := hI7.1 42 1
  show qr_W (qe L xs vb) (d + 10) qx_e151 _ (12, _, [.int (qz v2)], qw σ5 α6 κ ρ, 0, 0)
  refine qr_retI rfl rfl (by decide) (by decide) ?_
  have hw11 : σ5 42 1 = (σ5 42 1) := rfl
  exact ⟨_, _, rfl, hI7, hF9, v2, rfl, hv2, by omega⟩

set_option maxHeartbeats 4000000 in
set_option maxRecDepth 20000 in
/-- OneRoof$Acts.start -/
theorem sf_150_42s6_3 {L : Nat} {xs : Nat → Int} {vb : Bool} {d : Nat} {σ α : Nat → Nat → Int} {κ : Nat → Option Nat} {ρ : Nat} {x3 : Int} {x4 : Int} (hI : qI σ α κ ρ) (r3 : (-2147483648) ≤ x3 ∧ x3 ≤ 2147483647) (r4 : (-2147483648) ≤ x4 ∧ x4 ≤ 2147483647) (p0 : σ 42 1 = 0) : qm_T (qe L xs vb) (d + 12) 150 [.ref 42, .int (qz 6), .int (qz 3), .int (qz x3), .int (qz x4)] (qw σ α κ ρ) (fun r w' => ∃ σ' α', w' = qw σ' α' κ ρ ∧ qI σ' α' κ ρ ∧ qFr [(42, 1)] [43] σ α σ' α' ∧ ∃ v : Int, r = some (.int (qz v)) ∧ ((-2147483648) ≤ v ∧ v ≤ 2147483647)) := by
  refine qr_start (d := d + 11) qv_e150 (Nat.le_of_ble_eq_true rfl) ?_
  show qr_W (qe L xs vb) (d + 11) qx_e150 _ (0, [(0, .ref 42), (1, .int (qz 6)), (2, .int (qz 3)), (3, .int (qz x3)), (4, .int (qz x4))], [], _, 0, 0)
  have hF0 := qFr_rf [(42, 1)] [43] σ α
  have hz42_1 : (-2147483648) ≤ σ 42 1 ∧ σ 42 1 ≤ 2147483647 := hI.1 42 1
  refine qr_aload_n 1 rfl rfl rfl ?_
  refine qr_iload_n 2 rfl rfl rfl ?_
  refine qr_iload_n 3 rfl rfl rfl ?_
  refine qr_iload_n 4 rfl rfl rfl ?_
  refine qr_iload 6 rfl rfl rfl ?_
  refine qr_iconst 7 rfl rfl ?_
  have hs1 : (-2147483648) ≤ σ 42 1 ∧ σ 42 1 ≤ 2147483647 := hI.1 42 1
  refine qr_callN 10 rfl rfl rfl (sf_151_42r6_3 (d := d + 0) hI r3 r4 (by decide) (by omega)) ?_
  have hs4 : (-2147483648) ≤ σ 42 1 ∧ σ 42 1 ≤ 2147483647 := hI.1 42 1
  rintro _ _ ⟨σ5, α6, rfl, hI7, hG8, v2, rfl, hv2, hp3⟩
  have hF9 : qFr [(42, 1)] [43] σ α σ5 α6 := qFr_t hF0 hG8 (by decide) (by decide)
  have hs10 : (-2147483648) ≤ σ5 42 1 ∧ σ5 42 1 ≤ 2147483647 := hI7.1 42 1
  show qr_W (qe L xs vb) (d + 11) qx_e150 _ (10, _, [.int (qz v2)], qw σ5 α6 κ ρ, 0, 0)
  refine qr_retI rfl rfl (by decide) (by decide) ?_
  exact ⟨_, _, rfl, hI7, hF9, v2, rfl, hv2⟩

set_option maxHeartbeats 4000000 in
set_option maxRecDepth 20000 in
/-- OneRoof$Acts.runFrom -/
theorem sf_152_42m3 {L : Nat} {xs : Nat → Int} {vb : Bool} {d : Nat} {σ α : Nat → Nat → Int} {κ : Nat → Option Nat} {ρ : Nat} {x1 : Int} {x2 : Int} {x4 : Int} {x5 : Int} {x6 : Int} (hI : qI σ α κ ρ) (r1 : (-2147483648) ≤ x1 ∧ x1 ≤ (-1)) (r2 : (-2147483648) ≤ x2 ∧ x2 ≤ 2147483647) (r4 : (-2147483648) ≤ x4 ∧ x4 ≤ 2147483647) (r5 : (-2147483648) ≤ x5 ∧ x5 ≤ 2147483647) (r6 : 0 ≤ x6 ∧ x6 ≤ 40) : qm_T (qe L xs vb) (d + 1) 152 [.ref 42, .int (qz x1), .int (qz x2), .int (qz 3), .int (qz x4), .int (qz x5), .int (qz x6)] (qw σ α κ ρ) (fun r w' => ∃ σ' α', w' = qw σ' α' κ ρ ∧ qI σ' α' κ ρ ∧ qFr [(42, 1)] [43] σ α σ' α' ∧ ∃ v : Int, r = some (.int (qz v)) ∧ ((-2147483648) ≤ v ∧ v ≤ 2147483647)) := by
  refine qr_start (d := d + 0) qv_e152 (Nat.le_of_ble_eq_true rfl) ?_
  show qr_W (qe L xs vb) (d + 0) qx_e152 _ (0, [(0, .ref 42), (1, .int (qz x1)), (2, .int (qz x2)), (3, .int (qz 3)), (4, .int (qz x4)), (5, .int (qz x5)), (6, .int (qz x6))], [], _, 0, 0)
  have hF0 := qFr_rf [(42, 1)] [43] σ α
  refine qr_iload_n 1 rfl rfl rfl ?_
  refine qr_istore _ 3 rfl (by decide) rfl rfl ?_
  refine qr_iconst 4 rfl rfl ?_
  refine qr_istore _ 6 rfl (by decide) rfl rfl ?_
  refine qr_iload 8 rfl rfl rfl ?_
  refine qr_getst 11 rfl rfl ?_
  refine qr_alen 12 rfl rfl (by first | exact Or.inl (by decide) | exact Or.inr (Or.inl rfl) | exact Or.inr (Or.inr (Or.inl rfl)) | exact Or.inr (Or.inr (Or.inr (Or.inl rfl)))) rfl ?_
  refine qy_v 7 rfl ?_
  refine qr_icmp_ge 89 15 rfl rfl rfl (by decide) (by decide) (fun h => False.elim (by omega)) (fun h1 => ?_)
  refine qr_iload 17 rfl rfl rfl ?_
  refine qr_if_lt 89 20 rfl rfl rfl (qrg r1 (by decide) (by decide)) (fun h2 => ?_) (fun h => False.elim (by omega))
  refine qr_iconst 90 rfl rfl ?_
  refine qr_retI rfl rfl (by decide) (by decide) ?_
  exact ⟨_, _, rfl, hI, hF0, 0, rfl, (by decide)⟩

set_option maxHeartbeats 4000000 in
set_option maxRecDepth 20000 in
/-- OneRoof$Acts.run -/
theorem sf_151_42m3 {L : Nat} {xs : Nat → Int} {vb : Bool} {d : Nat} {σ α : Nat → Nat → Int} {κ : Nat → Option Nat} {ρ : Nat} {x1 : Int} {x3 : Int} {x4 : Int} {x5 : Int} (hI : qI σ α κ ρ) (r1 : (-2147483648) ≤ x1 ∧ x1 ≤ (-1)) (r3 : (-2147483648) ≤ x3 ∧ x3 ≤ 2147483647) (r4 : (-2147483648) ≤ x4 ∧ x4 ≤ 2147483647) (r5 : 0 ≤ x5 ∧ x5 ≤ 40) : qm_T (qe L xs vb) (d + 2) 151 [.ref 42, .int (qz x1), .int (qz 3), .int (qz x3), .int (qz x4), .int (qz x5)] (qw σ α κ ρ) (fun r w' => ∃ σ' α', w' = qw σ' α' κ ρ ∧ qI σ' α' κ ρ ∧ qFr [(42, 1)] [43] σ α σ' α' ∧ ∃ v : Int, r = some (.int (qz v)) ∧ ((-2147483648) ≤ v ∧ v ≤ 2147483647)) := by
  refine qr_start (d := d + 1) qv_e151 (Nat.le_of_ble_eq_true rfl) ?_
  show qr_W (qe L xs vb) (d + 1) qx_e151 _ (0, [(0, .ref 42), (1, .int (qz x1)), (2, .int (qz 3)), (3, .int (qz x3)), (4, .int (qz x4)), (5, .int (qz x5))], [], _, 0, 0)
  have hF0 := qFr_rf [(42, 1)] [43] σ α
  refine qr_aload_n 1 rfl rfl rfl ?_
  refine qr_iload_n 2 rfl rfl rfl ?_
  refine qr_iload_n 3 rfl rfl rfl ?_
  refine qr_iload_n 4 rfl rfl rfl ?_
  refine qr_iload_n 5 rfl rfl rfl ?_
  refine qr_iload 7 rfl rfl rfl ?_
  refine qr_iload 9 rfl rfl rfl ?_
  refine qr_callN 12 rfl rfl rfl (sf_152_42m3 (d := d + 0) hI r1 (qrg r1 (by decide) (by decide)) r3 r4 r5) ?_
  rintro _ _ ⟨σ2, α3, rfl, hI4, hG5, v1, rfl, hv1⟩
  have hF6 : qFr [(42, 1)] [43] σ α σ2 α3 := qFr_t hF0 hG5 (by decide) (by decide)
  show qr_W (qe L xs vb) (d + 1) qx_e151 _ (12, _, [.int (qz v1)], qw σ2 α3 κ ρ, 0, 0)
  refine qr_retI rfl rfl (by decide) (by decide) ?_
  exact ⟨_, _, rfl, hI4, hF6, v1, rfl, hv1⟩

set_option maxHeartbeats 4000000 in
set_option maxRecDepth 20000 in
/-- OneRoof$Acts.start -/
theorem sf_150_42m3 {L : Nat} {xs : Nat → Int} {vb : Bool} {d : Nat} {σ α : Nat → Nat → Int} {κ : Nat → Option Nat} {ρ : Nat} {x1 : Int} {x3 : Int} {x4 : Int} (hI : qI σ α κ ρ) (r1 : (-2147483648) ≤ x1 ∧ x1 ≤ (-1)) (r3 : (-2147483648) ≤ x3 ∧ x3 ≤ 2147483647) (r4 : (-2147483648) ≤ x4 ∧ x4 ≤ 2147483647) (p0 : σ 42 1 = 0) : qm_T (qe L xs vb) (d + 3) 150 [.ref 42, .int (qz x1), .int (qz 3), .int (qz x3), .int (qz x4)] (qw σ α κ ρ) (fun r w' => ∃ σ' α', w' = qw σ' α' κ ρ ∧ qI σ' α' κ ρ ∧ qFr [(42, 1)] [43] σ α σ' α' ∧ ∃ v : Int, r = some (.int (qz v)) ∧ ((-2147483648) ≤ v ∧ v ≤ 2147483647)) := by
  refine qr_start (d := d + 2) qv_e150 (Nat.le_of_ble_eq_true rfl) ?_
  show qr_W (qe L xs vb) (d + 2) qx_e150 _ (0, [(0, .ref 42), (1, .int (qz x1)), (2, .int (qz 3)), (3, .int (qz x3)), (4, .int (qz x4))], [], _, 0, 0)
  have hF0 := qFr_rf [(42, 1)] [43] σ α
  have hz42_1 : (-2147483648) ≤ σ 42 1 ∧ σ 42 1 ≤ 2147483647 := hI.1 42 1
  refine qr_aload_n 1 rfl rfl rfl ?_
  refine qr_iload_n 2 rfl rfl rfl ?_
  refine qr_iload_n 3 rfl rfl rfl ?_
  refine qr_iload_n 4 rfl rfl rfl ?_
  refine qr_iload 6 rfl rfl rfl ?_
  refine qr_iconst 7 rfl rfl ?_
  refine qr_callN 10 rfl rfl rfl (sf_151_42m3 (d := d + 0) hI r1 r3 r4 (by decide)) ?_
  rintro _ _ ⟨σ2, α3, rfl, hI4, hG5, v1, rfl, hv1⟩
  have hF6 : qFr [(42, 1)] [43] σ α σ2 α3 := qFr_t hF0 hG5 (by decide) (by decide)
  show qr_W (qe L xs vb) (d + 2) qx_e150 _ (10, _, [.int (qz v1)], qw σ2 α3 κ ρ, 0, 0)
  refine qr_retI rfl rfl (by decide) (by decide) ?_
  exact ⟨_, _, rfl, hI4, hF6, v1, rfl, hv1⟩

set_option maxHeartbeats 4000000 in
set_option maxRecDepth 20000 in
/-- OneRoof$Acts.runFrom -/
theorem sf_152_42p3 {L : Nat} {xs : Nat → Int} {vb : Bool} {d : Nat} {σ α : Nat → Nat → Int} {κ : Nat → Option Nat} {ρ : Nat} {x1 : Int} {x2 : Int} {x4 : Int} {x5 : Int} {x6 : Int} (hI : qI σ α κ ρ) (r1 : 7 ≤ x1 ∧ x1 ≤ 2147483647) (r2 : (-2147483648) ≤ x2 ∧ x2 ≤ 2147483647) (r4 : (-2147483648) ≤ x4 ∧ x4 ≤ 2147483647) (r5 : (-2147483648) ≤ x5 ∧ x5 ≤ 2147483647) (r6 : 0 ≤ x6 ∧ x6 ≤ 40) : qm_T (qe L xs vb) (d + 1) 152 [.ref 42, .int (qz x1), .int (qz x2), .int (qz 3), .int (qz x4), .int (qz x5), .int (qz x6)] (qw σ α κ ρ) (fun r w' => ∃ σ' α', w' = qw σ' α' κ ρ ∧ qI σ' α' κ ρ ∧ qFr [(42, 1)] [43] σ α σ' α' ∧ ∃ v : Int, r = some (.int (qz v)) ∧ ((-2147483648) ≤ v ∧ v ≤ 2147483647)) := by
  refine qr_start (d := d + 0) qv_e152 (Nat.le_of_ble_eq_true rfl) ?_
  show qr_W (qe L xs vb) (d + 0) qx_e152 _ (0, [(0, .ref 42), (1, .int (qz x1)), (2, .int (qz x2)), (3, .int (qz 3)), (4, .int (qz x4)), (5, .int (qz x5)), (6, .int (qz x6))], [], _, 0, 0)
  have hF0 := qFr_rf [(42, 1)] [43] σ α
  refine qr_iload_n 1 rfl rfl rfl ?_
  refine qr_istore _ 3 rfl (by decide) rfl rfl ?_
  refine qr_iconst 4 rfl rfl ?_
  refine qr_istore _ 6 rfl (by decide) rfl rfl ?_
  refine qr_iload 8 rfl rfl rfl ?_
  refine qr_getst 11 rfl rfl ?_
  refine qr_alen 12 rfl rfl (by first | exact Or.inl (by decide) | exact Or.inr (Or.inl rfl) | exact Or.inr (Or.inr (Or.inl rfl)) | exact Or.inr (Or.inr (Or.inr (Or.inl rfl)))) rfl ?_
  refine qy_v 7 rfl ?_
  refine qr_icmp_ge 89 15 rfl rfl rfl (by decide) (by decide) (fun h => False.elim (by omega)) (fun h1 => ?_)
  refine qr_iload 17 rfl rfl rfl ?_
  refine qr_if_lt 89 20 rfl rfl rfl (qrg r1 (by decide) (by decide)) (fun h => False.elim (by omega)) (fun h2 => ?_)
  refine qr_iload 22 rfl rfl rfl ?_
  refine qr_getst 25 rfl rfl ?_
  refine qr_alen 26 rfl rfl (by first | exact Or.inl (by decide) | exact Or.inr (Or.inl rfl) | exact Or.inr (Or.inr (Or.inl rfl)) | exact Or.inr (Or.inr (Or.inr (Or.inl rfl)))) rfl ?_
  refine qy_v 7 rfl ?_
  refine qr_icmp_ge 89 29 rfl rfl rfl (qrg r1 (by decide) (by decide)) (by decide) (fun h3 => ?_) (fun h => False.elim (by omega))
  refine qr_iconst 90 rfl rfl ?_
  refine qr_retI rfl rfl (by decide) (by decide) ?_
  exact ⟨_, _, rfl, hI, hF0, 0, rfl, (by decide)⟩

set_option maxHeartbeats 4000000 in
set_option maxRecDepth 20000 in
/-- OneRoof$Acts.run -/
theorem sf_151_42p3 {L : Nat} {xs : Nat → Int} {vb : Bool} {d : Nat} {σ α : Nat → Nat → Int} {κ : Nat → Option Nat} {ρ : Nat} {x1 : Int} {x3 : Int} {x4 : Int} {x5 : Int} (hI : qI σ α κ ρ) (r1 : 7 ≤ x1 ∧ x1 ≤ 2147483647) (r3 : (-2147483648) ≤ x3 ∧ x3 ≤ 2147483647) (r4 : (-2147483648) ≤ x4 ∧ x4 ≤ 2147483647) (r5 : 0 ≤ x5 ∧ x5 ≤ 40) : qm_T (qe L xs vb) (d + 2) 151 [.ref 42, .int (qz x1), .int (qz 3), .int (qz x3), .int (qz x4), .int (qz x5)] (qw σ α κ ρ) (fun r w' => ∃ σ' α', w' = qw σ' α' κ ρ ∧ qI σ' α' κ ρ ∧ qFr [(42, 1)] [43] σ α σ' α' ∧ ∃ v : Int, r = some (.int (qz v)) ∧ ((-2147483648) ≤ v ∧ v ≤ 2147483647)) := by
  refine qr_start (d := d + 1) qv_e151 (Nat.le_of_ble_eq_true rfl) ?_
  show qr_W (qe L xs vb) (d + 1) qx_e151 _ (0, [(0, .ref 42), (1, .int (qz x1)), (2, .int (qz 3)), (3, .int (qz x3)), (4, .int (qz x4)), (5, .int (qz x5))], [], _, 0, 0)
  have hF0 := qFr_rf [(42, 1)] [43] σ α
  refine qr_aload_n 1 rfl rfl rfl ?_
  refine qr_iload_n 2 rfl rfl rfl ?_
  refine qr_iload_n 3 rfl rfl rfl ?_
  refine qr_iload_n 4 rfl rfl rfl ?_
  refine qr_iload_n 5 rfl rfl rfl ?_
  refine qr_iload 7 rfl rfl rfl ?_
  refine qr_iload 9 rfl rfl rfl ?_
  refine qr_callN 12 rfl rfl rfl (sf_152_42p3 (d := d + 0) hI r1 (qrg r1 (by decide) (by decide)) r3 r4 r5) ?_
  rintro _ _ ⟨σ2, α3, rfl, hI4, hG5, v1, rfl, hv1⟩
  have hF6 : qFr [(42, 1)] [43] σ α σ2 α3 := qFr_t hF0 hG5 (by decide) (by decide)
  show qr_W (qe L xs vb) (d + 1) qx_e151 _ (12, _, [.int (qz v1)], qw σ2 α3 κ ρ, 0, 0)
  refine qr_retI rfl rfl (by decide) (by decide) ?_
  exact ⟨_, _, rfl, hI4, hF6, v1, rfl, hv1⟩

set_option maxHeartbeats 4000000 in
set_option maxRecDepth 20000 in
/-- OneRoof$Acts.start -/
theorem sf_150_42p3 {L : Nat} {xs : Nat → Int} {vb : Bool} {d : Nat} {σ α : Nat → Nat → Int} {κ : Nat → Option Nat} {ρ : Nat} {x1 : Int} {x3 : Int} {x4 : Int} (hI : qI σ α κ ρ) (r1 : 7 ≤ x1 ∧ x1 ≤ 2147483647) (r3 : (-2147483648) ≤ x3 ∧ x3 ≤ 2147483647) (r4 : (-2147483648) ≤ x4 ∧ x4 ≤ 2147483647) (p0 : σ 42 1 = 0) : qm_T (qe L xs vb) (d + 3) 150 [.ref 42, .int (qz x1), .int (qz 3), .int (qz x3), .int (qz x4)] (qw σ α κ ρ) (fun r w' => ∃ σ' α', w' = qw σ' α' κ ρ ∧ qI σ' α' κ ρ ∧ qFr [(42, 1)] [43] σ α σ' α' ∧ ∃ v : Int, r = some (.int (qz v)) ∧ ((-2147483648) ≤ v ∧ v ≤ 2147483647)) := by
  refine qr_start (d := d + 2) qv_e150 (Nat.le_of_ble_eq_true rfl) ?_
  show qr_W (qe L xs vb) (d + 2) qx_e150 _ (0, [(0, .ref 42), (1, .int (qz x1)), (2, .int (qz 3)), (3, .int (qz x3)), (4, .int (qz x4))], [], _, 0, 0)
  have hF0 := qFr_rf [(42, 1)] [43] σ α
  have hz42_1 : (-2147483648) ≤ σ 42 1 ∧ σ 42 1 ≤ 2147483647 := hI.1 42 1
  refine qr_aload_n 1 rfl rfl rfl ?_
  refine qr_iload_n 2 rfl rfl rfl ?_
  refine qr_iload_n 3 rfl rfl rfl ?_
  refine qr_iload_n 4 rfl rfl rfl ?_
  refine qr_iload 6 rfl rfl rfl ?_
  refine qr_iconst 7 rfl rfl ?_
  refine qr_callN 10 rfl rfl rfl (sf_151_42p3 (d := d + 0) hI r1 r3 r4 (by decide)) ?_
  rintro _ _ ⟨σ2, α3, rfl, hI4, hG5, v1, rfl, hv1⟩
  have hF6 : qFr [(42, 1)] [43] σ α σ2 α3 := qFr_t hF0 hG5 (by decide) (by decide)
  show qr_W (qe L xs vb) (d + 2) qx_e150 _ (10, _, [.int (qz v1)], qw σ2 α3 κ ρ, 0, 0)
  refine qr_retI rfl rfl (by decide) (by decide) ?_
  exact ⟨_, _, rfl, hI4, hF6, v1, rfl, hv1⟩

set_option maxHeartbeats 4000000 in
set_option maxRecDepth 20000 in
/-- OneRoof$Acts.forget -/
theorem sf_149_42z {L : Nat} {xs : Nat → Int} {vb : Bool} {d : Nat} {σ α : Nat → Nat → Int} {κ : Nat → Option Nat} {ρ : Nat}  (hI : qI σ α κ ρ)  : qm_T (qe L xs vb) (d + 1) 149 [.ref 42] (qw σ α κ ρ) (fun r w' => ∃ σ', w' = qw σ' α κ ρ ∧ qI σ' α κ ρ ∧ qFr [(42, 1)] [] σ α σ' α ∧ σ' 42 1 = 0 ∧ r = none) := by
  refine qr_start (d := d + 0) qv_e149 (Nat.le_of_ble_eq_true rfl) ?_
  show qr_W (qe L xs vb) (d + 0) qx_e149 _ (0, [(0, .ref 42)], [], _, 0, 0)
  have hF0 := qFr_rf [(42, 1)] [] σ α
  refine qr_aload_n 1 rfl rfl rfl ?_
  refine qr_iconst 2 rfl rfl ?_
  refine qr_put 5 rfl (by decide) rfl (Nat.le_of_ble_eq_true rfl) (Nat.le_of_ble_eq_true rfl) (Or.inl rfl) (qr_fitI rfl _) rfl ?_
  refine qy_wS (qw_s σ 42 1 0) rfl (fun σ1 e2 => ?_)
  have hI3 : qI σ1 α κ ρ := by rw [e2]; exact qI_s hI 42 1 rfl (show (-2147483648) ≤ 0 ∧ 0 ≤ 2147483647 by omega)
  have hF4 : qFr [(42, 1)] [] σ α σ1 α := by rw [e2]; exact qFr_s hF0 42 1 _ (by decide)
  refine qr_retV rfl rfl (by decide) (by decide) ?_
  exact ⟨_, rfl, hI3, hF4, (by have hw : σ1 42 1 = 0 := (congrFun (congrFun e2 42) 1).trans rfl; omega), rfl⟩

set_option maxHeartbeats 4000000 in
set_option maxRecDepth 20000 in
/-- OneRoof$Acts.start -/
theorem sf_150_42any {L : Nat} {xs : Nat → Int} {vb : Bool} {d : Nat} {σ α : Nat → Nat → Int} {κ : Nat → Option Nat} {ρ : Nat} {x1 : Int} {x2 : Int} {x3 : Int} {x4 : Int} (hI : qI σ α κ ρ) (r1 : (-2147483648) ≤ x1 ∧ x1 ≤ 2147483647) (r2 : 0 ≤ x2 ∧ x2 ≤ 3) (r3 : (-2147483648) ≤ x3 ∧ x3 ≤ 2147483647) (r4 : (-2147483648) ≤ x4 ∧ x4 ≤ 2147483647) (p0 : σ 42 1 = 0) : qm_T (qe L xs vb) (d + 15) 150 [.ref 42, .int (qz x1), .int (qz x2), .int (qz x3), .int (qz x4)] (qw σ α κ ρ) (fun r w' => ∃ σ' α', w' = qw σ' α' κ ρ ∧ qI σ' α' κ ρ ∧ qFr [(42, 1)] [43] σ α σ' α' ∧ ∃ v : Int, r = some (.int (qz v)) ∧ ((-2147483648) ≤ v ∧ v ≤ 2147483647)) := by
  have h1 : x1 < 0 ∨ x1 = 0 ∨ x1 = 1 ∨ x1 = 2 ∨ x1 = 3 ∨ x1 = 4 ∨ x1 = 5 ∨ x1 = 6 ∨ 6 < x1 := by omega
  have h2 : x2 = 0 ∨ x2 = 1 ∨ x2 = 2 ∨ x2 = 3 := by omega
  rcases h1 with h1 | rfl | rfl | rfl | rfl | rfl | rfl | rfl | h1 <;> rcases h2 with rfl | rfl | rfl | rfl
  · exact sf_150_42m0 (d := d + 12) hI (by omega) (by omega) (by omega) (by omega)
  · exact sf_150_42m1 (d := d + 12) hI (by omega) (by omega) (by omega) (by omega)
  · exact sf_150_42m2 (d := d + 12) hI (by omega) (by omega) (by omega) (by omega)
  · exact sf_150_42m3 (d := d + 12) hI (by omega) (by omega) (by omega) (by omega)
  · exact sf_150_42s0_0 (d := d + 11) hI (by omega) (by omega) (by omega)
  · exact sf_150_42s0_1 (d := d + 8) hI (by omega) (by omega) (by omega)
  · exact sf_150_42s0_2 (d := d + 11) hI (by omega) (by omega) (by omega)
  · exact sf_150_42s0_3 (d := d + 5) hI (by omega) (by omega) (by omega)
  · exact sf_150_42s1_0 (d := d + 9) hI (by omega) (by omega) (by omega)
  · exact sf_150_42s1_1 (d := d + 6) hI (by omega) (by omega) (by omega)
  · exact sf_150_42s1_2 (d := d + 11) hI (by omega) (by omega) (by omega)
  · exact sf_150_42s1_3 (d := d + 3) hI (by omega) (by omega) (by omega)
  · exact sf_150_42s2_0 (d := d + 7) hI (by omega) (by omega) (by omega)
  · exact sf_150_42s2_1 (d := d + 4) hI (by omega) (by omega) (by omega)
  · exact sf_150_42s2_2 (d := d + 9) hI (by omega) (by omega) (by omega)
  · exact sf_150_42s2_3 (d := d + 1) hI (by omega) (by omega) (by omega)
  · exact sf_150_42s3_0 (d := d + 11) hI (by omega) (by omega) (by omega)
  · exact sf_150_42s3_1 (d := d + 6) hI (by omega) (by omega) (by omega)
  · exact sf_150_42s3_2 (d := d + 11) hI (by omega) (by omega) (by omega)
  · exact sf_150_42s3_3 (d := d + 3) hI (by omega) (by omega) (by omega)
  · exact sf_150_42s4_0 (d := d + 11) hI (by omega) (by omega) (by omega)
  · exact sf_150_42s4_1 (d := d + 8) hI (by omega) (by omega) (by omega)
  · exact sf_150_42s4_2 (d := d + 11) hI (by omega) (by omega) (by omega)
  · exact sf_150_42s4_3 (d := d + 3) hI (by omega) (by omega) (by omega)
  · exact sf_150_42s5_0 (d := d + 8) hI (by omega) (by omega) (by omega)
  · exact sf_150_42s5_1 (d := d + 5) hI (by omega) (by omega) (by omega)
  · exact sf_150_42s5_2 (d := d + 11) hI (by omega) (by omega) (by omega)
  · exact sf_150_42s5_3 (d := d + 0) hI (by omega) (by omega) (by omega)
  · exact sf_150_42s6_0 (d := d + 11) hI (by omega) (by omega) (by omega)
  · exact sf_150_42s6_1 (d := d + 6) hI (by omega) (by omega) (by omega)
  · exact sf_150_42s6_2 (d := d + 8) hI (by omega) (by omega) (by omega)
  · exact sf_150_42s6_3 (d := d + 3) hI (by omega) (by omega) (by omega)
  · exact sf_150_42p0 (d := d + 12) hI (by omega) (by omega) (by omega) (by omega)
  · exact sf_150_42p1 (d := d + 12) hI (by omega) (by omega) (by omega) (by omega)
  · exact sf_150_42p2 (d := d + 12) hI (by omega) (by omega) (by omega) (by omega)
  · exact sf_150_42p3 (d := d + 12) hI (by omega) (by omega) (by omega) (by omega)

set_option maxHeartbeats 4000000 in
set_option maxRecDepth 20000 in
/-- OneRoof.act -/
theorem sf_148_16 {L : Nat} {xs : Nat → Int} {vb : Bool} {d : Nat} {σ α : Nat → Nat → Int} {κ : Nat → Option Nat} {ρ : Nat} {x1 : Int} {x2 : Int} {x3 : Int} (hI : qI σ α κ ρ) (r1 : (-2147483648) ≤ x1 ∧ x1 ≤ 2147483647) (r2 : (-2147483648) ≤ x2 ∧ x2 ≤ 2147483647) (r3 : (-2147483648) ≤ x3 ∧ x3 ≤ 2147483647) : qm_T (qe L xs vb) (d + 16) 148 [.ref 16, .int (qz x1), .int (qz x2), .int (qz x3)] (qw σ α κ ρ) (fun r w' => ∃ σ' α', w' = qw σ' α' κ ρ ∧ qI σ' α' κ ρ ∧ qFr [(42, 1)] [43] σ α σ' α' ∧ ∃ v : Int, r = some (.int (qz v)) ∧ ((-2147483648) ≤ v ∧ v ≤ 2147483647)) := by
  refine qr_start (d := d + 15) qv_e148 (Nat.le_of_ble_eq_true rfl) ?_
  show qr_W (qe L xs vb) (d + 15) qx_e148 _ (0, [(0, .ref 16), (1, .int (qz x1)), (2, .int (qz x2)), (3, .int (qz x3))], [], _, 0, 0)
  have hF0 := qFr_rf [(42, 1)] [43] σ α
  refine qr_aload_n 1 rfl rfl rfl ?_
  refine qr_get 4 rfl rfl rfl (by decide) rfl ?_
  refine qr_callN 7 rfl rfl rfl (sf_149_42z (d := d + 14) hI ) ?_
  rintro _ _ ⟨σ2, rfl, hI3, hG4, hw1, rfl⟩
  have hF5 : qFr [(42, 1)] [43] σ α σ2 α := qFr_t hF0 hG4 (by decide) (by decide)
  have hs6 : (-2147483648) ≤ σ2 42 1 ∧ σ2 42 1 ≤ 2147483647 := hI3.1 42 1
  show qr_W (qe L xs vb) (d + 15) qx_e148 _ (7, _, [], qw σ2 α κ ρ, 0, 0)
  refine qr_aload_n 8 rfl rfl rfl ?_
  refine qr_get 11 rfl rfl rfl (by decide) rfl ?_
  refine qr_iload_n 12 rfl rfl rfl ?_
  refine qr_callN 15 rfl rfl rfl (sf_73_34 (d := d + 14) hI3 r1) ?_
  have hs9 : 0 ≤ σ2 34 7 ∧ σ2 34 7 ≤ 60 := hI3.1 34 7
  rintro _ _ ⟨rfl, v7, rfl, hv7, hp8⟩
  show qr_W (qe L xs vb) (d + 15) qx_e148 _ (15, _, [.int (qz v7)], qw σ2 α κ ρ, 0, 0)
  refine qr_if_eq 27 18 rfl rfl rfl (qrg hv7 (by decide) (by decide)) (fun h10 => ?_) (fun h10 => ?_)
  · skip
    refine qr_iconst 28 rfl rfl ?_
    refine qr_retI rfl rfl (by decide) (by decide) ?_
    exact ⟨_, _, rfl, hI3, hF5, 0, rfl, (by decide)⟩
  · skip
    refine qr_iload_n 19 rfl rfl rfl ?_
    refine qr_if_lt 27 22 rfl rfl rfl r2 (fun h11 => ?_) (fun h11 => ?_)
    · skip
      refine qr_iconst 28 rfl rfl ?_
      refine qr_retI rfl rfl (by decide) (by decide) ?_
      exact ⟨_, _, rfl, hI3, hF5, 0, rfl, (by decide)⟩
    · skip
      refine qr_iload_n 23 rfl rfl rfl ?_
      refine qr_iconst 24 rfl rfl ?_
      refine qr_icmp_lt 29 27 rfl rfl rfl r2 (by decide) (fun h12 => ?_) (fun h12 => ?_)
      · skip
        refine qr_aload_n 30 rfl rfl rfl ?_
        refine qr_get 33 rfl rfl rfl (by decide) rfl ?_
        refine qr_aload_n 34 rfl rfl rfl ?_
        refine qr_get 37 rfl rfl rfl (by decide) rfl ?_
        refine qr_get 40 rfl rfl rfl (by decide) rfl ?_
        refine qr_iload_n 41 rfl rfl rfl ?_
        refine qr_iaload 42 rfl rfl (by omega) (by decide) rfl ?_
        refine qr_topI (fun v13 hv13 => ?_)
        have hs14 : (-2147483648) ≤ v13 ∧ v13 ≤ 2147483647 := by rw [hv13]; exact hI3.2.1 35 _ (show _ < 60 by omega)
        refine qr_iload_n 43 rfl rfl rfl ?_
        refine qr_iload_n 44 rfl rfl rfl ?_
        refine qr_iload_n 45 rfl rfl rfl ?_
        have hs15 : (-2147483648) ≤ σ2 42 1 ∧ σ2 42 1 ≤ 2147483647 := hI3.1 42 1
        refine qr_callN 48 rfl rfl rfl (sf_150_42any (d := d + 0) hI3 hs14 (by omega) r3 r1 (by omega)) ?_
        rintro _ _ ⟨σ17, α18, rfl, hI19, hG20, v16, rfl, hv16⟩
        have hF21 : qFr [(42, 1)] [43] σ α σ17 α18 := qFr_t hF5 hG20 (by decide) (by decide)
        show qr_W (qe L xs vb) (d + 15) qx_e148 _ (48, _, [.int (qz v16)], qw σ17 α18 κ ρ, 0, 0)
        refine qr_retI rfl rfl (by decide) (by decide) ?_
        exact ⟨_, _, rfl, hI19, hF21, v16, rfl, hv16⟩
      · skip
        refine qr_iconst 28 rfl rfl ?_
        refine qr_retI rfl rfl (by decide) (by decide) ?_
        exact ⟨_, _, rfl, hI3, hF5, 0, rfl, (by decide)⟩
end
section
set_option maxHeartbeats 4000000 in
set_option maxRecDepth 20000 in
/-- OneRoofModel.lists -/
theorem sf_234_86p {L : Nat} {xs : Nat → Int} {vb : Bool} {d : Nat} {σ α : Nat → Nat → Int} {κ : Nat → Option Nat} {ρ : Nat} {x1 : Int} {x2 : Int} (hI : qI σ α κ ρ) (r1 : (-9223372036854775808) ≤ x1 ∧ x1 ≤ 9223372036854775807) (r2 : 0 ≤ x2 ∧ x2 ≤ 12) : qm_T (qe L xs vb) (d + 2) 234 [.ref 86, .long (ql x1), .int (qz x2)] (qw σ α κ ρ) (fun r w' => ∃ σ' α', w' = qw σ' α' κ ρ ∧ qI σ' α' κ ρ ∧ qFr [(86, 43)] [110] σ α σ' α' ∧ ∃ v : Int, r = some (.int (qz v)) ∧ (0 ≤ v ∧ v ≤ 1) ∧ (v = 0 ∨ (v = 1 ∧ 1 ≤ σ' 86 43 ∧ σ' 86 43 ≤ x2 ∧ 1 ≤ σ 86 6))) := by
  refine qr_start (d := d + 1) qv_e234 (Nat.le_of_ble_eq_true rfl) ?_
  show qr_W (qe L xs vb) (d + 1) qx_e234 _ (0, [(0, .ref 86), (1, .long (ql x1)), (3, .int (qz x2))], [], _, 0, 0)
  have hF0 := qFr_rf [(86, 43)] [110] σ α
  have hz86_6 : 0 ≤ σ 86 6 ∧ σ 86 6 ≤ 32 := hI.1 86 6
  refine qr_aload_n 1 rfl rfl rfl ?_
  refine qr_iconst 2 rfl rfl ?_
  refine qr_put 5 rfl (by decide) rfl (Nat.le_of_ble_eq_true rfl) (Nat.le_of_ble_eq_true rfl) (Or.inl rfl) (qr_fitI rfl _) rfl ?_
  refine qy_wS (qw_s σ 86 43 0) rfl (fun σ1 e2 => ?_)
  have hI3 : qI σ1 α κ ρ := by rw [e2]; exact qI_s hI 86 43 rfl (show 0 ≤ 0 ∧ 0 ≤ 32 by omega)
  have hF4 : qFr [(86, 43)] [110] σ α σ1 α := by rw [e2]; exact qFr_s hF0 86 43 _ (by decide)
  refine qr_iconst 6 rfl rfl ?_
  refine qr_istore _ 8 rfl (by decide) rfl rfl ?_
  have hL423 : ∀ (n : Nat) (ls : qm_L) (u414 : Int) (σ415 α416 : Nat → Nat → Int), 32 - u414 < (n : Int) → qm_get ls 0 = some (.ref 86) → qm_get ls 1 = some (.long (ql x1)) → qm_get ls 3 = some (.int (qz x2)) → qm_get ls 4 = some (.int (qz u414)) → (0 ≤ u414 ∧ u414 ≤ 32) → qI σ415 α416 κ ρ → qFr [(86, 43)] [110] σ α σ415 α416 → σ415 86 6 = (σ 86 6) → σ415 86 43 ≤ u414 → (σ415 86 43 = 0 ∨ 1 ≤ σ 86 6) → qr_W (qe L xs vb) (d + 1) qx_e234 (fun r w' => ∃ σ' α', w' = qw σ' α' κ ρ ∧ qI σ' α' κ ρ ∧ qFr [(86, 43)] [110] σ α σ' α' ∧ ∃ v : Int, r = some (.int (qz v)) ∧ (0 ≤ v ∧ v ≤ 1) ∧ (v = 0 ∨ (v = 1 ∧ 1 ≤ σ' 86 43 ∧ σ' 86 43 ≤ x2 ∧ 1 ≤ σ 86 6))) (8, ls, [], qw σ415 α416 κ ρ, 0, 0) := by
    intro n
    induction n with
    | zero => intro ls u414 σ415 α416 hm g410 g411 g412 g413 hf420 hI417 hF418 hk419 hx421 hx422; exact False.elim (by omega)
    | succ n ih424 =>
      intro ls u414 σ415 α416 hm g410 g411 g412 g413 hf420 hI417 hF418 hk419 hx421 hx422
      refine qr_iload 10 rfl g413 rfl ?_
      refine qr_aload_n 11 rfl g410 rfl ?_
      refine qr_get 14 rfl rfl rfl (by decide) rfl ?_
      refine qy_v (σ 86 6) ((hk419).trans rfl) ?_
      refine qr_icmp_ge 70 17 rfl rfl rfl (qrg hf420 (by decide) (by decide)) (qrg hz86_6 (by decide) (by decide)) (fun h425 => ?_) (fun h425 => ?_)
      · skip
        refine qr_aload_n 71 rfl g410 rfl ?_
        refine qr_lload_n 72 rfl g411 rfl ?_
        refine qr_callN 75 rfl rfl rfl (sf_225_86 (d := d + 0) hI417 r1) ?_
        rintro _ _ ⟨rfl, v426, rfl, hv426⟩
        show qr_W (qe L xs vb) (d + 1) qx_e234 _ (75, _, [.int (qz v426)], qw σ415 α416 κ ρ, 0, 0)
        refine qr_if_eq 96 78 rfl rfl rfl (qrg hv426 (by decide) (by decide)) (fun h427 => ?_) (fun h427 => ?_)
        · skip
          refine qr_iconst 97 rfl rfl ?_
          refine qr_retZ rfl rfl (Or.inl rfl) (by decide) (by decide) ?_
          exact ⟨_, _, rfl, hI417, hF418, 0, rfl, (by decide), by omega⟩
        · skip
          refine qr_aload_n 79 rfl g410 rfl ?_
          refine qr_get 82 rfl rfl rfl (by decide) rfl ?_
          have hs428 : 0 ≤ σ415 86 43 ∧ σ415 86 43 ≤ 32 := hI417.1 86 43
          refine qr_i2l 83 rfl (qrg hs428 (by decide) (by decide)) rfl ?_
          refine qr_lconst 84 rfl rfl ?_
          refine qy_vl 1 rfl ?_
          refine qr_iload_n 85 rfl g412 rfl ?_
          refine qr_i2l 86 rfl (qrg r2 (by decide) (by decide)) rfl ?_
          refine qr_callN 89 rfl rfl rfl (sf_176 (d := d + 0) hI417 (qrg hs428 (by decide) (by decide)) (by decide) (qrg r2 (by decide) (by decide))) ?_
          rintro _ _ ⟨rfl, v429, rfl, hv429, hp430⟩
          show qr_W (qe L xs vb) (d + 1) qx_e234 _ (89, _, [.int (qz v429)], qw σ415 α416 κ ρ, 0, 0)
          refine qr_if_eq 96 92 rfl rfl rfl (qrg hv429 (by decide) (by decide)) (fun h431 => ?_) (fun h431 => ?_)
          · skip
            refine qr_iconst 97 rfl rfl ?_
            refine qr_retZ rfl rfl (Or.inl rfl) (by decide) (by decide) ?_
            have hw432 : σ415 86 43 = (σ415 86 43) := rfl
            exact ⟨_, _, rfl, hI417, hF418, 0, rfl, (by decide), by omega⟩
          · skip
            refine qr_iconst 93 rfl rfl ?_
            refine qr_goto 97 rfl rfl ?_
            refine qr_retZ rfl rfl (Or.inr rfl) (by decide) (by decide) ?_
            have hw433 : σ415 86 43 = (σ415 86 43) := rfl
            exact ⟨_, _, rfl, hI417, hF418, 1, rfl, (by decide), by omega⟩
      · skip
        refine qr_aload_n 18 rfl g410 rfl ?_
        refine qr_lload_n 19 rfl g411 rfl ?_
        refine qr_callN 22 rfl rfl rfl (sf_225_86 (d := d + 0) hI417 r1) ?_
        rintro _ _ ⟨rfl, v434, rfl, hv434⟩
        show qr_W (qe L xs vb) (d + 1) qx_e234 _ (22, _, [.int (qz v434)], qw σ415 α416 κ ρ, 0, 0)
        refine qr_if_eq 70 25 rfl rfl rfl (qrg hv434 (by decide) (by decide)) (fun h435 => ?_) (fun h435 => ?_)
        · skip
          refine qr_aload_n 71 rfl g410 rfl ?_
          refine qr_lload_n 72 rfl g411 rfl ?_
          refine qr_callN 75 rfl rfl rfl (sf_225_86 (d := d + 0) hI417 r1) ?_
          rintro _ _ ⟨rfl, v436, rfl, hv436⟩
          show qr_W (qe L xs vb) (d + 1) qx_e234 _ (75, _, [.int (qz v436)], qw σ415 α416 κ ρ, 0, 0)
          refine qr_if_eq 96 78 rfl rfl rfl (qrg hv436 (by decide) (by decide)) (fun h437 => ?_) (fun h437 => ?_)
          · skip
            refine qr_iconst 97 rfl rfl ?_
            refine qr_retZ rfl rfl (Or.inl rfl) (by decide) (by decide) ?_
            exact ⟨_, _, rfl, hI417, hF418, 0, rfl, (by decide), by omega⟩
          · skip
            refine qr_aload_n 79 rfl g410 rfl ?_
            refine qr_get 82 rfl rfl rfl (by decide) rfl ?_
            have hs438 : 0 ≤ σ415 86 43 ∧ σ415 86 43 ≤ 32 := hI417.1 86 43
            refine qr_i2l 83 rfl (qrg hs438 (by decide) (by decide)) rfl ?_
            refine qr_lconst 84 rfl rfl ?_
            refine qy_vl 1 rfl ?_
            refine qr_iload_n 85 rfl g412 rfl ?_
            refine qr_i2l 86 rfl (qrg r2 (by decide) (by decide)) rfl ?_
            refine qr_callN 89 rfl rfl rfl (sf_176 (d := d + 0) hI417 (qrg hs438 (by decide) (by decide)) (by decide) (qrg r2 (by decide) (by decide))) ?_
            rintro _ _ ⟨rfl, v439, rfl, hv439, hp440⟩
            show qr_W (qe L xs vb) (d + 1) qx_e234 _ (89, _, [.int (qz v439)], qw σ415 α416 κ ρ, 0, 0)
            refine qr_if_eq 96 92 rfl rfl rfl (qrg hv439 (by decide) (by decide)) (fun h441 => ?_) (fun h441 => ?_)
            · skip
              refine qr_iconst 97 rfl rfl ?_
              refine qr_retZ rfl rfl (Or.inl rfl) (by decide) (by decide) ?_
              have hw442 : σ415 86 43 = (σ415 86 43) := rfl
              exact ⟨_, _, rfl, hI417, hF418, 0, rfl, (by decide), by omega⟩
            · skip
              refine qr_iconst 93 rfl rfl ?_
              refine qr_goto 97 rfl rfl ?_
              refine qr_retZ rfl rfl (Or.inr rfl) (by decide) (by decide) ?_
              have hw443 : σ415 86 43 = (σ415 86 43) := rfl
              exact ⟨_, _, rfl, hI417, hF418, 1, rfl, (by decide), by omega⟩
        · skip
          refine qr_lload_n 26 rfl g411 rfl ?_
          refine qr_aload_n 27 rfl g410 rfl ?_
          refine qr_get 30 rfl rfl rfl (by decide) rfl ?_
          have hs444 : (-9223372036854775808) ≤ σ415 86 10 ∧ σ415 86 10 ≤ 9223372036854775807 := hI417.1 86 10
          refine qr_ldc2 (-1) 33 rfl (by decide) rfl ?_
          refine qr_lxor 34 rfl rfl ?_
          refine qy_canl (fun v445 hv445 => ?_)
          refine qr_land 35 rfl rfl ?_
          refine qy_canl (fun v446 hv446 => ?_)
          refine qr_iload 37 rfl g413 rfl ?_
          refine qr_callN 40 rfl rfl rfl (sf_226 (d := d + 0) hI417 hv446 (qrg hf420 (by decide) (by decide))) ?_
          rintro _ _ ⟨rfl, v447, rfl, hv447⟩
          show qr_W (qe L xs vb) (d + 1) qx_e234 _ (40, _, [.int (qz v447)], qw σ415 α416 κ ρ, 0, 0)
          refine qr_if_eq 64 43 rfl rfl rfl (qrg hv447 (by decide) (by decide)) (fun h448 => ?_) (fun h448 => ?_)
          · skip
            refine qr_iinc _ 67 rfl g413 (by decide) rfl rfl ?_
            refine qr_goto 8 rfl rfl ?_
            exact ih424 _ (u414 + 1) σ415 α416 (by omega) (qm_gk g410 (by decide) (Or.inl (by decide))) (qm_gk g411 (by decide) (Or.inl (by decide))) (qm_gk g412 (by decide) (Or.inr rfl)) (qm_ge _ _ _) (by omega) hI417 hF418 ((hk419).trans rfl) (by omega) (by omega)
          · skip
            refine qr_aload_n 44 rfl g410 rfl ?_
            refine qr_get 47 rfl rfl rfl (by decide) rfl ?_
            refine qr_aload_n 48 rfl g410 rfl ?_
            refine qr_get 51 rfl rfl rfl (by decide) rfl ?_
            have hs449 : 0 ≤ σ415 86 43 ∧ σ415 86 43 ≤ 32 := hI417.1 86 43
            refine qr_iload 53 rfl g413 rfl ?_
            refine qr_iastore 54 rfl (by decide) rfl (by omega) (by decide) rfl ?_
            refine qy_wA (qw_r α416 110 (qzu (α416 110) ((σ415 86 43) : Int).toNat u414)) rfl (fun α450 e451 => ?_)
            have hI452 : qI σ415 α450 κ ρ := by rw [e451]; exact qI_r hI417 110 _ rfl (show 0 ≤ u414 ∧ u414 ≤ 31 by omega)
            have hF453 : qFr [(86, 43)] [110] σ α σ415 α450 := by rw [e451]; exact qFr_r hF418 110 _ (by decide)
            refine qr_aload_n 55 rfl g410 rfl ?_
            refine qr_dup 56 rfl rfl rfl ?_
            refine qr_get 59 rfl rfl rfl (by decide) rfl ?_
            refine qr_iconst 60 rfl rfl ?_
            refine qr_iadd 61 rfl rfl ?_
            refine qr_put 64 rfl (by decide) rfl (Nat.le_of_ble_eq_true rfl) (Nat.le_of_ble_eq_true rfl) (Or.inl rfl) (qr_fitI rfl _) rfl ?_
            refine qy_wS (qw_s σ415 86 43 ((σ415 86 43) + 1)) rfl (fun σ454 e455 => ?_)
            have hI456 : qI σ454 α450 κ ρ := by rw [e455]; exact qI_s hI452 86 43 rfl (show 0 ≤ ((σ415 86 43) + 1) ∧ ((σ415 86 43) + 1) ≤ 32 by omega)
            have hF457 : qFr [(86, 43)] [110] σ α σ454 α450 := by rw [e455]; exact qFr_s hF453 86 43 _ (by decide)
            refine qr_iinc _ 67 rfl g413 (by decide) rfl rfl ?_
            refine qr_goto 8 rfl rfl ?_
            exact ih424 _ (u414 + 1) σ454 α450 (by omega) (qm_gk g410 (by decide) (Or.inl (by decide))) (qm_gk g411 (by decide) (Or.inl (by decide))) (qm_gk g412 (by decide) (Or.inr rfl)) (qm_ge _ _ _) (by omega) hI456 hF457 ((congrFun (congrFun e455 86) 6).trans ((hk419).trans rfl)) (by have hw : σ454 86 43 = ((σ415 86 43) + 1) := (congrFun (congrFun e455 86) 43).trans rfl; omega) (by have hw : σ454 86 43 = ((σ415 86 43) + 1) := (congrFun (congrFun e455 86) 43).trans rfl; omega)
  exact hL423 ((32 - 0 + 1 : Int)).toNat _ 0 σ1 α (by omega) rfl rfl rfl rfl (by decide) hI3 hF4 ((congrFun (congrFun e2 86) 6).trans rfl) (by have hw : σ1 86 43 = 0 := (congrFun (congrFun e2 86) 43).trans rfl; omega) (by have hw : σ1 86 43 = 0 := (congrFun (congrFun e2 86) 43).trans rfl; omega)

set_option maxHeartbeats 4000000 in
set_option maxRecDepth 20000 in
/-- OneRoofModel.meets -/
theorem sf_244_86 {L : Nat} {xs : Nat → Int} {vb : Bool} {d : Nat} {σ α : Nat → Nat → Int} {κ : Nat → Option Nat} {ρ : Nat} {x1 : Int} {x2 : Int} {x3 : Int} (hI : qI σ α κ ρ) (r1 : 0 ≤ x1 ∧ x1 ≤ 5) (r2 : (-2147483648) ≤ x2 ∧ x2 ≤ 2147483647) (r3 : (-2147483648) ≤ x3 ∧ x3 ≤ 2147483647) (p0 : 1 ≤ σ 86 6) (p1 : σ 86 43 ≤ 6) : qm_T (qe L xs vb) (d + 6) 244 [.ref 86, .int (qz x1), .int (qz x2), .int (qz x3)] (qw σ α κ ρ) (fun r w' => ∃ σ' α', w' = qw σ' α' κ ρ ∧ qI σ' α' κ ρ ∧ qFr [(86, 15), (86, 23), (86, 30)] [96] σ α σ' α' ∧ ∃ v : Int, r = some (.int (qz v)) ∧ (0 ≤ v ∧ v ≤ 1)) := by
  refine qr_start (d := d + 5) qv_e244 (Nat.le_of_ble_eq_true rfl) ?_
  show qr_W (qe L xs vb) (d + 5) qx_e244 _ (0, [(0, .ref 86), (1, .int (qz x1)), (2, .int (qz x2)), (3, .int (qz x3))], [], _, 0, 0)
  have hF0 := qFr_rf [(86, 15), (86, 23), (86, 30)] [96] σ α
  have hz86_6 : 0 ≤ σ 86 6 ∧ σ 86 6 ≤ 32 := hI.1 86 6
  have hz86_43 : 0 ≤ σ 86 43 ∧ σ 86 43 ≤ 32 := hI.1 86 43
  refine qr_aload_n 1 rfl rfl rfl ?_
  refine qr_get 4 rfl rfl rfl (by decide) rfl ?_
  refine qr_aload_n 5 rfl rfl rfl ?_
  refine qr_get 8 rfl rfl rfl (by decide) rfl ?_
  refine qr_iload_n 9 rfl rfl rfl ?_
  refine qr_iaload 10 rfl rfl (qrgi r1 (by decide) (by decide)) (by decide) rfl ?_
  refine qr_topI (fun v1 hv1 => ?_)
  have hs2 : 0 ≤ v1 ∧ v1 ≤ 5 := by rw [hv1]; exact hI.2.1 114 _ (show _ < 6 from qrgt r1 (by decide) (by decide))
  refine qr_iaload 11 rfl rfl (qrgi hs2 (by decide) (by decide)) (by decide) rfl ?_
  refine qr_topI (fun v3 hv3 => ?_)
  have hs4 : 0 ≤ v3 ∧ v3 ≤ 31 := by rw [hv3]; exact hI.2.1 110 _ (show _ < 32 from qrgt hs2 (by decide) (by decide))
  refine qr_istore _ 13 rfl (by decide) rfl rfl ?_
  refine qr_iload_n 14 rfl rfl rfl ?_
  refine qr_iload_n 15 rfl rfl rfl ?_
  refine qr_iload_n 16 rfl rfl rfl ?_
  refine qr_bipush 18 rfl (by decide) rfl ?_
  refine qr_idivW 19 rfl (by omega) rfl ?_
  refine qy_can (fun v5 hv5 => ?_)
  refine qr_imul 20 rfl rfl ?_
  refine qy_can (fun v6 hv6 => ?_)
  refine qr_iadd 21 rfl rfl ?_
  refine qy_can (fun v7 hv7 => ?_)
  refine qr_istore _ 23 rfl (by decide) rfl rfl ?_
  refine qr_iconst 24 rfl rfl ?_
  refine qr_istore _ 26 rfl (by decide) rfl rfl ?_
  have hL435 : ∀ (n : Nat) (ls : qm_L) (u427 : Int) (σ428 α429 : Nat → Nat → Int), 5 - u427 < (n : Int) → qm_get ls 0 = some (.ref 86) → qm_get ls 1 = some (.int (qz x1)) → qm_get ls 3 = some (.int (qz x3)) → qm_get ls 4 = some (.int (qz v3)) → qm_get ls 5 = some (.int (qz v7)) → qm_get ls 6 = some (.int (qz u427)) → (0 ≤ u427 ∧ u427 ≤ 5) → qI σ428 α429 κ ρ → qFr [(86, 15), (86, 23), (86, 30)] [96] σ α σ428 α429 → σ428 86 6 = (σ 86 6) → σ428 86 43 = (σ 86 43) → qr_W (qe L xs vb) (d + 5) qx_e244 (fun r w' => ∃ σ' α', w' = qw σ' α' κ ρ ∧ qI σ' α' κ ρ ∧ qFr [(86, 15), (86, 23), (86, 30)] [96] σ α σ' α' ∧ ∃ v : Int, r = some (.int (qz v)) ∧ (0 ≤ v ∧ v ≤ 1)) (26, ls, [], qw σ428 α429 κ ρ, 0, 0) := by
    intro n
    induction n with
    | zero => intro ls u427 σ428 α429 hm g421 g422 g423 g424 g425 g426 hf434 hI430 hF431 hk432 hk433; exact False.elim (by omega)
    | succ n ih436 =>
      intro ls u427 σ428 α429 hm g421 g422 g423 g424 g425 g426 hf434 hI430 hF431 hk432 hk433
      refine qr_iload 28 rfl g426 rfl ?_
      refine qr_iload_n 29 rfl g422 rfl ?_
      refine qr_icmp_ge 127 32 rfl rfl rfl (qrg hf434 (by decide) (by decide)) (qrg r1 (by decide) (by decide)) (fun h437 => ?_) (fun h437 => ?_)
      · skip
        refine qr_iconst 128 rfl rfl ?_
        refine qr_retZ rfl rfl (Or.inl rfl) (by decide) (by decide) ?_
        exact ⟨_, _, rfl, hI430, hF431, 0, rfl, (by decide)⟩
      · skip
        refine qr_aload_n 33 rfl g421 rfl ?_
        refine qr_get 36 rfl rfl rfl (by decide) rfl ?_
        refine qr_aload_n 37 rfl g421 rfl ?_
        refine qr_get 40 rfl rfl rfl (by decide) rfl ?_
        refine qr_iload 42 rfl g426 rfl ?_
        refine qr_iaload 43 rfl rfl (qrgi hf434 (by decide) (by decide)) (by decide) rfl ?_
        refine qr_topI (fun v438 hv438 => ?_)
        have hs439 : 0 ≤ v438 ∧ v438 ≤ 5 := by rw [hv438]; exact hI430.2.1 114 _ (show _ < 6 from qrgt hf434 (by decide) (by decide))
        refine qr_iaload 44 rfl rfl (qrgi hs439 (by decide) (by decide)) (by decide) rfl ?_
        refine qr_topI (fun v440 hv440 => ?_)
        have hs441 : 0 ≤ v440 ∧ v440 ≤ 31 := by rw [hv440]; exact hI430.2.1 110 _ (show _ < 32 from qrgt hs439 (by decide) (by decide))
        refine qr_istore _ 46 rfl (by decide) rfl rfl ?_
        refine qr_aload_n 47 rfl (qm_gk g421 (by decide) (Or.inl (by decide))) rfl ?_
        refine qr_get 50 rfl rfl rfl (by decide) rfl ?_
        refine qr_iload 52 rfl (qm_gk g424 (by decide) (Or.inl (by decide))) rfl ?_
        refine qr_iaload 53 rfl rfl (qrgi hs4 (by decide) (by decide)) (by decide) rfl ?_
        refine qr_topI (fun v442 hv442 => ?_)
        have hs443 : (-2147483648) ≤ v442 ∧ v442 ≤ 2147483647 := by rw [hv442]; exact hI430.2.1 93 _ (show _ < 32 from qrgt hs4 (by decide) (by decide))
        refine qr_aload_n 54 rfl (qm_gk g421 (by decide) (Or.inl (by decide))) rfl ?_
        refine qr_get 57 rfl rfl rfl (by decide) rfl ?_
        refine qr_iload 59 rfl (qm_ge _ _ _) rfl ?_
        refine qr_iaload 60 rfl rfl (qrgi hs441 (by decide) (by decide)) (by decide) rfl ?_
        refine qr_topI (fun v444 hv444 => ?_)
        have hs445 : (-2147483648) ≤ v444 ∧ v444 ≤ 2147483647 := by rw [hv444]; exact hI430.2.1 93 _ (show _ < 32 from qrgt hs441 (by decide) (by decide))
        have hJ476 : ∀ (ls : qm_L) (u468 : Int) (σ469 α470 : Nat → Nat → Int), qm_get ls 0 = some (.ref 86) → qm_get ls 1 = some (.int (qz x1)) → qm_get ls 3 = some (.int (qz x3)) → qm_get ls 4 = some (.int (qz v3)) → qm_get ls 5 = some (.int (qz v7)) → qm_get ls 6 = some (.int (qz u427)) → (0 ≤ u468 ∧ u468 ≤ 1) → qI σ469 α470 κ ρ → qFr [(86, 15), (86, 23), (86, 30)] [96] σ α σ469 α470 → σ469 86 6 = (σ 86 6) → σ469 86 43 = (σ 86 43) → qr_W (qe L xs vb) (d + 5) qx_e244 (fun r w' => ∃ σ' α', w' = qw σ' α' κ ρ ∧ qI σ' α' κ ρ ∧ qFr [(86, 15), (86, 23), (86, 30)] [96] σ α σ' α' ∧ ∃ v : Int, r = some (.int (qz v)) ∧ (0 ≤ v ∧ v ≤ 1)) (112, ls, [.int (qz u468)], qw σ469 α470 κ ρ, 0, 0) := by
          intro ls u468 σ469 α470 g462 g463 g464 g465 g466 g467 hf475 hI471 hF472 hk473 hk474
          refine qr_istore _ 114 rfl (by decide) rfl rfl ?_
          refine qr_iload 116 rfl (qm_ge _ _ _) rfl ?_
          refine qr_if_eq 121 119 rfl rfl rfl (qrg hf475 (by decide) (by decide)) (fun h477 => ?_) (fun h477 => ?_)
          · skip
            refine qr_iinc _ 124 rfl (qm_gk g467 (by decide) (Or.inl (by decide))) (by decide) rfl rfl ?_
            refine qr_goto 26 rfl rfl ?_
            exact ih436 _ (u427 + 1) σ469 α470 (by omega) (qm_gk (qm_gk g462 (by decide) (Or.inl (by decide))) (by decide) (Or.inl (by decide))) (qm_gk (qm_gk g463 (by decide) (Or.inl (by decide))) (by decide) (Or.inl (by decide))) (qm_gk (qm_gk g464 (by decide) (Or.inl (by decide))) (by decide) (Or.inl (by decide))) (qm_gk (qm_gk g465 (by decide) (Or.inl (by decide))) (by decide) (Or.inl (by decide))) (qm_gk (qm_gk g466 (by decide) (Or.inl (by decide))) (by decide) (Or.inr rfl)) (qm_ge _ _ _) (by omega) hI471 hF472 ((hk473).trans rfl) ((hk474).trans rfl)
          · skip
            refine qr_iconst 120 rfl rfl ?_
            refine qr_retZ rfl rfl (Or.inr rfl) (by decide) (by decide) ?_
            exact ⟨_, _, rfl, hI471, hF472, 1, rfl, (by decide)⟩
        refine qr_icmp_ne 111 63 rfl rfl rfl hs443 hs445 (fun h478 => ?_) (fun h478 => ?_)
        · skip
          refine qr_iconst 112 rfl rfl ?_
          exact hJ476 _ 0 σ428 α429 (qm_gk g421 (by decide) (Or.inl (by decide))) (qm_gk g422 (by decide) (Or.inl (by decide))) (qm_gk g423 (by decide) (Or.inl (by decide))) (qm_gk g424 (by decide) (Or.inl (by decide))) (qm_gk g425 (by decide) (Or.inl (by decide))) (qm_gk g426 (by decide) (Or.inr rfl)) (by decide) hI430 hF431 ((hk432).trans rfl) ((hk433).trans rfl)
        · skip
          refine qr_iload_n 64 rfl (qm_gk g422 (by decide) (Or.inl (by decide))) rfl ?_
          refine qr_iload 66 rfl (qm_gk g426 (by decide) (Or.inr rfl)) rfl ?_
          refine qr_isub 67 rfl rfl ?_
          refine qr_iload_n 68 rfl (qm_gk g423 (by decide) (Or.inl (by decide))) rfl ?_
          refine qr_bipush 70 rfl (by decide) rfl ?_
          refine qr_idivW 71 rfl (by omega) rfl ?_
          refine qy_can (fun v479 hv479 => ?_)
          refine qr_imul 72 rfl rfl ?_
          refine qy_can (fun v480 hv480 => ?_)
          refine qr_iload_n 73 rfl (qm_gk g423 (by decide) (Or.inl (by decide))) rfl ?_
          refine qr_bipush 75 rfl (by decide) rfl ?_
          refine qr_iremW 76 rfl (by omega) rfl ?_
          refine qy_can (fun v481 hv481 => ?_)
          refine qr_icmp_gt 111 79 rfl rfl rfl hv480 hv481 (fun h482 => ?_) (fun h482 => ?_)
          · skip
            refine qr_iconst 112 rfl rfl ?_
            exact hJ476 _ 0 σ428 α429 (qm_gk g421 (by decide) (Or.inl (by decide))) (qm_gk g422 (by decide) (Or.inl (by decide))) (qm_gk g423 (by decide) (Or.inl (by decide))) (qm_gk g424 (by decide) (Or.inl (by decide))) (qm_gk g425 (by decide) (Or.inl (by decide))) (qm_gk g426 (by decide) (Or.inr rfl)) (by decide) hI430 hF431 ((hk432).trans rfl) ((hk433).trans rfl)
          · skip
            refine qr_aload_n 80 rfl (qm_gk g421 (by decide) (Or.inl (by decide))) rfl ?_
            refine qr_iload 82 rfl (qm_gk g424 (by decide) (Or.inl (by decide))) rfl ?_
            refine qr_iload 84 rfl (qm_ge _ _ _) rfl ?_
            refine qr_iload 86 rfl (qm_gk g425 (by decide) (Or.inl (by decide))) rfl ?_
            refine qr_callN 89 rfl rfl rfl (sf_195_86 (d := d + 0) hI430 hs4 hs441 hv7) ?_
            rintro _ _ ⟨σ484, α485, rfl, hI486, hG487, v483, rfl, hv483⟩
            have hF488 : qFr [(86, 15), (86, 23), (86, 30)] [96] σ α σ484 α485 := qFr_t hF431 hG487 (by decide) (by decide)
            show qr_W (qe L xs vb) (d + 5) qx_e244 _ (89, _, [.int (qz v483)], qw σ484 α485 κ ρ, 0, 0)
            refine qr_bipush 91 rfl (by decide) rfl ?_
            refine qr_icmp_eq 111 94 rfl rfl rfl hv483 (by decide) (fun h489 => ?_) (fun h489 => ?_)
            · skip
              refine qr_iconst 112 rfl rfl ?_
              exact hJ476 _ 0 σ484 α485 (qm_gk g421 (by decide) (Or.inl (by decide))) (qm_gk g422 (by decide) (Or.inl (by decide))) (qm_gk g423 (by decide) (Or.inl (by decide))) (qm_gk g424 (by decide) (Or.inl (by decide))) (qm_gk g425 (by decide) (Or.inl (by decide))) (qm_gk g426 (by decide) (Or.inr rfl)) (by decide) hI486 hF488 ((hG487.1 86 6 (by decide)).trans ((hk432).trans rfl)) ((hG487.1 86 43 (by decide)).trans ((hk433).trans rfl))
            · skip
              refine qr_aload_n 95 rfl (qm_gk g421 (by decide) (Or.inl (by decide))) rfl ?_
              refine qr_iload 97 rfl (qm_gk g424 (by decide) (Or.inl (by decide))) rfl ?_
              refine qr_iload 99 rfl (qm_ge _ _ _) rfl ?_
              refine qr_iload 101 rfl (qm_gk g425 (by decide) (Or.inl (by decide))) rfl ?_
              have hs490 : 0 ≤ σ484 86 6 ∧ σ484 86 6 ≤ 32 := hI486.1 86 6
              have hs491 : σ484 86 6 = (σ 86 6) := (hG487.1 86 6 (by decide)).trans ((hk432).trans rfl)
              refine qr_callN 104 rfl rfl rfl (sf_209_86 (d := d + 1) hI486 hs4 hs441 hv7 (by omega)) ?_
              rintro _ _ ⟨σ493, rfl, hI494, hG495, v492, rfl, hv492⟩
              have hF496 : qFr [(86, 15), (86, 23), (86, 30)] [96] σ α σ493 α485 := qFr_t hF488 hG495 (by decide) (by decide)
              show qr_W (qe L xs vb) (d + 5) qx_e244 _ (104, _, [.int (qz v492)], qw σ493 α485 κ ρ, 0, 0)
              refine qr_if_ne 111 107 rfl rfl rfl hv492 (fun h497 => ?_) (fun h497 => ?_)
              · skip
                refine qr_iconst 112 rfl rfl ?_
                exact hJ476 _ 0 σ493 α485 (qm_gk g421 (by decide) (Or.inl (by decide))) (qm_gk g422 (by decide) (Or.inl (by decide))) (qm_gk g423 (by decide) (Or.inl (by decide))) (qm_gk g424 (by decide) (Or.inl (by decide))) (qm_gk g425 (by decide) (Or.inl (by decide))) (qm_gk g426 (by decide) (Or.inr rfl)) (by decide) hI494 hF496 ((hG495.1 86 6 (by decide)).trans ((hG487.1 86 6 (by decide)).trans ((hk432).trans rfl))) ((hG495.1 86 43 (by decide)).trans ((hG487.1 86 43 (by decide)).trans ((hk433).trans rfl)))
              · skip
                refine qr_iconst 108 rfl rfl ?_
                refine qr_goto 112 rfl rfl ?_
                exact hJ476 _ 1 σ493 α485 (qm_gk g421 (by decide) (Or.inl (by decide))) (qm_gk g422 (by decide) (Or.inl (by decide))) (qm_gk g423 (by decide) (Or.inl (by decide))) (qm_gk g424 (by decide) (Or.inl (by decide))) (qm_gk g425 (by decide) (Or.inl (by decide))) (qm_gk g426 (by decide) (Or.inr rfl)) (by decide) hI494 hF496 ((hG495.1 86 6 (by decide)).trans ((hG487.1 86 6 (by decide)).trans ((hk432).trans rfl))) ((hG495.1 86 43 (by decide)).trans ((hG487.1 86 43 (by decide)).trans ((hk433).trans rfl)))
  exact hL435 ((5 - 0 + 1 : Int)).toNat _ 0 σ α (by omega) rfl rfl rfl rfl rfl rfl (by decide) hI hF0 (rfl) (rfl)

set_option maxHeartbeats 4000000 in
set_option maxRecDepth 20000 in
/-- OneRoofModel.orders -/
theorem sf_243_86t6 {L : Nat} {xs : Nat → Int} {vb : Bool} {d : Nat} {σ α : Nat → Nat → Int} {κ : Nat → Option Nat} {ρ : Nat} {x2 : Int} {x3 : Int} {x4 : Int} (hI : qI σ α κ ρ) (r2 : (-2147483648) ≤ x2 ∧ x2 ≤ 2147483647) (r3 : (-2147483648) ≤ x3 ∧ x3 ≤ 2147483647) (r4 : 100 ≤ x4 ∧ x4 ≤ 2499) (p0 : 1 ≤ σ 86 6) (p1 : σ 86 43 ≤ 6) (p2 : 6 ≤ σ 86 43) : qm_T (qe L xs vb) (d + 1) 243 [.ref 86, .int (qz 6), .int (qz x2), .int (qz x3), .int (qz x4)] (qw σ α κ ρ) (fun r w' => ∃ σ' α', w' = qw σ' α' κ ρ ∧ qI σ' α' κ ρ ∧ qFr [(86, 15), (86, 23), (86, 30)] [96, 114] σ α σ' α' ∧ ∃ v : Int, r = some (.int (qz v)) ∧ (0 ≤ v ∧ v ≤ 1)) := by
  refine qr_start (d := d + 0) qv_e243 (Nat.le_of_ble_eq_true rfl) ?_
  show qr_W (qe L xs vb) (d + 0) qx_e243 _ (0, [(0, .ref 86), (1, .int (qz 6)), (2, .int (qz x2)), (3, .int (qz x3)), (4, .int (qz x4))], [], _, 0, 0)
  have hF0 := qFr_rf [(86, 15), (86, 23), (86, 30)] [96, 114] σ α
  have hz86_6 : 0 ≤ σ 86 6 ∧ σ 86 6 ≤ 32 := hI.1 86 6
  have hz86_43 : 0 ≤ σ 86 43 ∧ σ 86 43 ≤ 32 := hI.1 86 43
  refine qr_iload_n 1 rfl rfl rfl ?_
  refine qr_aload_n 2 rfl rfl rfl ?_
  refine qr_get 5 rfl rfl rfl (by decide) rfl ?_
  refine qr_icmp_ne 10 8 rfl rfl rfl (by decide) (qrg hz86_43 (by decide) (by decide)) (fun h => False.elim (by omega)) (fun h1 => ?_)
  refine qr_iconst 9 rfl rfl ?_
  refine qr_retZ rfl rfl (Or.inr rfl) (by decide) (by decide) ?_
  exact ⟨_, _, rfl, hI, hF0, 1, rfl, (by decide)⟩

set_option maxHeartbeats 4000000 in
set_option maxRecDepth 20000 in
/-- OneRoofModel.orders -/
theorem sf_243_86t5 {L : Nat} {xs : Nat → Int} {vb : Bool} {d : Nat} {σ α : Nat → Nat → Int} {κ : Nat → Option Nat} {ρ : Nat} {x2 : Int} {x3 : Int} {x4 : Int} (hI : qI σ α κ ρ) (r2 : (-2147483648) ≤ x2 ∧ x2 ≤ 2147483647) (r3 : (-2147483648) ≤ x3 ∧ x3 ≤ 2147483647) (r4 : 100 ≤ x4 ∧ x4 ≤ 2499) (p0 : 1 ≤ σ 86 6) (p1 : σ 86 43 ≤ 6) (p2 : 5 ≤ σ 86 43) : qm_T (qe L xs vb) (d + 7) 243 [.ref 86, .int (qz 5), .int (qz x2), .int (qz x3), .int (qz x4)] (qw σ α κ ρ) (fun r w' => ∃ σ' α', w' = qw σ' α' κ ρ ∧ qI σ' α' κ ρ ∧ qFr [(86, 15), (86, 23), (86, 30)] [96, 114] σ α σ' α' ∧ ∃ v : Int, r = some (.int (qz v)) ∧ (0 ≤ v ∧ v ≤ 1)) := by
  refine qr_start (d := d + 6) qv_e243 (Nat.le_of_ble_eq_true rfl) ?_
  show qr_W (qe L xs vb) (d + 6) qx_e243 _ (0, [(0, .ref 86), (1, .int (qz 5)), (2, .int (qz x2)), (3, .int (qz x3)), (4, .int (qz x4))], [], _, 0, 0)
  have hF0 := qFr_rf [(86, 15), (86, 23), (86, 30)] [96, 114] σ α
  have hz86_6 : 0 ≤ σ 86 6 ∧ σ 86 6 ≤ 32 := hI.1 86 6
  have hz86_43 : 0 ≤ σ 86 43 ∧ σ 86 43 ≤ 32 := hI.1 86 43
  refine qr_iload_n 1 rfl rfl rfl ?_
  refine qr_aload_n 2 rfl rfl rfl ?_
  refine qr_get 5 rfl rfl rfl (by decide) rfl ?_
  refine qr_icmp_ne 10 8 rfl rfl rfl (by decide) (qrg hz86_43 (by decide) (by decide)) (fun h1 => ?_) (fun h1 => ?_)
  · skip
    refine qr_iconst 11 rfl rfl ?_
    refine qr_istore _ 13 rfl (by decide) rfl rfl ?_
    have hL288 : ∀ (n : Nat) (ls : qm_L) (u280 : Int) (σ281 α282 : Nat → Nat → Int), 6 - u280 < (n : Int) → qm_get ls 0 = some (.ref 86) → qm_get ls 1 = some (.int (qz 5)) → qm_get ls 2 = some (.int (qz x2)) → qm_get ls 3 = some (.int (qz x3)) → qm_get ls 4 = some (.int (qz x4)) → qm_get ls 5 = some (.int (qz u280)) → (0 ≤ u280 ∧ u280 ≤ 6) → qI σ281 α282 κ ρ → qFr [(86, 15), (86, 23), (86, 30)] [96, 114] σ α σ281 α282 → σ281 86 6 = (σ 86 6) → σ281 86 43 = (σ 86 43) → qr_W (qe L xs vb) (d + 6) qx_e243 (fun r w' => ∃ σ' α', w' = qw σ' α' κ ρ ∧ qI σ' α' κ ρ ∧ qFr [(86, 15), (86, 23), (86, 30)] [96, 114] σ α σ' α' ∧ ∃ v : Int, r = some (.int (qz v)) ∧ (0 ≤ v ∧ v ≤ 1)) (13, ls, [], qw σ281 α282 κ ρ, 0, 0) := by
      intro n
      induction n with
      | zero => intro ls u280 σ281 α282 hm g274 g275 g276 g277 g278 g279 hf287 hI283 hF284 hk285 hk286; exact False.elim (by omega)
      | succ n ih289 =>
        intro ls u280 σ281 α282 hm g274 g275 g276 g277 g278 g279 hf287 hI283 hF284 hk285 hk286
        refine qr_iload 15 rfl g279 rfl ?_
        refine qr_aload_n 16 rfl g274 rfl ?_
        refine qr_get 19 rfl rfl rfl (by decide) rfl ?_
        refine qy_v (σ 86 43) ((hk286).trans rfl) ?_
        refine qr_icmp_ge 81 22 rfl rfl rfl (qrg hf287 (by decide) (by decide)) (qrg hz86_43 (by decide) (by decide)) (fun h290 => ?_) (fun h290 => ?_)
        · skip
          refine qr_iconst 82 rfl rfl ?_
          refine qr_retZ rfl rfl (Or.inl rfl) (by decide) (by decide) ?_
          exact ⟨_, _, rfl, hI283, hF284, 0, rfl, (by decide)⟩
        · skip
          refine qr_iload_n 23 rfl g276 rfl ?_
          refine qr_iload 25 rfl g279 rfl ?_
          refine qr_ishr 26 rfl rfl ?_
          refine qy_can (fun v291 hv291 => ?_)
          refine qr_iconst 27 rfl rfl ?_
          refine qr_iand 28 rfl rfl ?_
          refine qy_andr (by omega) (fun v292 hv292 => ?_)
          refine qr_iconst 29 rfl rfl ?_
          refine qr_icmp_ne 35 32 rfl rfl rfl (by omega) (by decide) (fun h293 => ?_) (fun h293 => ?_)
          · skip
            refine qr_aload_n 36 rfl g274 rfl ?_
            refine qr_get 39 rfl rfl rfl (by decide) rfl ?_
            refine qr_iload_n 40 rfl g275 rfl ?_
            refine qr_iload 42 rfl g279 rfl ?_
            refine qr_iastore 43 rfl (by decide) rfl (by decide) (by decide) rfl ?_
            refine qy_wA (qw_r α282 114 (qzu (α282 114) (5 : Int).toNat u280)) rfl (fun α294 e295 => ?_)
            have hI296 : qI σ281 α294 κ ρ := by rw [e295]; exact qI_r hI283 114 _ rfl (show 0 ≤ u280 ∧ u280 ≤ 5 by omega)
            have hF297 : qFr [(86, 15), (86, 23), (86, 30)] [96, 114] σ α σ281 α294 := by rw [e295]; exact qFr_r hF284 114 _ (by decide)
            refine qr_aload_n 44 rfl g274 rfl ?_
            refine qr_iload_n 45 rfl g275 rfl ?_
            refine qr_iload_n 46 rfl g277 rfl ?_
            refine qr_iload 48 rfl g278 rfl ?_
            have hs298 : 0 ≤ σ281 86 43 ∧ σ281 86 43 ≤ 32 := hI296.1 86 43
            have hs299 : σ281 86 43 = (σ 86 43) := (hk286).trans rfl
            have hs300 : 0 ≤ σ281 86 6 ∧ σ281 86 6 ≤ 32 := hI296.1 86 6
            have hs301 : σ281 86 6 = (σ 86 6) := (hk285).trans rfl
            refine qr_callN 51 rfl rfl rfl (sf_244_86 (d := d + 0) hI296 (by decide) r3 (qrg r4 (by decide) (by decide)) (by omega) (by omega)) ?_
            rintro _ _ ⟨σ303, α304, rfl, hI305, hG306, v302, rfl, hv302⟩
            have hF307 : qFr [(86, 15), (86, 23), (86, 30)] [96, 114] σ α σ303 α304 := qFr_t hF297 hG306 (by decide) (by decide)
            show qr_W (qe L xs vb) (d + 6) qx_e243 _ (51, _, [.int (qz v302)], qw σ303 α304 κ ρ, 0, 0)
            refine qr_if_ne 75 54 rfl rfl rfl (qrg hv302 (by decide) (by decide)) (fun h308 => ?_) (fun h308 => ?_)
            · skip
              refine qr_iinc _ 78 rfl g279 (by decide) rfl rfl ?_
              refine qr_goto 13 rfl rfl ?_
              exact ih289 _ (u280 + 1) σ303 α304 (by omega) (qm_gk g274 (by decide) (Or.inl (by decide))) (qm_gk g275 (by decide) (Or.inl (by decide))) (qm_gk g276 (by decide) (Or.inl (by decide))) (qm_gk g277 (by decide) (Or.inl (by decide))) (qm_gk g278 (by decide) (Or.inr rfl)) (qm_ge _ _ _) (by omega) hI305 hF307 ((hG306.1 86 6 (by decide)).trans ((hk285).trans rfl)) ((hG306.1 86 43 (by decide)).trans ((hk286).trans rfl))
            · skip
              refine qr_aload_n 55 rfl g274 rfl ?_
              refine qr_iload_n 56 rfl g275 rfl ?_
              refine qr_iconst 57 rfl rfl ?_
              refine qr_iadd 58 rfl rfl ?_
              refine qy_v 6 rfl ?_
              refine qr_iload_n 59 rfl g276 rfl ?_
              refine qr_iconst 60 rfl rfl ?_
              refine qr_iload 62 rfl g279 rfl ?_
              refine qr_ishl 63 rfl rfl ?_
              refine qy_shl1 (N := 5) (by omega) (fun v309 hv309 => ?_)
              refine qr_ior 64 rfl rfl ?_
              refine qy_can (fun v310 hv310 => ?_)
              refine qr_iload_n 65 rfl g277 rfl ?_
              refine qr_iload 67 rfl g278 rfl ?_
              have hs311 : 0 ≤ σ303 86 43 ∧ σ303 86 43 ≤ 32 := hI305.1 86 43
              have hs312 : σ303 86 43 = (σ 86 43) := (hG306.1 86 43 (by decide)).trans ((hk286).trans rfl)
              have hs313 : 0 ≤ σ303 86 6 ∧ σ303 86 6 ≤ 32 := hI305.1 86 6
              have hs314 : σ303 86 6 = (σ 86 6) := (hG306.1 86 6 (by decide)).trans ((hk285).trans rfl)
              refine qr_callN 70 rfl rfl rfl (sf_243_86t6 (d := d + 5) hI305 hv310 r3 r4 (by omega) (by omega) (by omega)) ?_
              rintro _ _ ⟨σ316, α317, rfl, hI318, hG319, v315, rfl, hv315⟩
              have hF320 : qFr [(86, 15), (86, 23), (86, 30)] [96, 114] σ α σ316 α317 := qFr_t hF307 hG319 (by decide) (by decide)
              show qr_W (qe L xs vb) (d + 6) qx_e243 _ (70, _, [.int (qz v315)], qw σ316 α317 κ ρ, 0, 0)
              refine qr_if_eq 75 73 rfl rfl rfl (qrg hv315 (by decide) (by decide)) (fun h321 => ?_) (fun h321 => ?_)
              · skip
                refine qr_iinc _ 78 rfl g279 (by decide) rfl rfl ?_
                refine qr_goto 13 rfl rfl ?_
                exact ih289 _ (u280 + 1) σ316 α317 (by omega) (qm_gk g274 (by decide) (Or.inl (by decide))) (qm_gk g275 (by decide) (Or.inl (by decide))) (qm_gk g276 (by decide) (Or.inl (by decide))) (qm_gk g277 (by decide) (Or.inl (by decide))) (qm_gk g278 (by decide) (Or.inr rfl)) (qm_ge _ _ _) (by omega) hI318 hF320 ((hG319.1 86 6 (by decide)).trans ((hG306.1 86 6 (by decide)).trans ((hk285).trans rfl))) ((hG319.1 86 43 (by decide)).trans ((hG306.1 86 43 (by decide)).trans ((hk286).trans rfl)))
              · skip
                refine qr_iconst 74 rfl rfl ?_
                refine qr_retZ rfl rfl (Or.inr rfl) (by decide) (by decide) ?_
                exact ⟨_, _, rfl, hI318, hF320, 1, rfl, (by decide)⟩
          · skip
            refine qr_goto 75 rfl rfl ?_
            refine qr_iinc _ 78 rfl g279 (by decide) rfl rfl ?_
            refine qr_goto 13 rfl rfl ?_
            exact ih289 _ (u280 + 1) σ281 α282 (by omega) (qm_gk g274 (by decide) (Or.inl (by decide))) (qm_gk g275 (by decide) (Or.inl (by decide))) (qm_gk g276 (by decide) (Or.inl (by decide))) (qm_gk g277 (by decide) (Or.inl (by decide))) (qm_gk g278 (by decide) (Or.inr rfl)) (qm_ge _ _ _) (by omega) hI283 hF284 ((hk285).trans rfl) ((hk286).trans rfl)
    exact hL288 ((6 - 0 + 1 : Int)).toNat _ 0 σ α (by omega) rfl rfl rfl rfl rfl rfl (by decide) hI hF0 (rfl) (rfl)
  · skip
    refine qr_iconst 9 rfl rfl ?_
    refine qr_retZ rfl rfl (Or.inr rfl) (by decide) (by decide) ?_
    exact ⟨_, _, rfl, hI, hF0, 1, rfl, (by decide)⟩

set_option maxHeartbeats 4000000 in
set_option maxRecDepth 20000 in
/-- OneRoofModel.orders -/
theorem sf_243_86t4 {L : Nat} {xs : Nat → Int} {vb : Bool} {d : Nat} {σ α : Nat → Nat → Int} {κ : Nat → Option Nat} {ρ : Nat} {x2 : Int} {x3 : Int} {x4 : Int} (hI : qI σ α κ ρ) (r2 : (-2147483648) ≤ x2 ∧ x2 ≤ 2147483647) (r3 : (-2147483648) ≤ x3 ∧ x3 ≤ 2147483647) (r4 : 100 ≤ x4 ∧ x4 ≤ 2499) (p0 : 1 ≤ σ 86 6) (p1 : σ 86 43 ≤ 6) (p2 : 4 ≤ σ 86 43) : qm_T (qe L xs vb) (d + 8) 243 [.ref 86, .int (qz 4), .int (qz x2), .int (qz x3), .int (qz x4)] (qw σ α κ ρ) (fun r w' => ∃ σ' α', w' = qw σ' α' κ ρ ∧ qI σ' α' κ ρ ∧ qFr [(86, 15), (86, 23), (86, 30)] [96, 114] σ α σ' α' ∧ ∃ v : Int, r = some (.int (qz v)) ∧ (0 ≤ v ∧ v ≤ 1)) := by
  refine qr_start (d := d + 7) qv_e243 (Nat.le_of_ble_eq_true rfl) ?_
  show qr_W (qe L xs vb) (d + 7) qx_e243 _ (0, [(0, .ref 86), (1, .int (qz 4)), (2, .int (qz x2)), (3, .int (qz x3)), (4, .int (qz x4))], [], _, 0, 0)
  have hF0 := qFr_rf [(86, 15), (86, 23), (86, 30)] [96, 114] σ α
  have hz86_6 : 0 ≤ σ 86 6 ∧ σ 86 6 ≤ 32 := hI.1 86 6
  have hz86_43 : 0 ≤ σ 86 43 ∧ σ 86 43 ≤ 32 := hI.1 86 43
  refine qr_iload_n 1 rfl rfl rfl ?_
  refine qr_aload_n 2 rfl rfl rfl ?_
  refine qr_get 5 rfl rfl rfl (by decide) rfl ?_
  refine qr_icmp_ne 10 8 rfl rfl rfl (by decide) (qrg hz86_43 (by decide) (by decide)) (fun h1 => ?_) (fun h1 => ?_)
  · skip
    refine qr_iconst 11 rfl rfl ?_
    refine qr_istore _ 13 rfl (by decide) rfl rfl ?_
    have hL288 : ∀ (n : Nat) (ls : qm_L) (u280 : Int) (σ281 α282 : Nat → Nat → Int), 6 - u280 < (n : Int) → qm_get ls 0 = some (.ref 86) → qm_get ls 1 = some (.int (qz 4)) → qm_get ls 2 = some (.int (qz x2)) → qm_get ls 3 = some (.int (qz x3)) → qm_get ls 4 = some (.int (qz x4)) → qm_get ls 5 = some (.int (qz u280)) → (0 ≤ u280 ∧ u280 ≤ 6) → qI σ281 α282 κ ρ → qFr [(86, 15), (86, 23), (86, 30)] [96, 114] σ α σ281 α282 → σ281 86 6 = (σ 86 6) → σ281 86 43 = (σ 86 43) → qr_W (qe L xs vb) (d + 7) qx_e243 (fun r w' => ∃ σ' α', w' = qw σ' α' κ ρ ∧ qI σ' α' κ ρ ∧ qFr [(86, 15), (86, 23), (86, 30)] [96, 114] σ α σ' α' ∧ ∃ v : Int, r = some (.int (qz v)) ∧ (0 ≤ v ∧ v ≤ 1)) (13, ls, [], qw σ281 α282 κ ρ, 0, 0) := by
      intro n
      induction n with
      | zero => intro ls u280 σ281 α282 hm g274 g275 g276 g277 g278 g279 hf287 hI283 hF284 hk285 hk286; exact False.elim (by omega)
      | succ n ih289 =>
        intro ls u280 σ281 α282 hm g274 g275 g276 g277 g278 g279 hf287 hI283 hF284 hk285 hk286
        refine qr_iload 15 rfl g279 rfl ?_
        refine qr_aload_n 16 rfl g274 rfl ?_
        refine qr_get 19 rfl rfl rfl (by decide) rfl ?_
        refine qy_v (σ 86 43) ((hk286).trans rfl) ?_
        refine qr_icmp_ge 81 22 rfl rfl rfl (qrg hf287 (by decide) (by decide)) (qrg hz86_43 (by decide) (by decide)) (fun h290 => ?_) (fun h290 => ?_)
        · skip
          refine qr_iconst 82 rfl rfl ?_
          refine qr_retZ rfl rfl (Or.inl rfl) (by decide) (by decide) ?_
          exact ⟨_, _, rfl, hI283, hF284, 0, rfl, (by decide)⟩
        · skip
          refine qr_iload_n 23 rfl g276 rfl ?_
          refine qr_iload 25 rfl g279 rfl ?_
          refine qr_ishr 26 rfl rfl ?_
          refine qy_can (fun v291 hv291 => ?_)
          refine qr_iconst 27 rfl rfl ?_
          refine qr_iand 28 rfl rfl ?_
          refine qy_andr (by omega) (fun v292 hv292 => ?_)
          refine qr_iconst 29 rfl rfl ?_
          refine qr_icmp_ne 35 32 rfl rfl rfl (by omega) (by decide) (fun h293 => ?_) (fun h293 => ?_)
          · skip
            refine qr_aload_n 36 rfl g274 rfl ?_
            refine qr_get 39 rfl rfl rfl (by decide) rfl ?_
            refine qr_iload_n 40 rfl g275 rfl ?_
            refine qr_iload 42 rfl g279 rfl ?_
            refine qr_iastore 43 rfl (by decide) rfl (by decide) (by decide) rfl ?_
            refine qy_wA (qw_r α282 114 (qzu (α282 114) (4 : Int).toNat u280)) rfl (fun α294 e295 => ?_)
            have hI296 : qI σ281 α294 κ ρ := by rw [e295]; exact qI_r hI283 114 _ rfl (show 0 ≤ u280 ∧ u280 ≤ 5 by omega)
            have hF297 : qFr [(86, 15), (86, 23), (86, 30)] [96, 114] σ α σ281 α294 := by rw [e295]; exact qFr_r hF284 114 _ (by decide)
            refine qr_aload_n 44 rfl g274 rfl ?_
            refine qr_iload_n 45 rfl g275 rfl ?_
            refine qr_iload_n 46 rfl g277 rfl ?_
            refine qr_iload 48 rfl g278 rfl ?_
            have hs298 : 0 ≤ σ281 86 43 ∧ σ281 86 43 ≤ 32 := hI296.1 86 43
            have hs299 : σ281 86 43 = (σ 86 43) := (hk286).trans rfl
            have hs300 : 0 ≤ σ281 86 6 ∧ σ281 86 6 ≤ 32 := hI296.1 86 6
            have hs301 : σ281 86 6 = (σ 86 6) := (hk285).trans rfl
            refine qr_callN 51 rfl rfl rfl (sf_244_86 (d := d + 1) hI296 (by decide) r3 (qrg r4 (by decide) (by decide)) (by omega) (by omega)) ?_
            rintro _ _ ⟨σ303, α304, rfl, hI305, hG306, v302, rfl, hv302⟩
            have hF307 : qFr [(86, 15), (86, 23), (86, 30)] [96, 114] σ α σ303 α304 := qFr_t hF297 hG306 (by decide) (by decide)
            show qr_W (qe L xs vb) (d + 7) qx_e243 _ (51, _, [.int (qz v302)], qw σ303 α304 κ ρ, 0, 0)
            refine qr_if_ne 75 54 rfl rfl rfl (qrg hv302 (by decide) (by decide)) (fun h308 => ?_) (fun h308 => ?_)
            · skip
              refine qr_iinc _ 78 rfl g279 (by decide) rfl rfl ?_
              refine qr_goto 13 rfl rfl ?_
              exact ih289 _ (u280 + 1) σ303 α304 (by omega) (qm_gk g274 (by decide) (Or.inl (by decide))) (qm_gk g275 (by decide) (Or.inl (by decide))) (qm_gk g276 (by decide) (Or.inl (by decide))) (qm_gk g277 (by decide) (Or.inl (by decide))) (qm_gk g278 (by decide) (Or.inr rfl)) (qm_ge _ _ _) (by omega) hI305 hF307 ((hG306.1 86 6 (by decide)).trans ((hk285).trans rfl)) ((hG306.1 86 43 (by decide)).trans ((hk286).trans rfl))
            · skip
              refine qr_aload_n 55 rfl g274 rfl ?_
              refine qr_iload_n 56 rfl g275 rfl ?_
              refine qr_iconst 57 rfl rfl ?_
              refine qr_iadd 58 rfl rfl ?_
              refine qy_v 5 rfl ?_
              refine qr_iload_n 59 rfl g276 rfl ?_
              refine qr_iconst 60 rfl rfl ?_
              refine qr_iload 62 rfl g279 rfl ?_
              refine qr_ishl 63 rfl rfl ?_
              refine qy_shl1 (N := 5) (by omega) (fun v309 hv309 => ?_)
              refine qr_ior 64 rfl rfl ?_
              refine qy_can (fun v310 hv310 => ?_)
              refine qr_iload_n 65 rfl g277 rfl ?_
              refine qr_iload 67 rfl g278 rfl ?_
              have hs311 : 0 ≤ σ303 86 43 ∧ σ303 86 43 ≤ 32 := hI305.1 86 43
              have hs312 : σ303 86 43 = (σ 86 43) := (hG306.1 86 43 (by decide)).trans ((hk286).trans rfl)
              have hs313 : 0 ≤ σ303 86 6 ∧ σ303 86 6 ≤ 32 := hI305.1 86 6
              have hs314 : σ303 86 6 = (σ 86 6) := (hG306.1 86 6 (by decide)).trans ((hk285).trans rfl)
              refine qr_callN 70 rfl rfl rfl (sf_243_86t5 (d := d + 0) hI305 hv310 r3 r4 (by omega) (by omega) (by omega)) ?_
              rintro _ _ ⟨σ316, α317, rfl, hI318, hG319, v315, rfl, hv315⟩
              have hF320 : qFr [(86, 15), (86, 23), (86, 30)] [96, 114] σ α σ316 α317 := qFr_t hF307 hG319 (by decide) (by decide)
              show qr_W (qe L xs vb) (d + 7) qx_e243 _ (70, _, [.int (qz v315)], qw σ316 α317 κ ρ, 0, 0)
              refine qr_if_eq 75 73 rfl rfl rfl (qrg hv315 (by decide) (by decide)) (fun h321 => ?_) (fun h321 => ?_)
              · skip
                refine qr_iinc _ 78 rfl g279 (by decide) rfl rfl ?_
                refine qr_goto 13 rfl rfl ?_
                exact ih289 _ (u280 + 1) σ316 α317 (by omega) (qm_gk g274 (by decide) (Or.inl (by decide))) (qm_gk g275 (by decide) (Or.inl (by decide))) (qm_gk g276 (by decide) (Or.inl (by decide))) (qm_gk g277 (by decide) (Or.inl (by decide))) (qm_gk g278 (by decide) (Or.inr rfl)) (qm_ge _ _ _) (by omega) hI318 hF320 ((hG319.1 86 6 (by decide)).trans ((hG306.1 86 6 (by decide)).trans ((hk285).trans rfl))) ((hG319.1 86 43 (by decide)).trans ((hG306.1 86 43 (by decide)).trans ((hk286).trans rfl)))
              · skip
                refine qr_iconst 74 rfl rfl ?_
                refine qr_retZ rfl rfl (Or.inr rfl) (by decide) (by decide) ?_
                exact ⟨_, _, rfl, hI318, hF320, 1, rfl, (by decide)⟩
          · skip
            refine qr_goto 75 rfl rfl ?_
            refine qr_iinc _ 78 rfl g279 (by decide) rfl rfl ?_
            refine qr_goto 13 rfl rfl ?_
            exact ih289 _ (u280 + 1) σ281 α282 (by omega) (qm_gk g274 (by decide) (Or.inl (by decide))) (qm_gk g275 (by decide) (Or.inl (by decide))) (qm_gk g276 (by decide) (Or.inl (by decide))) (qm_gk g277 (by decide) (Or.inl (by decide))) (qm_gk g278 (by decide) (Or.inr rfl)) (qm_ge _ _ _) (by omega) hI283 hF284 ((hk285).trans rfl) ((hk286).trans rfl)
    exact hL288 ((6 - 0 + 1 : Int)).toNat _ 0 σ α (by omega) rfl rfl rfl rfl rfl rfl (by decide) hI hF0 (rfl) (rfl)
  · skip
    refine qr_iconst 9 rfl rfl ?_
    refine qr_retZ rfl rfl (Or.inr rfl) (by decide) (by decide) ?_
    exact ⟨_, _, rfl, hI, hF0, 1, rfl, (by decide)⟩
end
section
set_option maxHeartbeats 4000000 in
set_option maxRecDepth 20000 in
/-- OneRoofModel.orders -/
theorem sf_243_86t3 {L : Nat} {xs : Nat → Int} {vb : Bool} {d : Nat} {σ α : Nat → Nat → Int} {κ : Nat → Option Nat} {ρ : Nat} {x2 : Int} {x3 : Int} {x4 : Int} (hI : qI σ α κ ρ) (r2 : (-2147483648) ≤ x2 ∧ x2 ≤ 2147483647) (r3 : (-2147483648) ≤ x3 ∧ x3 ≤ 2147483647) (r4 : 100 ≤ x4 ∧ x4 ≤ 2499) (p0 : 1 ≤ σ 86 6) (p1 : σ 86 43 ≤ 6) (p2 : 3 ≤ σ 86 43) : qm_T (qe L xs vb) (d + 9) 243 [.ref 86, .int (qz 3), .int (qz x2), .int (qz x3), .int (qz x4)] (qw σ α κ ρ) (fun r w' => ∃ σ' α', w' = qw σ' α' κ ρ ∧ qI σ' α' κ ρ ∧ qFr [(86, 15), (86, 23), (86, 30)] [96, 114] σ α σ' α' ∧ ∃ v : Int, r = some (.int (qz v)) ∧ (0 ≤ v ∧ v ≤ 1)) := by
  refine qr_start (d := d + 8) qv_e243 (Nat.le_of_ble_eq_true rfl) ?_
  show qr_W (qe L xs vb) (d + 8) qx_e243 _ (0, [(0, .ref 86), (1, .int (qz 3)), (2, .int (qz x2)), (3, .int (qz x3)), (4, .int (qz x4))], [], _, 0, 0)
  have hF0 := qFr_rf [(86, 15), (86, 23), (86, 30)] [96, 114] σ α
  have hz86_6 : 0 ≤ σ 86 6 ∧ σ 86 6 ≤ 32 := hI.1 86 6
  have hz86_43 : 0 ≤ σ 86 43 ∧ σ 86 43 ≤ 32 := hI.1 86 43
  refine qr_iload_n 1 rfl rfl rfl ?_
  refine qr_aload_n 2 rfl rfl rfl ?_
  refine qr_get 5 rfl rfl rfl (by decide) rfl ?_
  refine qr_icmp_ne 10 8 rfl rfl rfl (by decide) (qrg hz86_43 (by decide) (by decide)) (fun h1 => ?_) (fun h1 => ?_)
  · skip
    refine qr_iconst 11 rfl rfl ?_
    refine qr_istore _ 13 rfl (by decide) rfl rfl ?_
    have hL288 : ∀ (n : Nat) (ls : qm_L) (u280 : Int) (σ281 α282 : Nat → Nat → Int), 6 - u280 < (n : Int) → qm_get ls 0 = some (.ref 86) → qm_get ls 1 = some (.int (qz 3)) → qm_get ls 2 = some (.int (qz x2)) → qm_get ls 3 = some (.int (qz x3)) → qm_get ls 4 = some (.int (qz x4)) → qm_get ls 5 = some (.int (qz u280)) → (0 ≤ u280 ∧ u280 ≤ 6) → qI σ281 α282 κ ρ → qFr [(86, 15), (86, 23), (86, 30)] [96, 114] σ α σ281 α282 → σ281 86 6 = (σ 86 6) → σ281 86 43 = (σ 86 43) → qr_W (qe L xs vb) (d + 8) qx_e243 (fun r w' => ∃ σ' α', w' = qw σ' α' κ ρ ∧ qI σ' α' κ ρ ∧ qFr [(86, 15), (86, 23), (86, 30)] [96, 114] σ α σ' α' ∧ ∃ v : Int, r = some (.int (qz v)) ∧ (0 ≤ v ∧ v ≤ 1)) (13, ls, [], qw σ281 α282 κ ρ, 0, 0) := by
      intro n
      induction n with
      | zero => intro ls u280 σ281 α282 hm g274 g275 g276 g277 g278 g279 hf287 hI283 hF284 hk285 hk286; exact False.elim (by omega)
      | succ n ih289 =>
        intro ls u280 σ281 α282 hm g274 g275 g276 g277 g278 g279 hf287 hI283 hF284 hk285 hk286
        refine qr_iload 15 rfl g279 rfl ?_
        refine qr_aload_n 16 rfl g274 rfl ?_
        refine qr_get 19 rfl rfl rfl (by decide) rfl ?_
        refine qy_v (σ 86 43) ((hk286).trans rfl) ?_
        refine qr_icmp_ge 81 22 rfl rfl rfl (qrg hf287 (by decide) (by decide)) (qrg hz86_43 (by decide) (by decide)) (fun h290 => ?_) (fun h290 => ?_)
        · skip
          refine qr_iconst 82 rfl rfl ?_
          refine qr_retZ rfl rfl (Or.inl rfl) (by decide) (by decide) ?_
          exact ⟨_, _, rfl, hI283, hF284, 0, rfl, (by decide)⟩
        · skip
          refine qr_iload_n 23 rfl g276 rfl ?_
          refine qr_iload 25 rfl g279 rfl ?_
          refine qr_ishr 26 rfl rfl ?_
          refine qy_can (fun v291 hv291 => ?_)
          refine qr_iconst 27 rfl rfl ?_
          refine qr_iand 28 rfl rfl ?_
          refine qy_andr (by omega) (fun v292 hv292 => ?_)
          refine qr_iconst 29 rfl rfl ?_
          refine qr_icmp_ne 35 32 rfl rfl rfl (by omega) (by decide) (fun h293 => ?_) (fun h293 => ?_)
          · skip
            refine qr_aload_n 36 rfl g274 rfl ?_
            refine qr_get 39 rfl rfl rfl (by decide) rfl ?_
            refine qr_iload_n 40 rfl g275 rfl ?_
            refine qr_iload 42 rfl g279 rfl ?_
            refine qr_iastore 43 rfl (by decide) rfl (by decide) (by decide) rfl ?_
            refine qy_wA (qw_r α282 114 (qzu (α282 114) (3 : Int).toNat u280)) rfl (fun α294 e295 => ?_)
            have hI296 : qI σ281 α294 κ ρ := by rw [e295]; exact qI_r hI283 114 _ rfl (show 0 ≤ u280 ∧ u280 ≤ 5 by omega)
            have hF297 : qFr [(86, 15), (86, 23), (86, 30)] [96, 114] σ α σ281 α294 := by rw [e295]; exact qFr_r hF284 114 _ (by decide)
            refine qr_aload_n 44 rfl g274 rfl ?_
            refine qr_iload_n 45 rfl g275 rfl ?_
            refine qr_iload_n 46 rfl g277 rfl ?_
            refine qr_iload 48 rfl g278 rfl ?_
            have hs298 : 0 ≤ σ281 86 43 ∧ σ281 86 43 ≤ 32 := hI296.1 86 43
            have hs299 : σ281 86 43 = (σ 86 43) := (hk286).trans rfl
            have hs300 : 0 ≤ σ281 86 6 ∧ σ281 86 6 ≤ 32 := hI296.1 86 6
            have hs301 : σ281 86 6 = (σ 86 6) := (hk285).trans rfl
            refine qr_callN 51 rfl rfl rfl (sf_244_86 (d := d + 2) hI296 (by decide) r3 (qrg r4 (by decide) (by decide)) (by omega) (by omega)) ?_
            rintro _ _ ⟨σ303, α304, rfl, hI305, hG306, v302, rfl, hv302⟩
            have hF307 : qFr [(86, 15), (86, 23), (86, 30)] [96, 114] σ α σ303 α304 := qFr_t hF297 hG306 (by decide) (by decide)
            show qr_W (qe L xs vb) (d + 8) qx_e243 _ (51, _, [.int (qz v302)], qw σ303 α304 κ ρ, 0, 0)
            refine qr_if_ne 75 54 rfl rfl rfl (qrg hv302 (by decide) (by decide)) (fun h308 => ?_) (fun h308 => ?_)
            · skip
              refine qr_iinc _ 78 rfl g279 (by decide) rfl rfl ?_
              refine qr_goto 13 rfl rfl ?_
              exact ih289 _ (u280 + 1) σ303 α304 (by omega) (qm_gk g274 (by decide) (Or.inl (by decide))) (qm_gk g275 (by decide) (Or.inl (by decide))) (qm_gk g276 (by decide) (Or.inl (by decide))) (qm_gk g277 (by decide) (Or.inl (by decide))) (qm_gk g278 (by decide) (Or.inr rfl)) (qm_ge _ _ _) (by omega) hI305 hF307 ((hG306.1 86 6 (by decide)).trans ((hk285).trans rfl)) ((hG306.1 86 43 (by decide)).trans ((hk286).trans rfl))
            · skip
              refine qr_aload_n 55 rfl g274 rfl ?_
              refine qr_iload_n 56 rfl g275 rfl ?_
              refine qr_iconst 57 rfl rfl ?_
              refine qr_iadd 58 rfl rfl ?_
              refine qy_v 4 rfl ?_
              refine qr_iload_n 59 rfl g276 rfl ?_
              refine qr_iconst 60 rfl rfl ?_
              refine qr_iload 62 rfl g279 rfl ?_
              refine qr_ishl 63 rfl rfl ?_
              refine qy_shl1 (N := 5) (by omega) (fun v309 hv309 => ?_)
              refine qr_ior 64 rfl rfl ?_
              refine qy_can (fun v310 hv310 => ?_)
              refine qr_iload_n 65 rfl g277 rfl ?_
              refine qr_iload 67 rfl g278 rfl ?_
              have hs311 : 0 ≤ σ303 86 43 ∧ σ303 86 43 ≤ 32 := hI305.1 86 43
              have hs312 : σ303 86 43 = (σ 86 43) := (hG306.1 86 43 (by decide)).trans ((hk286).trans rfl)
              have hs313 : 0 ≤ σ303 86 6 ∧ σ303 86 6 ≤ 32 := hI305.1 86 6
              have hs314 : σ303 86 6 = (σ 86 6) := (hG306.1 86 6 (by decide)).trans ((hk285).trans rfl)
              refine qr_callN 70 rfl rfl rfl (sf_243_86t4 (d := d + 0) hI305 hv310 r3 r4 (by omega) (by omega) (by omega)) ?_
              rintro _ _ ⟨σ316, α317, rfl, hI318, hG319, v315, rfl, hv315⟩
              have hF320 : qFr [(86, 15), (86, 23), (86, 30)] [96, 114] σ α σ316 α317 := qFr_t hF307 hG319 (by decide) (by decide)
              show qr_W (qe L xs vb) (d + 8) qx_e243 _ (70, _, [.int (qz v315)], qw σ316 α317 κ ρ, 0, 0)
              refine qr_if_eq 75 73 rfl rfl rfl (qrg hv315 (by decide) (by decide)) (fun h321 => ?_) (fun h321 => ?_)
              · skip
                refine qr_iinc _ 78 rfl g279 (by decide) rfl rfl ?_
                refine qr_goto 13 rfl rfl ?_
                exact ih289 _ (u280 + 1) σ316 α317 (by omega) (qm_gk g274 (by decide) (Or.inl (by decide))) (qm_gk g275 (by decide) (Or.inl (by decide))) (qm_gk g276 (by decide) (Or.inl (by decide))) (qm_gk g277 (by decide) (Or.inl (by decide))) (qm_gk g278 (by decide) (Or.inr rfl)) (qm_ge _ _ _) (by omega) hI318 hF320 ((hG319.1 86 6 (by decide)).trans ((hG306.1 86 6 (by decide)).trans ((hk285).trans rfl))) ((hG319.1 86 43 (by decide)).trans ((hG306.1 86 43 (by decide)).trans ((hk286).trans rfl)))
              · skip
                refine qr_iconst 74 rfl rfl ?_
                refine qr_retZ rfl rfl (Or.inr rfl) (by decide) (by decide) ?_
                exact ⟨_, _, rfl, hI318, hF320, 1, rfl, (by decide)⟩
          · skip
            refine qr_goto 75 rfl rfl ?_
            refine qr_iinc _ 78 rfl g279 (by decide) rfl rfl ?_
            refine qr_goto 13 rfl rfl ?_
            exact ih289 _ (u280 + 1) σ281 α282 (by omega) (qm_gk g274 (by decide) (Or.inl (by decide))) (qm_gk g275 (by decide) (Or.inl (by decide))) (qm_gk g276 (by decide) (Or.inl (by decide))) (qm_gk g277 (by decide) (Or.inl (by decide))) (qm_gk g278 (by decide) (Or.inr rfl)) (qm_ge _ _ _) (by omega) hI283 hF284 ((hk285).trans rfl) ((hk286).trans rfl)
    exact hL288 ((6 - 0 + 1 : Int)).toNat _ 0 σ α (by omega) rfl rfl rfl rfl rfl rfl (by decide) hI hF0 (rfl) (rfl)
  · skip
    refine qr_iconst 9 rfl rfl ?_
    refine qr_retZ rfl rfl (Or.inr rfl) (by decide) (by decide) ?_
    exact ⟨_, _, rfl, hI, hF0, 1, rfl, (by decide)⟩

set_option maxHeartbeats 4000000 in
set_option maxRecDepth 20000 in
/-- OneRoofModel.orders -/
theorem sf_243_86t2 {L : Nat} {xs : Nat → Int} {vb : Bool} {d : Nat} {σ α : Nat → Nat → Int} {κ : Nat → Option Nat} {ρ : Nat} {x2 : Int} {x3 : Int} {x4 : Int} (hI : qI σ α κ ρ) (r2 : (-2147483648) ≤ x2 ∧ x2 ≤ 2147483647) (r3 : (-2147483648) ≤ x3 ∧ x3 ≤ 2147483647) (r4 : 100 ≤ x4 ∧ x4 ≤ 2499) (p0 : 1 ≤ σ 86 6) (p1 : σ 86 43 ≤ 6) (p2 : 2 ≤ σ 86 43) : qm_T (qe L xs vb) (d + 10) 243 [.ref 86, .int (qz 2), .int (qz x2), .int (qz x3), .int (qz x4)] (qw σ α κ ρ) (fun r w' => ∃ σ' α', w' = qw σ' α' κ ρ ∧ qI σ' α' κ ρ ∧ qFr [(86, 15), (86, 23), (86, 30)] [96, 114] σ α σ' α' ∧ ∃ v : Int, r = some (.int (qz v)) ∧ (0 ≤ v ∧ v ≤ 1)) := by
  refine qr_start (d := d + 9) qv_e243 (Nat.le_of_ble_eq_true rfl) ?_
  show qr_W (qe L xs vb) (d + 9) qx_e243 _ (0, [(0, .ref 86), (1, .int (qz 2)), (2, .int (qz x2)), (3, .int (qz x3)), (4, .int (qz x4))], [], _, 0, 0)
  have hF0 := qFr_rf [(86, 15), (86, 23), (86, 30)] [96, 114] σ α
  have hz86_6 : 0 ≤ σ 86 6 ∧ σ 86 6 ≤ 32 := hI.1 86 6
  have hz86_43 : 0 ≤ σ 86 43 ∧ σ 86 43 ≤ 32 := hI.1 86 43
  refine qr_iload_n 1 rfl rfl rfl ?_
  refine qr_aload_n 2 rfl rfl rfl ?_
  refine qr_get 5 rfl rfl rfl (by decide) rfl ?_
  refine qr_icmp_ne 10 8 rfl rfl rfl (by decide) (qrg hz86_43 (by decide) (by decide)) (fun h1 => ?_) (fun h1 => ?_)
  · skip
    refine qr_iconst 11 rfl rfl ?_
    refine qr_istore _ 13 rfl (by decide) rfl rfl ?_
    have hL288 : ∀ (n : Nat) (ls : qm_L) (u280 : Int) (σ281 α282 : Nat → Nat → Int), 6 - u280 < (n : Int) → qm_get ls 0 = some (.ref 86) → qm_get ls 1 = some (.int (qz 2)) → qm_get ls 2 = some (.int (qz x2)) → qm_get ls 3 = some (.int (qz x3)) → qm_get ls 4 = some (.int (qz x4)) → qm_get ls 5 = some (.int (qz u280)) → (0 ≤ u280 ∧ u280 ≤ 6) → qI σ281 α282 κ ρ → qFr [(86, 15), (86, 23), (86, 30)] [96, 114] σ α σ281 α282 → σ281 86 6 = (σ 86 6) → σ281 86 43 = (σ 86 43) → qr_W (qe L xs vb) (d + 9) qx_e243 (fun r w' => ∃ σ' α', w' = qw σ' α' κ ρ ∧ qI σ' α' κ ρ ∧ qFr [(86, 15), (86, 23), (86, 30)] [96, 114] σ α σ' α' ∧ ∃ v : Int, r = some (.int (qz v)) ∧ (0 ≤ v ∧ v ≤ 1)) (13, ls, [], qw σ281 α282 κ ρ, 0, 0) := by
      intro n
      induction n with
      | zero => intro ls u280 σ281 α282 hm g274 g275 g276 g277 g278 g279 hf287 hI283 hF284 hk285 hk286; exact False.elim (by omega)
      | succ n ih289 =>
        intro ls u280 σ281 α282 hm g274 g275 g276 g277 g278 g279 hf287 hI283 hF284 hk285 hk286
        refine qr_iload 15 rfl g279 rfl ?_
        refine qr_aload_n 16 rfl g274 rfl ?_
        refine qr_get 19 rfl rfl rfl (by decide) rfl ?_
        refine qy_v (σ 86 43) ((hk286).trans rfl) ?_
        refine qr_icmp_ge 81 22 rfl rfl rfl (qrg hf287 (by decide) (by decide)) (qrg hz86_43 (by decide) (by decide)) (fun h290 => ?_) (fun h290 => ?_)
        · skip
          refine qr_iconst 82 rfl rfl ?_
          refine qr_retZ rfl rfl (Or.inl rfl) (by decide) (by decide) ?_
          exact ⟨_, _, rfl, hI283, hF284, 0, rfl, (by decide)⟩
        · skip
          refine qr_iload_n 23 rfl g276 rfl ?_
          refine qr_iload 25 rfl g279 rfl ?_
          refine qr_ishr 26 rfl rfl ?_
          refine qy_can (fun v291 hv291 => ?_)
          refine qr_iconst 27 rfl rfl ?_
          refine qr_iand 28 rfl rfl ?_
          refine qy_andr (by omega) (fun v292 hv292 => ?_)
          refine qr_iconst 29 rfl rfl ?_
          refine qr_icmp_ne 35 32 rfl rfl rfl (by omega) (by decide) (fun h293 => ?_) (fun h293 => ?_)
          · skip
            refine qr_aload_n 36 rfl g274 rfl ?_
            refine qr_get 39 rfl rfl rfl (by decide) rfl ?_
            refine qr_iload_n 40 rfl g275 rfl ?_
            refine qr_iload 42 rfl g279 rfl ?_
            refine qr_iastore 43 rfl (by decide) rfl (by decide) (by decide) rfl ?_
            refine qy_wA (qw_r α282 114 (qzu (α282 114) (2 : Int).toNat u280)) rfl (fun α294 e295 => ?_)
            have hI296 : qI σ281 α294 κ ρ := by rw [e295]; exact qI_r hI283 114 _ rfl (show 0 ≤ u280 ∧ u280 ≤ 5 by omega)
            have hF297 : qFr [(86, 15), (86, 23), (86, 30)] [96, 114] σ α σ281 α294 := by rw [e295]; exact qFr_r hF284 114 _ (by decide)
            refine qr_aload_n 44 rfl g274 rfl ?_
            refine qr_iload_n 45 rfl g275 rfl ?_
            refine qr_iload_n 46 rfl g277 rfl ?_
            refine qr_iload 48 rfl g278 rfl ?_
            have hs298 : 0 ≤ σ281 86 43 ∧ σ281 86 43 ≤ 32 := hI296.1 86 43
            have hs299 : σ281 86 43 = (σ 86 43) := (hk286).trans rfl
            have hs300 : 0 ≤ σ281 86 6 ∧ σ281 86 6 ≤ 32 := hI296.1 86 6
            have hs301 : σ281 86 6 = (σ 86 6) := (hk285).trans rfl
            refine qr_callN 51 rfl rfl rfl (sf_244_86 (d := d + 3) hI296 (by decide) r3 (qrg r4 (by decide) (by decide)) (by omega) (by omega)) ?_
            rintro _ _ ⟨σ303, α304, rfl, hI305, hG306, v302, rfl, hv302⟩
            have hF307 : qFr [(86, 15), (86, 23), (86, 30)] [96, 114] σ α σ303 α304 := qFr_t hF297 hG306 (by decide) (by decide)
            show qr_W (qe L xs vb) (d + 9) qx_e243 _ (51, _, [.int (qz v302)], qw σ303 α304 κ ρ, 0, 0)
            refine qr_if_ne 75 54 rfl rfl rfl (qrg hv302 (by decide) (by decide)) (fun h308 => ?_) (fun h308 => ?_)
            · skip
              refine qr_iinc _ 78 rfl g279 (by decide) rfl rfl ?_
              refine qr_goto 13 rfl rfl ?_
              exact ih289 _ (u280 + 1) σ303 α304 (by omega) (qm_gk g274 (by decide) (Or.inl (by decide))) (qm_gk g275 (by decide) (Or.inl (by decide))) (qm_gk g276 (by decide) (Or.inl (by decide))) (qm_gk g277 (by decide) (Or.inl (by decide))) (qm_gk g278 (by decide) (Or.inr rfl)) (qm_ge _ _ _) (by omega) hI305 hF307 ((hG306.1 86 6 (by decide)).trans ((hk285).trans rfl)) ((hG306.1 86 43 (by decide)).trans ((hk286).trans rfl))
            · skip
              refine qr_aload_n 55 rfl g274 rfl ?_
              refine qr_iload_n 56 rfl g275 rfl ?_
              refine qr_iconst 57 rfl rfl ?_
              refine qr_iadd 58 rfl rfl ?_
              refine qy_v 3 rfl ?_
              refine qr_iload_n 59 rfl g276 rfl ?_
              refine qr_iconst 60 rfl rfl ?_
              refine qr_iload 62 rfl g279 rfl ?_
              refine qr_ishl 63 rfl rfl ?_
              refine qy_shl1 (N := 5) (by omega) (fun v309 hv309 => ?_)
              refine qr_ior 64 rfl rfl ?_
              refine qy_can (fun v310 hv310 => ?_)
              refine qr_iload_n 65 rfl g277 rfl ?_
              refine qr_iload 67 rfl g278 rfl ?_
              have hs311 : 0 ≤ σ303 86 43 ∧ σ303 86 43 ≤ 32 := hI305.1 86 43
              have hs312 : σ303 86 43 = (σ 86 43) := (hG306.1 86 43 (by decide)).trans ((hk286).trans rfl)
              have hs313 : 0 ≤ σ303 86 6 ∧ σ303 86 6 ≤ 32 := hI305.1 86 6
              have hs314 : σ303 86 6 = (σ 86 6) := (hG306.1 86 6 (by decide)).trans ((hk285).trans rfl)
              refine qr_callN 70 rfl rfl rfl (sf_243_86t3 (d := d + 0) hI305 hv310 r3 r4 (by omega) (by omega) (by omega)) ?_
              rintro _ _ ⟨σ316, α317, rfl, hI318, hG319, v315, rfl, hv315⟩
              have hF320 : qFr [(86, 15), (86, 23), (86, 30)] [96, 114] σ α σ316 α317 := qFr_t hF307 hG319 (by decide) (by decide)
              show qr_W (qe L xs vb) (d + 9) qx_e243 _ (70, _, [.int (qz v315)], qw σ316 α317 κ ρ, 0, 0)
              refine qr_if_eq 75 73 rfl rfl rfl (qrg hv315 (by decide) (by decide)) (fun h321 => ?_) (fun h321 => ?_)
              · skip
                refine qr_iinc _ 78 rfl g279 (by decide) rfl rfl ?_
                refine qr_goto 13 rfl rfl ?_
                exact ih289 _ (u280 + 1) σ316 α317 (by omega) (qm_gk g274 (by decide) (Or.inl (by decide))) (qm_gk g275 (by decide) (Or.inl (by decide))) (qm_gk g276 (by decide) (Or.inl (by decide))) (qm_gk g277 (by decide) (Or.inl (by decide))) (qm_gk g278 (by decide) (Or.inr rfl)) (qm_ge _ _ _) (by omega) hI318 hF320 ((hG319.1 86 6 (by decide)).trans ((hG306.1 86 6 (by decide)).trans ((hk285).trans rfl))) ((hG319.1 86 43 (by decide)).trans ((hG306.1 86 43 (by decide)).trans ((hk286).trans rfl)))
              · skip
                refine qr_iconst 74 rfl rfl ?_
                refine qr_retZ rfl rfl (Or.inr rfl) (by decide) (by decide) ?_
                exact ⟨_, _, rfl, hI318, hF320, 1, rfl, (by decide)⟩
          · skip
            refine qr_goto 75 rfl rfl ?_
            refine qr_iinc _ 78 rfl g279 (by decide) rfl rfl ?_
            refine qr_goto 13 rfl rfl ?_
            exact ih289 _ (u280 + 1) σ281 α282 (by omega) (qm_gk g274 (by decide) (Or.inl (by decide))) (qm_gk g275 (by decide) (Or.inl (by decide))) (qm_gk g276 (by decide) (Or.inl (by decide))) (qm_gk g277 (by decide) (Or.inl (by decide))) (qm_gk g278 (by decide) (Or.inr rfl)) (qm_ge _ _ _) (by omega) hI283 hF284 ((hk285).trans rfl) ((hk286).trans rfl)
    exact hL288 ((6 - 0 + 1 : Int)).toNat _ 0 σ α (by omega) rfl rfl rfl rfl rfl rfl (by decide) hI hF0 (rfl) (rfl)
  · skip
    refine qr_iconst 9 rfl rfl ?_
    refine qr_retZ rfl rfl (Or.inr rfl) (by decide) (by decide) ?_
    exact ⟨_, _, rfl, hI, hF0, 1, rfl, (by decide)⟩

set_option maxHeartbeats 4000000 in
set_option maxRecDepth 20000 in
/-- OneRoofModel.orders -/
theorem sf_243_86t1 {L : Nat} {xs : Nat → Int} {vb : Bool} {d : Nat} {σ α : Nat → Nat → Int} {κ : Nat → Option Nat} {ρ : Nat} {x2 : Int} {x3 : Int} {x4 : Int} (hI : qI σ α κ ρ) (r2 : (-2147483648) ≤ x2 ∧ x2 ≤ 2147483647) (r3 : (-2147483648) ≤ x3 ∧ x3 ≤ 2147483647) (r4 : 100 ≤ x4 ∧ x4 ≤ 2499) (p0 : 1 ≤ σ 86 6) (p1 : σ 86 43 ≤ 6) (p2 : 1 ≤ σ 86 43) : qm_T (qe L xs vb) (d + 11) 243 [.ref 86, .int (qz 1), .int (qz x2), .int (qz x3), .int (qz x4)] (qw σ α κ ρ) (fun r w' => ∃ σ' α', w' = qw σ' α' κ ρ ∧ qI σ' α' κ ρ ∧ qFr [(86, 15), (86, 23), (86, 30)] [96, 114] σ α σ' α' ∧ ∃ v : Int, r = some (.int (qz v)) ∧ (0 ≤ v ∧ v ≤ 1)) := by
  refine qr_start (d := d + 10) qv_e243 (Nat.le_of_ble_eq_true rfl) ?_
  show qr_W (qe L xs vb) (d + 10) qx_e243 _ (0, [(0, .ref 86), (1, .int (qz 1)), (2, .int (qz x2)), (3, .int (qz x3)), (4, .int (qz x4))], [], _, 0, 0)
  have hF0 := qFr_rf [(86, 15), (86, 23), (86, 30)] [96, 114] σ α
  have hz86_6 : 0 ≤ σ 86 6 ∧ σ 86 6 ≤ 32 := hI.1 86 6
  have hz86_43 : 0 ≤ σ 86 43 ∧ σ 86 43 ≤ 32 := hI.1 86 43
  refine qr_iload_n 1 rfl rfl rfl ?_
  refine qr_aload_n 2 rfl rfl rfl ?_
  refine qr_get 5 rfl rfl rfl (by decide) rfl ?_
  refine qr_icmp_ne 10 8 rfl rfl rfl (by decide) (qrg hz86_43 (by decide) (by decide)) (fun h1 => ?_) (fun h1 => ?_)
  · skip
    refine qr_iconst 11 rfl rfl ?_
    refine qr_istore _ 13 rfl (by decide) rfl rfl ?_
    have hL288 : ∀ (n : Nat) (ls : qm_L) (u280 : Int) (σ281 α282 : Nat → Nat → Int), 6 - u280 < (n : Int) → qm_get ls 0 = some (.ref 86) → qm_get ls 1 = some (.int (qz 1)) → qm_get ls 2 = some (.int (qz x2)) → qm_get ls 3 = some (.int (qz x3)) → qm_get ls 4 = some (.int (qz x4)) → qm_get ls 5 = some (.int (qz u280)) → (0 ≤ u280 ∧ u280 ≤ 6) → qI σ281 α282 κ ρ → qFr [(86, 15), (86, 23), (86, 30)] [96, 114] σ α σ281 α282 → σ281 86 6 = (σ 86 6) → σ281 86 43 = (σ 86 43) → qr_W (qe L xs vb) (d + 10) qx_e243 (fun r w' => ∃ σ' α', w' = qw σ' α' κ ρ ∧ qI σ' α' κ ρ ∧ qFr [(86, 15), (86, 23), (86, 30)] [96, 114] σ α σ' α' ∧ ∃ v : Int, r = some (.int (qz v)) ∧ (0 ≤ v ∧ v ≤ 1)) (13, ls, [], qw σ281 α282 κ ρ, 0, 0) := by
      intro n
      induction n with
      | zero => intro ls u280 σ281 α282 hm g274 g275 g276 g277 g278 g279 hf287 hI283 hF284 hk285 hk286; exact False.elim (by omega)
      | succ n ih289 =>
        intro ls u280 σ281 α282 hm g274 g275 g276 g277 g278 g279 hf287 hI283 hF284 hk285 hk286
        refine qr_iload 15 rfl g279 rfl ?_
        refine qr_aload_n 16 rfl g274 rfl ?_
        refine qr_get 19 rfl rfl rfl (by decide) rfl ?_
        refine qy_v (σ 86 43) ((hk286).trans rfl) ?_
        refine qr_icmp_ge 81 22 rfl rfl rfl (qrg hf287 (by decide) (by decide)) (qrg hz86_43 (by decide) (by decide)) (fun h290 => ?_) (fun h290 => ?_)
        · skip
          refine qr_iconst 82 rfl rfl ?_
          refine qr_retZ rfl rfl (Or.inl rfl) (by decide) (by decide) ?_
          exact ⟨_, _, rfl, hI283, hF284, 0, rfl, (by decide)⟩
        · skip
          refine qr_iload_n 23 rfl g276 rfl ?_
          refine qr_iload 25 rfl g279 rfl ?_
          refine qr_ishr 26 rfl rfl ?_
          refine qy_can (fun v291 hv291 => ?_)
          refine qr_iconst 27 rfl rfl ?_
          refine qr_iand 28 rfl rfl ?_
          refine qy_andr (by omega) (fun v292 hv292 => ?_)
          refine qr_iconst 29 rfl rfl ?_
          refine qr_icmp_ne 35 32 rfl rfl rfl (by omega) (by decide) (fun h293 => ?_) (fun h293 => ?_)
          · skip
            refine qr_aload_n 36 rfl g274 rfl ?_
            refine qr_get 39 rfl rfl rfl (by decide) rfl ?_
            refine qr_iload_n 40 rfl g275 rfl ?_
            refine qr_iload 42 rfl g279 rfl ?_
            refine qr_iastore 43 rfl (by decide) rfl (by decide) (by decide) rfl ?_
            refine qy_wA (qw_r α282 114 (qzu (α282 114) (1 : Int).toNat u280)) rfl (fun α294 e295 => ?_)
            have hI296 : qI σ281 α294 κ ρ := by rw [e295]; exact qI_r hI283 114 _ rfl (show 0 ≤ u280 ∧ u280 ≤ 5 by omega)
            have hF297 : qFr [(86, 15), (86, 23), (86, 30)] [96, 114] σ α σ281 α294 := by rw [e295]; exact qFr_r hF284 114 _ (by decide)
            refine qr_aload_n 44 rfl g274 rfl ?_
            refine qr_iload_n 45 rfl g275 rfl ?_
            refine qr_iload_n 46 rfl g277 rfl ?_
            refine qr_iload 48 rfl g278 rfl ?_
            have hs298 : 0 ≤ σ281 86 43 ∧ σ281 86 43 ≤ 32 := hI296.1 86 43
            have hs299 : σ281 86 43 = (σ 86 43) := (hk286).trans rfl
            have hs300 : 0 ≤ σ281 86 6 ∧ σ281 86 6 ≤ 32 := hI296.1 86 6
            have hs301 : σ281 86 6 = (σ 86 6) := (hk285).trans rfl
            refine qr_callN 51 rfl rfl rfl (sf_244_86 (d := d + 4) hI296 (by decide) r3 (qrg r4 (by decide) (by decide)) (by omega) (by omega)) ?_
            rintro _ _ ⟨σ303, α304, rfl, hI305, hG306, v302, rfl, hv302⟩
            have hF307 : qFr [(86, 15), (86, 23), (86, 30)] [96, 114] σ α σ303 α304 := qFr_t hF297 hG306 (by decide) (by decide)
            show qr_W (qe L xs vb) (d + 10) qx_e243 _ (51, _, [.int (qz v302)], qw σ303 α304 κ ρ, 0, 0)
            refine qr_if_ne 75 54 rfl rfl rfl (qrg hv302 (by decide) (by decide)) (fun h308 => ?_) (fun h308 => ?_)
            · skip
              refine qr_iinc _ 78 rfl g279 (by decide) rfl rfl ?_
              refine qr_goto 13 rfl rfl ?_
              exact ih289 _ (u280 + 1) σ303 α304 (by omega) (qm_gk g274 (by decide) (Or.inl (by decide))) (qm_gk g275 (by decide) (Or.inl (by decide))) (qm_gk g276 (by decide) (Or.inl (by decide))) (qm_gk g277 (by decide) (Or.inl (by decide))) (qm_gk g278 (by decide) (Or.inr rfl)) (qm_ge _ _ _) (by omega) hI305 hF307 ((hG306.1 86 6 (by decide)).trans ((hk285).trans rfl)) ((hG306.1 86 43 (by decide)).trans ((hk286).trans rfl))
            · skip
              refine qr_aload_n 55 rfl g274 rfl ?_
              refine qr_iload_n 56 rfl g275 rfl ?_
              refine qr_iconst 57 rfl rfl ?_
              refine qr_iadd 58 rfl rfl ?_
              refine qy_v 2 rfl ?_
              refine qr_iload_n 59 rfl g276 rfl ?_
              refine qr_iconst 60 rfl rfl ?_
              refine qr_iload 62 rfl g279 rfl ?_
              refine qr_ishl 63 rfl rfl ?_
              refine qy_shl1 (N := 5) (by omega) (fun v309 hv309 => ?_)
              refine qr_ior 64 rfl rfl ?_
              refine qy_can (fun v310 hv310 => ?_)
              refine qr_iload_n 65 rfl g277 rfl ?_
              refine qr_iload 67 rfl g278 rfl ?_
              have hs311 : 0 ≤ σ303 86 43 ∧ σ303 86 43 ≤ 32 := hI305.1 86 43
              have hs312 : σ303 86 43 = (σ 86 43) := (hG306.1 86 43 (by decide)).trans ((hk286).trans rfl)
              have hs313 : 0 ≤ σ303 86 6 ∧ σ303 86 6 ≤ 32 := hI305.1 86 6
              have hs314 : σ303 86 6 = (σ 86 6) := (hG306.1 86 6 (by decide)).trans ((hk285).trans rfl)
              refine qr_callN 70 rfl rfl rfl (sf_243_86t2 (d := d + 0) hI305 hv310 r3 r4 (by omega) (by omega) (by omega)) ?_
              rintro _ _ ⟨σ316, α317, rfl, hI318, hG319, v315, rfl, hv315⟩
              have hF320 : qFr [(86, 15), (86, 23), (86, 30)] [96, 114] σ α σ316 α317 := qFr_t hF307 hG319 (by decide) (by decide)
              show qr_W (qe L xs vb) (d + 10) qx_e243 _ (70, _, [.int (qz v315)], qw σ316 α317 κ ρ, 0, 0)
              refine qr_if_eq 75 73 rfl rfl rfl (qrg hv315 (by decide) (by decide)) (fun h321 => ?_) (fun h321 => ?_)
              · skip
                refine qr_iinc _ 78 rfl g279 (by decide) rfl rfl ?_
                refine qr_goto 13 rfl rfl ?_
                exact ih289 _ (u280 + 1) σ316 α317 (by omega) (qm_gk g274 (by decide) (Or.inl (by decide))) (qm_gk g275 (by decide) (Or.inl (by decide))) (qm_gk g276 (by decide) (Or.inl (by decide))) (qm_gk g277 (by decide) (Or.inl (by decide))) (qm_gk g278 (by decide) (Or.inr rfl)) (qm_ge _ _ _) (by omega) hI318 hF320 ((hG319.1 86 6 (by decide)).trans ((hG306.1 86 6 (by decide)).trans ((hk285).trans rfl))) ((hG319.1 86 43 (by decide)).trans ((hG306.1 86 43 (by decide)).trans ((hk286).trans rfl)))
              · skip
                refine qr_iconst 74 rfl rfl ?_
                refine qr_retZ rfl rfl (Or.inr rfl) (by decide) (by decide) ?_
                exact ⟨_, _, rfl, hI318, hF320, 1, rfl, (by decide)⟩
          · skip
            refine qr_goto 75 rfl rfl ?_
            refine qr_iinc _ 78 rfl g279 (by decide) rfl rfl ?_
            refine qr_goto 13 rfl rfl ?_
            exact ih289 _ (u280 + 1) σ281 α282 (by omega) (qm_gk g274 (by decide) (Or.inl (by decide))) (qm_gk g275 (by decide) (Or.inl (by decide))) (qm_gk g276 (by decide) (Or.inl (by decide))) (qm_gk g277 (by decide) (Or.inl (by decide))) (qm_gk g278 (by decide) (Or.inr rfl)) (qm_ge _ _ _) (by omega) hI283 hF284 ((hk285).trans rfl) ((hk286).trans rfl)
    exact hL288 ((6 - 0 + 1 : Int)).toNat _ 0 σ α (by omega) rfl rfl rfl rfl rfl rfl (by decide) hI hF0 (rfl) (rfl)
  · skip
    refine qr_iconst 9 rfl rfl ?_
    refine qr_retZ rfl rfl (Or.inr rfl) (by decide) (by decide) ?_
    exact ⟨_, _, rfl, hI, hF0, 1, rfl, (by decide)⟩

set_option maxHeartbeats 4000000 in
set_option maxRecDepth 20000 in
/-- OneRoofModel.orders -/
theorem sf_243_86t0 {L : Nat} {xs : Nat → Int} {vb : Bool} {d : Nat} {σ α : Nat → Nat → Int} {κ : Nat → Option Nat} {ρ : Nat} {x2 : Int} {x3 : Int} {x4 : Int} (hI : qI σ α κ ρ) (r2 : (-2147483648) ≤ x2 ∧ x2 ≤ 2147483647) (r3 : (-2147483648) ≤ x3 ∧ x3 ≤ 2147483647) (r4 : 100 ≤ x4 ∧ x4 ≤ 2499) (p0 : 1 ≤ σ 86 6) (p1 : σ 86 43 ≤ 6) (p2 : 0 ≤ σ 86 43) : qm_T (qe L xs vb) (d + 12) 243 [.ref 86, .int (qz 0), .int (qz x2), .int (qz x3), .int (qz x4)] (qw σ α κ ρ) (fun r w' => ∃ σ' α', w' = qw σ' α' κ ρ ∧ qI σ' α' κ ρ ∧ qFr [(86, 15), (86, 23), (86, 30)] [96, 114] σ α σ' α' ∧ ∃ v : Int, r = some (.int (qz v)) ∧ (0 ≤ v ∧ v ≤ 1)) := by
  refine qr_start (d := d + 11) qv_e243 (Nat.le_of_ble_eq_true rfl) ?_
  show qr_W (qe L xs vb) (d + 11) qx_e243 _ (0, [(0, .ref 86), (1, .int (qz 0)), (2, .int (qz x2)), (3, .int (qz x3)), (4, .int (qz x4))], [], _, 0, 0)
  have hF0 := qFr_rf [(86, 15), (86, 23), (86, 30)] [96, 114] σ α
  have hz86_6 : 0 ≤ σ 86 6 ∧ σ 86 6 ≤ 32 := hI.1 86 6
  have hz86_43 : 0 ≤ σ 86 43 ∧ σ 86 43 ≤ 32 := hI.1 86 43
  refine qr_iload_n 1 rfl rfl rfl ?_
  refine qr_aload_n 2 rfl rfl rfl ?_
  refine qr_get 5 rfl rfl rfl (by decide) rfl ?_
  refine qr_icmp_ne 10 8 rfl rfl rfl (by decide) (qrg hz86_43 (by decide) (by decide)) (fun h1 => ?_) (fun h1 => ?_)
  · skip
    refine qr_iconst 11 rfl rfl ?_
    refine qr_istore _ 13 rfl (by decide) rfl rfl ?_
    have hL288 : ∀ (n : Nat) (ls : qm_L) (u280 : Int) (σ281 α282 : Nat → Nat → Int), 6 - u280 < (n : Int) → qm_get ls 0 = some (.ref 86) → qm_get ls 1 = some (.int (qz 0)) → qm_get ls 2 = some (.int (qz x2)) → qm_get ls 3 = some (.int (qz x3)) → qm_get ls 4 = some (.int (qz x4)) → qm_get ls 5 = some (.int (qz u280)) → (0 ≤ u280 ∧ u280 ≤ 6) → qI σ281 α282 κ ρ → qFr [(86, 15), (86, 23), (86, 30)] [96, 114] σ α σ281 α282 → σ281 86 6 = (σ 86 6) → σ281 86 43 = (σ 86 43) → qr_W (qe L xs vb) (d + 11) qx_e243 (fun r w' => ∃ σ' α', w' = qw σ' α' κ ρ ∧ qI σ' α' κ ρ ∧ qFr [(86, 15), (86, 23), (86, 30)] [96, 114] σ α σ' α' ∧ ∃ v : Int, r = some (.int (qz v)) ∧ (0 ≤ v ∧ v ≤ 1)) (13, ls, [], qw σ281 α282 κ ρ, 0, 0) := by
      intro n
      induction n with
      | zero => intro ls u280 σ281 α282 hm g274 g275 g276 g277 g278 g279 hf287 hI283 hF284 hk285 hk286; exact False.elim (by omega)
      | succ n ih289 =>
        intro ls u280 σ281 α282 hm g274 g275 g276 g277 g278 g279 hf287 hI283 hF284 hk285 hk286
        refine qr_iload 15 rfl g279 rfl ?_
        refine qr_aload_n 16 rfl g274 rfl ?_
        refine qr_get 19 rfl rfl rfl (by decide) rfl ?_
        refine qy_v (σ 86 43) ((hk286).trans rfl) ?_
        refine qr_icmp_ge 81 22 rfl rfl rfl (qrg hf287 (by decide) (by decide)) (qrg hz86_43 (by decide) (by decide)) (fun h290 => ?_) (fun h290 => ?_)
        · skip
          refine qr_iconst 82 rfl rfl ?_
          refine qr_retZ rfl rfl (Or.inl rfl) (by decide) (by decide) ?_
          exact ⟨_, _, rfl, hI283, hF284, 0, rfl, (by decide)⟩
        · skip
          refine qr_iload_n 23 rfl g276 rfl ?_
          refine qr_iload 25 rfl g279 rfl ?_
          refine qr_ishr 26 rfl rfl ?_
          refine qy_can (fun v291 hv291 => ?_)
          refine qr_iconst 27 rfl rfl ?_
          refine qr_iand 28 rfl rfl ?_
          refine qy_andr (by omega) (fun v292 hv292 => ?_)
          refine qr_iconst 29 rfl rfl ?_
          refine qr_icmp_ne 35 32 rfl rfl rfl (by omega) (by decide) (fun h293 => ?_) (fun h293 => ?_)
          · skip
            refine qr_aload_n 36 rfl g274 rfl ?_
            refine qr_get 39 rfl rfl rfl (by decide) rfl ?_
            refine qr_iload_n 40 rfl g275 rfl ?_
            refine qr_iload 42 rfl g279 rfl ?_
            refine qr_iastore 43 rfl (by decide) rfl (by decide) (by decide) rfl ?_
            refine qy_wA (qw_r α282 114 (qzu (α282 114) (0 : Int).toNat u280)) rfl (fun α294 e295 => ?_)
            have hI296 : qI σ281 α294 κ ρ := by rw [e295]; exact qI_r hI283 114 _ rfl (show 0 ≤ u280 ∧ u280 ≤ 5 by omega)
            have hF297 : qFr [(86, 15), (86, 23), (86, 30)] [96, 114] σ α σ281 α294 := by rw [e295]; exact qFr_r hF284 114 _ (by decide)
            refine qr_aload_n 44 rfl g274 rfl ?_
            refine qr_iload_n 45 rfl g275 rfl ?_
            refine qr_iload_n 46 rfl g277 rfl ?_
            refine qr_iload 48 rfl g278 rfl ?_
            have hs298 : 0 ≤ σ281 86 43 ∧ σ281 86 43 ≤ 32 := hI296.1 86 43
            have hs299 : σ281 86 43 = (σ 86 43) := (hk286).trans rfl
            have hs300 : 0 ≤ σ281 86 6 ∧ σ281 86 6 ≤ 32 := hI296.1 86 6
            have hs301 : σ281 86 6 = (σ 86 6) := (hk285).trans rfl
            refine qr_callN 51 rfl rfl rfl (sf_244_86 (d := d + 5) hI296 (by decide) r3 (qrg r4 (by decide) (by decide)) (by omega) (by omega)) ?_
            rintro _ _ ⟨σ303, α304, rfl, hI305, hG306, v302, rfl, hv302⟩
            have hF307 : qFr [(86, 15), (86, 23), (86, 30)] [96, 114] σ α σ303 α304 := qFr_t hF297 hG306 (by decide) (by decide)
            show qr_W (qe L xs vb) (d + 11) qx_e243 _ (51, _, [.int (qz v302)], qw σ303 α304 κ ρ, 0, 0)
            refine qr_if_ne 75 54 rfl rfl rfl (qrg hv302 (by decide) (by decide)) (fun h308 => ?_) (fun h308 => ?_)
            · skip
              refine qr_iinc _ 78 rfl g279 (by decide) rfl rfl ?_
              refine qr_goto 13 rfl rfl ?_
              exact ih289 _ (u280 + 1) σ303 α304 (by omega) (qm_gk g274 (by decide) (Or.inl (by decide))) (qm_gk g275 (by decide) (Or.inl (by decide))) (qm_gk g276 (by decide) (Or.inl (by decide))) (qm_gk g277 (by decide) (Or.inl (by decide))) (qm_gk g278 (by decide) (Or.inr rfl)) (qm_ge _ _ _) (by omega) hI305 hF307 ((hG306.1 86 6 (by decide)).trans ((hk285).trans rfl)) ((hG306.1 86 43 (by decide)).trans ((hk286).trans rfl))
            · skip
              refine qr_aload_n 55 rfl g274 rfl ?_
              refine qr_iload_n 56 rfl g275 rfl ?_
              refine qr_iconst 57 rfl rfl ?_
              refine qr_iadd 58 rfl rfl ?_
              refine qy_v 1 rfl ?_
              refine qr_iload_n 59 rfl g276 rfl ?_
              refine qr_iconst 60 rfl rfl ?_
              refine qr_iload 62 rfl g279 rfl ?_
              refine qr_ishl 63 rfl rfl ?_
              refine qy_shl1 (N := 5) (by omega) (fun v309 hv309 => ?_)
              refine qr_ior 64 rfl rfl ?_
              refine qy_can (fun v310 hv310 => ?_)
              refine qr_iload_n 65 rfl g277 rfl ?_
              refine qr_iload 67 rfl g278 rfl ?_
              have hs311 : 0 ≤ σ303 86 43 ∧ σ303 86 43 ≤ 32 := hI305.1 86 43
              have hs312 : σ303 86 43 = (σ 86 43) := (hG306.1 86 43 (by decide)).trans ((hk286).trans rfl)
              have hs313 : 0 ≤ σ303 86 6 ∧ σ303 86 6 ≤ 32 := hI305.1 86 6
              have hs314 : σ303 86 6 = (σ 86 6) := (hG306.1 86 6 (by decide)).trans ((hk285).trans rfl)
              refine qr_callN 70 rfl rfl rfl (sf_243_86t1 (d := d + 0) hI305 hv310 r3 r4 (by omega) (by omega) (by omega)) ?_
              rintro _ _ ⟨σ316, α317, rfl, hI318, hG319, v315, rfl, hv315⟩
              have hF320 : qFr [(86, 15), (86, 23), (86, 30)] [96, 114] σ α σ316 α317 := qFr_t hF307 hG319 (by decide) (by decide)
              show qr_W (qe L xs vb) (d + 11) qx_e243 _ (70, _, [.int (qz v315)], qw σ316 α317 κ ρ, 0, 0)
              refine qr_if_eq 75 73 rfl rfl rfl (qrg hv315 (by decide) (by decide)) (fun h321 => ?_) (fun h321 => ?_)
              · skip
                refine qr_iinc _ 78 rfl g279 (by decide) rfl rfl ?_
                refine qr_goto 13 rfl rfl ?_
                exact ih289 _ (u280 + 1) σ316 α317 (by omega) (qm_gk g274 (by decide) (Or.inl (by decide))) (qm_gk g275 (by decide) (Or.inl (by decide))) (qm_gk g276 (by decide) (Or.inl (by decide))) (qm_gk g277 (by decide) (Or.inl (by decide))) (qm_gk g278 (by decide) (Or.inr rfl)) (qm_ge _ _ _) (by omega) hI318 hF320 ((hG319.1 86 6 (by decide)).trans ((hG306.1 86 6 (by decide)).trans ((hk285).trans rfl))) ((hG319.1 86 43 (by decide)).trans ((hG306.1 86 43 (by decide)).trans ((hk286).trans rfl)))
              · skip
                refine qr_iconst 74 rfl rfl ?_
                refine qr_retZ rfl rfl (Or.inr rfl) (by decide) (by decide) ?_
                exact ⟨_, _, rfl, hI318, hF320, 1, rfl, (by decide)⟩
          · skip
            refine qr_goto 75 rfl rfl ?_
            refine qr_iinc _ 78 rfl g279 (by decide) rfl rfl ?_
            refine qr_goto 13 rfl rfl ?_
            exact ih289 _ (u280 + 1) σ281 α282 (by omega) (qm_gk g274 (by decide) (Or.inl (by decide))) (qm_gk g275 (by decide) (Or.inl (by decide))) (qm_gk g276 (by decide) (Or.inl (by decide))) (qm_gk g277 (by decide) (Or.inl (by decide))) (qm_gk g278 (by decide) (Or.inr rfl)) (qm_ge _ _ _) (by omega) hI283 hF284 ((hk285).trans rfl) ((hk286).trans rfl)
    exact hL288 ((6 - 0 + 1 : Int)).toNat _ 0 σ α (by omega) rfl rfl rfl rfl rfl rfl (by decide) hI hF0 (rfl) (rfl)
  · skip
    refine qr_iconst 9 rfl rfl ?_
    refine qr_retZ rfl rfl (Or.inr rfl) (by decide) (by decide) ?_
    exact ⟨_, _, rfl, hI, hF0, 1, rfl, (by decide)⟩

set_option maxHeartbeats 4000000 in
set_option maxRecDepth 20000 in
/-- OneRoofModel.leave -/
theorem sf_242_86 {L : Nat} {xs : Nat → Int} {vb : Bool} {d : Nat} {σ α : Nat → Nat → Int} {κ : Nat → Option Nat} {ρ : Nat} {x1 : Int} {x2 : Int} {x3 : Int} (hI : qI σ α κ ρ) (r1 : (-9223372036854775808) ≤ x1 ∧ x1 ≤ 9223372036854775807) (r2 : (-2147483648) ≤ x2 ∧ x2 ≤ 2147483647) (r3 : (-2147483648) ≤ x3 ∧ x3 ≤ 2147483647) : qm_T (qe L xs vb) (d + 13) 242 [.ref 86, .long (ql x1), .int (qz x2), .int (qz x3)] (qw σ α κ ρ) (fun r w' => ∃ σ' α', w' = qw σ' α' κ ρ ∧ qI σ' α' κ ρ ∧ qFr [(86, 15), (86, 23), (86, 30), (86, 43)] [96, 110, 114] σ α σ' α' ∧ ∃ v : Int, r = some (.int (qz v)) ∧ ((-2147483648) ≤ v ∧ v ≤ 2147483647)) := by
  refine qr_start (d := d + 12) qv_e242 (Nat.le_of_ble_eq_true rfl) ?_
  show qr_W (qe L xs vb) (d + 12) qx_e242 _ (0, [(0, .ref 86), (1, .long (ql x1)), (3, .int (qz x2)), (4, .int (qz x3))], [], _, 0, 0)
  have hF0 := qFr_rf [(86, 15), (86, 23), (86, 30), (86, 43)] [96, 110, 114] σ α
  have hz86_6 : 0 ≤ σ 86 6 ∧ σ 86 6 ≤ 32 := hI.1 86 6
  refine qr_iload_n 1 rfl rfl rfl ?_
  refine qr_callN 4 rfl rfl rfl (sf_192 (d := d + 10) hI r2) ?_
  rintro _ _ ⟨rfl, v1, rfl, hv1, hp2⟩
  show qr_W (qe L xs vb) (d + 12) qx_e242 _ (4, _, [.int (qz v1)], qw σ α κ ρ, 0, 0)
  refine qr_if_eq 32 7 rfl rfl rfl (qrg hv1 (by decide) (by decide)) (fun h3 => ?_) (fun h3 => ?_)
  · skip
    refine qr_iconst 33 rfl rfl ?_
    refine qr_retI rfl rfl (by decide) (by decide) ?_
    exact ⟨_, _, rfl, hI, hF0, (-1), rfl, (by decide)⟩
  · skip
    refine qr_iload 9 rfl rfl rfl ?_
    refine qr_i2l 10 rfl r3 rfl ?_
    refine qr_ldc2 100 13 rfl (by decide) rfl ?_
    refine qr_ldc2 2499 16 rfl (by decide) rfl ?_
    refine qr_callN 19 rfl rfl rfl (sf_176 (d := d + 11) hI (qrg r3 (by decide) (by decide)) (by decide) (by decide)) ?_
    rintro _ _ ⟨rfl, v4, rfl, hv4, hp5⟩
    show qr_W (qe L xs vb) (d + 12) qx_e242 _ (19, _, [.int (qz v4)], qw σ α κ ρ, 0, 0)
    refine qr_if_eq 32 22 rfl rfl rfl (qrg hv4 (by decide) (by decide)) (fun h6 => ?_) (fun h6 => ?_)
    · skip
      refine qr_iconst 33 rfl rfl ?_
      refine qr_retI rfl rfl (by decide) (by decide) ?_
      exact ⟨_, _, rfl, hI, hF0, (-1), rfl, (by decide)⟩
    · skip
      refine qr_aload_n 23 rfl rfl rfl ?_
      refine qr_lload_n 24 rfl rfl rfl ?_
      refine qr_bipush 26 rfl (by decide) rfl ?_
      refine qr_callN 29 rfl rfl rfl (sf_234_86p (d := d + 10) hI r1 (by decide)) ?_
      have hs9 : 0 ≤ σ 86 6 ∧ σ 86 6 ≤ 32 := hI.1 86 6
      rintro _ _ ⟨σ10, α11, rfl, hI12, hG13, v7, rfl, hv7, hp8⟩
      have hF14 : qFr [(86, 15), (86, 23), (86, 30), (86, 43)] [96, 110, 114] σ α σ10 α11 := qFr_t hF0 hG13 (by decide) (by decide)
      have hs15 : 0 ≤ σ10 86 43 ∧ σ10 86 43 ≤ 32 := hI12.1 86 43
      show qr_W (qe L xs vb) (d + 12) qx_e242 _ (29, _, [.int (qz v7)], qw σ10 α11 κ ρ, 0, 0)
      refine qr_if_ne 34 32 rfl rfl rfl (qrg hv7 (by decide) (by decide)) (fun h16 => ?_) (fun h16 => ?_)
      · skip
        refine qr_aload_n 35 rfl rfl rfl ?_
        refine qr_iconst 36 rfl rfl ?_
        refine qr_iconst 37 rfl rfl ?_
        refine qr_iload_n 38 rfl rfl rfl ?_
        refine qr_iload 40 rfl rfl rfl ?_
        have hs17 : 0 ≤ σ10 86 43 ∧ σ10 86 43 ≤ 32 := hI12.1 86 43
        have hs18 : 0 ≤ σ10 86 6 ∧ σ10 86 6 ≤ 32 := hI12.1 86 6
        have hs19 : σ10 86 6 = (σ 86 6) := (hG13.1 86 6 (by decide)).trans rfl
        refine qr_callN 43 rfl rfl rfl (sf_243_86t0 (d := d + 0) hI12 (by decide) r2 (by omega) (by omega) (by omega) (by omega)) ?_
        rintro _ _ ⟨σ21, α22, rfl, hI23, hG24, v20, rfl, hv20⟩
        have hF25 : qFr [(86, 15), (86, 23), (86, 30), (86, 43)] [96, 110, 114] σ α σ21 α22 := qFr_t hF14 hG24 (by decide) (by decide)
        show qr_W (qe L xs vb) (d + 12) qx_e242 _ (43, _, [.int (qz v20)], qw σ21 α22 κ ρ, 0, 0)
        refine qr_if_ne 49 46 rfl rfl rfl (qrg hv20 (by decide) (by decide)) (fun h26 => ?_) (fun h26 => ?_)
        · skip
          refine qr_iconst 50 rfl rfl ?_
          refine qr_istore _ 52 rfl (by decide) rfl rfl ?_
          refine qr_iconst 53 rfl rfl ?_
          refine qr_istore _ 55 rfl (by decide) rfl rfl ?_
          have hL103 : ∀ (n : Nat) (ls : qm_L) (u98 u100 : Int), 6 - u100 < (n : Int) → qm_get ls 0 = some (.ref 86) → qm_get ls 5 = some (.int (qz u98)) → qm_get ls 6 = some (.int (qz u100)) → ((-2147483648) ≤ u98 ∧ u98 ≤ 2147483647) → (0 ≤ u100 ∧ u100 ≤ 6) → qr_W (qe L xs vb) (d + 12) qx_e242 (fun r w' => ∃ σ' α', w' = qw σ' α' κ ρ ∧ qI σ' α' κ ρ ∧ qFr [(86, 15), (86, 23), (86, 30), (86, 43)] [96, 110, 114] σ α σ' α' ∧ ∃ v : Int, r = some (.int (qz v)) ∧ ((-2147483648) ≤ v ∧ v ≤ 2147483647)) (55, ls, [], qw σ21 α22 κ ρ, 0, 0) := by
            intro n
            induction n with
            | zero => intro ls u98 u100 hm g96 g97 g99 hf101 hf102; exact False.elim (by omega)
            | succ n ih104 =>
              intro ls u98 u100 hm g96 g97 g99 hf101 hf102
              refine qr_iload 57 rfl g99 rfl ?_
              refine qr_aload_n 58 rfl g96 rfl ?_
              refine qr_get 61 rfl rfl rfl (by decide) rfl ?_
              refine qy_v (σ10 86 43) ((hG24.1 86 43 (by decide)).trans rfl) ?_
              refine qr_icmp_ge 87 64 rfl rfl rfl (qrg hf102 (by decide) (by decide)) (by omega) (fun h105 => ?_) (fun h105 => ?_)
              · skip
                refine qr_iload 89 rfl g97 rfl ?_
                refine qr_retI rfl rfl (by decide) (by decide) ?_
                exact ⟨_, _, rfl, hI23, hF25, u98, rfl, hf101⟩
              · skip
                refine qr_bipush 66 rfl (by decide) rfl ?_
                refine qr_iload 68 rfl g97 rfl ?_
                refine qr_imul 69 rfl rfl ?_
                refine qy_can (fun v106 hv106 => ?_)
                refine qr_aload_n 70 rfl g96 rfl ?_
                refine qr_get 73 rfl rfl rfl (by decide) rfl ?_
                refine qr_iload 75 rfl g99 rfl ?_
                refine qr_iaload 76 rfl rfl (by omega) (by decide) rfl ?_
                refine qr_topI (fun v107 hv107 => ?_)
                have hs108 : 0 ≤ v107 ∧ v107 ≤ 5 := by rw [hv107]; exact hI23.2.1 114 _ (show _ < 6 by omega)
                refine qr_iadd 77 rfl rfl ?_
                refine qy_can (fun v109 hv109 => ?_)
                refine qr_iconst 78 rfl rfl ?_
                refine qr_iadd 79 rfl rfl ?_
                refine qy_can (fun v110 hv110 => ?_)
                refine qr_istore _ 81 rfl (by decide) rfl rfl ?_
                refine qr_iinc _ 84 rfl (qm_gk g99 (by decide) (Or.inl (by decide))) (by decide) rfl rfl ?_
                refine qr_goto 55 rfl rfl ?_
                exact ih104 _ v110 (u100 + 1) (by omega) (qm_gk (qm_gk g96 (by decide) (Or.inl (by decide))) (by decide) (Or.inl (by decide))) (qm_gk (qm_ge _ _ _) (by decide) (Or.inr rfl)) (qm_ge _ _ _) hv110 (by omega)
          exact hL103 ((6 - 0 + 1 : Int)).toNat _ 0 0 (by omega) rfl rfl rfl (by decide) (by decide)
        · skip
          refine qr_bipush 48 rfl (by decide) rfl ?_
          refine qr_retI rfl rfl (by decide) (by decide) ?_
          exact ⟨_, _, rfl, hI23, hF25, (-2), rfl, (by decide)⟩
      · skip
        refine qr_iconst 33 rfl rfl ?_
        refine qr_retI rfl rfl (by decide) (by decide) ?_
        exact ⟨_, _, rfl, hI12, hF14, (-1), rfl, (by decide)⟩
end
