set_option maxHeartbeats 4000000 in
set_option maxRecDepth 20000 in
/-- OneRoof$Acts.runFrom -/
theorem sf_152_42f3_3_0 {L : Nat} {xs : Nat → Int} {vb : Bool} {d : Nat} {σ α : Nat → Nat → Int} {κ : Nat → Option Nat} {ρ : Nat} {x4 : Int} {x5 : Int} {x6 : Int} (hI : qI σ α κ ρ) (r4 : (-2147483648) ≤ x4 ∧ x4 ≤ 2147483647) (r5 : (-2147483648) ≤ x5 ∧ x5 ≤ 2147483647) (r6 : 0 ≤ x6 ∧ x6 ≤ 39) (p0 : 0 ≤ σ 42 1 ∧ σ 42 1 ≤ 1900) : qm_T (qe L xs vb) (d + 2) 152 [.ref 42, .int (qz 3), .int (qz 3), .int (qz 0), .int (qz x4), .int (qz x5), .int (qz x6)] (qw σ α κ ρ) (fun r w' => ∃ σ' α', w' = qw σ' α' κ ρ ∧ qI σ' α' κ ρ ∧ qFr [(42, 1)] [43] σ α σ' α' ∧ ∃ v : Int, r = some (.int (qz v)) ∧ ((-2147483648) ≤ v ∧ v ≤ 2147483647) ∧ σ' 42 1 = σ 42 1 + 1) := by
  refine qr_start (d := d + 1) qv_e152 (Nat.le_of_ble_eq_true rfl) ?_
  show qr_W (qe L xs vb) (d + 1) qx_e152 _ (0, [(0, .ref 42), (1, .int (qz 3)), (2, .int (qz 3)), (3, .int (qz 0)), (4, .int (qz x4)), (5, .int (qz x5)), (6, .int (qz x6))], [], _, 0, 0)
  have hF0 := qFr_rf [(42, 1)] [43] σ α
  have hz42_1 : (-2147483648) ≤ σ 42 1 ∧ σ 42 1 ≤ 2147483647 := hI.1 42 1
  refine qr_iload_n 1 rfl rfl rfl ?_
  refine qr_istore _ 3 rfl (by decide) rfl rfl ?_
  refine qr_iconst 4 rfl rfl ?_
  refine qr_istore _ 6 rfl (by decide) rfl rfl ?_
  refine qr_iload 8 rfl rfl rfl ?_
  refine qr_getst 11 rfl rfl ?_
  refine qr_alen 12 rfl rfl (by first | exact Or.inl (by decide) | exact Or.inr (Or.inl rfl) | exact Or.inr (Or.inr (Or.inl rfl)) | exact Or.inr (Or.inr (Or.inr (Or.inl rfl)))) rfl ?_
  refine qy_v 7 rfl ?_
  refine qr_icmp_ge 89 15 rfl rfl rfl (by decide) (by decide) (fun h => False.elim (by omega)) (fun h1 => ?_)
  refine qr_iload 17 rfl rfl rfl ?_
  refine qr_if_lt 89 20 rfl rfl rfl (by decide) (fun h => False.elim (by omega)) (fun h2 => ?_)
  refine qr_iload 22 rfl rfl rfl ?_
  refine qr_getst 25 rfl rfl ?_
  refine qr_alen 26 rfl rfl (by first | exact Or.inl (by decide) | exact Or.inr (Or.inl rfl) | exact Or.inr (Or.inr (Or.inl rfl)) | exact Or.inr (Or.inr (Or.inr (Or.inl rfl)))) rfl ?_
  refine qy_v 7 rfl ?_
  refine qr_icmp_ge 89 29 rfl rfl rfl (by decide) (by decide) (fun h => False.elim (by omega)) (fun h3 => ?_)
  refine qr_getst 32 rfl rfl ?_
  refine qr_iload 34 rfl rfl rfl ?_
  refine qr_iconst 35 rfl rfl ?_
  refine qr_imul 36 rfl rfl ?_
  refine qy_v 12 rfl ?_
  refine qr_iload_n 37 rfl rfl rfl ?_
  refine qr_iadd 38 rfl rfl ?_
  refine qy_v 12 rfl ?_
  refine qr_iaload 39 rfl rfl (by decide) (by decide) rfl ?_
  refine qy_v 0 (by decide) ?_
  refine qr_istore _ 41 rfl (by decide) rfl rfl ?_
  refine qr_iload 43 rfl rfl rfl ?_
  refine qr_if_eq 75 46 rfl rfl rfl (by decide) (fun h4 => ?_) (fun h => False.elim (by omega))
  refine qr_getst 78 rfl rfl ?_
  refine qr_iload 80 rfl rfl rfl ?_
  refine qr_iaload 81 rfl rfl (by decide) (by decide) rfl ?_
  refine qy_v 0 (by decide) ?_
  refine qr_istore _ 83 rfl (by decide) rfl rfl ?_
  refine qr_iinc _ 86 rfl rfl (by decide) rfl rfl ?_
  refine qr_goto 6 rfl rfl ?_
  refine qr_iload 8 rfl rfl rfl ?_
  refine qr_getst 11 rfl rfl ?_
  refine qr_alen 12 rfl rfl (by first | exact Or.inl (by decide) | exact Or.inr (Or.inl rfl) | exact Or.inr (Or.inr (Or.inl rfl)) | exact Or.inr (Or.inr (Or.inr (Or.inl rfl)))) rfl ?_
  refine qy_v 7 rfl ?_
  refine qr_icmp_ge 89 15 rfl rfl rfl (by omega) (by decide) (fun h => False.elim (by omega)) (fun h5 => ?_)
  refine qr_iload 17 rfl rfl rfl ?_
  refine qr_if_lt 89 20 rfl rfl rfl (by decide) (fun h => False.elim (by omega)) (fun h6 => ?_)
  refine qr_iload 22 rfl rfl rfl ?_
  refine qr_getst 25 rfl rfl ?_
  refine qr_alen 26 rfl rfl (by first | exact Or.inl (by decide) | exact Or.inr (Or.inl rfl) | exact Or.inr (Or.inr (Or.inl rfl)) | exact Or.inr (Or.inr (Or.inr (Or.inl rfl)))) rfl ?_
  refine qy_v 7 rfl ?_
  refine qr_icmp_ge 89 29 rfl rfl rfl (by decide) (by decide) (fun h => False.elim (by omega)) (fun h7 => ?_)
  refine qr_getst 32 rfl rfl ?_
  refine qr_iload 34 rfl rfl rfl ?_
  refine qr_iconst 35 rfl rfl ?_
  refine qr_imul 36 rfl rfl ?_
  refine qy_v 0 rfl ?_
  refine qr_iload_n 37 rfl rfl rfl ?_
  refine qr_iadd 38 rfl rfl ?_
  refine qy_v 0 rfl ?_
  refine qr_iaload 39 rfl rfl (by decide) (by decide) rfl ?_
  refine qy_v 1 (by decide) ?_
  refine qr_istore _ 41 rfl (by decide) rfl rfl ?_
  refine qr_iload 43 rfl rfl rfl ?_
  refine qr_if_eq 75 46 rfl rfl rfl (by decide) (fun h => False.elim (by omega)) (fun h8 => ?_)
  as_aux_lemma =>
    refine qr_iload 48 rfl rfl rfl ?_
    refine qr_bipush 50 rfl (by decide) rfl ?_
    refine qr_icmp_le 57 53 rfl rfl rfl (qrg r6 (by decide) (by decide)) (by decide) (fun h9 => ?_) (fun h => False.elim (by omega))
    refine qr_aload_n 58 rfl rfl rfl ?_
    refine qr_iload 60 rfl rfl rfl ?_
    refine qr_iload 62 rfl rfl rfl ?_
    refine qr_iload_n 63 rfl rfl rfl ?_
    refine qr_iload 65 rfl rfl rfl ?_
    refine qr_iload 67 rfl rfl rfl ?_
    refine qr_iload 69 rfl rfl rfl ?_
    refine qr_iconst 70 rfl rfl ?_
    refine qr_iadd 71 rfl rfl ?_
    have hs10 : (-2147483648) ≤ σ 42 1 ∧ σ 42 1 ≤ 2147483647 := hI.1 42 1
    refine qr_callN 74 rfl rfl rfl (sf_153_42b1_0_3 (d := d + 0) hI r4 r5 (by omega) (by omega)) ?_
    have hs13 : (-2147483648) ≤ σ 42 1 ∧ σ 42 1 ≤ 2147483647 := hI.1 42 1
    rintro _ _ ⟨σ14, α15, rfl, hI16, hG17, v11, rfl, hv11, hp12⟩
    have hF18 : qFr [(42, 1)] [43] σ α σ14 α15 := qFr_t hF0 hG17 (by decide) (by decide)
    have hs19 : (-2147483648) ≤ σ14 42 1 ∧ σ14 42 1 ≤ 2147483647 := hI16.1 42 1
    show qr_W (qe L xs vb) (d + 1) qx_e152 _ (74, _, [.int (qz v11)], qw σ14 α15 κ ρ, 0, 0)
    refine qr_retI rfl rfl (by decide) (by decide) ?_
    have hw20 : σ14 42 1 = (σ14 42 1) := rfl
    exact ⟨_, _, rfl, hI16, hF18, v11, rfl, hv11, by omega⟩

set_option maxHeartbeats 4000000 in
set_option maxRecDepth 20000 in
/-- OneRoof$Acts.run -/
theorem sf_151_42r3_0 {L : Nat} {xs : Nat → Int} {vb : Bool} {d : Nat} {σ α : Nat → Nat → Int} {κ : Nat → Option Nat} {ρ : Nat} {x3 : Int} {x4 : Int} {x5 : Int} (hI : qI σ α κ ρ) (r3 : (-2147483648) ≤ x3 ∧ x3 ≤ 2147483647) (r4 : (-2147483648) ≤ x4 ∧ x4 ≤ 2147483647) (r5 : 0 ≤ x5 ∧ x5 ≤ 39) (p0 : 0 ≤ σ 42 1 ∧ σ 42 1 ≤ 1900) : qm_T (qe L xs vb) (d + 3) 151 [.ref 42, .int (qz 3), .int (qz 0), .int (qz x3), .int (qz x4), .int (qz x5)] (qw σ α κ ρ) (fun r w' => ∃ σ' α', w' = qw σ' α' κ ρ ∧ qI σ' α' κ ρ ∧ qFr [(42, 1)] [43] σ α σ' α' ∧ ∃ v : Int, r = some (.int (qz v)) ∧ ((-2147483648) ≤ v ∧ v ≤ 2147483647) ∧ σ' 42 1 = σ 42 1 + 1) := by
  refine qr_start (d := d + 2) qv_e151 (Nat.le_of_ble_eq_true rfl) ?_
  show qr_W (qe L xs vb) (d + 2) qx_e151 _ (0, [(0, .ref 42), (1, .int (qz 3)), (2, .int (qz 0)), (3, .int (qz x3)), (4, .int (qz x4)), (5, .int (qz x5))], [], _, 0, 0)
  have hF0 := qFr_rf [(42, 1)] [43] σ α
  have hz42_1 : (-2147483648) ≤ σ 42 1 ∧ σ 42 1 ≤ 2147483647 := hI.1 42 1
  refine qr_aload_n 1 rfl rfl rfl ?_
  refine qr_iload_n 2 rfl rfl rfl ?_
  refine qr_iload_n 3 rfl rfl rfl ?_
  refine qr_iload_n 4 rfl rfl rfl ?_
  refine qr_iload_n 5 rfl rfl rfl ?_
  refine qr_iload 7 rfl rfl rfl ?_
  refine qr_iload 9 rfl rfl rfl ?_
  have hs1 : (-2147483648) ≤ σ 42 1 ∧ σ 42 1 ≤ 2147483647 := hI.1 42 1
  refine qr_callN 12 rfl rfl rfl (sf_152_42f3_3_0 (d := d + 0) hI r3 r4 r5 (by omega)) ?_
  have hs4 : (-2147483648) ≤ σ 42 1 ∧ σ 42 1 ≤ 2147483647 := hI.1 42 1
  rintro _ _ ⟨σ5, α6, rfl, hI7, hG8, v2, rfl, hv2, hp3⟩
  have hF9 : qFr [(42, 1)] [43] σ α σ5 α6 := qFr_t hF0 hG8 (by decide) (by decide)
  have hs10 : (-2147483648) ≤ σ5 42 1 ∧ σ5 42 1 ≤ 2147483647 := hI7.1 42 1
  show qr_W (qe L xs vb) (d + 2) qx_e151 _ (12, _, [.int (qz v2)], qw σ5 α6 κ ρ, 0, 0)
  refine qr_retI rfl rfl (by decide) (by decide) ?_
  have hw11 : σ5 42 1 = (σ5 42 1) := rfl
  exact ⟨_, _, rfl, hI7, hF9, v2, rfl, hv2, by omega⟩

set_option maxHeartbeats 4000000 in
set_option maxRecDepth 20000 in
/-- OneRoof$Acts.start -/
theorem sf_150_42s3_0 {L : Nat} {xs : Nat → Int} {vb : Bool} {d : Nat} {σ α : Nat → Nat → Int} {κ : Nat → Option Nat} {ρ : Nat} {x3 : Int} {x4 : Int} (hI : qI σ α κ ρ) (r3 : (-2147483648) ≤ x3 ∧ x3 ≤ 2147483647) (r4 : (-2147483648) ≤ x4 ∧ x4 ≤ 2147483647) (p0 : σ 42 1 = 0) : qm_T (qe L xs vb) (d + 4) 150 [.ref 42, .int (qz 3), .int (qz 0), .int (qz x3), .int (qz x4)] (qw σ α κ ρ) (fun r w' => ∃ σ' α', w' = qw σ' α' κ ρ ∧ qI σ' α' κ ρ ∧ qFr [(42, 1)] [43] σ α σ' α' ∧ ∃ v : Int, r = some (.int (qz v)) ∧ ((-2147483648) ≤ v ∧ v ≤ 2147483647)) := by
  refine qr_start (d := d + 3) qv_e150 (Nat.le_of_ble_eq_true rfl) ?_
  show qr_W (qe L xs vb) (d + 3) qx_e150 _ (0, [(0, .ref 42), (1, .int (qz 3)), (2, .int (qz 0)), (3, .int (qz x3)), (4, .int (qz x4))], [], _, 0, 0)
  have hF0 := qFr_rf [(42, 1)] [43] σ α
  have hz42_1 : (-2147483648) ≤ σ 42 1 ∧ σ 42 1 ≤ 2147483647 := hI.1 42 1
  refine qr_aload_n 1 rfl rfl rfl ?_
  refine qr_iload_n 2 rfl rfl rfl ?_
  refine qr_iload_n 3 rfl rfl rfl ?_
  refine qr_iload_n 4 rfl rfl rfl ?_
  refine qr_iload 6 rfl rfl rfl ?_
  refine qr_iconst 7 rfl rfl ?_
  have hs1 : (-2147483648) ≤ σ 42 1 ∧ σ 42 1 ≤ 2147483647 := hI.1 42 1
  refine qr_callN 10 rfl rfl rfl (sf_151_42r3_0 (d := d + 0) hI r3 r4 (by decide) (by omega)) ?_
  have hs4 : (-2147483648) ≤ σ 42 1 ∧ σ 42 1 ≤ 2147483647 := hI.1 42 1
  rintro _ _ ⟨σ5, α6, rfl, hI7, hG8, v2, rfl, hv2, hp3⟩
  have hF9 : qFr [(42, 1)] [43] σ α σ5 α6 := qFr_t hF0 hG8 (by decide) (by decide)
  have hs10 : (-2147483648) ≤ σ5 42 1 ∧ σ5 42 1 ≤ 2147483647 := hI7.1 42 1
  show qr_W (qe L xs vb) (d + 3) qx_e150 _ (10, _, [.int (qz v2)], qw σ5 α6 κ ρ, 0, 0)
  refine qr_retI rfl rfl (by decide) (by decide) ?_
  exact ⟨_, _, rfl, hI7, hF9, v2, rfl, hv2⟩

set_option maxHeartbeats 4000000 in
set_option maxRecDepth 20000 in
/-- OneRoof$Acts.begin -/
theorem sf_153_42b1_0_4 {L : Nat} {xs : Nat → Int} {vb : Bool} {d : Nat} {σ α : Nat → Nat → Int} {κ : Nat → Option Nat} {ρ : Nat} {x4 : Int} {x5 : Int} {x6 : Int} (hI : qI σ α κ ρ) (r4 : (-2147483648) ≤ x4 ∧ x4 ≤ 2147483647) (r5 : (-2147483648) ≤ x5 ∧ x5 ≤ 2147483647) (r6 : 0 ≤ x6 ∧ x6 ≤ 40) (p0 : 0 ≤ σ 42 1 ∧ σ 42 1 ≤ 1900) : qm_T (qe L xs vb) (d + 1) 153 [.ref 42, .int (qz 1), .int (qz 0), .int (qz 4), .int (qz x4), .int (qz x5), .int (qz x6)] (qw σ α κ ρ) (fun r w' => ∃ σ' α', w' = qw σ' α' κ ρ ∧ qI σ' α' κ ρ ∧ qFr [(42, 1)] [43] σ α σ' α' ∧ ∃ v : Int, r = some (.int (qz v)) ∧ ((-2147483648) ≤ v ∧ v ≤ 2147483647) ∧ σ' 42 1 = σ 42 1 + 1) := by
  refine qr_start (d := d + 0) qv_e153 (Nat.le_of_ble_eq_true rfl) ?_
  show qr_W (qe L xs vb) (d + 0) qx_e153 _ (0, [(0, .ref 42), (1, .int (qz 1)), (2, .int (qz 0)), (3, .int (qz 4)), (4, .int (qz x4)), (5, .int (qz x5)), (6, .int (qz x6))], [], _, 0, 0)
  have hF0 := qFr_rf [(42, 1)] [43] σ α
  have hz42_1 : (-2147483648) ≤ σ 42 1 ∧ σ 42 1 ≤ 2147483647 := hI.1 42 1
  refine qr_aload_n 1 rfl rfl rfl ?_
  refine qr_get 4 rfl rfl rfl (by decide) rfl ?_
  refine qr_aload_n 5 rfl rfl rfl ?_
  refine qr_get 8 rfl rfl rfl (by decide) rfl ?_
  refine qr_alen 9 rfl rfl (by first | exact Or.inl (by decide) | exact Or.inr (Or.inl rfl) | exact Or.inr (Or.inr (Or.inl rfl)) | exact Or.inr (Or.inr (Or.inr (Or.inl rfl)))) rfl ?_
  refine qy_v 24 rfl ?_
  refine qr_icmp_ge 22 12 rfl rfl rfl hz42_1 (by decide) (fun h1 => ?_) (fun h1 => ?_)
  · skip
    refine qr_aload_n 23 rfl rfl rfl ?_
    refine qr_dup 24 rfl rfl rfl ?_
    refine qr_get 27 rfl rfl rfl (by decide) rfl ?_
    refine qr_iconst 28 rfl rfl ?_
    refine qr_iadd 29 rfl rfl ?_
    refine qr_put 32 rfl (by decide) rfl (Nat.le_of_ble_eq_true rfl) (Nat.le_of_ble_eq_true rfl) (Or.inl rfl) (qr_fitI rfl _) rfl ?_
    refine qy_wS (qw_s σ 42 1 ((σ 42 1) + 1)) rfl (fun σ2 e3 => ?_)
    have hI4 : qI σ2 α κ ρ := by rw [e3]; exact qI_s hI 42 1 rfl (show (-2147483648) ≤ ((σ 42 1) + 1) ∧ ((σ 42 1) + 1) ≤ 2147483647 by omega)
    have hF5 : qFr [(42, 1)] [43] σ α σ2 α := by rw [e3]; exact qFr_s hF0 42 1 _ (by decide)
    refine qr_getst 35 rfl rfl ?_
    refine qr_iload_n 36 rfl rfl rfl ?_
    refine qr_iaload 37 rfl rfl (by decide) (by decide) rfl ?_
    refine qy_v (-1) (by decide) ?_
    refine qr_istore _ 39 rfl (by decide) rfl rfl ?_
    refine qr_iload_n 40 rfl rfl rfl ?_
    refine qr_look (off := 108) 148 rfl (by omega) (by decide) (by decide) rfl ?_
    refine qr_iload 150 rfl rfl rfl ?_
    refine qr_iload 152 rfl rfl rfl ?_
    refine qr_iadd 153 rfl rfl ?_
    refine qy_can (fun v6 hv6 => ?_)
    refine qr_retI rfl rfl (by decide) (by decide) ?_
    have hw7 : σ2 42 1 = ((σ 42 1) + 1) := (congrFun (congrFun e3 42) 1).trans rfl
    exact ⟨_, _, rfl, hI4, hF5, v6, rfl, hv6, by omega⟩
  · skip
    refine qr_aload_n 13 rfl rfl rfl ?_
    refine qr_get 16 rfl rfl rfl (by decide) rfl ?_
    refine qr_aload_n 17 rfl rfl rfl ?_
    refine qr_get 20 rfl rfl rfl (by decide) rfl ?_
    refine qr_iload_n 21 rfl rfl rfl ?_
    refine qr_iastore 22 rfl (by decide) rfl (by omega) (by decide) rfl ?_
    refine qy_wA (qw_r α 43 (qzu (α 43) ((σ 42 1) : Int).toNat 1)) rfl (fun α8 e9 => ?_)
    have hI10 : qI σ α8 κ ρ := by rw [e9]; exact qI_r hI 43 _ rfl (show (-2147483648) ≤ 1 ∧ 1 ≤ 2147483647 by omega)
    have hF11 : qFr [(42, 1)] [43] σ α σ α8 := by rw [e9]; exact qFr_r hF0 43 _ (by decide)
    refine qr_aload_n 23 rfl rfl rfl ?_
    refine qr_dup 24 rfl rfl rfl ?_
    refine qr_get 27 rfl rfl rfl (by decide) rfl ?_
    refine qr_iconst 28 rfl rfl ?_
    refine qr_iadd 29 rfl rfl ?_
    refine qr_put 32 rfl (by decide) rfl (Nat.le_of_ble_eq_true rfl) (Nat.le_of_ble_eq_true rfl) (Or.inl rfl) (qr_fitI rfl _) rfl ?_
    refine qy_wS (qw_s σ 42 1 ((σ 42 1) + 1)) rfl (fun σ12 e13 => ?_)
    have hI14 : qI σ12 α8 κ ρ := by rw [e13]; exact qI_s hI10 42 1 rfl (show (-2147483648) ≤ ((σ 42 1) + 1) ∧ ((σ 42 1) + 1) ≤ 2147483647 by omega)
    have hF15 : qFr [(42, 1)] [43] σ α σ12 α8 := by rw [e13]; exact qFr_s hF11 42 1 _ (by decide)
    refine qr_getst 35 rfl rfl ?_
    refine qr_iload_n 36 rfl rfl rfl ?_
    refine qr_iaload 37 rfl rfl (by decide) (by decide) rfl ?_
    refine qy_v (-1) (by decide) ?_
    refine qr_istore _ 39 rfl (by decide) rfl rfl ?_
    refine qr_iload_n 40 rfl rfl rfl ?_
    refine qr_look (off := 108) 148 rfl (by omega) (by decide) (by decide) rfl ?_
    refine qr_iload 150 rfl rfl rfl ?_
    refine qr_iload 152 rfl rfl rfl ?_
    refine qr_iadd 153 rfl rfl ?_
    refine qy_can (fun v16 hv16 => ?_)
    refine qr_retI rfl rfl (by decide) (by decide) ?_
    have hw17 : σ12 42 1 = ((σ 42 1) + 1) := (congrFun (congrFun e13 42) 1).trans rfl
    exact ⟨_, _, rfl, hI14, hF15, v16, rfl, hv16, by omega⟩

set_option maxHeartbeats 4000000 in
set_option maxRecDepth 20000 in
/-- OneRoof$Acts.runFrom -/
theorem sf_152_42f4_4_0 {L : Nat} {xs : Nat → Int} {vb : Bool} {d : Nat} {σ α : Nat → Nat → Int} {κ : Nat → Option Nat} {ρ : Nat} {x4 : Int} {x5 : Int} {x6 : Int} (hI : qI σ α κ ρ) (r4 : (-2147483648) ≤ x4 ∧ x4 ≤ 2147483647) (r5 : (-2147483648) ≤ x5 ∧ x5 ≤ 2147483647) (r6 : 0 ≤ x6 ∧ x6 ≤ 39) (p0 : 0 ≤ σ 42 1 ∧ σ 42 1 ≤ 1900) : qm_T (qe L xs vb) (d + 2) 152 [.ref 42, .int (qz 4), .int (qz 4), .int (qz 0), .int (qz x4), .int (qz x5), .int (qz x6)] (qw σ α κ ρ) (fun r w' => ∃ σ' α', w' = qw σ' α' κ ρ ∧ qI σ' α' κ ρ ∧ qFr [(42, 1)] [43] σ α σ' α' ∧ ∃ v : Int, r = some (.int (qz v)) ∧ ((-2147483648) ≤ v ∧ v ≤ 2147483647) ∧ σ' 42 1 = σ 42 1 + 1) := by
  refine qr_start (d := d + 1) qv_e152 (Nat.le_of_ble_eq_true rfl) ?_
  show qr_W (qe L xs vb) (d + 1) qx_e152 _ (0, [(0, .ref 42), (1, .int (qz 4)), (2, .int (qz 4)), (3, .int (qz 0)), (4, .int (qz x4)), (5, .int (qz x5)), (6, .int (qz x6))], [], _, 0, 0)
  have hF0 := qFr_rf [(42, 1)] [43] σ α
  have hz42_1 : (-2147483648) ≤ σ 42 1 ∧ σ 42 1 ≤ 2147483647 := hI.1 42 1
  refine qr_iload_n 1 rfl rfl rfl ?_
  refine qr_istore _ 3 rfl (by decide) rfl rfl ?_
  refine qr_iconst 4 rfl rfl ?_
  refine qr_istore _ 6 rfl (by decide) rfl rfl ?_
  refine qr_iload 8 rfl rfl rfl ?_
  refine qr_getst 11 rfl rfl ?_
  refine qr_alen 12 rfl rfl (by first | exact Or.inl (by decide) | exact Or.inr (Or.inl rfl) | exact Or.inr (Or.inr (Or.inl rfl)) | exact Or.inr (Or.inr (Or.inr (Or.inl rfl)))) rfl ?_
  refine qy_v 7 rfl ?_
  refine qr_icmp_ge 89 15 rfl rfl rfl (by decide) (by decide) (fun h => False.elim (by omega)) (fun h1 => ?_)
  refine qr_iload 17 rfl rfl rfl ?_
  refine qr_if_lt 89 20 rfl rfl rfl (by decide) (fun h => False.elim (by omega)) (fun h2 => ?_)
  refine qr_iload 22 rfl rfl rfl ?_
  refine qr_getst 25 rfl rfl ?_
  refine qr_alen 26 rfl rfl (by first | exact Or.inl (by decide) | exact Or.inr (Or.inl rfl) | exact Or.inr (Or.inr (Or.inl rfl)) | exact Or.inr (Or.inr (Or.inr (Or.inl rfl)))) rfl ?_
  refine qy_v 7 rfl ?_
  refine qr_icmp_ge 89 29 rfl rfl rfl (by decide) (by decide) (fun h => False.elim (by omega)) (fun h3 => ?_)
  refine qr_getst 32 rfl rfl ?_
  refine qr_iload 34 rfl rfl rfl ?_
  refine qr_iconst 35 rfl rfl ?_
  refine qr_imul 36 rfl rfl ?_
  refine qy_v 16 rfl ?_
  refine qr_iload_n 37 rfl rfl rfl ?_
  refine qr_iadd 38 rfl rfl ?_
  refine qy_v 16 rfl ?_
  refine qr_iaload 39 rfl rfl (by decide) (by decide) rfl ?_
  refine qy_v 0 (by decide) ?_
  refine qr_istore _ 41 rfl (by decide) rfl rfl ?_
  refine qr_iload 43 rfl rfl rfl ?_
  refine qr_if_eq 75 46 rfl rfl rfl (by decide) (fun h4 => ?_) (fun h => False.elim (by omega))
  refine qr_getst 78 rfl rfl ?_
  refine qr_iload 80 rfl rfl rfl ?_
  refine qr_iaload 81 rfl rfl (by decide) (by decide) rfl ?_
  refine qy_v 0 (by decide) ?_
  refine qr_istore _ 83 rfl (by decide) rfl rfl ?_
  refine qr_iinc _ 86 rfl rfl (by decide) rfl rfl ?_
  refine qr_goto 6 rfl rfl ?_
  refine qr_iload 8 rfl rfl rfl ?_
  refine qr_getst 11 rfl rfl ?_
  refine qr_alen 12 rfl rfl (by first | exact Or.inl (by decide) | exact Or.inr (Or.inl rfl) | exact Or.inr (Or.inr (Or.inl rfl)) | exact Or.inr (Or.inr (Or.inr (Or.inl rfl)))) rfl ?_
  refine qy_v 7 rfl ?_
  refine qr_icmp_ge 89 15 rfl rfl rfl (by omega) (by decide) (fun h => False.elim (by omega)) (fun h5 => ?_)
  refine qr_iload 17 rfl rfl rfl ?_
  refine qr_if_lt 89 20 rfl rfl rfl (by decide) (fun h => False.elim (by omega)) (fun h6 => ?_)
  refine qr_iload 22 rfl rfl rfl ?_
  refine qr_getst 25 rfl rfl ?_
  refine qr_alen 26 rfl rfl (by first | exact Or.inl (by decide) | exact Or.inr (Or.inl rfl) | exact Or.inr (Or.inr (Or.inl rfl)) | exact Or.inr (Or.inr (Or.inr (Or.inl rfl)))) rfl ?_
  refine qy_v 7 rfl ?_
  refine qr_icmp_ge 89 29 rfl rfl rfl (by decide) (by decide) (fun h => False.elim (by omega)) (fun h7 => ?_)
  refine qr_getst 32 rfl rfl ?_
  refine qr_iload 34 rfl rfl rfl ?_
  refine qr_iconst 35 rfl rfl ?_
  refine qr_imul 36 rfl rfl ?_
  refine qy_v 0 rfl ?_
  refine qr_iload_n 37 rfl rfl rfl ?_
  refine qr_iadd 38 rfl rfl ?_
  refine qy_v 0 rfl ?_
  refine qr_iaload 39 rfl rfl (by decide) (by decide) rfl ?_
  refine qy_v 1 (by decide) ?_
  refine qr_istore _ 41 rfl (by decide) rfl rfl ?_
  refine qr_iload 43 rfl rfl rfl ?_
  refine qr_if_eq 75 46 rfl rfl rfl (by decide) (fun h => False.elim (by omega)) (fun h8 => ?_)
  as_aux_lemma =>
    refine qr_iload 48 rfl rfl rfl ?_
    refine qr_bipush 50 rfl (by decide) rfl ?_
    refine qr_icmp_le 57 53 rfl rfl rfl (qrg r6 (by decide) (by decide)) (by decide) (fun h9 => ?_) (fun h => False.elim (by omega))
    refine qr_aload_n 58 rfl rfl rfl ?_
    refine qr_iload 60 rfl rfl rfl ?_
    refine qr_iload 62 rfl rfl rfl ?_
    refine qr_iload_n 63 rfl rfl rfl ?_
    refine qr_iload 65 rfl rfl rfl ?_
    refine qr_iload 67 rfl rfl rfl ?_
    refine qr_iload 69 rfl rfl rfl ?_
    refine qr_iconst 70 rfl rfl ?_
    refine qr_iadd 71 rfl rfl ?_
    have hs10 : (-2147483648) ≤ σ 42 1 ∧ σ 42 1 ≤ 2147483647 := hI.1 42 1
    refine qr_callN 74 rfl rfl rfl (sf_153_42b1_0_4 (d := d + 0) hI r4 r5 (by omega) (by omega)) ?_
    have hs13 : (-2147483648) ≤ σ 42 1 ∧ σ 42 1 ≤ 2147483647 := hI.1 42 1
    rintro _ _ ⟨σ14, α15, rfl, hI16, hG17, v11, rfl, hv11, hp12⟩
    have hF18 : qFr [(42, 1)] [43] σ α σ14 α15 := qFr_t hF0 hG17 (by decide) (by decide)
    have hs19 : (-2147483648) ≤ σ14 42 1 ∧ σ14 42 1 ≤ 2147483647 := hI16.1 42 1
    show qr_W (qe L xs vb) (d + 1) qx_e152 _ (74, _, [.int (qz v11)], qw σ14 α15 κ ρ, 0, 0)
    refine qr_retI rfl rfl (by decide) (by decide) ?_
    have hw20 : σ14 42 1 = (σ14 42 1) := rfl
    exact ⟨_, _, rfl, hI16, hF18, v11, rfl, hv11, by omega⟩

set_option maxHeartbeats 4000000 in
set_option maxRecDepth 20000 in
/-- OneRoof$Acts.run -/
theorem sf_151_42r4_0 {L : Nat} {xs : Nat → Int} {vb : Bool} {d : Nat} {σ α : Nat → Nat → Int} {κ : Nat → Option Nat} {ρ : Nat} {x3 : Int} {x4 : Int} {x5 : Int} (hI : qI σ α κ ρ) (r3 : (-2147483648) ≤ x3 ∧ x3 ≤ 2147483647) (r4 : (-2147483648) ≤ x4 ∧ x4 ≤ 2147483647) (r5 : 0 ≤ x5 ∧ x5 ≤ 39) (p0 : 0 ≤ σ 42 1 ∧ σ 42 1 ≤ 1900) : qm_T (qe L xs vb) (d + 3) 151 [.ref 42, .int (qz 4), .int (qz 0), .int (qz x3), .int (qz x4), .int (qz x5)] (qw σ α κ ρ) (fun r w' => ∃ σ' α', w' = qw σ' α' κ ρ ∧ qI σ' α' κ ρ ∧ qFr [(42, 1)] [43] σ α σ' α' ∧ ∃ v : Int, r = some (.int (qz v)) ∧ ((-2147483648) ≤ v ∧ v ≤ 2147483647) ∧ σ' 42 1 = σ 42 1 + 1) := by
  refine qr_start (d := d + 2) qv_e151 (Nat.le_of_ble_eq_true rfl) ?_
  show qr_W (qe L xs vb) (d + 2) qx_e151 _ (0, [(0, .ref 42), (1, .int (qz 4)), (2, .int (qz 0)), (3, .int (qz x3)), (4, .int (qz x4)), (5, .int (qz x5))], [], _, 0, 0)
  have hF0 := qFr_rf [(42, 1)] [43] σ α
  have hz42_1 : (-2147483648) ≤ σ 42 1 ∧ σ 42 1 ≤ 2147483647 := hI.1 42 1
  refine qr_aload_n 1 rfl rfl rfl ?_
  refine qr_iload_n 2 rfl rfl rfl ?_
  refine qr_iload_n 3 rfl rfl rfl ?_
  refine qr_iload_n 4 rfl rfl rfl ?_
  refine qr_iload_n 5 rfl rfl rfl ?_
  refine qr_iload 7 rfl rfl rfl ?_
  refine qr_iload 9 rfl rfl rfl ?_
  have hs1 : (-2147483648) ≤ σ 42 1 ∧ σ 42 1 ≤ 2147483647 := hI.1 42 1
  refine qr_callN 12 rfl rfl rfl (sf_152_42f4_4_0 (d := d + 0) hI r3 r4 r5 (by omega)) ?_
  have hs4 : (-2147483648) ≤ σ 42 1 ∧ σ 42 1 ≤ 2147483647 := hI.1 42 1
  rintro _ _ ⟨σ5, α6, rfl, hI7, hG8, v2, rfl, hv2, hp3⟩
  have hF9 : qFr [(42, 1)] [43] σ α σ5 α6 := qFr_t hF0 hG8 (by decide) (by decide)
  have hs10 : (-2147483648) ≤ σ5 42 1 ∧ σ5 42 1 ≤ 2147483647 := hI7.1 42 1
  show qr_W (qe L xs vb) (d + 2) qx_e151 _ (12, _, [.int (qz v2)], qw σ5 α6 κ ρ, 0, 0)
  refine qr_retI rfl rfl (by decide) (by decide) ?_
  have hw11 : σ5 42 1 = (σ5 42 1) := rfl
  exact ⟨_, _, rfl, hI7, hF9, v2, rfl, hv2, by omega⟩

set_option maxHeartbeats 4000000 in
set_option maxRecDepth 20000 in
/-- OneRoof$Acts.start -/
theorem sf_150_42s4_0 {L : Nat} {xs : Nat → Int} {vb : Bool} {d : Nat} {σ α : Nat → Nat → Int} {κ : Nat → Option Nat} {ρ : Nat} {x3 : Int} {x4 : Int} (hI : qI σ α κ ρ) (r3 : (-2147483648) ≤ x3 ∧ x3 ≤ 2147483647) (r4 : (-2147483648) ≤ x4 ∧ x4 ≤ 2147483647) (p0 : σ 42 1 = 0) : qm_T (qe L xs vb) (d + 4) 150 [.ref 42, .int (qz 4), .int (qz 0), .int (qz x3), .int (qz x4)] (qw σ α κ ρ) (fun r w' => ∃ σ' α', w' = qw σ' α' κ ρ ∧ qI σ' α' κ ρ ∧ qFr [(42, 1)] [43] σ α σ' α' ∧ ∃ v : Int, r = some (.int (qz v)) ∧ ((-2147483648) ≤ v ∧ v ≤ 2147483647)) := by
  refine qr_start (d := d + 3) qv_e150 (Nat.le_of_ble_eq_true rfl) ?_
  show qr_W (qe L xs vb) (d + 3) qx_e150 _ (0, [(0, .ref 42), (1, .int (qz 4)), (2, .int (qz 0)), (3, .int (qz x3)), (4, .int (qz x4))], [], _, 0, 0)
  have hF0 := qFr_rf [(42, 1)] [43] σ α
  have hz42_1 : (-2147483648) ≤ σ 42 1 ∧ σ 42 1 ≤ 2147483647 := hI.1 42 1
  refine qr_aload_n 1 rfl rfl rfl ?_
  refine qr_iload_n 2 rfl rfl rfl ?_
  refine qr_iload_n 3 rfl rfl rfl ?_
  refine qr_iload_n 4 rfl rfl rfl ?_
  refine qr_iload 6 rfl rfl rfl ?_
  refine qr_iconst 7 rfl rfl ?_
  have hs1 : (-2147483648) ≤ σ 42 1 ∧ σ 42 1 ≤ 2147483647 := hI.1 42 1
  refine qr_callN 10 rfl rfl rfl (sf_151_42r4_0 (d := d + 0) hI r3 r4 (by decide) (by omega)) ?_
  have hs4 : (-2147483648) ≤ σ 42 1 ∧ σ 42 1 ≤ 2147483647 := hI.1 42 1
  rintro _ _ ⟨σ5, α6, rfl, hI7, hG8, v2, rfl, hv2, hp3⟩
  have hF9 : qFr [(42, 1)] [43] σ α σ5 α6 := qFr_t hF0 hG8 (by decide) (by decide)
  have hs10 : (-2147483648) ≤ σ5 42 1 ∧ σ5 42 1 ≤ 2147483647 := hI7.1 42 1
  show qr_W (qe L xs vb) (d + 3) qx_e150 _ (10, _, [.int (qz v2)], qw σ5 α6 κ ρ, 0, 0)
  refine qr_retI rfl rfl (by decide) (by decide) ?_
  exact ⟨_, _, rfl, hI7, hF9, v2, rfl, hv2⟩

set_option maxHeartbeats 4000000 in
set_option maxRecDepth 20000 in
/-- OneRoof$Acts.begin -/
theorem sf_153_42b1_0_5 {L : Nat} {xs : Nat → Int} {vb : Bool} {d : Nat} {σ α : Nat → Nat → Int} {κ : Nat → Option Nat} {ρ : Nat} {x4 : Int} {x5 : Int} {x6 : Int} (hI : qI σ α κ ρ) (r4 : (-2147483648) ≤ x4 ∧ x4 ≤ 2147483647) (r5 : (-2147483648) ≤ x5 ∧ x5 ≤ 2147483647) (r6 : 0 ≤ x6 ∧ x6 ≤ 40) (p0 : 0 ≤ σ 42 1 ∧ σ 42 1 ≤ 1900) : qm_T (qe L xs vb) (d + 1) 153 [.ref 42, .int (qz 1), .int (qz 0), .int (qz 5), .int (qz x4), .int (qz x5), .int (qz x6)] (qw σ α κ ρ) (fun r w' => ∃ σ' α', w' = qw σ' α' κ ρ ∧ qI σ' α' κ ρ ∧ qFr [(42, 1)] [43] σ α σ' α' ∧ ∃ v : Int, r = some (.int (qz v)) ∧ ((-2147483648) ≤ v ∧ v ≤ 2147483647) ∧ σ' 42 1 = σ 42 1 + 1) := by
  refine qr_start (d := d + 0) qv_e153 (Nat.le_of_ble_eq_true rfl) ?_
  show qr_W (qe L xs vb) (d + 0) qx_e153 _ (0, [(0, .ref 42), (1, .int (qz 1)), (2, .int (qz 0)), (3, .int (qz 5)), (4, .int (qz x4)), (5, .int (qz x5)), (6, .int (qz x6))], [], _, 0, 0)
  have hF0 := qFr_rf [(42, 1)] [43] σ α
  have hz42_1 : (-2147483648) ≤ σ 42 1 ∧ σ 42 1 ≤ 2147483647 := hI.1 42 1
  refine qr_aload_n 1 rfl rfl rfl ?_
  refine qr_get 4 rfl rfl rfl (by decide) rfl ?_
  refine qr_aload_n 5 rfl rfl rfl ?_
  refine qr_get 8 rfl rfl rfl (by decide) rfl ?_
  refine qr_alen 9 rfl rfl (by first | exact Or.inl (by decide) | exact Or.inr (Or.inl rfl) | exact Or.inr (Or.inr (Or.inl rfl)) | exact Or.inr (Or.inr (Or.inr (Or.inl rfl)))) rfl ?_
  refine qy_v 24 rfl ?_
  refine qr_icmp_ge 22 12 rfl rfl rfl hz42_1 (by decide) (fun h1 => ?_) (fun h1 => ?_)
  · skip
    refine qr_aload_n 23 rfl rfl rfl ?_
    refine qr_dup 24 rfl rfl rfl ?_
    refine qr_get 27 rfl rfl rfl (by decide) rfl ?_
    refine qr_iconst 28 rfl rfl ?_
    refine qr_iadd 29 rfl rfl ?_
    refine qr_put 32 rfl (by decide) rfl (Nat.le_of_ble_eq_true rfl) (Nat.le_of_ble_eq_true rfl) (Or.inl rfl) (qr_fitI rfl _) rfl ?_
    refine qy_wS (qw_s σ 42 1 ((σ 42 1) + 1)) rfl (fun σ2 e3 => ?_)
    have hI4 : qI σ2 α κ ρ := by rw [e3]; exact qI_s hI 42 1 rfl (show (-2147483648) ≤ ((σ 42 1) + 1) ∧ ((σ 42 1) + 1) ≤ 2147483647 by omega)
    have hF5 : qFr [(42, 1)] [43] σ α σ2 α := by rw [e3]; exact qFr_s hF0 42 1 _ (by decide)
    refine qr_getst 35 rfl rfl ?_
    refine qr_iload_n 36 rfl rfl rfl ?_
    refine qr_iaload 37 rfl rfl (by decide) (by decide) rfl ?_
    refine qy_v (-1) (by decide) ?_
    refine qr_istore _ 39 rfl (by decide) rfl rfl ?_
    refine qr_iload_n 40 rfl rfl rfl ?_
    refine qr_look (off := 108) 148 rfl (by omega) (by decide) (by decide) rfl ?_
    refine qr_iload 150 rfl rfl rfl ?_
    refine qr_iload 152 rfl rfl rfl ?_
    refine qr_iadd 153 rfl rfl ?_
    refine qy_can (fun v6 hv6 => ?_)
    refine qr_retI rfl rfl (by decide) (by decide) ?_
    have hw7 : σ2 42 1 = ((σ 42 1) + 1) := (congrFun (congrFun e3 42) 1).trans rfl
    exact ⟨_, _, rfl, hI4, hF5, v6, rfl, hv6, by omega⟩
  · skip
    refine qr_aload_n 13 rfl rfl rfl ?_
    refine qr_get 16 rfl rfl rfl (by decide) rfl ?_
    refine qr_aload_n 17 rfl rfl rfl ?_
    refine qr_get 20 rfl rfl rfl (by decide) rfl ?_
    refine qr_iload_n 21 rfl rfl rfl ?_
    refine qr_iastore 22 rfl (by decide) rfl (by omega) (by decide) rfl ?_
    refine qy_wA (qw_r α 43 (qzu (α 43) ((σ 42 1) : Int).toNat 1)) rfl (fun α8 e9 => ?_)
    have hI10 : qI σ α8 κ ρ := by rw [e9]; exact qI_r hI 43 _ rfl (show (-2147483648) ≤ 1 ∧ 1 ≤ 2147483647 by omega)
    have hF11 : qFr [(42, 1)] [43] σ α σ α8 := by rw [e9]; exact qFr_r hF0 43 _ (by decide)
    refine qr_aload_n 23 rfl rfl rfl ?_
    refine qr_dup 24 rfl rfl rfl ?_
    refine qr_get 27 rfl rfl rfl (by decide) rfl ?_
    refine qr_iconst 28 rfl rfl ?_
    refine qr_iadd 29 rfl rfl ?_
    refine qr_put 32 rfl (by decide) rfl (Nat.le_of_ble_eq_true rfl) (Nat.le_of_ble_eq_true rfl) (Or.inl rfl) (qr_fitI rfl _) rfl ?_
    refine qy_wS (qw_s σ 42 1 ((σ 42 1) + 1)) rfl (fun σ12 e13 => ?_)
    have hI14 : qI σ12 α8 κ ρ := by rw [e13]; exact qI_s hI10 42 1 rfl (show (-2147483648) ≤ ((σ 42 1) + 1) ∧ ((σ 42 1) + 1) ≤ 2147483647 by omega)
    have hF15 : qFr [(42, 1)] [43] σ α σ12 α8 := by rw [e13]; exact qFr_s hF11 42 1 _ (by decide)
    refine qr_getst 35 rfl rfl ?_
    refine qr_iload_n 36 rfl rfl rfl ?_
    refine qr_iaload 37 rfl rfl (by decide) (by decide) rfl ?_
    refine qy_v (-1) (by decide) ?_
    refine qr_istore _ 39 rfl (by decide) rfl rfl ?_
    refine qr_iload_n 40 rfl rfl rfl ?_
    refine qr_look (off := 108) 148 rfl (by omega) (by decide) (by decide) rfl ?_
    refine qr_iload 150 rfl rfl rfl ?_
    refine qr_iload 152 rfl rfl rfl ?_
    refine qr_iadd 153 rfl rfl ?_
    refine qy_can (fun v16 hv16 => ?_)
    refine qr_retI rfl rfl (by decide) (by decide) ?_
    have hw17 : σ12 42 1 = ((σ 42 1) + 1) := (congrFun (congrFun e13 42) 1).trans rfl
    exact ⟨_, _, rfl, hI14, hF15, v16, rfl, hv16, by omega⟩

set_option maxHeartbeats 4000000 in
set_option maxRecDepth 20000 in
/-- OneRoof$Acts.runFrom -/
theorem sf_152_42f4_5_0 {L : Nat} {xs : Nat → Int} {vb : Bool} {d : Nat} {σ α : Nat → Nat → Int} {κ : Nat → Option Nat} {ρ : Nat} {x4 : Int} {x5 : Int} {x6 : Int} (hI : qI σ α κ ρ) (r4 : (-2147483648) ≤ x4 ∧ x4 ≤ 2147483647) (r5 : (-2147483648) ≤ x5 ∧ x5 ≤ 2147483647) (r6 : 0 ≤ x6 ∧ x6 ≤ 39) (p0 : 0 ≤ σ 42 1 ∧ σ 42 1 ≤ 1900) : qm_T (qe L xs vb) (d + 2) 152 [.ref 42, .int (qz 4), .int (qz 5), .int (qz 0), .int (qz x4), .int (qz x5), .int (qz x6)] (qw σ α κ ρ) (fun r w' => ∃ σ' α', w' = qw σ' α' κ ρ ∧ qI σ' α' κ ρ ∧ qFr [(42, 1)] [43] σ α σ' α' ∧ ∃ v : Int, r = some (.int (qz v)) ∧ ((-2147483648) ≤ v ∧ v ≤ 2147483647) ∧ σ' 42 1 = σ 42 1 + 1) := by
  refine qr_start (d := d + 1) qv_e152 (Nat.le_of_ble_eq_true rfl) ?_
  show qr_W (qe L xs vb) (d + 1) qx_e152 _ (0, [(0, .ref 42), (1, .int (qz 4)), (2, .int (qz 5)), (3, .int (qz 0)), (4, .int (qz x4)), (5, .int (qz x5)), (6, .int (qz x6))], [], _, 0, 0)
  have hF0 := qFr_rf [(42, 1)] [43] σ α
  have hz42_1 : (-2147483648) ≤ σ 42 1 ∧ σ 42 1 ≤ 2147483647 := hI.1 42 1
  refine qr_iload_n 1 rfl rfl rfl ?_
  refine qr_istore _ 3 rfl (by decide) rfl rfl ?_
  refine qr_iconst 4 rfl rfl ?_
  refine qr_istore _ 6 rfl (by decide) rfl rfl ?_
  refine qr_iload 8 rfl rfl rfl ?_
  refine qr_getst 11 rfl rfl ?_
  refine qr_alen 12 rfl rfl (by first | exact Or.inl (by decide) | exact Or.inr (Or.inl rfl) | exact Or.inr (Or.inr (Or.inl rfl)) | exact Or.inr (Or.inr (Or.inr (Or.inl rfl)))) rfl ?_
  refine qy_v 7 rfl ?_
  refine qr_icmp_ge 89 15 rfl rfl rfl (by decide) (by decide) (fun h => False.elim (by omega)) (fun h1 => ?_)
  refine qr_iload 17 rfl rfl rfl ?_
  refine qr_if_lt 89 20 rfl rfl rfl (by decide) (fun h => False.elim (by omega)) (fun h2 => ?_)
  refine qr_iload 22 rfl rfl rfl ?_
  refine qr_getst 25 rfl rfl ?_
  refine qr_alen 26 rfl rfl (by first | exact Or.inl (by decide) | exact Or.inr (Or.inl rfl) | exact Or.inr (Or.inr (Or.inl rfl)) | exact Or.inr (Or.inr (Or.inr (Or.inl rfl)))) rfl ?_
  refine qy_v 7 rfl ?_
  refine qr_icmp_ge 89 29 rfl rfl rfl (by decide) (by decide) (fun h => False.elim (by omega)) (fun h3 => ?_)
  refine qr_getst 32 rfl rfl ?_
  refine qr_iload 34 rfl rfl rfl ?_
  refine qr_iconst 35 rfl rfl ?_
  refine qr_imul 36 rfl rfl ?_
  refine qy_v 16 rfl ?_
  refine qr_iload_n 37 rfl rfl rfl ?_
  refine qr_iadd 38 rfl rfl ?_
  refine qy_v 16 rfl ?_
  refine qr_iaload 39 rfl rfl (by decide) (by decide) rfl ?_
  refine qy_v 0 (by decide) ?_
  refine qr_istore _ 41 rfl (by decide) rfl rfl ?_
  refine qr_iload 43 rfl rfl rfl ?_
  refine qr_if_eq 75 46 rfl rfl rfl (by decide) (fun h4 => ?_) (fun h => False.elim (by omega))
  refine qr_getst 78 rfl rfl ?_
  refine qr_iload 80 rfl rfl rfl ?_
  refine qr_iaload 81 rfl rfl (by decide) (by decide) rfl ?_
  refine qy_v 0 (by decide) ?_
  refine qr_istore _ 83 rfl (by decide) rfl rfl ?_
  refine qr_iinc _ 86 rfl rfl (by decide) rfl rfl ?_
  refine qr_goto 6 rfl rfl ?_
  refine qr_iload 8 rfl rfl rfl ?_
  refine qr_getst 11 rfl rfl ?_
  refine qr_alen 12 rfl rfl (by first | exact Or.inl (by decide) | exact Or.inr (Or.inl rfl) | exact Or.inr (Or.inr (Or.inl rfl)) | exact Or.inr (Or.inr (Or.inr (Or.inl rfl)))) rfl ?_
  refine qy_v 7 rfl ?_
  refine qr_icmp_ge 89 15 rfl rfl rfl (by omega) (by decide) (fun h => False.elim (by omega)) (fun h5 => ?_)
  refine qr_iload 17 rfl rfl rfl ?_
  refine qr_if_lt 89 20 rfl rfl rfl (by decide) (fun h => False.elim (by omega)) (fun h6 => ?_)
  refine qr_iload 22 rfl rfl rfl ?_
  refine qr_getst 25 rfl rfl ?_
  refine qr_alen 26 rfl rfl (by first | exact Or.inl (by decide) | exact Or.inr (Or.inl rfl) | exact Or.inr (Or.inr (Or.inl rfl)) | exact Or.inr (Or.inr (Or.inr (Or.inl rfl)))) rfl ?_
  refine qy_v 7 rfl ?_
  refine qr_icmp_ge 89 29 rfl rfl rfl (by decide) (by decide) (fun h => False.elim (by omega)) (fun h7 => ?_)
  refine qr_getst 32 rfl rfl ?_
  refine qr_iload 34 rfl rfl rfl ?_
  refine qr_iconst 35 rfl rfl ?_
  refine qr_imul 36 rfl rfl ?_
  refine qy_v 0 rfl ?_
  refine qr_iload_n 37 rfl rfl rfl ?_
  refine qr_iadd 38 rfl rfl ?_
  refine qy_v 0 rfl ?_
  refine qr_iaload 39 rfl rfl (by decide) (by decide) rfl ?_
  refine qy_v 1 (by decide) ?_
  refine qr_istore _ 41 rfl (by decide) rfl rfl ?_
  refine qr_iload 43 rfl rfl rfl ?_
  refine qr_if_eq 75 46 rfl rfl rfl (by decide) (fun h => False.elim (by omega)) (fun h8 => ?_)
  as_aux_lemma =>
    refine qr_iload 48 rfl rfl rfl ?_
    refine qr_bipush 50 rfl (by decide) rfl ?_
    refine qr_icmp_le 57 53 rfl rfl rfl (qrg r6 (by decide) (by decide)) (by decide) (fun h9 => ?_) (fun h => False.elim (by omega))
    refine qr_aload_n 58 rfl rfl rfl ?_
    refine qr_iload 60 rfl rfl rfl ?_
    refine qr_iload 62 rfl rfl rfl ?_
    refine qr_iload_n 63 rfl rfl rfl ?_
    refine qr_iload 65 rfl rfl rfl ?_
    refine qr_iload 67 rfl rfl rfl ?_
    refine qr_iload 69 rfl rfl rfl ?_
    refine qr_iconst 70 rfl rfl ?_
    refine qr_iadd 71 rfl rfl ?_
    have hs10 : (-2147483648) ≤ σ 42 1 ∧ σ 42 1 ≤ 2147483647 := hI.1 42 1
    refine qr_callN 74 rfl rfl rfl (sf_153_42b1_0_5 (d := d + 0) hI r4 r5 (by omega) (by omega)) ?_
    have hs13 : (-2147483648) ≤ σ 42 1 ∧ σ 42 1 ≤ 2147483647 := hI.1 42 1
    rintro _ _ ⟨σ14, α15, rfl, hI16, hG17, v11, rfl, hv11, hp12⟩
    have hF18 : qFr [(42, 1)] [43] σ α σ14 α15 := qFr_t hF0 hG17 (by decide) (by decide)
    have hs19 : (-2147483648) ≤ σ14 42 1 ∧ σ14 42 1 ≤ 2147483647 := hI16.1 42 1
    show qr_W (qe L xs vb) (d + 1) qx_e152 _ (74, _, [.int (qz v11)], qw σ14 α15 κ ρ, 0, 0)
    refine qr_retI rfl rfl (by decide) (by decide) ?_
    have hw20 : σ14 42 1 = (σ14 42 1) := rfl
    exact ⟨_, _, rfl, hI16, hF18, v11, rfl, hv11, by omega⟩

set_option maxHeartbeats 4000000 in
set_option maxRecDepth 20000 in
/-- OneRoof$Acts.begin -/
theorem sf_153_42b11_0_5 {L : Nat} {xs : Nat → Int} {vb : Bool} {d : Nat} {σ α : Nat → Nat → Int} {κ : Nat → Option Nat} {ρ : Nat} {x4 : Int} {x5 : Int} {x6 : Int} (hI : qI σ α κ ρ) (r4 : (-2147483648) ≤ x4 ∧ x4 ≤ 2147483647) (r5 : (-2147483648) ≤ x5 ∧ x5 ≤ 2147483647) (r6 : 0 ≤ x6 ∧ x6 ≤ 40) (p0 : 0 ≤ σ 42 1 ∧ σ 42 1 ≤ 1900) : qm_T (qe L xs vb) (d + 1) 153 [.ref 42, .int (qz 11), .int (qz 0), .int (qz 5), .int (qz x4), .int (qz x5), .int (qz x6)] (qw σ α κ ρ) (fun r w' => ∃ σ' α', w' = qw σ' α' κ ρ ∧ qI σ' α' κ ρ ∧ qFr [(42, 1)] [43] σ α σ' α' ∧ ∃ v : Int, r = some (.int (qz v)) ∧ ((-2147483648) ≤ v ∧ v ≤ 2147483647) ∧ σ' 42 1 = σ 42 1 + 1) := by
  refine qr_start (d := d + 0) qv_e153 (Nat.le_of_ble_eq_true rfl) ?_
  show qr_W (qe L xs vb) (d + 0) qx_e153 _ (0, [(0, .ref 42), (1, .int (qz 11)), (2, .int (qz 0)), (3, .int (qz 5)), (4, .int (qz x4)), (5, .int (qz x5)), (6, .int (qz x6))], [], _, 0, 0)
  have hF0 := qFr_rf [(42, 1)] [43] σ α
  have hz42_1 : (-2147483648) ≤ σ 42 1 ∧ σ 42 1 ≤ 2147483647 := hI.1 42 1
  refine qr_aload_n 1 rfl rfl rfl ?_
  refine qr_get 4 rfl rfl rfl (by decide) rfl ?_
  refine qr_aload_n 5 rfl rfl rfl ?_
  refine qr_get 8 rfl rfl rfl (by decide) rfl ?_
  refine qr_alen 9 rfl rfl (by first | exact Or.inl (by decide) | exact Or.inr (Or.inl rfl) | exact Or.inr (Or.inr (Or.inl rfl)) | exact Or.inr (Or.inr (Or.inr (Or.inl rfl)))) rfl ?_
  refine qy_v 24 rfl ?_
  refine qr_icmp_ge 22 12 rfl rfl rfl hz42_1 (by decide) (fun h1 => ?_) (fun h1 => ?_)
  · skip
    refine qr_aload_n 23 rfl rfl rfl ?_
    refine qr_dup 24 rfl rfl rfl ?_
    refine qr_get 27 rfl rfl rfl (by decide) rfl ?_
    refine qr_iconst 28 rfl rfl ?_
    refine qr_iadd 29 rfl rfl ?_
    refine qr_put 32 rfl (by decide) rfl (Nat.le_of_ble_eq_true rfl) (Nat.le_of_ble_eq_true rfl) (Or.inl rfl) (qr_fitI rfl _) rfl ?_
    refine qy_wS (qw_s σ 42 1 ((σ 42 1) + 1)) rfl (fun σ2 e3 => ?_)
    have hI4 : qI σ2 α κ ρ := by rw [e3]; exact qI_s hI 42 1 rfl (show (-2147483648) ≤ ((σ 42 1) + 1) ∧ ((σ 42 1) + 1) ≤ 2147483647 by omega)
    have hF5 : qFr [(42, 1)] [43] σ α σ2 α := by rw [e3]; exact qFr_s hF0 42 1 _ (by decide)
    refine qr_getst 35 rfl rfl ?_
    refine qr_iload_n 36 rfl rfl rfl ?_
    refine qr_iaload 37 rfl rfl (by decide) (by decide) rfl ?_
    refine qy_v (-1) (by decide) ?_
    refine qr_istore _ 39 rfl (by decide) rfl rfl ?_
    refine qr_iload_n 40 rfl rfl rfl ?_
    refine qr_look (off := 154) 194 rfl (by omega) (by decide) (by decide) rfl ?_
    refine qr_iload 196 rfl rfl rfl ?_
    refine qr_iload 198 rfl rfl rfl ?_
    refine qr_ixor 199 rfl rfl ?_
    refine qy_can (fun v6 hv6 => ?_)
    refine qr_retI rfl rfl (by decide) (by decide) ?_
    have hw7 : σ2 42 1 = ((σ 42 1) + 1) := (congrFun (congrFun e3 42) 1).trans rfl
    exact ⟨_, _, rfl, hI4, hF5, v6, rfl, hv6, by omega⟩
  · skip
    refine qr_aload_n 13 rfl rfl rfl ?_
    refine qr_get 16 rfl rfl rfl (by decide) rfl ?_
    refine qr_aload_n 17 rfl rfl rfl ?_
    refine qr_get 20 rfl rfl rfl (by decide) rfl ?_
    refine qr_iload_n 21 rfl rfl rfl ?_
    refine qr_iastore 22 rfl (by decide) rfl (by omega) (by decide) rfl ?_
    refine qy_wA (qw_r α 43 (qzu (α 43) ((σ 42 1) : Int).toNat 11)) rfl (fun α8 e9 => ?_)
    have hI10 : qI σ α8 κ ρ := by rw [e9]; exact qI_r hI 43 _ rfl (show (-2147483648) ≤ 11 ∧ 11 ≤ 2147483647 by omega)
    have hF11 : qFr [(42, 1)] [43] σ α σ α8 := by rw [e9]; exact qFr_r hF0 43 _ (by decide)
    refine qr_aload_n 23 rfl rfl rfl ?_
    refine qr_dup 24 rfl rfl rfl ?_
    refine qr_get 27 rfl rfl rfl (by decide) rfl ?_
    refine qr_iconst 28 rfl rfl ?_
    refine qr_iadd 29 rfl rfl ?_
    refine qr_put 32 rfl (by decide) rfl (Nat.le_of_ble_eq_true rfl) (Nat.le_of_ble_eq_true rfl) (Or.inl rfl) (qr_fitI rfl _) rfl ?_
    refine qy_wS (qw_s σ 42 1 ((σ 42 1) + 1)) rfl (fun σ12 e13 => ?_)
    have hI14 : qI σ12 α8 κ ρ := by rw [e13]; exact qI_s hI10 42 1 rfl (show (-2147483648) ≤ ((σ 42 1) + 1) ∧ ((σ 42 1) + 1) ≤ 2147483647 by omega)
    have hF15 : qFr [(42, 1)] [43] σ α σ12 α8 := by rw [e13]; exact qFr_s hF11 42 1 _ (by decide)
    refine qr_getst 35 rfl rfl ?_
    refine qr_iload_n 36 rfl rfl rfl ?_
    refine qr_iaload 37 rfl rfl (by decide) (by decide) rfl ?_
    refine qy_v (-1) (by decide) ?_
    refine qr_istore _ 39 rfl (by decide) rfl rfl ?_
    refine qr_iload_n 40 rfl rfl rfl ?_
    refine qr_look (off := 154) 194 rfl (by omega) (by decide) (by decide) rfl ?_
    refine qr_iload 196 rfl rfl rfl ?_
    refine qr_iload 198 rfl rfl rfl ?_
    refine qr_ixor 199 rfl rfl ?_
    refine qy_can (fun v16 hv16 => ?_)
    refine qr_retI rfl rfl (by decide) (by decide) ?_
    have hw17 : σ12 42 1 = ((σ 42 1) + 1) := (congrFun (congrFun e13 42) 1).trans rfl
    exact ⟨_, _, rfl, hI14, hF15, v16, rfl, hv16, by omega⟩

set_option maxHeartbeats 4000000 in
set_option maxRecDepth 20000 in
/-- OneRoof$Acts.runFrom -/
theorem sf_152_42f5_5_2 {L : Nat} {xs : Nat → Int} {vb : Bool} {d : Nat} {σ α : Nat → Nat → Int} {κ : Nat → Option Nat} {ρ : Nat} {x4 : Int} {x5 : Int} {x6 : Int} (hI : qI σ α κ ρ) (r4 : (-2147483648) ≤ x4 ∧ x4 ≤ 2147483647) (r5 : (-2147483648) ≤ x5 ∧ x5 ≤ 2147483647) (r6 : 0 ≤ x6 ∧ x6 ≤ 39) (p0 : 0 ≤ σ 42 1 ∧ σ 42 1 ≤ 1900) : qm_T (qe L xs vb) (d + 2) 152 [.ref 42, .int (qz 5), .int (qz 5), .int (qz 2), .int (qz x4), .int (qz x5), .int (qz x6)] (qw σ α κ ρ) (fun r w' => ∃ σ' α', w' = qw σ' α' κ ρ ∧ qI σ' α' κ ρ ∧ qFr [(42, 1)] [43] σ α σ' α' ∧ ∃ v : Int, r = some (.int (qz v)) ∧ ((-2147483648) ≤ v ∧ v ≤ 2147483647) ∧ σ' 42 1 = σ 42 1 + 1) := by
  refine qr_start (d := d + 1) qv_e152 (Nat.le_of_ble_eq_true rfl) ?_
  show qr_W (qe L xs vb) (d + 1) qx_e152 _ (0, [(0, .ref 42), (1, .int (qz 5)), (2, .int (qz 5)), (3, .int (qz 2)), (4, .int (qz x4)), (5, .int (qz x5)), (6, .int (qz x6))], [], _, 0, 0)
  have hF0 := qFr_rf [(42, 1)] [43] σ α
  have hz42_1 : (-2147483648) ≤ σ 42 1 ∧ σ 42 1 ≤ 2147483647 := hI.1 42 1
  refine qr_iload_n 1 rfl rfl rfl ?_
  refine qr_istore _ 3 rfl (by decide) rfl rfl ?_
  refine qr_iconst 4 rfl rfl ?_
  refine qr_istore _ 6 rfl (by decide) rfl rfl ?_
  refine qr_iload 8 rfl rfl rfl ?_
  refine qr_getst 11 rfl rfl ?_
  refine qr_alen 12 rfl rfl (by first | exact Or.inl (by decide) | exact Or.inr (Or.inl rfl) | exact Or.inr (Or.inr (Or.inl rfl)) | exact Or.inr (Or.inr (Or.inr (Or.inl rfl)))) rfl ?_
  refine qy_v 7 rfl ?_
  refine qr_icmp_ge 89 15 rfl rfl rfl (by decide) (by decide) (fun h => False.elim (by omega)) (fun h1 => ?_)
  refine qr_iload 17 rfl rfl rfl ?_
  refine qr_if_lt 89 20 rfl rfl rfl (by decide) (fun h => False.elim (by omega)) (fun h2 => ?_)
  refine qr_iload 22 rfl rfl rfl ?_
  refine qr_getst 25 rfl rfl ?_
  refine qr_alen 26 rfl rfl (by first | exact Or.inl (by decide) | exact Or.inr (Or.inl rfl) | exact Or.inr (Or.inr (Or.inl rfl)) | exact Or.inr (Or.inr (Or.inr (Or.inl rfl)))) rfl ?_
  refine qy_v 7 rfl ?_
  refine qr_icmp_ge 89 29 rfl rfl rfl (by decide) (by decide) (fun h => False.elim (by omega)) (fun h3 => ?_)
  refine qr_getst 32 rfl rfl ?_
  refine qr_iload 34 rfl rfl rfl ?_
  refine qr_iconst 35 rfl rfl ?_
  refine qr_imul 36 rfl rfl ?_
  refine qy_v 20 rfl ?_
  refine qr_iload_n 37 rfl rfl rfl ?_
  refine qr_iadd 38 rfl rfl ?_
  refine qy_v 22 rfl ?_
  refine qr_iaload 39 rfl rfl (by decide) (by decide) rfl ?_
  refine qy_v 0 (by decide) ?_
  refine qr_istore _ 41 rfl (by decide) rfl rfl ?_
  refine qr_iload 43 rfl rfl rfl ?_
  refine qr_if_eq 75 46 rfl rfl rfl (by decide) (fun h4 => ?_) (fun h => False.elim (by omega))
  refine qr_getst 78 rfl rfl ?_
  refine qr_iload 80 rfl rfl rfl ?_
  refine qr_iaload 81 rfl rfl (by decide) (by decide) rfl ?_
  refine qy_v 4 (by decide) ?_
  refine qr_istore _ 83 rfl (by decide) rfl rfl ?_
  refine qr_iinc _ 86 rfl rfl (by decide) rfl rfl ?_
  refine qr_goto 6 rfl rfl ?_
  refine qr_iload 8 rfl rfl rfl ?_
  refine qr_getst 11 rfl rfl ?_
  refine qr_alen 12 rfl rfl (by first | exact Or.inl (by decide) | exact Or.inr (Or.inl rfl) | exact Or.inr (Or.inr (Or.inl rfl)) | exact Or.inr (Or.inr (Or.inr (Or.inl rfl)))) rfl ?_
  refine qy_v 7 rfl ?_
  refine qr_icmp_ge 89 15 rfl rfl rfl (by omega) (by decide) (fun h => False.elim (by omega)) (fun h5 => ?_)
  refine qr_iload 17 rfl rfl rfl ?_
  refine qr_if_lt 89 20 rfl rfl rfl (by decide) (fun h => False.elim (by omega)) (fun h6 => ?_)
  refine qr_iload 22 rfl rfl rfl ?_
  refine qr_getst 25 rfl rfl ?_
  refine qr_alen 26 rfl rfl (by first | exact Or.inl (by decide) | exact Or.inr (Or.inl rfl) | exact Or.inr (Or.inr (Or.inl rfl)) | exact Or.inr (Or.inr (Or.inr (Or.inl rfl)))) rfl ?_
  refine qy_v 7 rfl ?_
  refine qr_icmp_ge 89 29 rfl rfl rfl (by decide) (by decide) (fun h => False.elim (by omega)) (fun h7 => ?_)
  refine qr_getst 32 rfl rfl ?_
  refine qr_iload 34 rfl rfl rfl ?_
  refine qr_iconst 35 rfl rfl ?_
  refine qr_imul 36 rfl rfl ?_
  refine qy_v 16 rfl ?_
  refine qr_iload_n 37 rfl rfl rfl ?_
  refine qr_iadd 38 rfl rfl ?_
  refine qy_v 18 rfl ?_
  refine qr_iaload 39 rfl rfl (by decide) (by decide) rfl ?_
  refine qy_v 0 (by decide) ?_
  refine qr_istore _ 41 rfl (by decide) rfl rfl ?_
  refine qr_iload 43 rfl rfl rfl ?_
  refine qr_if_eq 75 46 rfl rfl rfl (by decide) (fun h8 => ?_) (fun h => False.elim (by omega))
  as_aux_lemma =>
    refine qr_getst 78 rfl rfl ?_
    refine qr_iload 80 rfl rfl rfl ?_
    refine qr_iaload 81 rfl rfl (by decide) (by decide) rfl ?_
    refine qy_v 0 (by decide) ?_
    refine qr_istore _ 83 rfl (by decide) rfl rfl ?_
    refine qr_iinc _ 86 rfl rfl (by decide) rfl rfl ?_
    refine qr_goto 6 rfl rfl ?_
    refine qr_iload 8 rfl rfl rfl ?_
    refine qr_getst 11 rfl rfl ?_
    refine qr_alen 12 rfl rfl (by first | exact Or.inl (by decide) | exact Or.inr (Or.inl rfl) | exact Or.inr (Or.inr (Or.inl rfl)) | exact Or.inr (Or.inr (Or.inr (Or.inl rfl)))) rfl ?_
    refine qy_v 7 rfl ?_
    refine qr_icmp_ge 89 15 rfl rfl rfl (by omega) (by decide) (fun h => False.elim (by omega)) (fun h9 => ?_)
    refine qr_iload 17 rfl rfl rfl ?_
    refine qr_if_lt 89 20 rfl rfl rfl (by decide) (fun h => False.elim (by omega)) (fun h10 => ?_)
    refine qr_iload 22 rfl rfl rfl ?_
    refine qr_getst 25 rfl rfl ?_
    refine qr_alen 26 rfl rfl (by first | exact Or.inl (by decide) | exact Or.inr (Or.inl rfl) | exact Or.inr (Or.inr (Or.inl rfl)) | exact Or.inr (Or.inr (Or.inr (Or.inl rfl)))) rfl ?_
    refine qy_v 7 rfl ?_
    refine qr_icmp_ge 89 29 rfl rfl rfl (by decide) (by decide) (fun h => False.elim (by omega)) (fun h11 => ?_)
    refine qr_getst 32 rfl rfl ?_
    refine qr_iload 34 rfl rfl rfl ?_
    refine qr_iconst 35 rfl rfl ?_
    refine qr_imul 36 rfl rfl ?_
    refine qy_v 0 rfl ?_
    refine qr_iload_n 37 rfl rfl rfl ?_
    refine qr_iadd 38 rfl rfl ?_
    refine qy_v 2 rfl ?_
    refine qr_iaload 39 rfl rfl (by decide) (by decide) rfl ?_
    refine qy_v 11 (by decide) ?_
    refine qr_istore _ 41 rfl (by decide) rfl rfl ?_
    refine qr_iload 43 rfl rfl rfl ?_
    refine qr_if_eq 75 46 rfl rfl rfl (by decide) (fun h => False.elim (by omega)) (fun h12 => ?_)
    refine qr_iload 48 rfl rfl rfl ?_
    refine qr_bipush 50 rfl (by decide) rfl ?_
    refine qr_icmp_le 57 53 rfl rfl rfl (qrg r6 (by decide) (by decide)) (by decide) (fun h13 => ?_) (fun h => False.elim (by omega))
    refine qr_aload_n 58 rfl rfl rfl ?_
    refine qr_iload 60 rfl rfl rfl ?_
    refine qr_iload 62 rfl rfl rfl ?_
    refine qr_iload_n 63 rfl rfl rfl ?_
    refine qr_iload 65 rfl rfl rfl ?_
    refine qr_iload 67 rfl rfl rfl ?_
    refine qr_iload 69 rfl rfl rfl ?_
    refine qr_iconst 70 rfl rfl ?_
    refine qr_iadd 71 rfl rfl ?_
    have hs14 : (-2147483648) ≤ σ 42 1 ∧ σ 42 1 ≤ 2147483647 := hI.1 42 1
    refine qr_callN 74 rfl rfl rfl (sf_153_42b11_0_5 (d := d + 0) hI r4 r5 (by omega) (by omega)) ?_
    have hs17 : (-2147483648) ≤ σ 42 1 ∧ σ 42 1 ≤ 2147483647 := hI.1 42 1
    rintro _ _ ⟨σ18, α19, rfl, hI20, hG21, v15, rfl, hv15, hp16⟩
    have hF22 : qFr [(42, 1)] [43] σ α σ18 α19 := qFr_t hF0 hG21 (by decide) (by decide)
    have hs23 : (-2147483648) ≤ σ18 42 1 ∧ σ18 42 1 ≤ 2147483647 := hI20.1 42 1
    show qr_W (qe L xs vb) (d + 1) qx_e152 _ (74, _, [.int (qz v15)], qw σ18 α19 κ ρ, 0, 0)
    refine qr_retI rfl rfl (by decide) (by decide) ?_
    have hw24 : σ18 42 1 = (σ18 42 1) := rfl
    exact ⟨_, _, rfl, hI20, hF22, v15, rfl, hv15, by omega⟩

set_option maxHeartbeats 4000000 in
set_option maxRecDepth 20000 in
/-- OneRoof$Acts.run -/
theorem sf_151_42r5_2 {L : Nat} {xs : Nat → Int} {vb : Bool} {d : Nat} {σ α : Nat → Nat → Int} {κ : Nat → Option Nat} {ρ : Nat} {x3 : Int} {x4 : Int} {x5 : Int} (hI : qI σ α κ ρ) (r3 : (-2147483648) ≤ x3 ∧ x3 ≤ 2147483647) (r4 : (-2147483648) ≤ x4 ∧ x4 ≤ 2147483647) (r5 : 0 ≤ x5 ∧ x5 ≤ 39) (p0 : 0 ≤ σ 42 1 ∧ σ 42 1 ≤ 1900) : qm_T (qe L xs vb) (d + 3) 151 [.ref 42, .int (qz 5), .int (qz 2), .int (qz x3), .int (qz x4), .int (qz x5)] (qw σ α κ ρ) (fun r w' => ∃ σ' α', w' = qw σ' α' κ ρ ∧ qI σ' α' κ ρ ∧ qFr [(42, 1)] [43] σ α σ' α' ∧ ∃ v : Int, r = some (.int (qz v)) ∧ ((-2147483648) ≤ v ∧ v ≤ 2147483647) ∧ σ' 42 1 = σ 42 1 + 1) := by
  refine qr_start (d := d + 2) qv_e151 (Nat.le_of_ble_eq_true rfl) ?_
  show qr_W (qe L xs vb) (d + 2) qx_e151 _ (0, [(0, .ref 42), (1, .int (qz 5)), (2, .int (qz 2)), (3, .int (qz x3)), (4, .int (qz x4)), (5, .int (qz x5))], [], _, 0, 0)
  have hF0 := qFr_rf [(42, 1)] [43] σ α
  have hz42_1 : (-2147483648) ≤ σ 42 1 ∧ σ 42 1 ≤ 2147483647 := hI.1 42 1
  refine qr_aload_n 1 rfl rfl rfl ?_
  refine qr_iload_n 2 rfl rfl rfl ?_
  refine qr_iload_n 3 rfl rfl rfl ?_
  refine qr_iload_n 4 rfl rfl rfl ?_
  refine qr_iload_n 5 rfl rfl rfl ?_
  refine qr_iload 7 rfl rfl rfl ?_
  refine qr_iload 9 rfl rfl rfl ?_
  have hs1 : (-2147483648) ≤ σ 42 1 ∧ σ 42 1 ≤ 2147483647 := hI.1 42 1
  refine qr_callN 12 rfl rfl rfl (sf_152_42f5_5_2 (d := d + 0) hI r3 r4 r5 (by omega)) ?_
  have hs4 : (-2147483648) ≤ σ 42 1 ∧ σ 42 1 ≤ 2147483647 := hI.1 42 1
  rintro _ _ ⟨σ5, α6, rfl, hI7, hG8, v2, rfl, hv2, hp3⟩
  have hF9 : qFr [(42, 1)] [43] σ α σ5 α6 := qFr_t hF0 hG8 (by decide) (by decide)
  have hs10 : (-2147483648) ≤ σ5 42 1 ∧ σ5 42 1 ≤ 2147483647 := hI7.1 42 1
  show qr_W (qe L xs vb) (d + 2) qx_e151 _ (12, _, [.int (qz v2)], qw σ5 α6 κ ρ, 0, 0)
  refine qr_retI rfl rfl (by decide) (by decide) ?_
  have hw11 : σ5 42 1 = (σ5 42 1) := rfl
  exact ⟨_, _, rfl, hI7, hF9, v2, rfl, hv2, by omega⟩

set_option maxHeartbeats 4000000 in
set_option maxRecDepth 20000 in
/-- OneRoof$Acts.begin -/
theorem sf_153_42b60_5_5 {L : Nat} {xs : Nat → Int} {vb : Bool} {d : Nat} {σ α : Nat → Nat → Int} {κ : Nat → Option Nat} {ρ : Nat} {x4 : Int} {x5 : Int} {x6 : Int} (hI : qI σ α κ ρ) (r4 : (-2147483648) ≤ x4 ∧ x4 ≤ 2147483647) (r5 : (-2147483648) ≤ x5 ∧ x5 ≤ 2147483647) (r6 : 0 ≤ x6 ∧ x6 ≤ 39) (p0 : 0 ≤ σ 42 1 ∧ σ 42 1 ≤ 1800) : qm_T (qe L xs vb) (d + 4) 153 [.ref 42, .int (qz 60), .int (qz 5), .int (qz 5), .int (qz x4), .int (qz x5), .int (qz x6)] (qw σ α κ ρ) (fun r w' => ∃ σ' α', w' = qw σ' α' κ ρ ∧ qI σ' α' κ ρ ∧ qFr [(42, 1)] [43] σ α σ' α' ∧ ∃ v : Int, r = some (.int (qz v)) ∧ ((-2147483648) ≤ v ∧ v ≤ 2147483647) ∧ σ' 42 1 = σ 42 1 + 3) := by
  refine qr_start (d := d + 3) qv_e153 (Nat.le_of_ble_eq_true rfl) ?_
  show qr_W (qe L xs vb) (d + 3) qx_e153 _ (0, [(0, .ref 42), (1, .int (qz 60)), (2, .int (qz 5)), (3, .int (qz 5)), (4, .int (qz x4)), (5, .int (qz x5)), (6, .int (qz x6))], [], _, 0, 0)
  have hF0 := qFr_rf [(42, 1)] [43] σ α
  have hz42_1 : (-2147483648) ≤ σ 42 1 ∧ σ 42 1 ≤ 2147483647 := hI.1 42 1
  refine qr_aload_n 1 rfl rfl rfl ?_
  refine qr_get 4 rfl rfl rfl (by decide) rfl ?_
  refine qr_aload_n 5 rfl rfl rfl ?_
  refine qr_get 8 rfl rfl rfl (by decide) rfl ?_
  refine qr_alen 9 rfl rfl (by first | exact Or.inl (by decide) | exact Or.inr (Or.inl rfl) | exact Or.inr (Or.inr (Or.inl rfl)) | exact Or.inr (Or.inr (Or.inr (Or.inl rfl)))) rfl ?_
  refine qy_v 24 rfl ?_
  refine qr_icmp_ge 22 12 rfl rfl rfl hz42_1 (by decide) (fun h1 => ?_) (fun h1 => ?_)
  · skip
    refine qr_aload_n 23 rfl rfl rfl ?_
    refine qr_dup 24 rfl rfl rfl ?_
    refine qr_get 27 rfl rfl rfl (by decide) rfl ?_
    refine qr_iconst 28 rfl rfl ?_
    refine qr_iadd 29 rfl rfl ?_
    refine qr_put 32 rfl (by decide) rfl (Nat.le_of_ble_eq_true rfl) (Nat.le_of_ble_eq_true rfl) (Or.inl rfl) (qr_fitI rfl _) rfl ?_
    refine qy_wS (qw_s σ 42 1 ((σ 42 1) + 1)) rfl (fun σ2 e3 => ?_)
    have hI4 : qI σ2 α κ ρ := by rw [e3]; exact qI_s hI 42 1 rfl (show (-2147483648) ≤ ((σ 42 1) + 1) ∧ ((σ 42 1) + 1) ≤ 2147483647 by omega)
    have hF5 : qFr [(42, 1)] [43] σ α σ2 α := by rw [e3]; exact qFr_s hF0 42 1 _ (by decide)
    refine qr_getst 35 rfl rfl ?_
    refine qr_iload_n 36 rfl rfl rfl ?_
    refine qr_iaload 37 rfl rfl (by decide) (by decide) rfl ?_
    refine qy_v 4 (by decide) ?_
    refine qr_istore _ 39 rfl (by decide) rfl rfl ?_
    refine qr_iload_n 40 rfl rfl rfl ?_
    refine qr_look (off := 244) 284 rfl (by omega) (by decide) (by decide) rfl ?_
    refine qr_aload_n 285 rfl rfl rfl ?_
    refine qr_iload 287 rfl rfl rfl ?_
    refine qr_iload_n 288 rfl rfl rfl ?_
    refine qr_iconst 289 rfl rfl ?_
    refine qr_iload 291 rfl rfl rfl ?_
    refine qr_iload 293 rfl rfl rfl ?_
    refine qr_iload 295 rfl rfl rfl ?_
    have hs6 : (-2147483648) ≤ σ2 42 1 ∧ σ2 42 1 ≤ 2147483647 := hI4.1 42 1
    have hs7 : σ2 42 1 = ((σ 42 1) + 1) := (congrFun (congrFun e3 42) 1).trans rfl
    refine qr_callN 298 rfl rfl rfl (sf_152_42f4_5_0 (d := d + 1) hI4 r4 r5 r6 (by omega)) ?_
    have hs10 : (-2147483648) ≤ σ2 42 1 ∧ σ2 42 1 ≤ 2147483647 := hI4.1 42 1
    have hs11 : σ2 42 1 = ((σ 42 1) + 1) := (congrFun (congrFun e3 42) 1).trans rfl
    rintro _ _ ⟨σ12, α13, rfl, hI14, hG15, v8, rfl, hv8, hp9⟩
    have hF16 : qFr [(42, 1)] [43] σ α σ12 α13 := qFr_t hF5 hG15 (by decide) (by decide)
    have hs17 : (-2147483648) ≤ σ12 42 1 ∧ σ12 42 1 ≤ 2147483647 := hI14.1 42 1
    show qr_W (qe L xs vb) (d + 3) qx_e153 _ (298, _, [.int (qz v8)], qw σ12 α13 κ ρ, 0, 0)
    refine qr_aload_n 299 rfl rfl rfl ?_
    refine qr_iload_n 300 rfl rfl rfl ?_
    refine qr_iconst 301 rfl rfl ?_
    refine qr_iconst 302 rfl rfl ?_
    refine qr_iload 304 rfl rfl rfl ?_
    refine qr_iload 306 rfl rfl rfl ?_
    have hs18 : (-2147483648) ≤ σ12 42 1 ∧ σ12 42 1 ≤ 2147483647 := hI14.1 42 1
    refine qr_callN 309 rfl rfl rfl (sf_151_42r5_2 (d := d + 0) hI14 (by decide) r5 r6 (by omega)) ?_
    have hs21 : (-2147483648) ≤ σ12 42 1 ∧ σ12 42 1 ≤ 2147483647 := hI14.1 42 1
    rintro _ _ ⟨σ22, α23, rfl, hI24, hG25, v19, rfl, hv19, hp20⟩
    have hF26 : qFr [(42, 1)] [43] σ α σ22 α23 := qFr_t hF16 hG25 (by decide) (by decide)
    have hs27 : (-2147483648) ≤ σ22 42 1 ∧ σ22 42 1 ≤ 2147483647 := hI24.1 42 1
    show qr_W (qe L xs vb) (d + 3) qx_e153 _ (309, _, [.int (qz v19), .int (qz v8)], qw σ22 α23 κ ρ, 0, 0)
    refine qr_isub 310 rfl rfl ?_
    refine qy_can (fun v28 hv28 => ?_)
    refine qr_retI rfl rfl (by decide) (by decide) ?_
    have hw29 : σ22 42 1 = (σ22 42 1) := rfl
    exact ⟨_, _, rfl, hI24, hF26, v28, rfl, hv28, by omega⟩
  · skip
    refine qr_aload_n 13 rfl rfl rfl ?_
    refine qr_get 16 rfl rfl rfl (by decide) rfl ?_
    refine qr_aload_n 17 rfl rfl rfl ?_
    refine qr_get 20 rfl rfl rfl (by decide) rfl ?_
    refine qr_iload_n 21 rfl rfl rfl ?_
    refine qr_iastore 22 rfl (by decide) rfl (by omega) (by decide) rfl ?_
    refine qy_wA (qw_r α 43 (qzu (α 43) ((σ 42 1) : Int).toNat 60)) rfl (fun α30 e31 => ?_)
    have hI32 : qI σ α30 κ ρ := by rw [e31]; exact qI_r hI 43 _ rfl (show (-2147483648) ≤ 60 ∧ 60 ≤ 2147483647 by omega)
    have hF33 : qFr [(42, 1)] [43] σ α σ α30 := by rw [e31]; exact qFr_r hF0 43 _ (by decide)
    refine qr_aload_n 23 rfl rfl rfl ?_
    refine qr_dup 24 rfl rfl rfl ?_
    refine qr_get 27 rfl rfl rfl (by decide) rfl ?_
    refine qr_iconst 28 rfl rfl ?_
    refine qr_iadd 29 rfl rfl ?_
    refine qr_put 32 rfl (by decide) rfl (Nat.le_of_ble_eq_true rfl) (Nat.le_of_ble_eq_true rfl) (Or.inl rfl) (qr_fitI rfl _) rfl ?_
    refine qy_wS (qw_s σ 42 1 ((σ 42 1) + 1)) rfl (fun σ34 e35 => ?_)
    have hI36 : qI σ34 α30 κ ρ := by rw [e35]; exact qI_s hI32 42 1 rfl (show (-2147483648) ≤ ((σ 42 1) + 1) ∧ ((σ 42 1) + 1) ≤ 2147483647 by omega)
    have hF37 : qFr [(42, 1)] [43] σ α σ34 α30 := by rw [e35]; exact qFr_s hF33 42 1 _ (by decide)
    refine qr_getst 35 rfl rfl ?_
    refine qr_iload_n 36 rfl rfl rfl ?_
    refine qr_iaload 37 rfl rfl (by decide) (by decide) rfl ?_
    refine qy_v 4 (by decide) ?_
    refine qr_istore _ 39 rfl (by decide) rfl rfl ?_
    refine qr_iload_n 40 rfl rfl rfl ?_
    refine qr_look (off := 244) 284 rfl (by omega) (by decide) (by decide) rfl ?_
    refine qr_aload_n 285 rfl rfl rfl ?_
    refine qr_iload 287 rfl rfl rfl ?_
    refine qr_iload_n 288 rfl rfl rfl ?_
    refine qr_iconst 289 rfl rfl ?_
    refine qr_iload 291 rfl rfl rfl ?_
    refine qr_iload 293 rfl rfl rfl ?_
    refine qr_iload 295 rfl rfl rfl ?_
    have hs38 : (-2147483648) ≤ σ34 42 1 ∧ σ34 42 1 ≤ 2147483647 := hI36.1 42 1
    have hs39 : σ34 42 1 = ((σ 42 1) + 1) := (congrFun (congrFun e35 42) 1).trans rfl
    refine qr_callN 298 rfl rfl rfl (sf_152_42f4_5_0 (d := d + 1) hI36 r4 r5 r6 (by omega)) ?_
    have hs42 : (-2147483648) ≤ σ34 42 1 ∧ σ34 42 1 ≤ 2147483647 := hI36.1 42 1
    have hs43 : σ34 42 1 = ((σ 42 1) + 1) := (congrFun (congrFun e35 42) 1).trans rfl
    rintro _ _ ⟨σ44, α45, rfl, hI46, hG47, v40, rfl, hv40, hp41⟩
    have hF48 : qFr [(42, 1)] [43] σ α σ44 α45 := qFr_t hF37 hG47 (by decide) (by decide)
    have hs49 : (-2147483648) ≤ σ44 42 1 ∧ σ44 42 1 ≤ 2147483647 := hI46.1 42 1
    show qr_W (qe L xs vb) (d + 3) qx_e153 _ (298, _, [.int (qz v40)], qw σ44 α45 κ ρ, 0, 0)
    refine qr_aload_n 299 rfl rfl rfl ?_
    refine qr_iload_n 300 rfl rfl rfl ?_
    refine qr_iconst 301 rfl rfl ?_
    refine qr_iconst 302 rfl rfl ?_
    refine qr_iload 304 rfl rfl rfl ?_
    refine qr_iload 306 rfl rfl rfl ?_
    have hs50 : (-2147483648) ≤ σ44 42 1 ∧ σ44 42 1 ≤ 2147483647 := hI46.1 42 1
    refine qr_callN 309 rfl rfl rfl (sf_151_42r5_2 (d := d + 0) hI46 (by decide) r5 r6 (by omega)) ?_
    have hs53 : (-2147483648) ≤ σ44 42 1 ∧ σ44 42 1 ≤ 2147483647 := hI46.1 42 1
    rintro _ _ ⟨σ54, α55, rfl, hI56, hG57, v51, rfl, hv51, hp52⟩
    have hF58 : qFr [(42, 1)] [43] σ α σ54 α55 := qFr_t hF48 hG57 (by decide) (by decide)
    have hs59 : (-2147483648) ≤ σ54 42 1 ∧ σ54 42 1 ≤ 2147483647 := hI56.1 42 1
    show qr_W (qe L xs vb) (d + 3) qx_e153 _ (309, _, [.int (qz v51), .int (qz v40)], qw σ54 α55 κ ρ, 0, 0)
    refine qr_isub 310 rfl rfl ?_
    refine qy_can (fun v60 hv60 => ?_)
    refine qr_retI rfl rfl (by decide) (by decide) ?_
    have hw61 : σ54 42 1 = (σ54 42 1) := rfl
    exact ⟨_, _, rfl, hI56, hF58, v60, rfl, hv60, by omega⟩

set_option maxHeartbeats 4000000 in
set_option maxRecDepth 20000 in
/-- OneRoof$Acts.runFrom -/
theorem sf_152_42f5_5_0 {L : Nat} {xs : Nat → Int} {vb : Bool} {d : Nat} {σ α : Nat → Nat → Int} {κ : Nat → Option Nat} {ρ : Nat} {x4 : Int} {x5 : Int} {x6 : Int} (hI : qI σ α κ ρ) (r4 : (-2147483648) ≤ x4 ∧ x4 ≤ 2147483647) (r5 : (-2147483648) ≤ x5 ∧ x5 ≤ 2147483647) (r6 : 0 ≤ x6 ∧ x6 ≤ 38) (p0 : 0 ≤ σ 42 1 ∧ σ 42 1 ≤ 1800) : qm_T (qe L xs vb) (d + 5) 152 [.ref 42, .int (qz 5), .int (qz 5), .int (qz 0), .int (qz x4), .int (qz x5), .int (qz x6)] (qw σ α κ ρ) (fun r w' => ∃ σ' α', w' = qw σ' α' κ ρ ∧ qI σ' α' κ ρ ∧ qFr [(42, 1)] [43] σ α σ' α' ∧ ∃ v : Int, r = some (.int (qz v)) ∧ ((-2147483648) ≤ v ∧ v ≤ 2147483647) ∧ σ' 42 1 = σ 42 1 + 3) := by
  refine qr_start (d := d + 4) qv_e152 (Nat.le_of_ble_eq_true rfl) ?_
  show qr_W (qe L xs vb) (d + 4) qx_e152 _ (0, [(0, .ref 42), (1, .int (qz 5)), (2, .int (qz 5)), (3, .int (qz 0)), (4, .int (qz x4)), (5, .int (qz x5)), (6, .int (qz x6))], [], _, 0, 0)
  have hF0 := qFr_rf [(42, 1)] [43] σ α
  have hz42_1 : (-2147483648) ≤ σ 42 1 ∧ σ 42 1 ≤ 2147483647 := hI.1 42 1
  refine qr_iload_n 1 rfl rfl rfl ?_
  refine qr_istore _ 3 rfl (by decide) rfl rfl ?_
  refine qr_iconst 4 rfl rfl ?_
  refine qr_istore _ 6 rfl (by decide) rfl rfl ?_
  refine qr_iload 8 rfl rfl rfl ?_
  refine qr_getst 11 rfl rfl ?_
  refine qr_alen 12 rfl rfl (by first | exact Or.inl (by decide) | exact Or.inr (Or.inl rfl) | exact Or.inr (Or.inr (Or.inl rfl)) | exact Or.inr (Or.inr (Or.inr (Or.inl rfl)))) rfl ?_
  refine qy_v 7 rfl ?_
  refine qr_icmp_ge 89 15 rfl rfl rfl (by decide) (by decide) (fun h => False.elim (by omega)) (fun h1 => ?_)
  refine qr_iload 17 rfl rfl rfl ?_
  refine qr_if_lt 89 20 rfl rfl rfl (by decide) (fun h => False.elim (by omega)) (fun h2 => ?_)
  refine qr_iload 22 rfl rfl rfl ?_
  refine qr_getst 25 rfl rfl ?_
  refine qr_alen 26 rfl rfl (by first | exact Or.inl (by decide) | exact Or.inr (Or.inl rfl) | exact Or.inr (Or.inr (Or.inl rfl)) | exact Or.inr (Or.inr (Or.inr (Or.inl rfl)))) rfl ?_
  refine qy_v 7 rfl ?_
  refine qr_icmp_ge 89 29 rfl rfl rfl (by decide) (by decide) (fun h => False.elim (by omega)) (fun h3 => ?_)
  refine qr_getst 32 rfl rfl ?_
  refine qr_iload 34 rfl rfl rfl ?_
  refine qr_iconst 35 rfl rfl ?_
  refine qr_imul 36 rfl rfl ?_
  refine qy_v 20 rfl ?_
  refine qr_iload_n 37 rfl rfl rfl ?_
  refine qr_iadd 38 rfl rfl ?_
  refine qy_v 20 rfl ?_
  refine qr_iaload 39 rfl rfl (by decide) (by decide) rfl ?_
  refine qy_v 60 (by decide) ?_
  refine qr_istore _ 41 rfl (by decide) rfl rfl ?_
  refine qr_iload 43 rfl rfl rfl ?_
  refine qr_if_eq 75 46 rfl rfl rfl (by decide) (fun h => False.elim (by omega)) (fun h4 => ?_)
  refine qr_iload 48 rfl rfl rfl ?_
  refine qr_bipush 50 rfl (by decide) rfl ?_
  refine qr_icmp_le 57 53 rfl rfl rfl (qrg r6 (by decide) (by decide)) (by decide) (fun h5 => ?_) (fun h => False.elim (by omega))
  refine qr_aload_n 58 rfl rfl rfl ?_
  refine qr_iload 60 rfl rfl rfl ?_
  refine qr_iload 62 rfl rfl rfl ?_
  refine qr_iload_n 63 rfl rfl rfl ?_
  refine qr_iload 65 rfl rfl rfl ?_
  refine qr_iload 67 rfl rfl rfl ?_
  refine qr_iload 69 rfl rfl rfl ?_
  refine qr_iconst 70 rfl rfl ?_
  refine qr_iadd 71 rfl rfl ?_
  have hs6 : (-2147483648) ≤ σ 42 1 ∧ σ 42 1 ≤ 2147483647 := hI.1 42 1
  refine qr_callN 74 rfl rfl rfl (sf_153_42b60_5_5 (d := d + 0) hI r4 r5 (by omega) (by omega)) ?_
  have hs9 : (-2147483648) ≤ σ 42 1 ∧ σ 42 1 ≤ 2147483647 := hI.1 42 1
  rintro _ _ ⟨σ10, α11, rfl, hI12, hG13, v7, rfl, hv7, hp8⟩
  have hF14 : qFr [(42, 1)] [43] σ α σ10 α11 := qFr_t hF0 hG13 (by decide) (by decide)
  have hs15 : (-2147483648) ≤ σ10 42 1 ∧ σ10 42 1 ≤ 2147483647 := hI12.1 42 1
  show qr_W (qe L xs vb) (d + 4) qx_e152 _ (74, _, [.int (qz v7)], qw σ10 α11 κ ρ, 0, 0)
  refine qr_retI rfl rfl (by decide) (by decide) ?_
  have hw16 : σ10 42 1 = (σ10 42 1) := rfl
  exact ⟨_, _, rfl, hI12, hF14, v7, rfl, hv7, by omega⟩

set_option maxHeartbeats 4000000 in
set_option maxRecDepth 20000 in
/-- OneRoof$Acts.run -/
theorem sf_151_42r5_0 {L : Nat} {xs : Nat → Int} {vb : Bool} {d : Nat} {σ α : Nat → Nat → Int} {κ : Nat → Option Nat} {ρ : Nat} {x3 : Int} {x4 : Int} {x5 : Int} (hI : qI σ α κ ρ) (r3 : (-2147483648) ≤ x3 ∧ x3 ≤ 2147483647) (r4 : (-2147483648) ≤ x4 ∧ x4 ≤ 2147483647) (r5 : 0 ≤ x5 ∧ x5 ≤ 38) (p0 : 0 ≤ σ 42 1 ∧ σ 42 1 ≤ 1800) : qm_T (qe L xs vb) (d + 6) 151 [.ref 42, .int (qz 5), .int (qz 0), .int (qz x3), .int (qz x4), .int (qz x5)] (qw σ α κ ρ) (fun r w' => ∃ σ' α', w' = qw σ' α' κ ρ ∧ qI σ' α' κ ρ ∧ qFr [(42, 1)] [43] σ α σ' α' ∧ ∃ v : Int, r = some (.int (qz v)) ∧ ((-2147483648) ≤ v ∧ v ≤ 2147483647) ∧ σ' 42 1 = σ 42 1 + 3) := by
  refine qr_start (d := d + 5) qv_e151 (Nat.le_of_ble_eq_true rfl) ?_
  show qr_W (qe L xs vb) (d + 5) qx_e151 _ (0, [(0, .ref 42), (1, .int (qz 5)), (2, .int (qz 0)), (3, .int (qz x3)), (4, .int (qz x4)), (5, .int (qz x5))], [], _, 0, 0)
  have hF0 := qFr_rf [(42, 1)] [43] σ α
  have hz42_1 : (-2147483648) ≤ σ 42 1 ∧ σ 42 1 ≤ 2147483647 := hI.1 42 1
  refine qr_aload_n 1 rfl rfl rfl ?_
  refine qr_iload_n 2 rfl rfl rfl ?_
  refine qr_iload_n 3 rfl rfl rfl ?_
  refine qr_iload_n 4 rfl rfl rfl ?_
  refine qr_iload_n 5 rfl rfl rfl ?_
  refine qr_iload 7 rfl rfl rfl ?_
  refine qr_iload 9 rfl rfl rfl ?_
  have hs1 : (-2147483648) ≤ σ 42 1 ∧ σ 42 1 ≤ 2147483647 := hI.1 42 1
  refine qr_callN 12 rfl rfl rfl (sf_152_42f5_5_0 (d := d + 0) hI r3 r4 r5 (by omega)) ?_
  have hs4 : (-2147483648) ≤ σ 42 1 ∧ σ 42 1 ≤ 2147483647 := hI.1 42 1
  rintro _ _ ⟨σ5, α6, rfl, hI7, hG8, v2, rfl, hv2, hp3⟩
  have hF9 : qFr [(42, 1)] [43] σ α σ5 α6 := qFr_t hF0 hG8 (by decide) (by decide)
  have hs10 : (-2147483648) ≤ σ5 42 1 ∧ σ5 42 1 ≤ 2147483647 := hI7.1 42 1
  show qr_W (qe L xs vb) (d + 5) qx_e151 _ (12, _, [.int (qz v2)], qw σ5 α6 κ ρ, 0, 0)
  refine qr_retI rfl rfl (by decide) (by decide) ?_
  have hw11 : σ5 42 1 = (σ5 42 1) := rfl
  exact ⟨_, _, rfl, hI7, hF9, v2, rfl, hv2, by omega⟩

set_option maxHeartbeats 4000000 in
set_option maxRecDepth 20000 in
/-- OneRoof$Acts.start -/
theorem sf_150_42s5_0 {L : Nat} {xs : Nat → Int} {vb : Bool} {d : Nat} {σ α : Nat → Nat → Int} {κ : Nat → Option Nat} {ρ : Nat} {x3 : Int} {x4 : Int} (hI : qI σ α κ ρ) (r3 : (-2147483648) ≤ x3 ∧ x3 ≤ 2147483647) (r4 : (-2147483648) ≤ x4 ∧ x4 ≤ 2147483647) (p0 : σ 42 1 = 0) : qm_T (qe L xs vb) (d + 7) 150 [.ref 42, .int (qz 5), .int (qz 0), .int (qz x3), .int (qz x4)] (qw σ α κ ρ) (fun r w' => ∃ σ' α', w' = qw σ' α' κ ρ ∧ qI σ' α' κ ρ ∧ qFr [(42, 1)] [43] σ α σ' α' ∧ ∃ v : Int, r = some (.int (qz v)) ∧ ((-2147483648) ≤ v ∧ v ≤ 2147483647)) := by
  refine qr_start (d := d + 6) qv_e150 (Nat.le_of_ble_eq_true rfl) ?_
  show qr_W (qe L xs vb) (d + 6) qx_e150 _ (0, [(0, .ref 42), (1, .int (qz 5)), (2, .int (qz 0)), (3, .int (qz x3)), (4, .int (qz x4))], [], _, 0, 0)
  have hF0 := qFr_rf [(42, 1)] [43] σ α
  have hz42_1 : (-2147483648) ≤ σ 42 1 ∧ σ 42 1 ≤ 2147483647 := hI.1 42 1
  refine qr_aload_n 1 rfl rfl rfl ?_
  refine qr_iload_n 2 rfl rfl rfl ?_
  refine qr_iload_n 3 rfl rfl rfl ?_
  refine qr_iload_n 4 rfl rfl rfl ?_
  refine qr_iload 6 rfl rfl rfl ?_
  refine qr_iconst 7 rfl rfl ?_
  have hs1 : (-2147483648) ≤ σ 42 1 ∧ σ 42 1 ≤ 2147483647 := hI.1 42 1
  refine qr_callN 10 rfl rfl rfl (sf_151_42r5_0 (d := d + 0) hI r3 r4 (by decide) (by omega)) ?_
  have hs4 : (-2147483648) ≤ σ 42 1 ∧ σ 42 1 ≤ 2147483647 := hI.1 42 1
  rintro _ _ ⟨σ5, α6, rfl, hI7, hG8, v2, rfl, hv2, hp3⟩
  have hF9 : qFr [(42, 1)] [43] σ α σ5 α6 := qFr_t hF0 hG8 (by decide) (by decide)
  have hs10 : (-2147483648) ≤ σ5 42 1 ∧ σ5 42 1 ≤ 2147483647 := hI7.1 42 1
  show qr_W (qe L xs vb) (d + 6) qx_e150 _ (10, _, [.int (qz v2)], qw σ5 α6 κ ρ, 0, 0)
  refine qr_retI rfl rfl (by decide) (by decide) ?_
  exact ⟨_, _, rfl, hI7, hF9, v2, rfl, hv2⟩

set_option maxHeartbeats 4000000 in
set_option maxRecDepth 20000 in
/-- OneRoof$Acts.begin -/
theorem sf_153_42b1_0_6 {L : Nat} {xs : Nat → Int} {vb : Bool} {d : Nat} {σ α : Nat → Nat → Int} {κ : Nat → Option Nat} {ρ : Nat} {x4 : Int} {x5 : Int} {x6 : Int} (hI : qI σ α κ ρ) (r4 : (-2147483648) ≤ x4 ∧ x4 ≤ 2147483647) (r5 : (-2147483648) ≤ x5 ∧ x5 ≤ 2147483647) (r6 : 0 ≤ x6 ∧ x6 ≤ 40) (p0 : 0 ≤ σ 42 1 ∧ σ 42 1 ≤ 1900) : qm_T (qe L xs vb) (d + 1) 153 [.ref 42, .int (qz 1), .int (qz 0), .int (qz 6), .int (qz x4), .int (qz x5), .int (qz x6)] (qw σ α κ ρ) (fun r w' => ∃ σ' α', w' = qw σ' α' κ ρ ∧ qI σ' α' κ ρ ∧ qFr [(42, 1)] [43] σ α σ' α' ∧ ∃ v : Int, r = some (.int (qz v)) ∧ ((-2147483648) ≤ v ∧ v ≤ 2147483647) ∧ σ' 42 1 = σ 42 1 + 1) := by
  refine qr_start (d := d + 0) qv_e153 (Nat.le_of_ble_eq_true rfl) ?_
  show qr_W (qe L xs vb) (d + 0) qx_e153 _ (0, [(0, .ref 42), (1, .int (qz 1)), (2, .int (qz 0)), (3, .int (qz 6)), (4, .int (qz x4)), (5, .int (qz x5)), (6, .int (qz x6))], [], _, 0, 0)
  have hF0 := qFr_rf [(42, 1)] [43] σ α
  have hz42_1 : (-2147483648) ≤ σ 42 1 ∧ σ 42 1 ≤ 2147483647 := hI.1 42 1
  refine qr_aload_n 1 rfl rfl rfl ?_
  refine qr_get 4 rfl rfl rfl (by decide) rfl ?_
  refine qr_aload_n 5 rfl rfl rfl ?_
  refine qr_get 8 rfl rfl rfl (by decide) rfl ?_
  refine qr_alen 9 rfl rfl (by first | exact Or.inl (by decide) | exact Or.inr (Or.inl rfl) | exact Or.inr (Or.inr (Or.inl rfl)) | exact Or.inr (Or.inr (Or.inr (Or.inl rfl)))) rfl ?_
  refine qy_v 24 rfl ?_
  refine qr_icmp_ge 22 12 rfl rfl rfl hz42_1 (by decide) (fun h1 => ?_) (fun h1 => ?_)
  · skip
    refine qr_aload_n 23 rfl rfl rfl ?_
    refine qr_dup 24 rfl rfl rfl ?_
    refine qr_get 27 rfl rfl rfl (by decide) rfl ?_
    refine qr_iconst 28 rfl rfl ?_
    refine qr_iadd 29 rfl rfl ?_
    refine qr_put 32 rfl (by decide) rfl (Nat.le_of_ble_eq_true rfl) (Nat.le_of_ble_eq_true rfl) (Or.inl rfl) (qr_fitI rfl _) rfl ?_
    refine qy_wS (qw_s σ 42 1 ((σ 42 1) + 1)) rfl (fun σ2 e3 => ?_)
    have hI4 : qI σ2 α κ ρ := by rw [e3]; exact qI_s hI 42 1 rfl (show (-2147483648) ≤ ((σ 42 1) + 1) ∧ ((σ 42 1) + 1) ≤ 2147483647 by omega)
    have hF5 : qFr [(42, 1)] [43] σ α σ2 α := by rw [e3]; exact qFr_s hF0 42 1 _ (by decide)
    refine qr_getst 35 rfl rfl ?_
    refine qr_iload_n 36 rfl rfl rfl ?_
    refine qr_iaload 37 rfl rfl (by decide) (by decide) rfl ?_
    refine qy_v (-1) (by decide) ?_
    refine qr_istore _ 39 rfl (by decide) rfl rfl ?_
    refine qr_iload_n 40 rfl rfl rfl ?_
    refine qr_look (off := 108) 148 rfl (by omega) (by decide) (by decide) rfl ?_
    refine qr_iload 150 rfl rfl rfl ?_
    refine qr_iload 152 rfl rfl rfl ?_
    refine qr_iadd 153 rfl rfl ?_
    refine qy_can (fun v6 hv6 => ?_)
    refine qr_retI rfl rfl (by decide) (by decide) ?_
    have hw7 : σ2 42 1 = ((σ 42 1) + 1) := (congrFun (congrFun e3 42) 1).trans rfl
    exact ⟨_, _, rfl, hI4, hF5, v6, rfl, hv6, by omega⟩
  · skip
    refine qr_aload_n 13 rfl rfl rfl ?_
    refine qr_get 16 rfl rfl rfl (by decide) rfl ?_
    refine qr_aload_n 17 rfl rfl rfl ?_
    refine qr_get 20 rfl rfl rfl (by decide) rfl ?_
    refine qr_iload_n 21 rfl rfl rfl ?_
    refine qr_iastore 22 rfl (by decide) rfl (by omega) (by decide) rfl ?_
    refine qy_wA (qw_r α 43 (qzu (α 43) ((σ 42 1) : Int).toNat 1)) rfl (fun α8 e9 => ?_)
    have hI10 : qI σ α8 κ ρ := by rw [e9]; exact qI_r hI 43 _ rfl (show (-2147483648) ≤ 1 ∧ 1 ≤ 2147483647 by omega)
    have hF11 : qFr [(42, 1)] [43] σ α σ α8 := by rw [e9]; exact qFr_r hF0 43 _ (by decide)
    refine qr_aload_n 23 rfl rfl rfl ?_
    refine qr_dup 24 rfl rfl rfl ?_
    refine qr_get 27 rfl rfl rfl (by decide) rfl ?_
    refine qr_iconst 28 rfl rfl ?_
    refine qr_iadd 29 rfl rfl ?_
    refine qr_put 32 rfl (by decide) rfl (Nat.le_of_ble_eq_true rfl) (Nat.le_of_ble_eq_true rfl) (Or.inl rfl) (qr_fitI rfl _) rfl ?_
    refine qy_wS (qw_s σ 42 1 ((σ 42 1) + 1)) rfl (fun σ12 e13 => ?_)
    have hI14 : qI σ12 α8 κ ρ := by rw [e13]; exact qI_s hI10 42 1 rfl (show (-2147483648) ≤ ((σ 42 1) + 1) ∧ ((σ 42 1) + 1) ≤ 2147483647 by omega)
    have hF15 : qFr [(42, 1)] [43] σ α σ12 α8 := by rw [e13]; exact qFr_s hF11 42 1 _ (by decide)
    refine qr_getst 35 rfl rfl ?_
    refine qr_iload_n 36 rfl rfl rfl ?_
    refine qr_iaload 37 rfl rfl (by decide) (by decide) rfl ?_
    refine qy_v (-1) (by decide) ?_
    refine qr_istore _ 39 rfl (by decide) rfl rfl ?_
    refine qr_iload_n 40 rfl rfl rfl ?_
    refine qr_look (off := 108) 148 rfl (by omega) (by decide) (by decide) rfl ?_
    refine qr_iload 150 rfl rfl rfl ?_
    refine qr_iload 152 rfl rfl rfl ?_
    refine qr_iadd 153 rfl rfl ?_
    refine qy_can (fun v16 hv16 => ?_)
    refine qr_retI rfl rfl (by decide) (by decide) ?_
    have hw17 : σ12 42 1 = ((σ 42 1) + 1) := (congrFun (congrFun e13 42) 1).trans rfl
    exact ⟨_, _, rfl, hI14, hF15, v16, rfl, hv16, by omega⟩

set_option maxHeartbeats 4000000 in
set_option maxRecDepth 20000 in
/-- OneRoof$Acts.runFrom -/
theorem sf_152_42f6_6_0 {L : Nat} {xs : Nat → Int} {vb : Bool} {d : Nat} {σ α : Nat → Nat → Int} {κ : Nat → Option Nat} {ρ : Nat} {x4 : Int} {x5 : Int} {x6 : Int} (hI : qI σ α κ ρ) (r4 : (-2147483648) ≤ x4 ∧ x4 ≤ 2147483647) (r5 : (-2147483648) ≤ x5 ∧ x5 ≤ 2147483647) (r6 : 0 ≤ x6 ∧ x6 ≤ 39) (p0 : 0 ≤ σ 42 1 ∧ σ 42 1 ≤ 1900) : qm_T (qe L xs vb) (d + 2) 152 [.ref 42, .int (qz 6), .int (qz 6), .int (qz 0), .int (qz x4), .int (qz x5), .int (qz x6)] (qw σ α κ ρ) (fun r w' => ∃ σ' α', w' = qw σ' α' κ ρ ∧ qI σ' α' κ ρ ∧ qFr [(42, 1)] [43] σ α σ' α' ∧ ∃ v : Int, r = some (.int (qz v)) ∧ ((-2147483648) ≤ v ∧ v ≤ 2147483647) ∧ σ' 42 1 = σ 42 1 + 1) := by
  refine qr_start (d := d + 1) qv_e152 (Nat.le_of_ble_eq_true rfl) ?_
  show qr_W (qe L xs vb) (d + 1) qx_e152 _ (0, [(0, .ref 42), (1, .int (qz 6)), (2, .int (qz 6)), (3, .int (qz 0)), (4, .int (qz x4)), (5, .int (qz x5)), (6, .int (qz x6))], [], _, 0, 0)
  have hF0 := qFr_rf [(42, 1)] [43] σ α
  have hz42_1 : (-2147483648) ≤ σ 42 1 ∧ σ 42 1 ≤ 2147483647 := hI.1 42 1
  refine qr_iload_n 1 rfl rfl rfl ?_
  refine qr_istore _ 3 rfl (by decide) rfl rfl ?_
  refine qr_iconst 4 rfl rfl ?_
  refine qr_istore _ 6 rfl (by decide) rfl rfl ?_
  refine qr_iload 8 rfl rfl rfl ?_
  refine qr_getst 11 rfl rfl ?_
  refine qr_alen 12 rfl rfl (by first | exact Or.inl (by decide) | exact Or.inr (Or.inl rfl) | exact Or.inr (Or.inr (Or.inl rfl)) | exact Or.inr (Or.inr (Or.inr (Or.inl rfl)))) rfl ?_
  refine qy_v 7 rfl ?_
  refine qr_icmp_ge 89 15 rfl rfl rfl (by decide) (by decide) (fun h => False.elim (by omega)) (fun h1 => ?_)
  refine qr_iload 17 rfl rfl rfl ?_
  refine qr_if_lt 89 20 rfl rfl rfl (by decide) (fun h => False.elim (by omega)) (fun h2 => ?_)
  refine qr_iload 22 rfl rfl rfl ?_
  refine qr_getst 25 rfl rfl ?_
  refine qr_alen 26 rfl rfl (by first | exact Or.inl (by decide) | exact Or.inr (Or.inl rfl) | exact Or.inr (Or.inr (Or.inl rfl)) | exact Or.inr (Or.inr (Or.inr (Or.inl rfl)))) rfl ?_
  refine qy_v 7 rfl ?_
  refine qr_icmp_ge 89 29 rfl rfl rfl (by decide) (by decide) (fun h => False.elim (by omega)) (fun h3 => ?_)
  refine qr_getst 32 rfl rfl ?_
  refine qr_iload 34 rfl rfl rfl ?_
  refine qr_iconst 35 rfl rfl ?_
  refine qr_imul 36 rfl rfl ?_
  refine qy_v 24 rfl ?_
  refine qr_iload_n 37 rfl rfl rfl ?_
  refine qr_iadd 38 rfl rfl ?_
  refine qy_v 24 rfl ?_
  refine qr_iaload 39 rfl rfl (by decide) (by decide) rfl ?_
  refine qy_v 0 (by decide) ?_
  refine qr_istore _ 41 rfl (by decide) rfl rfl ?_
  refine qr_iload 43 rfl rfl rfl ?_
  refine qr_if_eq 75 46 rfl rfl rfl (by decide) (fun h4 => ?_) (fun h => False.elim (by omega))
  refine qr_getst 78 rfl rfl ?_
  refine qr_iload 80 rfl rfl rfl ?_
  refine qr_iaload 81 rfl rfl (by decide) (by decide) rfl ?_
  refine qy_v 0 (by decide) ?_
  refine qr_istore _ 83 rfl (by decide) rfl rfl ?_
  refine qr_iinc _ 86 rfl rfl (by decide) rfl rfl ?_
  refine qr_goto 6 rfl rfl ?_
  refine qr_iload 8 rfl rfl rfl ?_
  refine qr_getst 11 rfl rfl ?_
  refine qr_alen 12 rfl rfl (by first | exact Or.inl (by decide) | exact Or.inr (Or.inl rfl) | exact Or.inr (Or.inr (Or.inl rfl)) | exact Or.inr (Or.inr (Or.inr (Or.inl rfl)))) rfl ?_
  refine qy_v 7 rfl ?_
  refine qr_icmp_ge 89 15 rfl rfl rfl (by omega) (by decide) (fun h => False.elim (by omega)) (fun h5 => ?_)
  refine qr_iload 17 rfl rfl rfl ?_
  refine qr_if_lt 89 20 rfl rfl rfl (by decide) (fun h => False.elim (by omega)) (fun h6 => ?_)
  refine qr_iload 22 rfl rfl rfl ?_
  refine qr_getst 25 rfl rfl ?_
  refine qr_alen 26 rfl rfl (by first | exact Or.inl (by decide) | exact Or.inr (Or.inl rfl) | exact Or.inr (Or.inr (Or.inl rfl)) | exact Or.inr (Or.inr (Or.inr (Or.inl rfl)))) rfl ?_
  refine qy_v 7 rfl ?_
  refine qr_icmp_ge 89 29 rfl rfl rfl (by decide) (by decide) (fun h => False.elim (by omega)) (fun h7 => ?_)
  refine qr_getst 32 rfl rfl ?_
  refine qr_iload 34 rfl rfl rfl ?_
  refine qr_iconst 35 rfl rfl ?_
  refine qr_imul 36 rfl rfl ?_
  refine qy_v 0 rfl ?_
  refine qr_iload_n 37 rfl rfl rfl ?_
  refine qr_iadd 38 rfl rfl ?_
  refine qy_v 0 rfl ?_
  refine qr_iaload 39 rfl rfl (by decide) (by decide) rfl ?_
  refine qy_v 1 (by decide) ?_
  refine qr_istore _ 41 rfl (by decide) rfl rfl ?_
  refine qr_iload 43 rfl rfl rfl ?_
  refine qr_if_eq 75 46 rfl rfl rfl (by decide) (fun h => False.elim (by omega)) (fun h8 => ?_)
  as_aux_lemma =>
    refine qr_iload 48 rfl rfl rfl ?_
    refine qr_bipush 50 rfl (by decide) rfl ?_
    refine qr_icmp_le 57 53 rfl rfl rfl (qrg r6 (by decide) (by decide)) (by decide) (fun h9 => ?_) (fun h => False.elim (by omega))
    refine qr_aload_n 58 rfl rfl rfl ?_
    refine qr_iload 60 rfl rfl rfl ?_
    refine qr_iload 62 rfl rfl rfl ?_
    refine qr_iload_n 63 rfl rfl rfl ?_
    refine qr_iload 65 rfl rfl rfl ?_
    refine qr_iload 67 rfl rfl rfl ?_
    refine qr_iload 69 rfl rfl rfl ?_
    refine qr_iconst 70 rfl rfl ?_
    refine qr_iadd 71 rfl rfl ?_
    have hs10 : (-2147483648) ≤ σ 42 1 ∧ σ 42 1 ≤ 2147483647 := hI.1 42 1
    refine qr_callN 74 rfl rfl rfl (sf_153_42b1_0_6 (d := d + 0) hI r4 r5 (by omega) (by omega)) ?_
    have hs13 : (-2147483648) ≤ σ 42 1 ∧ σ 42 1 ≤ 2147483647 := hI.1 42 1
    rintro _ _ ⟨σ14, α15, rfl, hI16, hG17, v11, rfl, hv11, hp12⟩
    have hF18 : qFr [(42, 1)] [43] σ α σ14 α15 := qFr_t hF0 hG17 (by decide) (by decide)
    have hs19 : (-2147483648) ≤ σ14 42 1 ∧ σ14 42 1 ≤ 2147483647 := hI16.1 42 1
    show qr_W (qe L xs vb) (d + 1) qx_e152 _ (74, _, [.int (qz v11)], qw σ14 α15 κ ρ, 0, 0)
    refine qr_retI rfl rfl (by decide) (by decide) ?_
    have hw20 : σ14 42 1 = (σ14 42 1) := rfl
    exact ⟨_, _, rfl, hI16, hF18, v11, rfl, hv11, by omega⟩

set_option maxHeartbeats 4000000 in
set_option maxRecDepth 20000 in
/-- OneRoof$Acts.run -/
theorem sf_151_42r6_0 {L : Nat} {xs : Nat → Int} {vb : Bool} {d : Nat} {σ α : Nat → Nat → Int} {κ : Nat → Option Nat} {ρ : Nat} {x3 : Int} {x4 : Int} {x5 : Int} (hI : qI σ α κ ρ) (r3 : (-2147483648) ≤ x3 ∧ x3 ≤ 2147483647) (r4 : (-2147483648) ≤ x4 ∧ x4 ≤ 2147483647) (r5 : 0 ≤ x5 ∧ x5 ≤ 39) (p0 : 0 ≤ σ 42 1 ∧ σ 42 1 ≤ 1900) : qm_T (qe L xs vb) (d + 3) 151 [.ref 42, .int (qz 6), .int (qz 0), .int (qz x3), .int (qz x4), .int (qz x5)] (qw σ α κ ρ) (fun r w' => ∃ σ' α', w' = qw σ' α' κ ρ ∧ qI σ' α' κ ρ ∧ qFr [(42, 1)] [43] σ α σ' α' ∧ ∃ v : Int, r = some (.int (qz v)) ∧ ((-2147483648) ≤ v ∧ v ≤ 2147483647) ∧ σ' 42 1 = σ 42 1 + 1) := by
  refine qr_start (d := d + 2) qv_e151 (Nat.le_of_ble_eq_true rfl) ?_
  show qr_W (qe L xs vb) (d + 2) qx_e151 _ (0, [(0, .ref 42), (1, .int (qz 6)), (2, .int (qz 0)), (3, .int (qz x3)), (4, .int (qz x4)), (5, .int (qz x5))], [], _, 0, 0)
  have hF0 := qFr_rf [(42, 1)] [43] σ α
  have hz42_1 : (-2147483648) ≤ σ 42 1 ∧ σ 42 1 ≤ 2147483647 := hI.1 42 1
  refine qr_aload_n 1 rfl rfl rfl ?_
  refine qr_iload_n 2 rfl rfl rfl ?_
  refine qr_iload_n 3 rfl rfl rfl ?_
  refine qr_iload_n 4 rfl rfl rfl ?_
  refine qr_iload_n 5 rfl rfl rfl ?_
  refine qr_iload 7 rfl rfl rfl ?_
  refine qr_iload 9 rfl rfl rfl ?_
  have hs1 : (-2147483648) ≤ σ 42 1 ∧ σ 42 1 ≤ 2147483647 := hI.1 42 1
  refine qr_callN 12 rfl rfl rfl (sf_152_42f6_6_0 (d := d + 0) hI r3 r4 r5 (by omega)) ?_
  have hs4 : (-2147483648) ≤ σ 42 1 ∧ σ 42 1 ≤ 2147483647 := hI.1 42 1
  rintro _ _ ⟨σ5, α6, rfl, hI7, hG8, v2, rfl, hv2, hp3⟩
  have hF9 : qFr [(42, 1)] [43] σ α σ5 α6 := qFr_t hF0 hG8 (by decide) (by decide)
  have hs10 : (-2147483648) ≤ σ5 42 1 ∧ σ5 42 1 ≤ 2147483647 := hI7.1 42 1
  show qr_W (qe L xs vb) (d + 2) qx_e151 _ (12, _, [.int (qz v2)], qw σ5 α6 κ ρ, 0, 0)
  refine qr_retI rfl rfl (by decide) (by decide) ?_
  have hw11 : σ5 42 1 = (σ5 42 1) := rfl
  exact ⟨_, _, rfl, hI7, hF9, v2, rfl, hv2, by omega⟩

set_option maxHeartbeats 4000000 in
set_option maxRecDepth 20000 in
/-- OneRoof$Acts.start -/
theorem sf_150_42s6_0 {L : Nat} {xs : Nat → Int} {vb : Bool} {d : Nat} {σ α : Nat → Nat → Int} {κ : Nat → Option Nat} {ρ : Nat} {x3 : Int} {x4 : Int} (hI : qI σ α κ ρ) (r3 : (-2147483648) ≤ x3 ∧ x3 ≤ 2147483647) (r4 : (-2147483648) ≤ x4 ∧ x4 ≤ 2147483647) (p0 : σ 42 1 = 0) : qm_T (qe L xs vb) (d + 4) 150 [.ref 42, .int (qz 6), .int (qz 0), .int (qz x3), .int (qz x4)] (qw σ α κ ρ) (fun r w' => ∃ σ' α', w' = qw σ' α' κ ρ ∧ qI σ' α' κ ρ ∧ qFr [(42, 1)] [43] σ α σ' α' ∧ ∃ v : Int, r = some (.int (qz v)) ∧ ((-2147483648) ≤ v ∧ v ≤ 2147483647)) := by
  refine qr_start (d := d + 3) qv_e150 (Nat.le_of_ble_eq_true rfl) ?_
  show qr_W (qe L xs vb) (d + 3) qx_e150 _ (0, [(0, .ref 42), (1, .int (qz 6)), (2, .int (qz 0)), (3, .int (qz x3)), (4, .int (qz x4))], [], _, 0, 0)
  have hF0 := qFr_rf [(42, 1)] [43] σ α
  have hz42_1 : (-2147483648) ≤ σ 42 1 ∧ σ 42 1 ≤ 2147483647 := hI.1 42 1
  refine qr_aload_n 1 rfl rfl rfl ?_
  refine qr_iload_n 2 rfl rfl rfl ?_
  refine qr_iload_n 3 rfl rfl rfl ?_
  refine qr_iload_n 4 rfl rfl rfl ?_
  refine qr_iload 6 rfl rfl rfl ?_
  refine qr_iconst 7 rfl rfl ?_
  have hs1 : (-2147483648) ≤ σ 42 1 ∧ σ 42 1 ≤ 2147483647 := hI.1 42 1
  refine qr_callN 10 rfl rfl rfl (sf_151_42r6_0 (d := d + 0) hI r3 r4 (by decide) (by omega)) ?_
  have hs4 : (-2147483648) ≤ σ 42 1 ∧ σ 42 1 ≤ 2147483647 := hI.1 42 1
  rintro _ _ ⟨σ5, α6, rfl, hI7, hG8, v2, rfl, hv2, hp3⟩
  have hF9 : qFr [(42, 1)] [43] σ α σ5 α6 := qFr_t hF0 hG8 (by decide) (by decide)
  have hs10 : (-2147483648) ≤ σ5 42 1 ∧ σ5 42 1 ≤ 2147483647 := hI7.1 42 1
  show qr_W (qe L xs vb) (d + 3) qx_e150 _ (10, _, [.int (qz v2)], qw σ5 α6 κ ρ, 0, 0)
  refine qr_retI rfl rfl (by decide) (by decide) ?_
  exact ⟨_, _, rfl, hI7, hF9, v2, rfl, hv2⟩

set_option maxHeartbeats 4000000 in
set_option maxRecDepth 20000 in
/-- OneRoof$Acts.runFrom -/
theorem sf_152_42m0 {L : Nat} {xs : Nat → Int} {vb : Bool} {d : Nat} {σ α : Nat → Nat → Int} {κ : Nat → Option Nat} {ρ : Nat} {x1 : Int} {x2 : Int} {x4 : Int} {x5 : Int} {x6 : Int} (hI : qI σ α κ ρ) (r1 : (-2147483648) ≤ x1 ∧ x1 ≤ (-1)) (r2 : (-2147483648) ≤ x2 ∧ x2 ≤ 2147483647) (r4 : (-2147483648) ≤ x4 ∧ x4 ≤ 2147483647) (r5 : (-2147483648) ≤ x5 ∧ x5 ≤ 2147483647) (r6 : 0 ≤ x6 ∧ x6 ≤ 40) : qm_T (qe L xs vb) (d + 1) 152 [.ref 42, .int (qz x1), .int (qz x2), .int (qz 0), .int (qz x4), .int (qz x5), .int (qz x6)] (qw σ α κ ρ) (fun r w' => ∃ σ' α', w' = qw σ' α' κ ρ ∧ qI σ' α' κ ρ ∧ qFr [(42, 1)] [43] σ α σ' α' ∧ ∃ v : Int, r = some (.int (qz v)) ∧ ((-2147483648) ≤ v ∧ v ≤ 2147483647)) := by
  refine qr_start (d := d + 0) qv_e152 (Nat.le_of_ble_eq_true rfl) ?_
  show qr_W (qe L xs vb) (d + 0) qx_e152 _ (0, [(0, .ref 42), (1, .int (qz x1)), (2, .int (qz x2)), (3, .int (qz 0)), (4, .int (qz x4)), (5, .int (qz x5)), (6, .int (qz x6))], [], _, 0, 0)
  have hF0 := qFr_rf [(42, 1)] [43] σ α
  refine qr_iload_n 1 rfl rfl rfl ?_
  refine qr_istore _ 3 rfl (by decide) rfl rfl ?_
  refine qr_iconst 4 rfl rfl ?_
  refine qr_istore _ 6 rfl (by decide) rfl rfl ?_
  refine qr_iload 8 rfl rfl rfl ?_
  refine qr_getst 11 rfl rfl ?_
  refine qr_alen 12 rfl rfl (by first | exact Or.inl (by decide) | exact Or.inr (Or.inl rfl) | exact Or.inr (Or.inr (Or.inl rfl)) | exact Or.inr (Or.inr (Or.inr (Or.inl rfl)))) rfl ?_
  refine qy_v 7 rfl ?_
  refine qr_icmp_ge 89 15 rfl rfl rfl (by decide) (by decide) (fun h => False.elim (by omega)) (fun h1 => ?_)
  refine qr_iload 17 rfl rfl rfl ?_
  refine qr_if_lt 89 20 rfl rfl rfl (qrg r1 (by decide) (by decide)) (fun h2 => ?_) (fun h => False.elim (by omega))
  refine qr_iconst 90 rfl rfl ?_
  refine qr_retI rfl rfl (by decide) (by decide) ?_
  exact ⟨_, _, rfl, hI, hF0, 0, rfl, (by decide)⟩

set_option maxHeartbeats 4000000 in
set_option maxRecDepth 20000 in
/-- OneRoof$Acts.run -/
theorem sf_151_42m0 {L : Nat} {xs : Nat → Int} {vb : Bool} {d : Nat} {σ α : Nat → Nat → Int} {κ : Nat → Option Nat} {ρ : Nat} {x1 : Int} {x3 : Int} {x4 : Int} {x5 : Int} (hI : qI σ α κ ρ) (r1 : (-2147483648) ≤ x1 ∧ x1 ≤ (-1)) (r3 : (-2147483648) ≤ x3 ∧ x3 ≤ 2147483647) (r4 : (-2147483648) ≤ x4 ∧ x4 ≤ 2147483647) (r5 : 0 ≤ x5 ∧ x5 ≤ 40) : qm_T (qe L xs vb) (d + 2) 151 [.ref 42, .int (qz x1), .int (qz 0), .int (qz x3), .int (qz x4), .int (qz x5)] (qw σ α κ ρ) (fun r w' => ∃ σ' α', w' = qw σ' α' κ ρ ∧ qI σ' α' κ ρ ∧ qFr [(42, 1)] [43] σ α σ' α' ∧ ∃ v : Int, r = some (.int (qz v)) ∧ ((-2147483648) ≤ v ∧ v ≤ 2147483647)) := by
  refine qr_start (d := d + 1) qv_e151 (Nat.le_of_ble_eq_true rfl) ?_
  show qr_W (qe L xs vb) (d + 1) qx_e151 _ (0, [(0, .ref 42), (1, .int (qz x1)), (2, .int (qz 0)), (3, .int (qz x3)), (4, .int (qz x4)), (5, .int (qz x5))], [], _, 0, 0)
  have hF0 := qFr_rf [(42, 1)] [43] σ α
  refine qr_aload_n 1 rfl rfl rfl ?_
  refine qr_iload_n 2 rfl rfl rfl ?_
  refine qr_iload_n 3 rfl rfl rfl ?_
  refine qr_iload_n 4 rfl rfl rfl ?_
  refine qr_iload_n 5 rfl rfl rfl ?_
  refine qr_iload 7 rfl rfl rfl ?_
  refine qr_iload 9 rfl rfl rfl ?_
  refine qr_callN 12 rfl rfl rfl (sf_152_42m0 (d := d + 0) hI r1 (qrg r1 (by decide) (by decide)) r3 r4 r5) ?_
  rintro _ _ ⟨σ2, α3, rfl, hI4, hG5, v1, rfl, hv1⟩
  have hF6 : qFr [(42, 1)] [43] σ α σ2 α3 := qFr_t hF0 hG5 (by decide) (by decide)
  show qr_W (qe L xs vb) (d + 1) qx_e151 _ (12, _, [.int (qz v1)], qw σ2 α3 κ ρ, 0, 0)
  refine qr_retI rfl rfl (by decide) (by decide) ?_
  exact ⟨_, _, rfl, hI4, hF6, v1, rfl, hv1⟩

set_option maxHeartbeats 4000000 in
set_option maxRecDepth 20000 in
/-- OneRoof$Acts.start -/
theorem sf_150_42m0 {L : Nat} {xs : Nat → Int} {vb : Bool} {d : Nat} {σ α : Nat → Nat → Int} {κ : Nat → Option Nat} {ρ : Nat} {x1 : Int} {x3 : Int} {x4 : Int} (hI : qI σ α κ ρ) (r1 : (-2147483648) ≤ x1 ∧ x1 ≤ (-1)) (r3 : (-2147483648) ≤ x3 ∧ x3 ≤ 2147483647) (r4 : (-2147483648) ≤ x4 ∧ x4 ≤ 2147483647) (p0 : σ 42 1 = 0) : qm_T (qe L xs vb) (d + 3) 150 [.ref 42, .int (qz x1), .int (qz 0), .int (qz x3), .int (qz x4)] (qw σ α κ ρ) (fun r w' => ∃ σ' α', w' = qw σ' α' κ ρ ∧ qI σ' α' κ ρ ∧ qFr [(42, 1)] [43] σ α σ' α' ∧ ∃ v : Int, r = some (.int (qz v)) ∧ ((-2147483648) ≤ v ∧ v ≤ 2147483647)) := by
  refine qr_start (d := d + 2) qv_e150 (Nat.le_of_ble_eq_true rfl) ?_
  show qr_W (qe L xs vb) (d + 2) qx_e150 _ (0, [(0, .ref 42), (1, .int (qz x1)), (2, .int (qz 0)), (3, .int (qz x3)), (4, .int (qz x4))], [], _, 0, 0)
  have hF0 := qFr_rf [(42, 1)] [43] σ α
  have hz42_1 : (-2147483648) ≤ σ 42 1 ∧ σ 42 1 ≤ 2147483647 := hI.1 42 1
  refine qr_aload_n 1 rfl rfl rfl ?_
  refine qr_iload_n 2 rfl rfl rfl ?_
  refine qr_iload_n 3 rfl rfl rfl ?_
  refine qr_iload_n 4 rfl rfl rfl ?_
  refine qr_iload 6 rfl rfl rfl ?_
  refine qr_iconst 7 rfl rfl ?_
  refine qr_callN 10 rfl rfl rfl (sf_151_42m0 (d := d + 0) hI r1 r3 r4 (by decide)) ?_
  rintro _ _ ⟨σ2, α3, rfl, hI4, hG5, v1, rfl, hv1⟩
  have hF6 : qFr [(42, 1)] [43] σ α σ2 α3 := qFr_t hF0 hG5 (by decide) (by decide)
  show qr_W (qe L xs vb) (d + 2) qx_e150 _ (10, _, [.int (qz v1)], qw σ2 α3 κ ρ, 0, 0)
  refine qr_retI rfl rfl (by decide) (by decide) ?_
  exact ⟨_, _, rfl, hI4, hF6, v1, rfl, hv1⟩

set_option maxHeartbeats 4000000 in
set_option maxRecDepth 20000 in
/-- OneRoof$Acts.runFrom -/
theorem sf_152_42p0 {L : Nat} {xs : Nat → Int} {vb : Bool} {d : Nat} {σ α : Nat → Nat → Int} {κ : Nat → Option Nat} {ρ : Nat} {x1 : Int} {x2 : Int} {x4 : Int} {x5 : Int} {x6 : Int} (hI : qI σ α κ ρ) (r1 : 7 ≤ x1 ∧ x1 ≤ 2147483647) (r2 : (-2147483648) ≤ x2 ∧ x2 ≤ 2147483647) (r4 : (-2147483648) ≤ x4 ∧ x4 ≤ 2147483647) (r5 : (-2147483648) ≤ x5 ∧ x5 ≤ 2147483647) (r6 : 0 ≤ x6 ∧ x6 ≤ 40) : qm_T (qe L xs vb) (d + 1) 152 [.ref 42, .int (qz x1), .int (qz x2), .int (qz 0), .int (qz x4), .int (qz x5), .int (qz x6)] (qw σ α κ ρ) (fun r w' => ∃ σ' α', w' = qw σ' α' κ ρ ∧ qI σ' α' κ ρ ∧ qFr [(42, 1)] [43] σ α σ' α' ∧ ∃ v : Int, r = some (.int (qz v)) ∧ ((-2147483648) ≤ v ∧ v ≤ 2147483647)) := by
  refine qr_start (d := d + 0) qv_e152 (Nat.le_of_ble_eq_true rfl) ?_
  show qr_W (qe L xs vb) (d + 0) qx_e152 _ (0, [(0, .ref 42), (1, .int (qz x1)), (2, .int (qz x2)), (3, .int (qz 0)), (4, .int (qz x4)), (5, .int (qz x5)), (6, .int (qz x6))], [], _, 0, 0)
  have hF0 := qFr_rf [(42, 1)] [43] σ α
  refine qr_iload_n 1 rfl rfl rfl ?_
  refine qr_istore _ 3 rfl (by decide) rfl rfl ?_
  refine qr_iconst 4 rfl rfl ?_
  refine qr_istore _ 6 rfl (by decide) rfl rfl ?_
  refine qr_iload 8 rfl rfl rfl ?_
  refine qr_getst 11 rfl rfl ?_
  refine qr_alen 12 rfl rfl (by first | exact Or.inl (by decide) | exact Or.inr (Or.inl rfl) | exact Or.inr (Or.inr (Or.inl rfl)) | exact Or.inr (Or.inr (Or.inr (Or.inl rfl)))) rfl ?_
  refine qy_v 7 rfl ?_
  refine qr_icmp_ge 89 15 rfl rfl rfl (by decide) (by decide) (fun h => False.elim (by omega)) (fun h1 => ?_)
  refine qr_iload 17 rfl rfl rfl ?_
  refine qr_if_lt 89 20 rfl rfl rfl (qrg r1 (by decide) (by decide)) (fun h => False.elim (by omega)) (fun h2 => ?_)
  refine qr_iload 22 rfl rfl rfl ?_
  refine qr_getst 25 rfl rfl ?_
  refine qr_alen 26 rfl rfl (by first | exact Or.inl (by decide) | exact Or.inr (Or.inl rfl) | exact Or.inr (Or.inr (Or.inl rfl)) | exact Or.inr (Or.inr (Or.inr (Or.inl rfl)))) rfl ?_
  refine qy_v 7 rfl ?_
  refine qr_icmp_ge 89 29 rfl rfl rfl (qrg r1 (by decide) (by decide)) (by decide) (fun h3 => ?_) (fun h => False.elim (by omega))
  refine qr_iconst 90 rfl rfl ?_
  refine qr_retI rfl rfl (by decide) (by decide) ?_
  exact ⟨_, _, rfl, hI, hF0, 0, rfl, (by decide)⟩

set_option maxHeartbeats 4000000 in
set_option maxRecDepth 20000 in
/-- OneRoof$Acts.run -/
theorem sf_151_42p0 {L : Nat} {xs : Nat → Int} {vb : Bool} {d : Nat} {σ α : Nat → Nat → Int} {κ : Nat → Option Nat} {ρ : Nat} {x1 : Int} {x3 : Int} {x4 : Int} {x5 : Int} (hI : qI σ α κ ρ) (r1 : 7 ≤ x1 ∧ x1 ≤ 2147483647) (r3 : (-2147483648) ≤ x3 ∧ x3 ≤ 2147483647) (r4 : (-2147483648) ≤ x4 ∧ x4 ≤ 2147483647) (r5 : 0 ≤ x5 ∧ x5 ≤ 40) : qm_T (qe L xs vb) (d + 2) 151 [.ref 42, .int (qz x1), .int (qz 0), .int (qz x3), .int (qz x4), .int (qz x5)] (qw σ α κ ρ) (fun r w' => ∃ σ' α', w' = qw σ' α' κ ρ ∧ qI σ' α' κ ρ ∧ qFr [(42, 1)] [43] σ α σ' α' ∧ ∃ v : Int, r = some (.int (qz v)) ∧ ((-2147483648) ≤ v ∧ v ≤ 2147483647)) := by
  refine qr_start (d := d + 1) qv_e151 (Nat.le_of_ble_eq_true rfl) ?_
  show qr_W (qe L xs vb) (d + 1) qx_e151 _ (0, [(0, .ref 42), (1, .int (qz x1)), (2, .int (qz 0)), (3, .int (qz x3)), (4, .int (qz x4)), (5, .int (qz x5))], [], _, 0, 0)
  have hF0 := qFr_rf [(42, 1)] [43] σ α
  refine qr_aload_n 1 rfl rfl rfl ?_
  refine qr_iload_n 2 rfl rfl rfl ?_
  refine qr_iload_n 3 rfl rfl rfl ?_
  refine qr_iload_n 4 rfl rfl rfl ?_
  refine qr_iload_n 5 rfl rfl rfl ?_
  refine qr_iload 7 rfl rfl rfl ?_
  refine qr_iload 9 rfl rfl rfl ?_
  refine qr_callN 12 rfl rfl rfl (sf_152_42p0 (d := d + 0) hI r1 (qrg r1 (by decide) (by decide)) r3 r4 r5) ?_
  rintro _ _ ⟨σ2, α3, rfl, hI4, hG5, v1, rfl, hv1⟩
  have hF6 : qFr [(42, 1)] [43] σ α σ2 α3 := qFr_t hF0 hG5 (by decide) (by decide)
  show qr_W (qe L xs vb) (d + 1) qx_e151 _ (12, _, [.int (qz v1)], qw σ2 α3 κ ρ, 0, 0)
  refine qr_retI rfl rfl (by decide) (by decide) ?_
  exact ⟨_, _, rfl, hI4, hF6, v1, rfl, hv1⟩

set_option maxHeartbeats 4000000 in
set_option maxRecDepth 20000 in
/-- OneRoof$Acts.start -/
theorem sf_150_42p0 {L : Nat} {xs : Nat → Int} {vb : Bool} {d : Nat} {σ α : Nat → Nat → Int} {κ : Nat → Option Nat} {ρ : Nat} {x1 : Int} {x3 : Int} {x4 : Int} (hI : qI σ α κ ρ) (r1 : 7 ≤ x1 ∧ x1 ≤ 2147483647) (r3 : (-2147483648) ≤ x3 ∧ x3 ≤ 2147483647) (r4 : (-2147483648) ≤ x4 ∧ x4 ≤ 2147483647) (p0 : σ 42 1 = 0) : qm_T (qe L xs vb) (d + 3) 150 [.ref 42, .int (qz x1), .int (qz 0), .int (qz x3), .int (qz x4)] (qw σ α κ ρ) (fun r w' => ∃ σ' α', w' = qw σ' α' κ ρ ∧ qI σ' α' κ ρ ∧ qFr [(42, 1)] [43] σ α σ' α' ∧ ∃ v : Int, r = some (.int (qz v)) ∧ ((-2147483648) ≤ v ∧ v ≤ 2147483647)) := by
  refine qr_start (d := d + 2) qv_e150 (Nat.le_of_ble_eq_true rfl) ?_
  show qr_W (qe L xs vb) (d + 2) qx_e150 _ (0, [(0, .ref 42), (1, .int (qz x1)), (2, .int (qz 0)), (3, .int (qz x3)), (4, .int (qz x4))], [], _, 0, 0)
  have hF0 := qFr_rf [(42, 1)] [43] σ α
  have hz42_1 : (-2147483648) ≤ σ 42 1 ∧ σ 42 1 ≤ 2147483647 := hI.1 42 1
  refine qr_aload_n 1 rfl rfl rfl ?_
  refine qr_iload_n 2 rfl rfl rfl ?_
  refine qr_iload_n 3 rfl rfl rfl ?_
  refine qr_iload_n 4 rfl rfl rfl ?_
  refine qr_iload 6 rfl rfl rfl ?_
  refine qr_iconst 7 rfl rfl ?_
  refine qr_callN 10 rfl rfl rfl (sf_151_42p0 (d := d + 0) hI r1 r3 r4 (by decide)) ?_
  rintro _ _ ⟨σ2, α3, rfl, hI4, hG5, v1, rfl, hv1⟩
  have hF6 : qFr [(42, 1)] [43] σ α σ2 α3 := qFr_t hF0 hG5 (by decide) (by decide)
  show qr_W (qe L xs vb) (d + 2) qx_e150 _ (10, _, [.int (qz v1)], qw σ2 α3 κ ρ, 0, 0)
  refine qr_retI rfl rfl (by decide) (by decide) ?_
  exact ⟨_, _, rfl, hI4, hF6, v1, rfl, hv1⟩

set_option maxHeartbeats 4000000 in
set_option maxRecDepth 20000 in
/-- OneRoof$Acts.begin -/
theorem sf_153_42b10_0_0 {L : Nat} {xs : Nat → Int} {vb : Bool} {d : Nat} {σ α : Nat → Nat → Int} {κ : Nat → Option Nat} {ρ : Nat} {x4 : Int} {x5 : Int} {x6 : Int} (hI : qI σ α κ ρ) (r4 : (-2147483648) ≤ x4 ∧ x4 ≤ 2147483647) (r5 : (-2147483648) ≤ x5 ∧ x5 ≤ 2147483647) (r6 : 0 ≤ x6 ∧ x6 ≤ 39) (p0 : 0 ≤ σ 42 1 ∧ σ 42 1 ≤ 1800) : qm_T (qe L xs vb) (d + 4) 153 [.ref 42, .int (qz 10), .int (qz 0), .int (qz 0), .int (qz x4), .int (qz x5), .int (qz x6)] (qw σ α κ ρ) (fun r w' => ∃ σ' α', w' = qw σ' α' κ ρ ∧ qI σ' α' κ ρ ∧ qFr [(42, 1)] [43] σ α σ' α' ∧ ∃ v : Int, r = some (.int (qz v)) ∧ ((-2147483648) ≤ v ∧ v ≤ 2147483647) ∧ σ' 42 1 = σ 42 1 + 2) := by
  refine qr_start (d := d + 3) qv_e153 (Nat.le_of_ble_eq_true rfl) ?_
  show qr_W (qe L xs vb) (d + 3) qx_e153 _ (0, [(0, .ref 42), (1, .int (qz 10)), (2, .int (qz 0)), (3, .int (qz 0)), (4, .int (qz x4)), (5, .int (qz x5)), (6, .int (qz x6))], [], _, 0, 0)
  have hF0 := qFr_rf [(42, 1)] [43] σ α
  have hz42_1 : (-2147483648) ≤ σ 42 1 ∧ σ 42 1 ≤ 2147483647 := hI.1 42 1
  refine qr_aload_n 1 rfl rfl rfl ?_
  refine qr_get 4 rfl rfl rfl (by decide) rfl ?_
  refine qr_aload_n 5 rfl rfl rfl ?_
  refine qr_get 8 rfl rfl rfl (by decide) rfl ?_
  refine qr_alen 9 rfl rfl (by first | exact Or.inl (by decide) | exact Or.inr (Or.inl rfl) | exact Or.inr (Or.inr (Or.inl rfl)) | exact Or.inr (Or.inr (Or.inr (Or.inl rfl)))) rfl ?_
  refine qy_v 24 rfl ?_
  refine qr_icmp_ge 22 12 rfl rfl rfl hz42_1 (by decide) (fun h1 => ?_) (fun h1 => ?_)
  · skip
    refine qr_aload_n 23 rfl rfl rfl ?_
    refine qr_dup 24 rfl rfl rfl ?_
    refine qr_get 27 rfl rfl rfl (by decide) rfl ?_
    refine qr_iconst 28 rfl rfl ?_
    refine qr_iadd 29 rfl rfl ?_
    refine qr_put 32 rfl (by decide) rfl (Nat.le_of_ble_eq_true rfl) (Nat.le_of_ble_eq_true rfl) (Or.inl rfl) (qr_fitI rfl _) rfl ?_
    refine qy_wS (qw_s σ 42 1 ((σ 42 1) + 1)) rfl (fun σ2 e3 => ?_)
    have hI4 : qI σ2 α κ ρ := by rw [e3]; exact qI_s hI 42 1 rfl (show (-2147483648) ≤ ((σ 42 1) + 1) ∧ ((σ 42 1) + 1) ≤ 2147483647 by omega)
    have hF5 : qFr [(42, 1)] [43] σ α σ2 α := by rw [e3]; exact qFr_s hF0 42 1 _ (by decide)
    refine qr_getst 35 rfl rfl ?_
    refine qr_iload_n 36 rfl rfl rfl ?_
    refine qr_iaload 37 rfl rfl (by decide) (by decide) rfl ?_
    refine qy_v (-1) (by decide) ?_
    refine qr_istore _ 39 rfl (by decide) rfl rfl ?_
    refine qr_iload_n 40 rfl rfl rfl ?_
    refine qr_look (off := 139) 179 rfl (by omega) (by decide) (by decide) rfl ?_
    refine qr_aload_n 180 rfl rfl rfl ?_
    refine qr_iload_n 181 rfl rfl rfl ?_
    refine qr_iconst 182 rfl rfl ?_
    refine qr_iload 184 rfl rfl rfl ?_
    refine qr_iload 186 rfl rfl rfl ?_
    refine qr_iload 188 rfl rfl rfl ?_
    have hs6 : (-2147483648) ≤ σ2 42 1 ∧ σ2 42 1 ≤ 2147483647 := hI4.1 42 1
    have hs7 : σ2 42 1 = ((σ 42 1) + 1) := (congrFun (congrFun e3 42) 1).trans rfl
    refine qr_callN 191 rfl rfl rfl (sf_151_42r0_0 (d := d + 0) hI4 r4 r5 r6 (by omega)) ?_
    have hs10 : (-2147483648) ≤ σ2 42 1 ∧ σ2 42 1 ≤ 2147483647 := hI4.1 42 1
    have hs11 : σ2 42 1 = ((σ 42 1) + 1) := (congrFun (congrFun e3 42) 1).trans rfl
    rintro _ _ ⟨σ12, α13, rfl, hI14, hG15, v8, rfl, hv8, hp9⟩
    have hF16 : qFr [(42, 1)] [43] σ α σ12 α13 := qFr_t hF5 hG15 (by decide) (by decide)
    have hs17 : (-2147483648) ≤ σ12 42 1 ∧ σ12 42 1 ≤ 2147483647 := hI14.1 42 1
    show qr_W (qe L xs vb) (d + 3) qx_e153 _ (191, _, [.int (qz v8)], qw σ12 α13 κ ρ, 0, 0)
    refine qr_iconst 192 rfl rfl ?_
    refine qr_imul 193 rfl rfl ?_
    refine qy_can (fun v18 hv18 => ?_)
    refine qr_retI rfl rfl (by decide) (by decide) ?_
    have hw19 : σ12 42 1 = (σ12 42 1) := rfl
    exact ⟨_, _, rfl, hI14, hF16, v18, rfl, hv18, by omega⟩
  · skip
    refine qr_aload_n 13 rfl rfl rfl ?_
    refine qr_get 16 rfl rfl rfl (by decide) rfl ?_
    refine qr_aload_n 17 rfl rfl rfl ?_
    refine qr_get 20 rfl rfl rfl (by decide) rfl ?_
    refine qr_iload_n 21 rfl rfl rfl ?_
    refine qr_iastore 22 rfl (by decide) rfl (by omega) (by decide) rfl ?_
    refine qy_wA (qw_r α 43 (qzu (α 43) ((σ 42 1) : Int).toNat 10)) rfl (fun α20 e21 => ?_)
    have hI22 : qI σ α20 κ ρ := by rw [e21]; exact qI_r hI 43 _ rfl (show (-2147483648) ≤ 10 ∧ 10 ≤ 2147483647 by omega)
    have hF23 : qFr [(42, 1)] [43] σ α σ α20 := by rw [e21]; exact qFr_r hF0 43 _ (by decide)
    refine qr_aload_n 23 rfl rfl rfl ?_
    refine qr_dup 24 rfl rfl rfl ?_
    refine qr_get 27 rfl rfl rfl (by decide) rfl ?_
    refine qr_iconst 28 rfl rfl ?_
    refine qr_iadd 29 rfl rfl ?_
    refine qr_put 32 rfl (by decide) rfl (Nat.le_of_ble_eq_true rfl) (Nat.le_of_ble_eq_true rfl) (Or.inl rfl) (qr_fitI rfl _) rfl ?_
    refine qy_wS (qw_s σ 42 1 ((σ 42 1) + 1)) rfl (fun σ24 e25 => ?_)
    have hI26 : qI σ24 α20 κ ρ := by rw [e25]; exact qI_s hI22 42 1 rfl (show (-2147483648) ≤ ((σ 42 1) + 1) ∧ ((σ 42 1) + 1) ≤ 2147483647 by omega)
    have hF27 : qFr [(42, 1)] [43] σ α σ24 α20 := by rw [e25]; exact qFr_s hF23 42 1 _ (by decide)
    refine qr_getst 35 rfl rfl ?_
    refine qr_iload_n 36 rfl rfl rfl ?_
    refine qr_iaload 37 rfl rfl (by decide) (by decide) rfl ?_
    refine qy_v (-1) (by decide) ?_
    refine qr_istore _ 39 rfl (by decide) rfl rfl ?_
    refine qr_iload_n 40 rfl rfl rfl ?_
    refine qr_look (off := 139) 179 rfl (by omega) (by decide) (by decide) rfl ?_
    refine qr_aload_n 180 rfl rfl rfl ?_
    refine qr_iload_n 181 rfl rfl rfl ?_
    refine qr_iconst 182 rfl rfl ?_
    refine qr_iload 184 rfl rfl rfl ?_
    refine qr_iload 186 rfl rfl rfl ?_
    refine qr_iload 188 rfl rfl rfl ?_
    have hs28 : (-2147483648) ≤ σ24 42 1 ∧ σ24 42 1 ≤ 2147483647 := hI26.1 42 1
    have hs29 : σ24 42 1 = ((σ 42 1) + 1) := (congrFun (congrFun e25 42) 1).trans rfl
    refine qr_callN 191 rfl rfl rfl (sf_151_42r0_0 (d := d + 0) hI26 r4 r5 r6 (by omega)) ?_
    have hs32 : (-2147483648) ≤ σ24 42 1 ∧ σ24 42 1 ≤ 2147483647 := hI26.1 42 1
    have hs33 : σ24 42 1 = ((σ 42 1) + 1) := (congrFun (congrFun e25 42) 1).trans rfl
    rintro _ _ ⟨σ34, α35, rfl, hI36, hG37, v30, rfl, hv30, hp31⟩
    have hF38 : qFr [(42, 1)] [43] σ α σ34 α35 := qFr_t hF27 hG37 (by decide) (by decide)
    have hs39 : (-2147483648) ≤ σ34 42 1 ∧ σ34 42 1 ≤ 2147483647 := hI36.1 42 1
    show qr_W (qe L xs vb) (d + 3) qx_e153 _ (191, _, [.int (qz v30)], qw σ34 α35 κ ρ, 0, 0)
    refine qr_iconst 192 rfl rfl ?_
    refine qr_imul 193 rfl rfl ?_
    refine qy_can (fun v40 hv40 => ?_)
    refine qr_retI rfl rfl (by decide) (by decide) ?_
    have hw41 : σ34 42 1 = (σ34 42 1) := rfl
    exact ⟨_, _, rfl, hI36, hF38, v40, rfl, hv40, by omega⟩

set_option maxHeartbeats 4000000 in
set_option maxRecDepth 20000 in
/-- OneRoof$Acts.runFrom -/
theorem sf_152_42f0_0_1 {L : Nat} {xs : Nat → Int} {vb : Bool} {d : Nat} {σ α : Nat → Nat → Int} {κ : Nat → Option Nat} {ρ : Nat} {x4 : Int} {x5 : Int} {x6 : Int} (hI : qI σ α κ ρ) (r4 : (-2147483648) ≤ x4 ∧ x4 ≤ 2147483647) (r5 : (-2147483648) ≤ x5 ∧ x5 ≤ 2147483647) (r6 : 0 ≤ x6 ∧ x6 ≤ 38) (p0 : 0 ≤ σ 42 1 ∧ σ 42 1 ≤ 1800) : qm_T (qe L xs vb) (d + 5) 152 [.ref 42, .int (qz 0), .int (qz 0), .int (qz 1), .int (qz x4), .int (qz x5), .int (qz x6)] (qw σ α κ ρ) (fun r w' => ∃ σ' α', w' = qw σ' α' κ ρ ∧ qI σ' α' κ ρ ∧ qFr [(42, 1)] [43] σ α σ' α' ∧ ∃ v : Int, r = some (.int (qz v)) ∧ ((-2147483648) ≤ v ∧ v ≤ 2147483647) ∧ σ' 42 1 = σ 42 1 + 2) := by
  refine qr_start (d := d + 4) qv_e152 (Nat.le_of_ble_eq_true rfl) ?_
  show qr_W (qe L xs vb) (d + 4) qx_e152 _ (0, [(0, .ref 42), (1, .int (qz 0)), (2, .int (qz 0)), (3, .int (qz 1)), (4, .int (qz x4)), (5, .int (qz x5)), (6, .int (qz x6))], [], _, 0, 0)
  have hF0 := qFr_rf [(42, 1)] [43] σ α
  have hz42_1 : (-2147483648) ≤ σ 42 1 ∧ σ 42 1 ≤ 2147483647 := hI.1 42 1
  refine qr_iload_n 1 rfl rfl rfl ?_
  refine qr_istore _ 3 rfl (by decide) rfl rfl ?_
  refine qr_iconst 4 rfl rfl ?_
  refine qr_istore _ 6 rfl (by decide) rfl rfl ?_
  refine qr_iload 8 rfl rfl rfl ?_
  refine qr_getst 11 rfl rfl ?_
  refine qr_alen 12 rfl rfl (by first | exact Or.inl (by decide) | exact Or.inr (Or.inl rfl) | exact Or.inr (Or.inr (Or.inl rfl)) | exact Or.inr (Or.inr (Or.inr (Or.inl rfl)))) rfl ?_
  refine qy_v 7 rfl ?_
  refine qr_icmp_ge 89 15 rfl rfl rfl (by decide) (by decide) (fun h => False.elim (by omega)) (fun h1 => ?_)
  refine qr_iload 17 rfl rfl rfl ?_
  refine qr_if_lt 89 20 rfl rfl rfl (by decide) (fun h => False.elim (by omega)) (fun h2 => ?_)
  refine qr_iload 22 rfl rfl rfl ?_
  refine qr_getst 25 rfl rfl ?_
  refine qr_alen 26 rfl rfl (by first | exact Or.inl (by decide) | exact Or.inr (Or.inl rfl) | exact Or.inr (Or.inr (Or.inl rfl)) | exact Or.inr (Or.inr (Or.inr (Or.inl rfl)))) rfl ?_
  refine qy_v 7 rfl ?_
  refine qr_icmp_ge 89 29 rfl rfl rfl (by decide) (by decide) (fun h => False.elim (by omega)) (fun h3 => ?_)
  refine qr_getst 32 rfl rfl ?_
  refine qr_iload 34 rfl rfl rfl ?_
  refine qr_iconst 35 rfl rfl ?_
  refine qr_imul 36 rfl rfl ?_
  refine qy_v 0 rfl ?_
  refine qr_iload_n 37 rfl rfl rfl ?_
  refine qr_iadd 38 rfl rfl ?_
  refine qy_v 1 rfl ?_
  refine qr_iaload 39 rfl rfl (by decide) (by decide) rfl ?_
  refine qy_v 10 (by decide) ?_
  refine qr_istore _ 41 rfl (by decide) rfl rfl ?_
  refine qr_iload 43 rfl rfl rfl ?_
  refine qr_if_eq 75 46 rfl rfl rfl (by decide) (fun h => False.elim (by omega)) (fun h4 => ?_)
  refine qr_iload 48 rfl rfl rfl ?_
  refine qr_bipush 50 rfl (by decide) rfl ?_
  refine qr_icmp_le 57 53 rfl rfl rfl (qrg r6 (by decide) (by decide)) (by decide) (fun h5 => ?_) (fun h => False.elim (by omega))
  refine qr_aload_n 58 rfl rfl rfl ?_
  refine qr_iload 60 rfl rfl rfl ?_
  refine qr_iload 62 rfl rfl rfl ?_
  refine qr_iload_n 63 rfl rfl rfl ?_
  refine qr_iload 65 rfl rfl rfl ?_
  refine qr_iload 67 rfl rfl rfl ?_
  refine qr_iload 69 rfl rfl rfl ?_
  refine qr_iconst 70 rfl rfl ?_
  refine qr_iadd 71 rfl rfl ?_
  have hs6 : (-2147483648) ≤ σ 42 1 ∧ σ 42 1 ≤ 2147483647 := hI.1 42 1
  refine qr_callN 74 rfl rfl rfl (sf_153_42b10_0_0 (d := d + 0) hI r4 r5 (by omega) (by omega)) ?_
  have hs9 : (-2147483648) ≤ σ 42 1 ∧ σ 42 1 ≤ 2147483647 := hI.1 42 1
  rintro _ _ ⟨σ10, α11, rfl, hI12, hG13, v7, rfl, hv7, hp8⟩
  have hF14 : qFr [(42, 1)] [43] σ α σ10 α11 := qFr_t hF0 hG13 (by decide) (by decide)
  have hs15 : (-2147483648) ≤ σ10 42 1 ∧ σ10 42 1 ≤ 2147483647 := hI12.1 42 1
  show qr_W (qe L xs vb) (d + 4) qx_e152 _ (74, _, [.int (qz v7)], qw σ10 α11 κ ρ, 0, 0)
  refine qr_retI rfl rfl (by decide) (by decide) ?_
  have hw16 : σ10 42 1 = (σ10 42 1) := rfl
  exact ⟨_, _, rfl, hI12, hF14, v7, rfl, hv7, by omega⟩

set_option maxHeartbeats 4000000 in
set_option maxRecDepth 20000 in
/-- OneRoof$Acts.run -/
theorem sf_151_42r0_1 {L : Nat} {xs : Nat → Int} {vb : Bool} {d : Nat} {σ α : Nat → Nat → Int} {κ : Nat → Option Nat} {ρ : Nat} {x3 : Int} {x4 : Int} {x5 : Int} (hI : qI σ α κ ρ) (r3 : (-2147483648) ≤ x3 ∧ x3 ≤ 2147483647) (r4 : (-2147483648) ≤ x4 ∧ x4 ≤ 2147483647) (r5 : 0 ≤ x5 ∧ x5 ≤ 38) (p0 : 0 ≤ σ 42 1 ∧ σ 42 1 ≤ 1800) : qm_T (qe L xs vb) (d + 6) 151 [.ref 42, .int (qz 0), .int (qz 1), .int (qz x3), .int (qz x4), .int (qz x5)] (qw σ α κ ρ) (fun r w' => ∃ σ' α', w' = qw σ' α' κ ρ ∧ qI σ' α' κ ρ ∧ qFr [(42, 1)] [43] σ α σ' α' ∧ ∃ v : Int, r = some (.int (qz v)) ∧ ((-2147483648) ≤ v ∧ v ≤ 2147483647) ∧ σ' 42 1 = σ 42 1 + 2) := by
  refine qr_start (d := d + 5) qv_e151 (Nat.le_of_ble_eq_true rfl) ?_
  show qr_W (qe L xs vb) (d + 5) qx_e151 _ (0, [(0, .ref 42), (1, .int (qz 0)), (2, .int (qz 1)), (3, .int (qz x3)), (4, .int (qz x4)), (5, .int (qz x5))], [], _, 0, 0)
  have hF0 := qFr_rf [(42, 1)] [43] σ α
  have hz42_1 : (-2147483648) ≤ σ 42 1 ∧ σ 42 1 ≤ 2147483647 := hI.1 42 1
  refine qr_aload_n 1 rfl rfl rfl ?_
  refine qr_iload_n 2 rfl rfl rfl ?_
  refine qr_iload_n 3 rfl rfl rfl ?_
  refine qr_iload_n 4 rfl rfl rfl ?_
  refine qr_iload_n 5 rfl rfl rfl ?_
  refine qr_iload 7 rfl rfl rfl ?_
  refine qr_iload 9 rfl rfl rfl ?_
  have hs1 : (-2147483648) ≤ σ 42 1 ∧ σ 42 1 ≤ 2147483647 := hI.1 42 1
  refine qr_callN 12 rfl rfl rfl (sf_152_42f0_0_1 (d := d + 0) hI r3 r4 r5 (by omega)) ?_
  have hs4 : (-2147483648) ≤ σ 42 1 ∧ σ 42 1 ≤ 2147483647 := hI.1 42 1
  rintro _ _ ⟨σ5, α6, rfl, hI7, hG8, v2, rfl, hv2, hp3⟩
  have hF9 : qFr [(42, 1)] [43] σ α σ5 α6 := qFr_t hF0 hG8 (by decide) (by decide)
  have hs10 : (-2147483648) ≤ σ5 42 1 ∧ σ5 42 1 ≤ 2147483647 := hI7.1 42 1
  show qr_W (qe L xs vb) (d + 5) qx_e151 _ (12, _, [.int (qz v2)], qw σ5 α6 κ ρ, 0, 0)
  refine qr_retI rfl rfl (by decide) (by decide) ?_
  have hw11 : σ5 42 1 = (σ5 42 1) := rfl
  exact ⟨_, _, rfl, hI7, hF9, v2, rfl, hv2, by omega⟩

set_option maxHeartbeats 4000000 in
set_option maxRecDepth 20000 in
/-- OneRoof$Acts.start -/
theorem sf_150_42s0_1 {L : Nat} {xs : Nat → Int} {vb : Bool} {d : Nat} {σ α : Nat → Nat → Int} {κ : Nat → Option Nat} {ρ : Nat} {x3 : Int} {x4 : Int} (hI : qI σ α κ ρ) (r3 : (-2147483648) ≤ x3 ∧ x3 ≤ 2147483647) (r4 : (-2147483648) ≤ x4 ∧ x4 ≤ 2147483647) (p0 : σ 42 1 = 0) : qm_T (qe L xs vb) (d + 7) 150 [.ref 42, .int (qz 0), .int (qz 1), .int (qz x3), .int (qz x4)] (qw σ α κ ρ) (fun r w' => ∃ σ' α', w' = qw σ' α' κ ρ ∧ qI σ' α' κ ρ ∧ qFr [(42, 1)] [43] σ α σ' α' ∧ ∃ v : Int, r = some (.int (qz v)) ∧ ((-2147483648) ≤ v ∧ v ≤ 2147483647)) := by
  refine qr_start (d := d + 6) qv_e150 (Nat.le_of_ble_eq_true rfl) ?_
  show qr_W (qe L xs vb) (d + 6) qx_e150 _ (0, [(0, .ref 42), (1, .int (qz 0)), (2, .int (qz 1)), (3, .int (qz x3)), (4, .int (qz x4))], [], _, 0, 0)
  have hF0 := qFr_rf [(42, 1)] [43] σ α
  have hz42_1 : (-2147483648) ≤ σ 42 1 ∧ σ 42 1 ≤ 2147483647 := hI.1 42 1
  refine qr_aload_n 1 rfl rfl rfl ?_
  refine qr_iload_n 2 rfl rfl rfl ?_
  refine qr_iload_n 3 rfl rfl rfl ?_
  refine qr_iload_n 4 rfl rfl rfl ?_
  refine qr_iload 6 rfl rfl rfl ?_
  refine qr_iconst 7 rfl rfl ?_
  have hs1 : (-2147483648) ≤ σ 42 1 ∧ σ 42 1 ≤ 2147483647 := hI.1 42 1
  refine qr_callN 10 rfl rfl rfl (sf_151_42r0_1 (d := d + 0) hI r3 r4 (by decide) (by omega)) ?_
  have hs4 : (-2147483648) ≤ σ 42 1 ∧ σ 42 1 ≤ 2147483647 := hI.1 42 1
  rintro _ _ ⟨σ5, α6, rfl, hI7, hG8, v2, rfl, hv2, hp3⟩
  have hF9 : qFr [(42, 1)] [43] σ α σ5 α6 := qFr_t hF0 hG8 (by decide) (by decide)
  have hs10 : (-2147483648) ≤ σ5 42 1 ∧ σ5 42 1 ≤ 2147483647 := hI7.1 42 1
  show qr_W (qe L xs vb) (d + 6) qx_e150 _ (10, _, [.int (qz v2)], qw σ5 α6 κ ρ, 0, 0)
  refine qr_retI rfl rfl (by decide) (by decide) ?_
  exact ⟨_, _, rfl, hI7, hF9, v2, rfl, hv2⟩

set_option maxHeartbeats 4000000 in
set_option maxRecDepth 20000 in
/-- OneRoof$Acts.begin -/
theorem sf_153_42b10_0_1 {L : Nat} {xs : Nat → Int} {vb : Bool} {d : Nat} {σ α : Nat → Nat → Int} {κ : Nat → Option Nat} {ρ : Nat} {x4 : Int} {x5 : Int} {x6 : Int} (hI : qI σ α κ ρ) (r4 : (-2147483648) ≤ x4 ∧ x4 ≤ 2147483647) (r5 : (-2147483648) ≤ x5 ∧ x5 ≤ 2147483647) (r6 : 0 ≤ x6 ∧ x6 ≤ 38) (p0 : 0 ≤ σ 42 1 ∧ σ 42 1 ≤ 1700) : qm_T (qe L xs vb) (d + 6) 153 [.ref 42, .int (qz 10), .int (qz 0), .int (qz 1), .int (qz x4), .int (qz x5), .int (qz x6)] (qw σ α κ ρ) (fun r w' => ∃ σ' α', w' = qw σ' α' κ ρ ∧ qI σ' α' κ ρ ∧ qFr [(42, 1)] [43] σ α σ' α' ∧ ∃ v : Int, r = some (.int (qz v)) ∧ ((-2147483648) ≤ v ∧ v ≤ 2147483647) ∧ σ' 42 1 = σ 42 1 + 3) := by
  refine qr_start (d := d + 5) qv_e153 (Nat.le_of_ble_eq_true rfl) ?_
  show qr_W (qe L xs vb) (d + 5) qx_e153 _ (0, [(0, .ref 42), (1, .int (qz 10)), (2, .int (qz 0)), (3, .int (qz 1)), (4, .int (qz x4)), (5, .int (qz x5)), (6, .int (qz x6))], [], _, 0, 0)
  have hF0 := qFr_rf [(42, 1)] [43] σ α
  have hz42_1 : (-2147483648) ≤ σ 42 1 ∧ σ 42 1 ≤ 2147483647 := hI.1 42 1
  refine qr_aload_n 1 rfl rfl rfl ?_
  refine qr_get 4 rfl rfl rfl (by decide) rfl ?_
  refine qr_aload_n 5 rfl rfl rfl ?_
  refine qr_get 8 rfl rfl rfl (by decide) rfl ?_
  refine qr_alen 9 rfl rfl (by first | exact Or.inl (by decide) | exact Or.inr (Or.inl rfl) | exact Or.inr (Or.inr (Or.inl rfl)) | exact Or.inr (Or.inr (Or.inr (Or.inl rfl)))) rfl ?_
  refine qy_v 24 rfl ?_
  refine qr_icmp_ge 22 12 rfl rfl rfl hz42_1 (by decide) (fun h1 => ?_) (fun h1 => ?_)
  · skip
    refine qr_aload_n 23 rfl rfl rfl ?_
    refine qr_dup 24 rfl rfl rfl ?_
    refine qr_get 27 rfl rfl rfl (by decide) rfl ?_
    refine qr_iconst 28 rfl rfl ?_
    refine qr_iadd 29 rfl rfl ?_
    refine qr_put 32 rfl (by decide) rfl (Nat.le_of_ble_eq_true rfl) (Nat.le_of_ble_eq_true rfl) (Or.inl rfl) (qr_fitI rfl _) rfl ?_
    refine qy_wS (qw_s σ 42 1 ((σ 42 1) + 1)) rfl (fun σ2 e3 => ?_)
    have hI4 : qI σ2 α κ ρ := by rw [e3]; exact qI_s hI 42 1 rfl (show (-2147483648) ≤ ((σ 42 1) + 1) ∧ ((σ 42 1) + 1) ≤ 2147483647 by omega)
    have hF5 : qFr [(42, 1)] [43] σ α σ2 α := by rw [e3]; exact qFr_s hF0 42 1 _ (by decide)
    refine qr_getst 35 rfl rfl ?_
    refine qr_iload_n 36 rfl rfl rfl ?_
    refine qr_iaload 37 rfl rfl (by decide) (by decide) rfl ?_
    refine qy_v (-1) (by decide) ?_
    refine qr_istore _ 39 rfl (by decide) rfl rfl ?_
    refine qr_iload_n 40 rfl rfl rfl ?_
    refine qr_look (off := 139) 179 rfl (by omega) (by decide) (by decide) rfl ?_
    refine qr_aload_n 180 rfl rfl rfl ?_
    refine qr_iload_n 181 rfl rfl rfl ?_
    refine qr_iconst 182 rfl rfl ?_
    refine qr_iload 184 rfl rfl rfl ?_
    refine qr_iload 186 rfl rfl rfl ?_
    refine qr_iload 188 rfl rfl rfl ?_
    have hs6 : (-2147483648) ≤ σ2 42 1 ∧ σ2 42 1 ≤ 2147483647 := hI4.1 42 1
    have hs7 : σ2 42 1 = ((σ 42 1) + 1) := (congrFun (congrFun e3 42) 1).trans rfl
    refine qr_callN 191 rfl rfl rfl (sf_151_42r1_0 (d := d + 0) hI4 r4 r5 r6 (by omega)) ?_
    have hs10 : (-2147483648) ≤ σ2 42 1 ∧ σ2 42 1 ≤ 2147483647 := hI4.1 42 1
    have hs11 : σ2 42 1 = ((σ 42 1) + 1) := (congrFun (congrFun e3 42) 1).trans rfl
    rintro _ _ ⟨σ12, α13, rfl, hI14, hG15, v8, rfl, hv8, hp9⟩
    have hF16 : qFr [(42, 1)] [43] σ α σ12 α13 := qFr_t hF5 hG15 (by decide) (by decide)
    have hs17 : (-2147483648) ≤ σ12 42 1 ∧ σ12 42 1 ≤ 2147483647 := hI14.1 42 1
    show qr_W (qe L xs vb) (d + 5) qx_e153 _ (191, _, [.int (qz v8)], qw σ12 α13 κ ρ, 0, 0)
    refine qr_iconst 192 rfl rfl ?_
    refine qr_imul 193 rfl rfl ?_
    refine qy_can (fun v18 hv18 => ?_)
    refine qr_retI rfl rfl (by decide) (by decide) ?_
    have hw19 : σ12 42 1 = (σ12 42 1) := rfl
    exact ⟨_, _, rfl, hI14, hF16, v18, rfl, hv18, by omega⟩
  · skip
    refine qr_aload_n 13 rfl rfl rfl ?_
    refine qr_get 16 rfl rfl rfl (by decide) rfl ?_
    refine qr_aload_n 17 rfl rfl rfl ?_
    refine qr_get 20 rfl rfl rfl (by decide) rfl ?_
    refine qr_iload_n 21 rfl rfl rfl ?_
    refine qr_iastore 22 rfl (by decide) rfl (by omega) (by decide) rfl ?_
    refine qy_wA (qw_r α 43 (qzu (α 43) ((σ 42 1) : Int).toNat 10)) rfl (fun α20 e21 => ?_)
    have hI22 : qI σ α20 κ ρ := by rw [e21]; exact qI_r hI 43 _ rfl (show (-2147483648) ≤ 10 ∧ 10 ≤ 2147483647 by omega)
    have hF23 : qFr [(42, 1)] [43] σ α σ α20 := by rw [e21]; exact qFr_r hF0 43 _ (by decide)
    refine qr_aload_n 23 rfl rfl rfl ?_
    refine qr_dup 24 rfl rfl rfl ?_
    refine qr_get 27 rfl rfl rfl (by decide) rfl ?_
    refine qr_iconst 28 rfl rfl ?_
    refine qr_iadd 29 rfl rfl ?_
    refine qr_put 32 rfl (by decide) rfl (Nat.le_of_ble_eq_true rfl) (Nat.le_of_ble_eq_true rfl) (Or.inl rfl) (qr_fitI rfl _) rfl ?_
    refine qy_wS (qw_s σ 42 1 ((σ 42 1) + 1)) rfl (fun σ24 e25 => ?_)
    have hI26 : qI σ24 α20 κ ρ := by rw [e25]; exact qI_s hI22 42 1 rfl (show (-2147483648) ≤ ((σ 42 1) + 1) ∧ ((σ 42 1) + 1) ≤ 2147483647 by omega)
    have hF27 : qFr [(42, 1)] [43] σ α σ24 α20 := by rw [e25]; exact qFr_s hF23 42 1 _ (by decide)
    refine qr_getst 35 rfl rfl ?_
    refine qr_iload_n 36 rfl rfl rfl ?_
    refine qr_iaload 37 rfl rfl (by decide) (by decide) rfl ?_
    refine qy_v (-1) (by decide) ?_
    refine qr_istore _ 39 rfl (by decide) rfl rfl ?_
    refine qr_iload_n 40 rfl rfl rfl ?_
    refine qr_look (off := 139) 179 rfl (by omega) (by decide) (by decide) rfl ?_
    refine qr_aload_n 180 rfl rfl rfl ?_
    refine qr_iload_n 181 rfl rfl rfl ?_
    refine qr_iconst 182 rfl rfl ?_
    refine qr_iload 184 rfl rfl rfl ?_
    refine qr_iload 186 rfl rfl rfl ?_
    refine qr_iload 188 rfl rfl rfl ?_
    have hs28 : (-2147483648) ≤ σ24 42 1 ∧ σ24 42 1 ≤ 2147483647 := hI26.1 42 1
    have hs29 : σ24 42 1 = ((σ 42 1) + 1) := (congrFun (congrFun e25 42) 1).trans rfl
    refine qr_callN 191 rfl rfl rfl (sf_151_42r1_0 (d := d + 0) hI26 r4 r5 r6 (by omega)) ?_
    have hs32 : (-2147483648) ≤ σ24 42 1 ∧ σ24 42 1 ≤ 2147483647 := hI26.1 42 1
    have hs33 : σ24 42 1 = ((σ 42 1) + 1) := (congrFun (congrFun e25 42) 1).trans rfl
    rintro _ _ ⟨σ34, α35, rfl, hI36, hG37, v30, rfl, hv30, hp31⟩
    have hF38 : qFr [(42, 1)] [43] σ α σ34 α35 := qFr_t hF27 hG37 (by decide) (by decide)
    have hs39 : (-2147483648) ≤ σ34 42 1 ∧ σ34 42 1 ≤ 2147483647 := hI36.1 42 1
    show qr_W (qe L xs vb) (d + 5) qx_e153 _ (191, _, [.int (qz v30)], qw σ34 α35 κ ρ, 0, 0)
    refine qr_iconst 192 rfl rfl ?_
    refine qr_imul 193 rfl rfl ?_
    refine qy_can (fun v40 hv40 => ?_)
    refine qr_retI rfl rfl (by decide) (by decide) ?_
    have hw41 : σ34 42 1 = (σ34 42 1) := rfl
    exact ⟨_, _, rfl, hI36, hF38, v40, rfl, hv40, by omega⟩

set_option maxHeartbeats 4000000 in
set_option maxRecDepth 20000 in
/-- OneRoof$Acts.runFrom -/
theorem sf_152_42f1_1_1 {L : Nat} {xs : Nat → Int} {vb : Bool} {d : Nat} {σ α : Nat → Nat → Int} {κ : Nat → Option Nat} {ρ : Nat} {x4 : Int} {x5 : Int} {x6 : Int} (hI : qI σ α κ ρ) (r4 : (-2147483648) ≤ x4 ∧ x4 ≤ 2147483647) (r5 : (-2147483648) ≤ x5 ∧ x5 ≤ 2147483647) (r6 : 0 ≤ x6 ∧ x6 ≤ 37) (p0 : 0 ≤ σ 42 1 ∧ σ 42 1 ≤ 1700) : qm_T (qe L xs vb) (d + 7) 152 [.ref 42, .int (qz 1), .int (qz 1), .int (qz 1), .int (qz x4), .int (qz x5), .int (qz x6)] (qw σ α κ ρ) (fun r w' => ∃ σ' α', w' = qw σ' α' κ ρ ∧ qI σ' α' κ ρ ∧ qFr [(42, 1)] [43] σ α σ' α' ∧ ∃ v : Int, r = some (.int (qz v)) ∧ ((-2147483648) ≤ v ∧ v ≤ 2147483647) ∧ σ' 42 1 = σ 42 1 + 3) := by
  refine qr_start (d := d + 6) qv_e152 (Nat.le_of_ble_eq_true rfl) ?_
  show qr_W (qe L xs vb) (d + 6) qx_e152 _ (0, [(0, .ref 42), (1, .int (qz 1)), (2, .int (qz 1)), (3, .int (qz 1)), (4, .int (qz x4)), (5, .int (qz x5)), (6, .int (qz x6))], [], _, 0, 0)
  have hF0 := qFr_rf [(42, 1)] [43] σ α
  have hz42_1 : (-2147483648) ≤ σ 42 1 ∧ σ 42 1 ≤ 2147483647 := hI.1 42 1
  refine qr_iload_n 1 rfl rfl rfl ?_
  refine qr_istore _ 3 rfl (by decide) rfl rfl ?_
  refine qr_iconst 4 rfl rfl ?_
  refine qr_istore _ 6 rfl (by decide) rfl rfl ?_
  refine qr_iload 8 rfl rfl rfl ?_
  refine qr_getst 11 rfl rfl ?_
  refine qr_alen 12 rfl rfl (by first | exact Or.inl (by decide) | exact Or.inr (Or.inl rfl) | exact Or.inr (Or.inr (Or.inl rfl)) | exact Or.inr (Or.inr (Or.inr (Or.inl rfl)))) rfl ?_
  refine qy_v 7 rfl ?_
  refine qr_icmp_ge 89 15 rfl rfl rfl (by decide) (by decide) (fun h => False.elim (by omega)) (fun h1 => ?_)
  refine qr_iload 17 rfl rfl rfl ?_
  refine qr_if_lt 89 20 rfl rfl rfl (by decide) (fun h => False.elim (by omega)) (fun h2 => ?_)
  refine qr_iload 22 rfl rfl rfl ?_
  refine qr_getst 25 rfl rfl ?_
  refine qr_alen 26 rfl rfl (by first | exact Or.inl (by decide) | exact Or.inr (Or.inl rfl) | exact Or.inr (Or.inr (Or.inl rfl)) | exact Or.inr (Or.inr (Or.inr (Or.inl rfl)))) rfl ?_
  refine qy_v 7 rfl ?_
  refine qr_icmp_ge 89 29 rfl rfl rfl (by decide) (by decide) (fun h => False.elim (by omega)) (fun h3 => ?_)
  refine qr_getst 32 rfl rfl ?_
  refine qr_iload 34 rfl rfl rfl ?_
  refine qr_iconst 35 rfl rfl ?_
  refine qr_imul 36 rfl rfl ?_
  refine qy_v 4 rfl ?_
  refine qr_iload_n 37 rfl rfl rfl ?_
  refine qr_iadd 38 rfl rfl ?_
  refine qy_v 5 rfl ?_
  refine qr_iaload 39 rfl rfl (by decide) (by decide) rfl ?_
  refine qy_v 0 (by decide) ?_
  refine qr_istore _ 41 rfl (by decide) rfl rfl ?_
  refine qr_iload 43 rfl rfl rfl ?_
  refine qr_if_eq 75 46 rfl rfl rfl (by decide) (fun h4 => ?_) (fun h => False.elim (by omega))
  refine qr_getst 78 rfl rfl ?_
  refine qr_iload 80 rfl rfl rfl ?_
  refine qr_iaload 81 rfl rfl (by decide) (by decide) rfl ?_
  refine qy_v 0 (by decide) ?_
  refine qr_istore _ 83 rfl (by decide) rfl rfl ?_
  refine qr_iinc _ 86 rfl rfl (by decide) rfl rfl ?_
  refine qr_goto 6 rfl rfl ?_
  refine qr_iload 8 rfl rfl rfl ?_
  refine qr_getst 11 rfl rfl ?_
  refine qr_alen 12 rfl rfl (by first | exact Or.inl (by decide) | exact Or.inr (Or.inl rfl) | exact Or.inr (Or.inr (Or.inl rfl)) | exact Or.inr (Or.inr (Or.inr (Or.inl rfl)))) rfl ?_
  refine qy_v 7 rfl ?_
  refine qr_icmp_ge 89 15 rfl rfl rfl (by omega) (by decide) (fun h => False.elim (by omega)) (fun h5 => ?_)
  refine qr_iload 17 rfl rfl rfl ?_
  refine qr_if_lt 89 20 rfl rfl rfl (by decide) (fun h => False.elim (by omega)) (fun h6 => ?_)
  refine qr_iload 22 rfl rfl rfl ?_
  refine qr_getst 25 rfl rfl ?_
  refine qr_alen 26 rfl rfl (by first | exact Or.inl (by decide) | exact Or.inr (Or.inl rfl) | exact Or.inr (Or.inr (Or.inl rfl)) | exact Or.inr (Or.inr (Or.inr (Or.inl rfl)))) rfl ?_
  refine qy_v 7 rfl ?_
  refine qr_icmp_ge 89 29 rfl rfl rfl (by decide) (by decide) (fun h => False.elim (by omega)) (fun h7 => ?_)
  refine qr_getst 32 rfl rfl ?_
  refine qr_iload 34 rfl rfl rfl ?_
  refine qr_iconst 35 rfl rfl ?_
  refine qr_imul 36 rfl rfl ?_
  refine qy_v 0 rfl ?_
  refine qr_iload_n 37 rfl rfl rfl ?_
  refine qr_iadd 38 rfl rfl ?_
  refine qy_v 1 rfl ?_
  refine qr_iaload 39 rfl rfl (by decide) (by decide) rfl ?_
  refine qy_v 10 (by decide) ?_
  refine qr_istore _ 41 rfl (by decide) rfl rfl ?_
  refine qr_iload 43 rfl rfl rfl ?_
  refine qr_if_eq 75 46 rfl rfl rfl (by decide) (fun h => False.elim (by omega)) (fun h8 => ?_)
  as_aux_lemma =>
    refine qr_iload 48 rfl rfl rfl ?_
    refine qr_bipush 50 rfl (by decide) rfl ?_
    refine qr_icmp_le 57 53 rfl rfl rfl (qrg r6 (by decide) (by decide)) (by decide) (fun h9 => ?_) (fun h => False.elim (by omega))
    refine qr_aload_n 58 rfl rfl rfl ?_
    refine qr_iload 60 rfl rfl rfl ?_
    refine qr_iload 62 rfl rfl rfl ?_
    refine qr_iload_n 63 rfl rfl rfl ?_
    refine qr_iload 65 rfl rfl rfl ?_
    refine qr_iload 67 rfl rfl rfl ?_
    refine qr_iload 69 rfl rfl rfl ?_
    refine qr_iconst 70 rfl rfl ?_
    refine qr_iadd 71 rfl rfl ?_
    have hs10 : (-2147483648) ≤ σ 42 1 ∧ σ 42 1 ≤ 2147483647 := hI.1 42 1
    refine qr_callN 74 rfl rfl rfl (sf_153_42b10_0_1 (d := d + 0) hI r4 r5 (by omega) (by omega)) ?_
    have hs13 : (-2147483648) ≤ σ 42 1 ∧ σ 42 1 ≤ 2147483647 := hI.1 42 1
    rintro _ _ ⟨σ14, α15, rfl, hI16, hG17, v11, rfl, hv11, hp12⟩
    have hF18 : qFr [(42, 1)] [43] σ α σ14 α15 := qFr_t hF0 hG17 (by decide) (by decide)
    have hs19 : (-2147483648) ≤ σ14 42 1 ∧ σ14 42 1 ≤ 2147483647 := hI16.1 42 1
    show qr_W (qe L xs vb) (d + 6) qx_e152 _ (74, _, [.int (qz v11)], qw σ14 α15 κ ρ, 0, 0)
    refine qr_retI rfl rfl (by decide) (by decide) ?_
    have hw20 : σ14 42 1 = (σ14 42 1) := rfl
    exact ⟨_, _, rfl, hI16, hF18, v11, rfl, hv11, by omega⟩

set_option maxHeartbeats 4000000 in
set_option maxRecDepth 20000 in
/-- OneRoof$Acts.run -/
theorem sf_151_42r1_1 {L : Nat} {xs : Nat → Int} {vb : Bool} {d : Nat} {σ α : Nat → Nat → Int} {κ : Nat → Option Nat} {ρ : Nat} {x3 : Int} {x4 : Int} {x5 : Int} (hI : qI σ α κ ρ) (r3 : (-2147483648) ≤ x3 ∧ x3 ≤ 2147483647) (r4 : (-2147483648) ≤ x4 ∧ x4 ≤ 2147483647) (r5 : 0 ≤ x5 ∧ x5 ≤ 37) (p0 : 0 ≤ σ 42 1 ∧ σ 42 1 ≤ 1700) : qm_T (qe L xs vb) (d + 8) 151 [.ref 42, .int (qz 1), .int (qz 1), .int (qz x3), .int (qz x4), .int (qz x5)] (qw σ α κ ρ) (fun r w' => ∃ σ' α', w' = qw σ' α' κ ρ ∧ qI σ' α' κ ρ ∧ qFr [(42, 1)] [43] σ α σ' α' ∧ ∃ v : Int, r = some (.int (qz v)) ∧ ((-2147483648) ≤ v ∧ v ≤ 2147483647) ∧ σ' 42 1 = σ 42 1 + 3) := by
  refine qr_start (d := d + 7) qv_e151 (Nat.le_of_ble_eq_true rfl) ?_
  show qr_W (qe L xs vb) (d + 7) qx_e151 _ (0, [(0, .ref 42), (1, .int (qz 1)), (2, .int (qz 1)), (3, .int (qz x3)), (4, .int (qz x4)), (5, .int (qz x5))], [], _, 0, 0)
  have hF0 := qFr_rf [(42, 1)] [43] σ α
  have hz42_1 : (-2147483648) ≤ σ 42 1 ∧ σ 42 1 ≤ 2147483647 := hI.1 42 1
  refine qr_aload_n 1 rfl rfl rfl ?_
  refine qr_iload_n 2 rfl rfl rfl ?_
  refine qr_iload_n 3 rfl rfl rfl ?_
  refine qr_iload_n 4 rfl rfl rfl ?_
  refine qr_iload_n 5 rfl rfl rfl ?_
  refine qr_iload 7 rfl rfl rfl ?_
  refine qr_iload 9 rfl rfl rfl ?_
  have hs1 : (-2147483648) ≤ σ 42 1 ∧ σ 42 1 ≤ 2147483647 := hI.1 42 1
  refine qr_callN 12 rfl rfl rfl (sf_152_42f1_1_1 (d := d + 0) hI r3 r4 r5 (by omega)) ?_
  have hs4 : (-2147483648) ≤ σ 42 1 ∧ σ 42 1 ≤ 2147483647 := hI.1 42 1
  rintro _ _ ⟨σ5, α6, rfl, hI7, hG8, v2, rfl, hv2, hp3⟩
  have hF9 : qFr [(42, 1)] [43] σ α σ5 α6 := qFr_t hF0 hG8 (by decide) (by decide)
  have hs10 : (-2147483648) ≤ σ5 42 1 ∧ σ5 42 1 ≤ 2147483647 := hI7.1 42 1
  show qr_W (qe L xs vb) (d + 7) qx_e151 _ (12, _, [.int (qz v2)], qw σ5 α6 κ ρ, 0, 0)
  refine qr_retI rfl rfl (by decide) (by decide) ?_
  have hw11 : σ5 42 1 = (σ5 42 1) := rfl
  exact ⟨_, _, rfl, hI7, hF9, v2, rfl, hv2, by omega⟩

set_option maxHeartbeats 4000000 in
set_option maxRecDepth 20000 in
/-- OneRoof$Acts.start -/
theorem sf_150_42s1_1 {L : Nat} {xs : Nat → Int} {vb : Bool} {d : Nat} {σ α : Nat → Nat → Int} {κ : Nat → Option Nat} {ρ : Nat} {x3 : Int} {x4 : Int} (hI : qI σ α κ ρ) (r3 : (-2147483648) ≤ x3 ∧ x3 ≤ 2147483647) (r4 : (-2147483648) ≤ x4 ∧ x4 ≤ 2147483647) (p0 : σ 42 1 = 0) : qm_T (qe L xs vb) (d + 9) 150 [.ref 42, .int (qz 1), .int (qz 1), .int (qz x3), .int (qz x4)] (qw σ α κ ρ) (fun r w' => ∃ σ' α', w' = qw σ' α' κ ρ ∧ qI σ' α' κ ρ ∧ qFr [(42, 1)] [43] σ α σ' α' ∧ ∃ v : Int, r = some (.int (qz v)) ∧ ((-2147483648) ≤ v ∧ v ≤ 2147483647)) := by
  refine qr_start (d := d + 8) qv_e150 (Nat.le_of_ble_eq_true rfl) ?_
  show qr_W (qe L xs vb) (d + 8) qx_e150 _ (0, [(0, .ref 42), (1, .int (qz 1)), (2, .int (qz 1)), (3, .int (qz x3)), (4, .int (qz x4))], [], _, 0, 0)
  have hF0 := qFr_rf [(42, 1)] [43] σ α
  have hz42_1 : (-2147483648) ≤ σ 42 1 ∧ σ 42 1 ≤ 2147483647 := hI.1 42 1
  refine qr_aload_n 1 rfl rfl rfl ?_
  refine qr_iload_n 2 rfl rfl rfl ?_
  refine qr_iload_n 3 rfl rfl rfl ?_
  refine qr_iload_n 4 rfl rfl rfl ?_
  refine qr_iload 6 rfl rfl rfl ?_
  refine qr_iconst 7 rfl rfl ?_
  have hs1 : (-2147483648) ≤ σ 42 1 ∧ σ 42 1 ≤ 2147483647 := hI.1 42 1
  refine qr_callN 10 rfl rfl rfl (sf_151_42r1_1 (d := d + 0) hI r3 r4 (by decide) (by omega)) ?_
  have hs4 : (-2147483648) ≤ σ 42 1 ∧ σ 42 1 ≤ 2147483647 := hI.1 42 1
  rintro _ _ ⟨σ5, α6, rfl, hI7, hG8, v2, rfl, hv2, hp3⟩
  have hF9 : qFr [(42, 1)] [43] σ α σ5 α6 := qFr_t hF0 hG8 (by decide) (by decide)
  have hs10 : (-2147483648) ≤ σ5 42 1 ∧ σ5 42 1 ≤ 2147483647 := hI7.1 42 1
  show qr_W (qe L xs vb) (d + 8) qx_e150 _ (10, _, [.int (qz v2)], qw σ5 α6 κ ρ, 0, 0)
  refine qr_retI rfl rfl (by decide) (by decide) ?_
  exact ⟨_, _, rfl, hI7, hF9, v2, rfl, hv2⟩

set_option maxHeartbeats 4000000 in
set_option maxRecDepth 20000 in
/-- OneRoof$Acts.begin -/
theorem sf_153_42b10_0_2 {L : Nat} {xs : Nat → Int} {vb : Bool} {d : Nat} {σ α : Nat → Nat → Int} {κ : Nat → Option Nat} {ρ : Nat} {x4 : Int} {x5 : Int} {x6 : Int} (hI : qI σ α κ ρ) (r4 : (-2147483648) ≤ x4 ∧ x4 ≤ 2147483647) (r5 : (-2147483648) ≤ x5 ∧ x5 ≤ 2147483647) (r6 : 0 ≤ x6 ∧ x6 ≤ 37) (p0 : 0 ≤ σ 42 1 ∧ σ 42 1 ≤ 1600) : qm_T (qe L xs vb) (d + 8) 153 [.ref 42, .int (qz 10), .int (qz 0), .int (qz 2), .int (qz x4), .int (qz x5), .int (qz x6)] (qw σ α κ ρ) (fun r w' => ∃ σ' α', w' = qw σ' α' κ ρ ∧ qI σ' α' κ ρ ∧ qFr [(42, 1)] [43] σ α σ' α' ∧ ∃ v : Int, r = some (.int (qz v)) ∧ ((-2147483648) ≤ v ∧ v ≤ 2147483647) ∧ σ' 42 1 = σ 42 1 + 4) := by
  refine qr_start (d := d + 7) qv_e153 (Nat.le_of_ble_eq_true rfl) ?_
  show qr_W (qe L xs vb) (d + 7) qx_e153 _ (0, [(0, .ref 42), (1, .int (qz 10)), (2, .int (qz 0)), (3, .int (qz 2)), (4, .int (qz x4)), (5, .int (qz x5)), (6, .int (qz x6))], [], _, 0, 0)
  have hF0 := qFr_rf [(42, 1)] [43] σ α
  have hz42_1 : (-2147483648) ≤ σ 42 1 ∧ σ 42 1 ≤ 2147483647 := hI.1 42 1
  refine qr_aload_n 1 rfl rfl rfl ?_
  refine qr_get 4 rfl rfl rfl (by decide) rfl ?_
  refine qr_aload_n 5 rfl rfl rfl ?_
  refine qr_get 8 rfl rfl rfl (by decide) rfl ?_
  refine qr_alen 9 rfl rfl (by first | exact Or.inl (by decide) | exact Or.inr (Or.inl rfl) | exact Or.inr (Or.inr (Or.inl rfl)) | exact Or.inr (Or.inr (Or.inr (Or.inl rfl)))) rfl ?_
  refine qy_v 24 rfl ?_
  refine qr_icmp_ge 22 12 rfl rfl rfl hz42_1 (by decide) (fun h1 => ?_) (fun h1 => ?_)
  · skip
    refine qr_aload_n 23 rfl rfl rfl ?_
    refine qr_dup 24 rfl rfl rfl ?_
    refine qr_get 27 rfl rfl rfl (by decide) rfl ?_
    refine qr_iconst 28 rfl rfl ?_
    refine qr_iadd 29 rfl rfl ?_
    refine qr_put 32 rfl (by decide) rfl (Nat.le_of_ble_eq_true rfl) (Nat.le_of_ble_eq_true rfl) (Or.inl rfl) (qr_fitI rfl _) rfl ?_
    refine qy_wS (qw_s σ 42 1 ((σ 42 1) + 1)) rfl (fun σ2 e3 => ?_)
    have hI4 : qI σ2 α κ ρ := by rw [e3]; exact qI_s hI 42 1 rfl (show (-2147483648) ≤ ((σ 42 1) + 1) ∧ ((σ 42 1) + 1) ≤ 2147483647 by omega)
    have hF5 : qFr [(42, 1)] [43] σ α σ2 α := by rw [e3]; exact qFr_s hF0 42 1 _ (by decide)
    refine qr_getst 35 rfl rfl ?_
    refine qr_iload_n 36 rfl rfl rfl ?_
    refine qr_iaload 37 rfl rfl (by decide) (by decide) rfl ?_
    refine qy_v (-1) (by decide) ?_
    refine qr_istore _ 39 rfl (by decide) rfl rfl ?_
    refine qr_iload_n 40 rfl rfl rfl ?_
    refine qr_look (off := 139) 179 rfl (by omega) (by decide) (by decide) rfl ?_
    refine qr_aload_n 180 rfl rfl rfl ?_
    refine qr_iload_n 181 rfl rfl rfl ?_
    refine qr_iconst 182 rfl rfl ?_
    refine qr_iload 184 rfl rfl rfl ?_
    refine qr_iload 186 rfl rfl rfl ?_
    refine qr_iload 188 rfl rfl rfl ?_
    have hs6 : (-2147483648) ≤ σ2 42 1 ∧ σ2 42 1 ≤ 2147483647 := hI4.1 42 1
    have hs7 : σ2 42 1 = ((σ 42 1) + 1) := (congrFun (congrFun e3 42) 1).trans rfl
    refine qr_callN 191 rfl rfl rfl (sf_151_42r2_0 (d := d + 0) hI4 r4 r5 r6 (by omega)) ?_
    have hs10 : (-2147483648) ≤ σ2 42 1 ∧ σ2 42 1 ≤ 2147483647 := hI4.1 42 1
    have hs11 : σ2 42 1 = ((σ 42 1) + 1) := (congrFun (congrFun e3 42) 1).trans rfl
    rintro _ _ ⟨σ12, α13, rfl, hI14, hG15, v8, rfl, hv8, hp9⟩
    have hF16 : qFr [(42, 1)] [43] σ α σ12 α13 := qFr_t hF5 hG15 (by decide) (by decide)
    have hs17 : (-2147483648) ≤ σ12 42 1 ∧ σ12 42 1 ≤ 2147483647 := hI14.1 42 1
    show qr_W (qe L xs vb) (d + 7) qx_e153 _ (191, _, [.int (qz v8)], qw σ12 α13 κ ρ, 0, 0)
    refine qr_iconst 192 rfl rfl ?_
    refine qr_imul 193 rfl rfl ?_
    refine qy_can (fun v18 hv18 => ?_)
    refine qr_retI rfl rfl (by decide) (by decide) ?_
    have hw19 : σ12 42 1 = (σ12 42 1) := rfl
    exact ⟨_, _, rfl, hI14, hF16, v18, rfl, hv18, by omega⟩
  · skip
    refine qr_aload_n 13 rfl rfl rfl ?_
    refine qr_get 16 rfl rfl rfl (by decide) rfl ?_
    refine qr_aload_n 17 rfl rfl rfl ?_
    refine qr_get 20 rfl rfl rfl (by decide) rfl ?_
    refine qr_iload_n 21 rfl rfl rfl ?_
    refine qr_iastore 22 rfl (by decide) rfl (by omega) (by decide) rfl ?_
    refine qy_wA (qw_r α 43 (qzu (α 43) ((σ 42 1) : Int).toNat 10)) rfl (fun α20 e21 => ?_)
    have hI22 : qI σ α20 κ ρ := by rw [e21]; exact qI_r hI 43 _ rfl (show (-2147483648) ≤ 10 ∧ 10 ≤ 2147483647 by omega)
    have hF23 : qFr [(42, 1)] [43] σ α σ α20 := by rw [e21]; exact qFr_r hF0 43 _ (by decide)
    refine qr_aload_n 23 rfl rfl rfl ?_
    refine qr_dup 24 rfl rfl rfl ?_
    refine qr_get 27 rfl rfl rfl (by decide) rfl ?_
    refine qr_iconst 28 rfl rfl ?_
    refine qr_iadd 29 rfl rfl ?_
    refine qr_put 32 rfl (by decide) rfl (Nat.le_of_ble_eq_true rfl) (Nat.le_of_ble_eq_true rfl) (Or.inl rfl) (qr_fitI rfl _) rfl ?_
    refine qy_wS (qw_s σ 42 1 ((σ 42 1) + 1)) rfl (fun σ24 e25 => ?_)
    have hI26 : qI σ24 α20 κ ρ := by rw [e25]; exact qI_s hI22 42 1 rfl (show (-2147483648) ≤ ((σ 42 1) + 1) ∧ ((σ 42 1) + 1) ≤ 2147483647 by omega)
    have hF27 : qFr [(42, 1)] [43] σ α σ24 α20 := by rw [e25]; exact qFr_s hF23 42 1 _ (by decide)
    refine qr_getst 35 rfl rfl ?_
    refine qr_iload_n 36 rfl rfl rfl ?_
    refine qr_iaload 37 rfl rfl (by decide) (by decide) rfl ?_
    refine qy_v (-1) (by decide) ?_
    refine qr_istore _ 39 rfl (by decide) rfl rfl ?_
    refine qr_iload_n 40 rfl rfl rfl ?_
    refine qr_look (off := 139) 179 rfl (by omega) (by decide) (by decide) rfl ?_
    refine qr_aload_n 180 rfl rfl rfl ?_
    refine qr_iload_n 181 rfl rfl rfl ?_
    refine qr_iconst 182 rfl rfl ?_
    refine qr_iload 184 rfl rfl rfl ?_
    refine qr_iload 186 rfl rfl rfl ?_
    refine qr_iload 188 rfl rfl rfl ?_
    have hs28 : (-2147483648) ≤ σ24 42 1 ∧ σ24 42 1 ≤ 2147483647 := hI26.1 42 1
    have hs29 : σ24 42 1 = ((σ 42 1) + 1) := (congrFun (congrFun e25 42) 1).trans rfl
    refine qr_callN 191 rfl rfl rfl (sf_151_42r2_0 (d := d + 0) hI26 r4 r5 r6 (by omega)) ?_
    have hs32 : (-2147483648) ≤ σ24 42 1 ∧ σ24 42 1 ≤ 2147483647 := hI26.1 42 1
    have hs33 : σ24 42 1 = ((σ 42 1) + 1) := (congrFun (congrFun e25 42) 1).trans rfl
    rintro _ _ ⟨σ34, α35, rfl, hI36, hG37, v30, rfl, hv30, hp31⟩
    have hF38 : qFr [(42, 1)] [43] σ α σ34 α35 := qFr_t hF27 hG37 (by decide) (by decide)
    have hs39 : (-2147483648) ≤ σ34 42 1 ∧ σ34 42 1 ≤ 2147483647 := hI36.1 42 1
    show qr_W (qe L xs vb) (d + 7) qx_e153 _ (191, _, [.int (qz v30)], qw σ34 α35 κ ρ, 0, 0)
    refine qr_iconst 192 rfl rfl ?_
    refine qr_imul 193 rfl rfl ?_
    refine qy_can (fun v40 hv40 => ?_)
    refine qr_retI rfl rfl (by decide) (by decide) ?_
    have hw41 : σ34 42 1 = (σ34 42 1) := rfl
    exact ⟨_, _, rfl, hI36, hF38, v40, rfl, hv40, by omega⟩

set_option maxHeartbeats 4000000 in
set_option maxRecDepth 20000 in
/-- OneRoof$Acts.runFrom -/
theorem sf_152_42f2_2_1 {L : Nat} {xs : Nat → Int} {vb : Bool} {d : Nat} {σ α : Nat → Nat → Int} {κ : Nat → Option Nat} {ρ : Nat} {x4 : Int} {x5 : Int} {x6 : Int} (hI : qI σ α κ ρ) (r4 : (-2147483648) ≤ x4 ∧ x4 ≤ 2147483647) (r5 : (-2147483648) ≤ x5 ∧ x5 ≤ 2147483647) (r6 : 0 ≤ x6 ∧ x6 ≤ 36) (p0 : 0 ≤ σ 42 1 ∧ σ 42 1 ≤ 1600) : qm_T (qe L xs vb) (d + 9) 152 [.ref 42, .int (qz 2), .int (qz 2), .int (qz 1), .int (qz x4), .int (qz x5), .int (qz x6)] (qw σ α κ ρ) (fun r w' => ∃ σ' α', w' = qw σ' α' κ ρ ∧ qI σ' α' κ ρ ∧ qFr [(42, 1)] [43] σ α σ' α' ∧ ∃ v : Int, r = some (.int (qz v)) ∧ ((-2147483648) ≤ v ∧ v ≤ 2147483647) ∧ σ' 42 1 = σ 42 1 + 4) := by
  refine qr_start (d := d + 8) qv_e152 (Nat.le_of_ble_eq_true rfl) ?_
  show qr_W (qe L xs vb) (d + 8) qx_e152 _ (0, [(0, .ref 42), (1, .int (qz 2)), (2, .int (qz 2)), (3, .int (qz 1)), (4, .int (qz x4)), (5, .int (qz x5)), (6, .int (qz x6))], [], _, 0, 0)
  have hF0 := qFr_rf [(42, 1)] [43] σ α
  have hz42_1 : (-2147483648) ≤ σ 42 1 ∧ σ 42 1 ≤ 2147483647 := hI.1 42 1
  refine qr_iload_n 1 rfl rfl rfl ?_
  refine qr_istore _ 3 rfl (by decide) rfl rfl ?_
  refine qr_iconst 4 rfl rfl ?_
  refine qr_istore _ 6 rfl (by decide) rfl rfl ?_
  refine qr_iload 8 rfl rfl rfl ?_
  refine qr_getst 11 rfl rfl ?_
  refine qr_alen 12 rfl rfl (by first | exact Or.inl (by decide) | exact Or.inr (Or.inl rfl) | exact Or.inr (Or.inr (Or.inl rfl)) | exact Or.inr (Or.inr (Or.inr (Or.inl rfl)))) rfl ?_
  refine qy_v 7 rfl ?_
  refine qr_icmp_ge 89 15 rfl rfl rfl (by decide) (by decide) (fun h => False.elim (by omega)) (fun h1 => ?_)
  refine qr_iload 17 rfl rfl rfl ?_
  refine qr_if_lt 89 20 rfl rfl rfl (by decide) (fun h => False.elim (by omega)) (fun h2 => ?_)
  refine qr_iload 22 rfl rfl rfl ?_
  refine qr_getst 25 rfl rfl ?_
  refine qr_alen 26 rfl rfl (by first | exact Or.inl (by decide) | exact Or.inr (Or.inl rfl) | exact Or.inr (Or.inr (Or.inl rfl)) | exact Or.inr (Or.inr (Or.inr (Or.inl rfl)))) rfl ?_
  refine qy_v 7 rfl ?_
  refine qr_icmp_ge 89 29 rfl rfl rfl (by decide) (by decide) (fun h => False.elim (by omega)) (fun h3 => ?_)
  refine qr_getst 32 rfl rfl ?_
  refine qr_iload 34 rfl rfl rfl ?_
  refine qr_iconst 35 rfl rfl ?_
  refine qr_imul 36 rfl rfl ?_
  refine qy_v 8 rfl ?_
  refine qr_iload_n 37 rfl rfl rfl ?_
  refine qr_iadd 38 rfl rfl ?_
  refine qy_v 9 rfl ?_
  refine qr_iaload 39 rfl rfl (by decide) (by decide) rfl ?_
  refine qy_v 0 (by decide) ?_
  refine qr_istore _ 41 rfl (by decide) rfl rfl ?_
  refine qr_iload 43 rfl rfl rfl ?_
  refine qr_if_eq 75 46 rfl rfl rfl (by decide) (fun h4 => ?_) (fun h => False.elim (by omega))
  refine qr_getst 78 rfl rfl ?_
  refine qr_iload 80 rfl rfl rfl ?_
  refine qr_iaload 81 rfl rfl (by decide) (by decide) rfl ?_
  refine qy_v 1 (by decide) ?_
  refine qr_istore _ 83 rfl (by decide) rfl rfl ?_
  refine qr_iinc _ 86 rfl rfl (by decide) rfl rfl ?_
  refine qr_goto 6 rfl rfl ?_
  refine qr_iload 8 rfl rfl rfl ?_
  refine qr_getst 11 rfl rfl ?_
  refine qr_alen 12 rfl rfl (by first | exact Or.inl (by decide) | exact Or.inr (Or.inl rfl) | exact Or.inr (Or.inr (Or.inl rfl)) | exact Or.inr (Or.inr (Or.inr (Or.inl rfl)))) rfl ?_
  refine qy_v 7 rfl ?_
  refine qr_icmp_ge 89 15 rfl rfl rfl (by omega) (by decide) (fun h => False.elim (by omega)) (fun h5 => ?_)
  refine qr_iload 17 rfl rfl rfl ?_
  refine qr_if_lt 89 20 rfl rfl rfl (by decide) (fun h => False.elim (by omega)) (fun h6 => ?_)
  refine qr_iload 22 rfl rfl rfl ?_
  refine qr_getst 25 rfl rfl ?_
  refine qr_alen 26 rfl rfl (by first | exact Or.inl (by decide) | exact Or.inr (Or.inl rfl) | exact Or.inr (Or.inr (Or.inl rfl)) | exact Or.inr (Or.inr (Or.inr (Or.inl rfl)))) rfl ?_
  refine qy_v 7 rfl ?_
  refine qr_icmp_ge 89 29 rfl rfl rfl (by decide) (by decide) (fun h => False.elim (by omega)) (fun h7 => ?_)
  refine qr_getst 32 rfl rfl ?_
  refine qr_iload 34 rfl rfl rfl ?_
  refine qr_iconst 35 rfl rfl ?_
  refine qr_imul 36 rfl rfl ?_
  refine qy_v 4 rfl ?_
  refine qr_iload_n 37 rfl rfl rfl ?_
  refine qr_iadd 38 rfl rfl ?_
  refine qy_v 5 rfl ?_
  refine qr_iaload 39 rfl rfl (by decide) (by decide) rfl ?_
  refine qy_v 0 (by decide) ?_
  refine qr_istore _ 41 rfl (by decide) rfl rfl ?_
  refine qr_iload 43 rfl rfl rfl ?_
  refine qr_if_eq 75 46 rfl rfl rfl (by decide) (fun h8 => ?_) (fun h => False.elim (by omega))
  as_aux_lemma =>
    refine qr_getst 78 rfl rfl ?_
    refine qr_iload 80 rfl rfl rfl ?_
    refine qr_iaload 81 rfl rfl (by decide) (by decide) rfl ?_
    refine qy_v 0 (by decide) ?_
    refine qr_istore _ 83 rfl (by decide) rfl rfl ?_
    refine qr_iinc _ 86 rfl rfl (by decide) rfl rfl ?_
    refine qr_goto 6 rfl rfl ?_
    refine qr_iload 8 rfl rfl rfl ?_
    refine qr_getst 11 rfl rfl ?_
    refine qr_alen 12 rfl rfl (by first | exact Or.inl (by decide) | exact Or.inr (Or.inl rfl) | exact Or.inr (Or.inr (Or.inl rfl)) | exact Or.inr (Or.inr (Or.inr (Or.inl rfl)))) rfl ?_
    refine qy_v 7 rfl ?_
    refine qr_icmp_ge 89 15 rfl rfl rfl (by omega) (by decide) (fun h => False.elim (by omega)) (fun h9 => ?_)
    refine qr_iload 17 rfl rfl rfl ?_
    refine qr_if_lt 89 20 rfl rfl rfl (by decide) (fun h => False.elim (by omega)) (fun h10 => ?_)
    refine qr_iload 22 rfl rfl rfl ?_
    refine qr_getst 25 rfl rfl ?_
    refine qr_alen 26 rfl rfl (by first | exact Or.inl (by decide) | exact Or.inr (Or.inl rfl) | exact Or.inr (Or.inr (Or.inl rfl)) | exact Or.inr (Or.inr (Or.inr (Or.inl rfl)))) rfl ?_
    refine qy_v 7 rfl ?_
    refine qr_icmp_ge 89 29 rfl rfl rfl (by decide) (by decide) (fun h => False.elim (by omega)) (fun h11 => ?_)
    refine qr_getst 32 rfl rfl ?_
    refine qr_iload 34 rfl rfl rfl ?_
    refine qr_iconst 35 rfl rfl ?_
    refine qr_imul 36 rfl rfl ?_
    refine qy_v 0 rfl ?_
    refine qr_iload_n 37 rfl rfl rfl ?_
    refine qr_iadd 38 rfl rfl ?_
    refine qy_v 1 rfl ?_
    refine qr_iaload 39 rfl rfl (by decide) (by decide) rfl ?_
    refine qy_v 10 (by decide) ?_
    refine qr_istore _ 41 rfl (by decide) rfl rfl ?_
    refine qr_iload 43 rfl rfl rfl ?_
    refine qr_if_eq 75 46 rfl rfl rfl (by decide) (fun h => False.elim (by omega)) (fun h12 => ?_)
    refine qr_iload 48 rfl rfl rfl ?_
    refine qr_bipush 50 rfl (by decide) rfl ?_
    refine qr_icmp_le 57 53 rfl rfl rfl (qrg r6 (by decide) (by decide)) (by decide) (fun h13 => ?_) (fun h => False.elim (by omega))
    refine qr_aload_n 58 rfl rfl rfl ?_
    refine qr_iload 60 rfl rfl rfl ?_
    refine qr_iload 62 rfl rfl rfl ?_
    refine qr_iload_n 63 rfl rfl rfl ?_
    refine qr_iload 65 rfl rfl rfl ?_
    refine qr_iload 67 rfl rfl rfl ?_
    refine qr_iload 69 rfl rfl rfl ?_
    refine qr_iconst 70 rfl rfl ?_
    refine qr_iadd 71 rfl rfl ?_
    have hs14 : (-2147483648) ≤ σ 42 1 ∧ σ 42 1 ≤ 2147483647 := hI.1 42 1
    refine qr_callN 74 rfl rfl rfl (sf_153_42b10_0_2 (d := d + 0) hI r4 r5 (by omega) (by omega)) ?_
    have hs17 : (-2147483648) ≤ σ 42 1 ∧ σ 42 1 ≤ 2147483647 := hI.1 42 1
    rintro _ _ ⟨σ18, α19, rfl, hI20, hG21, v15, rfl, hv15, hp16⟩
    have hF22 : qFr [(42, 1)] [43] σ α σ18 α19 := qFr_t hF0 hG21 (by decide) (by decide)
    have hs23 : (-2147483648) ≤ σ18 42 1 ∧ σ18 42 1 ≤ 2147483647 := hI20.1 42 1
    show qr_W (qe L xs vb) (d + 8) qx_e152 _ (74, _, [.int (qz v15)], qw σ18 α19 κ ρ, 0, 0)
    refine qr_retI rfl rfl (by decide) (by decide) ?_
    have hw24 : σ18 42 1 = (σ18 42 1) := rfl
    exact ⟨_, _, rfl, hI20, hF22, v15, rfl, hv15, by omega⟩

set_option maxHeartbeats 4000000 in
set_option maxRecDepth 20000 in
/-- OneRoof$Acts.run -/
theorem sf_151_42r2_1 {L : Nat} {xs : Nat → Int} {vb : Bool} {d : Nat} {σ α : Nat → Nat → Int} {κ : Nat → Option Nat} {ρ : Nat} {x3 : Int} {x4 : Int} {x5 : Int} (hI : qI σ α κ ρ) (r3 : (-2147483648) ≤ x3 ∧ x3 ≤ 2147483647) (r4 : (-2147483648) ≤ x4 ∧ x4 ≤ 2147483647) (r5 : 0 ≤ x5 ∧ x5 ≤ 36) (p0 : 0 ≤ σ 42 1 ∧ σ 42 1 ≤ 1600) : qm_T (qe L xs vb) (d + 10) 151 [.ref 42, .int (qz 2), .int (qz 1), .int (qz x3), .int (qz x4), .int (qz x5)] (qw σ α κ ρ) (fun r w' => ∃ σ' α', w' = qw σ' α' κ ρ ∧ qI σ' α' κ ρ ∧ qFr [(42, 1)] [43] σ α σ' α' ∧ ∃ v : Int, r = some (.int (qz v)) ∧ ((-2147483648) ≤ v ∧ v ≤ 2147483647) ∧ σ' 42 1 = σ 42 1 + 4) := by
  refine qr_start (d := d + 9) qv_e151 (Nat.le_of_ble_eq_true rfl) ?_
  show qr_W (qe L xs vb) (d + 9) qx_e151 _ (0, [(0, .ref 42), (1, .int (qz 2)), (2, .int (qz 1)), (3, .int (qz x3)), (4, .int (qz x4)), (5, .int (qz x5))], [], _, 0, 0)
  have hF0 := qFr_rf [(42, 1)] [43] σ α
  have hz42_1 : (-2147483648) ≤ σ 42 1 ∧ σ 42 1 ≤ 2147483647 := hI.1 42 1
  refine qr_aload_n 1 rfl rfl rfl ?_
  refine qr_iload_n 2 rfl rfl rfl ?_
  refine qr_iload_n 3 rfl rfl rfl ?_
  refine qr_iload_n 4 rfl rfl rfl ?_
  refine qr_iload_n 5 rfl rfl rfl ?_
  refine qr_iload 7 rfl rfl rfl ?_
  refine qr_iload 9 rfl rfl rfl ?_
  have hs1 : (-2147483648) ≤ σ 42 1 ∧ σ 42 1 ≤ 2147483647 := hI.1 42 1
  refine qr_callN 12 rfl rfl rfl (sf_152_42f2_2_1 (d := d + 0) hI r3 r4 r5 (by omega)) ?_
  have hs4 : (-2147483648) ≤ σ 42 1 ∧ σ 42 1 ≤ 2147483647 := hI.1 42 1
  rintro _ _ ⟨σ5, α6, rfl, hI7, hG8, v2, rfl, hv2, hp3⟩
  have hF9 : qFr [(42, 1)] [43] σ α σ5 α6 := qFr_t hF0 hG8 (by decide) (by decide)
  have hs10 : (-2147483648) ≤ σ5 42 1 ∧ σ5 42 1 ≤ 2147483647 := hI7.1 42 1
  show qr_W (qe L xs vb) (d + 9) qx_e151 _ (12, _, [.int (qz v2)], qw σ5 α6 κ ρ, 0, 0)
  refine qr_retI rfl rfl (by decide) (by decide) ?_
  have hw11 : σ5 42 1 = (σ5 42 1) := rfl
  exact ⟨_, _, rfl, hI7, hF9, v2, rfl, hv2, by omega⟩

set_option maxHeartbeats 4000000 in
set_option maxRecDepth 20000 in
/-- OneRoof$Acts.start -/
theorem sf_150_42s2_1 {L : Nat} {xs : Nat → Int} {vb : Bool} {d : Nat} {σ α : Nat → Nat → Int} {κ : Nat → Option Nat} {ρ : Nat} {x3 : Int} {x4 : Int} (hI : qI σ α κ ρ) (r3 : (-2147483648) ≤ x3 ∧ x3 ≤ 2147483647) (r4 : (-2147483648) ≤ x4 ∧ x4 ≤ 2147483647) (p0 : σ 42 1 = 0) : qm_T (qe L xs vb) (d + 11) 150 [.ref 42, .int (qz 2), .int (qz 1), .int (qz x3), .int (qz x4)] (qw σ α κ ρ) (fun r w' => ∃ σ' α', w' = qw σ' α' κ ρ ∧ qI σ' α' κ ρ ∧ qFr [(42, 1)] [43] σ α σ' α' ∧ ∃ v : Int, r = some (.int (qz v)) ∧ ((-2147483648) ≤ v ∧ v ≤ 2147483647)) := by
  refine qr_start (d := d + 10) qv_e150 (Nat.le_of_ble_eq_true rfl) ?_
  show qr_W (qe L xs vb) (d + 10) qx_e150 _ (0, [(0, .ref 42), (1, .int (qz 2)), (2, .int (qz 1)), (3, .int (qz x3)), (4, .int (qz x4))], [], _, 0, 0)
  have hF0 := qFr_rf [(42, 1)] [43] σ α
  have hz42_1 : (-2147483648) ≤ σ 42 1 ∧ σ 42 1 ≤ 2147483647 := hI.1 42 1
  refine qr_aload_n 1 rfl rfl rfl ?_
  refine qr_iload_n 2 rfl rfl rfl ?_
  refine qr_iload_n 3 rfl rfl rfl ?_
  refine qr_iload_n 4 rfl rfl rfl ?_
  refine qr_iload 6 rfl rfl rfl ?_
  refine qr_iconst 7 rfl rfl ?_
  have hs1 : (-2147483648) ≤ σ 42 1 ∧ σ 42 1 ≤ 2147483647 := hI.1 42 1
  refine qr_callN 10 rfl rfl rfl (sf_151_42r2_1 (d := d + 0) hI r3 r4 (by decide) (by omega)) ?_
  have hs4 : (-2147483648) ≤ σ 42 1 ∧ σ 42 1 ≤ 2147483647 := hI.1 42 1
  rintro _ _ ⟨σ5, α6, rfl, hI7, hG8, v2, rfl, hv2, hp3⟩
  have hF9 : qFr [(42, 1)] [43] σ α σ5 α6 := qFr_t hF0 hG8 (by decide) (by decide)
  have hs10 : (-2147483648) ≤ σ5 42 1 ∧ σ5 42 1 ≤ 2147483647 := hI7.1 42 1
  show qr_W (qe L xs vb) (d + 10) qx_e150 _ (10, _, [.int (qz v2)], qw σ5 α6 κ ρ, 0, 0)
  refine qr_retI rfl rfl (by decide) (by decide) ?_
  exact ⟨_, _, rfl, hI7, hF9, v2, rfl, hv2⟩

set_option maxHeartbeats 4000000 in
set_option maxRecDepth 20000 in
/-- OneRoof$Acts.begin -/
theorem sf_153_42b10_0_3 {L : Nat} {xs : Nat → Int} {vb : Bool} {d : Nat} {σ α : Nat → Nat → Int} {κ : Nat → Option Nat} {ρ : Nat} {x4 : Int} {x5 : Int} {x6 : Int} (hI : qI σ α κ ρ) (r4 : (-2147483648) ≤ x4 ∧ x4 ≤ 2147483647) (r5 : (-2147483648) ≤ x5 ∧ x5 ≤ 2147483647) (r6 : 0 ≤ x6 ∧ x6 ≤ 39) (p0 : 0 ≤ σ 42 1 ∧ σ 42 1 ≤ 1800) : qm_T (qe L xs vb) (d + 4) 153 [.ref 42, .int (qz 10), .int (qz 0), .int (qz 3), .int (qz x4), .int (qz x5), .int (qz x6)] (qw σ α κ ρ) (fun r w' => ∃ σ' α', w' = qw σ' α' κ ρ ∧ qI σ' α' κ ρ ∧ qFr [(42, 1)] [43] σ α σ' α' ∧ ∃ v : Int, r = some (.int (qz v)) ∧ ((-2147483648) ≤ v ∧ v ≤ 2147483647) ∧ σ' 42 1 = σ 42 1 + 2) := by
  refine qr_start (d := d + 3) qv_e153 (Nat.le_of_ble_eq_true rfl) ?_
  show qr_W (qe L xs vb) (d + 3) qx_e153 _ (0, [(0, .ref 42), (1, .int (qz 10)), (2, .int (qz 0)), (3, .int (qz 3)), (4, .int (qz x4)), (5, .int (qz x5)), (6, .int (qz x6))], [], _, 0, 0)
  have hF0 := qFr_rf [(42, 1)] [43] σ α
  have hz42_1 : (-2147483648) ≤ σ 42 1 ∧ σ 42 1 ≤ 2147483647 := hI.1 42 1
  refine qr_aload_n 1 rfl rfl rfl ?_
  refine qr_get 4 rfl rfl rfl (by decide) rfl ?_
  refine qr_aload_n 5 rfl rfl rfl ?_
  refine qr_get 8 rfl rfl rfl (by decide) rfl ?_
  refine qr_alen 9 rfl rfl (by first | exact Or.inl (by decide) | exact Or.inr (Or.inl rfl) | exact Or.inr (Or.inr (Or.inl rfl)) | exact Or.inr (Or.inr (Or.inr (Or.inl rfl)))) rfl ?_
  refine qy_v 24 rfl ?_
  refine qr_icmp_ge 22 12 rfl rfl rfl hz42_1 (by decide) (fun h1 => ?_) (fun h1 => ?_)
  · skip
    refine qr_aload_n 23 rfl rfl rfl ?_
    refine qr_dup 24 rfl rfl rfl ?_
    refine qr_get 27 rfl rfl rfl (by decide) rfl ?_
    refine qr_iconst 28 rfl rfl ?_
    refine qr_iadd 29 rfl rfl ?_
    refine qr_put 32 rfl (by decide) rfl (Nat.le_of_ble_eq_true rfl) (Nat.le_of_ble_eq_true rfl) (Or.inl rfl) (qr_fitI rfl _) rfl ?_
    refine qy_wS (qw_s σ 42 1 ((σ 42 1) + 1)) rfl (fun σ2 e3 => ?_)
    have hI4 : qI σ2 α κ ρ := by rw [e3]; exact qI_s hI 42 1 rfl (show (-2147483648) ≤ ((σ 42 1) + 1) ∧ ((σ 42 1) + 1) ≤ 2147483647 by omega)
    have hF5 : qFr [(42, 1)] [43] σ α σ2 α := by rw [e3]; exact qFr_s hF0 42 1 _ (by decide)
    refine qr_getst 35 rfl rfl ?_
    refine qr_iload_n 36 rfl rfl rfl ?_
    refine qr_iaload 37 rfl rfl (by decide) (by decide) rfl ?_
    refine qy_v (-1) (by decide) ?_
    refine qr_istore _ 39 rfl (by decide) rfl rfl ?_
    refine qr_iload_n 40 rfl rfl rfl ?_
    refine qr_look (off := 139) 179 rfl (by omega) (by decide) (by decide) rfl ?_
    refine qr_aload_n 180 rfl rfl rfl ?_
    refine qr_iload_n 181 rfl rfl rfl ?_
    refine qr_iconst 182 rfl rfl ?_
    refine qr_iload 184 rfl rfl rfl ?_
    refine qr_iload 186 rfl rfl rfl ?_
    refine qr_iload 188 rfl rfl rfl ?_
    have hs6 : (-2147483648) ≤ σ2 42 1 ∧ σ2 42 1 ≤ 2147483647 := hI4.1 42 1
    have hs7 : σ2 42 1 = ((σ 42 1) + 1) := (congrFun (congrFun e3 42) 1).trans rfl
    refine qr_callN 191 rfl rfl rfl (sf_151_42r3_0 (d := d + 0) hI4 r4 r5 r6 (by omega)) ?_
    have hs10 : (-2147483648) ≤ σ2 42 1 ∧ σ2 42 1 ≤ 2147483647 := hI4.1 42 1
    have hs11 : σ2 42 1 = ((σ 42 1) + 1) := (congrFun (congrFun e3 42) 1).trans rfl
    rintro _ _ ⟨σ12, α13, rfl, hI14, hG15, v8, rfl, hv8, hp9⟩
    have hF16 : qFr [(42, 1)] [43] σ α σ12 α13 := qFr_t hF5 hG15 (by decide) (by decide)
    have hs17 : (-2147483648) ≤ σ12 42 1 ∧ σ12 42 1 ≤ 2147483647 := hI14.1 42 1
    show qr_W (qe L xs vb) (d + 3) qx_e153 _ (191, _, [.int (qz v8)], qw σ12 α13 κ ρ, 0, 0)
    refine qr_iconst 192 rfl rfl ?_
    refine qr_imul 193 rfl rfl ?_
    refine qy_can (fun v18 hv18 => ?_)
    refine qr_retI rfl rfl (by decide) (by decide) ?_
    have hw19 : σ12 42 1 = (σ12 42 1) := rfl
    exact ⟨_, _, rfl, hI14, hF16, v18, rfl, hv18, by omega⟩
  · skip
    refine qr_aload_n 13 rfl rfl rfl ?_
    refine qr_get 16 rfl rfl rfl (by decide) rfl ?_
    refine qr_aload_n 17 rfl rfl rfl ?_
    refine qr_get 20 rfl rfl rfl (by decide) rfl ?_
    refine qr_iload_n 21 rfl rfl rfl ?_
    refine qr_iastore 22 rfl (by decide) rfl (by omega) (by decide) rfl ?_
    refine qy_wA (qw_r α 43 (qzu (α 43) ((σ 42 1) : Int).toNat 10)) rfl (fun α20 e21 => ?_)
    have hI22 : qI σ α20 κ ρ := by rw [e21]; exact qI_r hI 43 _ rfl (show (-2147483648) ≤ 10 ∧ 10 ≤ 2147483647 by omega)
    have hF23 : qFr [(42, 1)] [43] σ α σ α20 := by rw [e21]; exact qFr_r hF0 43 _ (by decide)
    refine qr_aload_n 23 rfl rfl rfl ?_
    refine qr_dup 24 rfl rfl rfl ?_
    refine qr_get 27 rfl rfl rfl (by decide) rfl ?_
    refine qr_iconst 28 rfl rfl ?_
    refine qr_iadd 29 rfl rfl ?_
    refine qr_put 32 rfl (by decide) rfl (Nat.le_of_ble_eq_true rfl) (Nat.le_of_ble_eq_true rfl) (Or.inl rfl) (qr_fitI rfl _) rfl ?_
    refine qy_wS (qw_s σ 42 1 ((σ 42 1) + 1)) rfl (fun σ24 e25 => ?_)
    have hI26 : qI σ24 α20 κ ρ := by rw [e25]; exact qI_s hI22 42 1 rfl (show (-2147483648) ≤ ((σ 42 1) + 1) ∧ ((σ 42 1) + 1) ≤ 2147483647 by omega)
    have hF27 : qFr [(42, 1)] [43] σ α σ24 α20 := by rw [e25]; exact qFr_s hF23 42 1 _ (by decide)
    refine qr_getst 35 rfl rfl ?_
    refine qr_iload_n 36 rfl rfl rfl ?_
    refine qr_iaload 37 rfl rfl (by decide) (by decide) rfl ?_
    refine qy_v (-1) (by decide) ?_
    refine qr_istore _ 39 rfl (by decide) rfl rfl ?_
    refine qr_iload_n 40 rfl rfl rfl ?_
    refine qr_look (off := 139) 179 rfl (by omega) (by decide) (by decide) rfl ?_
    refine qr_aload_n 180 rfl rfl rfl ?_
    refine qr_iload_n 181 rfl rfl rfl ?_
    refine qr_iconst 182 rfl rfl ?_
    refine qr_iload 184 rfl rfl rfl ?_
    refine qr_iload 186 rfl rfl rfl ?_
    refine qr_iload 188 rfl rfl rfl ?_
    have hs28 : (-2147483648) ≤ σ24 42 1 ∧ σ24 42 1 ≤ 2147483647 := hI26.1 42 1
    have hs29 : σ24 42 1 = ((σ 42 1) + 1) := (congrFun (congrFun e25 42) 1).trans rfl
    refine qr_callN 191 rfl rfl rfl (sf_151_42r3_0 (d := d + 0) hI26 r4 r5 r6 (by omega)) ?_
    have hs32 : (-2147483648) ≤ σ24 42 1 ∧ σ24 42 1 ≤ 2147483647 := hI26.1 42 1
    have hs33 : σ24 42 1 = ((σ 42 1) + 1) := (congrFun (congrFun e25 42) 1).trans rfl
    rintro _ _ ⟨σ34, α35, rfl, hI36, hG37, v30, rfl, hv30, hp31⟩
    have hF38 : qFr [(42, 1)] [43] σ α σ34 α35 := qFr_t hF27 hG37 (by decide) (by decide)
    have hs39 : (-2147483648) ≤ σ34 42 1 ∧ σ34 42 1 ≤ 2147483647 := hI36.1 42 1
    show qr_W (qe L xs vb) (d + 3) qx_e153 _ (191, _, [.int (qz v30)], qw σ34 α35 κ ρ, 0, 0)
    refine qr_iconst 192 rfl rfl ?_
    refine qr_imul 193 rfl rfl ?_
    refine qy_can (fun v40 hv40 => ?_)
    refine qr_retI rfl rfl (by decide) (by decide) ?_
    have hw41 : σ34 42 1 = (σ34 42 1) := rfl
    exact ⟨_, _, rfl, hI36, hF38, v40, rfl, hv40, by omega⟩

set_option maxHeartbeats 4000000 in
set_option maxRecDepth 20000 in
/-- OneRoof$Acts.runFrom -/
theorem sf_152_42f0_3_1 {L : Nat} {xs : Nat → Int} {vb : Bool} {d : Nat} {σ α : Nat → Nat → Int} {κ : Nat → Option Nat} {ρ : Nat} {x4 : Int} {x5 : Int} {x6 : Int} (hI : qI σ α κ ρ) (r4 : (-2147483648) ≤ x4 ∧ x4 ≤ 2147483647) (r5 : (-2147483648) ≤ x5 ∧ x5 ≤ 2147483647) (r6 : 0 ≤ x6 ∧ x6 ≤ 38) (p0 : 0 ≤ σ 42 1 ∧ σ 42 1 ≤ 1800) : qm_T (qe L xs vb) (d + 5) 152 [.ref 42, .int (qz 0), .int (qz 3), .int (qz 1), .int (qz x4), .int (qz x5), .int (qz x6)] (qw σ α κ ρ) (fun r w' => ∃ σ' α', w' = qw σ' α' κ ρ ∧ qI σ' α' κ ρ ∧ qFr [(42, 1)] [43] σ α σ' α' ∧ ∃ v : Int, r = some (.int (qz v)) ∧ ((-2147483648) ≤ v ∧ v ≤ 2147483647) ∧ σ' 42 1 = σ 42 1 + 2) := by
  refine qr_start (d := d + 4) qv_e152 (Nat.le_of_ble_eq_true rfl) ?_
  show qr_W (qe L xs vb) (d + 4) qx_e152 _ (0, [(0, .ref 42), (1, .int (qz 0)), (2, .int (qz 3)), (3, .int (qz 1)), (4, .int (qz x4)), (5, .int (qz x5)), (6, .int (qz x6))], [], _, 0, 0)
  have hF0 := qFr_rf [(42, 1)] [43] σ α
  have hz42_1 : (-2147483648) ≤ σ 42 1 ∧ σ 42 1 ≤ 2147483647 := hI.1 42 1
  refine qr_iload_n 1 rfl rfl rfl ?_
  refine qr_istore _ 3 rfl (by decide) rfl rfl ?_
  refine qr_iconst 4 rfl rfl ?_
  refine qr_istore _ 6 rfl (by decide) rfl rfl ?_
  refine qr_iload 8 rfl rfl rfl ?_
  refine qr_getst 11 rfl rfl ?_
  refine qr_alen 12 rfl rfl (by first | exact Or.inl (by decide) | exact Or.inr (Or.inl rfl) | exact Or.inr (Or.inr (Or.inl rfl)) | exact Or.inr (Or.inr (Or.inr (Or.inl rfl)))) rfl ?_
  refine qy_v 7 rfl ?_
  refine qr_icmp_ge 89 15 rfl rfl rfl (by decide) (by decide) (fun h => False.elim (by omega)) (fun h1 => ?_)
  refine qr_iload 17 rfl rfl rfl ?_
  refine qr_if_lt 89 20 rfl rfl rfl (by decide) (fun h => False.elim (by omega)) (fun h2 => ?_)
  refine qr_iload 22 rfl rfl rfl ?_
  refine qr_getst 25 rfl rfl ?_
  refine qr_alen 26 rfl rfl (by first | exact Or.inl (by decide) | exact Or.inr (Or.inl rfl) | exact Or.inr (Or.inr (Or.inl rfl)) | exact Or.inr (Or.inr (Or.inr (Or.inl rfl)))) rfl ?_
  refine qy_v 7 rfl ?_
  refine qr_icmp_ge 89 29 rfl rfl rfl (by decide) (by decide) (fun h => False.elim (by omega)) (fun h3 => ?_)
  refine qr_getst 32 rfl rfl ?_
  refine qr_iload 34 rfl rfl rfl ?_
  refine qr_iconst 35 rfl rfl ?_
  refine qr_imul 36 rfl rfl ?_
  refine qy_v 0 rfl ?_
  refine qr_iload_n 37 rfl rfl rfl ?_
  refine qr_iadd 38 rfl rfl ?_
  refine qy_v 1 rfl ?_
  refine qr_iaload 39 rfl rfl (by decide) (by decide) rfl ?_
  refine qy_v 10 (by decide) ?_
  refine qr_istore _ 41 rfl (by decide) rfl rfl ?_
  refine qr_iload 43 rfl rfl rfl ?_
  refine qr_if_eq 75 46 rfl rfl rfl (by decide) (fun h => False.elim (by omega)) (fun h4 => ?_)
  refine qr_iload 48 rfl rfl rfl ?_
  refine qr_bipush 50 rfl (by decide) rfl ?_
  refine qr_icmp_le 57 53 rfl rfl rfl (qrg r6 (by decide) (by decide)) (by decide) (fun h5 => ?_) (fun h => False.elim (by omega))
  refine qr_aload_n 58 rfl rfl rfl ?_
  refine qr_iload 60 rfl rfl rfl ?_
  refine qr_iload 62 rfl rfl rfl ?_
  refine qr_iload_n 63 rfl rfl rfl ?_
  refine qr_iload 65 rfl rfl rfl ?_
  refine qr_iload 67 rfl rfl rfl ?_
  refine qr_iload 69 rfl rfl rfl ?_
  refine qr_iconst 70 rfl rfl ?_
  refine qr_iadd 71 rfl rfl ?_
  have hs6 : (-2147483648) ≤ σ 42 1 ∧ σ 42 1 ≤ 2147483647 := hI.1 42 1
  refine qr_callN 74 rfl rfl rfl (sf_153_42b10_0_3 (d := d + 0) hI r4 r5 (by omega) (by omega)) ?_
  have hs9 : (-2147483648) ≤ σ 42 1 ∧ σ 42 1 ≤ 2147483647 := hI.1 42 1
  rintro _ _ ⟨σ10, α11, rfl, hI12, hG13, v7, rfl, hv7, hp8⟩
  have hF14 : qFr [(42, 1)] [43] σ α σ10 α11 := qFr_t hF0 hG13 (by decide) (by decide)
  have hs15 : (-2147483648) ≤ σ10 42 1 ∧ σ10 42 1 ≤ 2147483647 := hI12.1 42 1
  show qr_W (qe L xs vb) (d + 4) qx_e152 _ (74, _, [.int (qz v7)], qw σ10 α11 κ ρ, 0, 0)
  refine qr_retI rfl rfl (by decide) (by decide) ?_
  have hw16 : σ10 42 1 = (σ10 42 1) := rfl
  exact ⟨_, _, rfl, hI12, hF14, v7, rfl, hv7, by omega⟩

set_option maxHeartbeats 4000000 in
set_option maxRecDepth 20000 in
/-- OneRoof$Acts.begin -/
theorem sf_153_42b40_3_3 {L : Nat} {xs : Nat → Int} {vb : Bool} {d : Nat} {σ α : Nat → Nat → Int} {κ : Nat → Option Nat} {ρ : Nat} {x4 : Int} {x5 : Int} {x6 : Int} (hI : qI σ α κ ρ) (r4 : (-2147483648) ≤ x4 ∧ x4 ≤ 2147483647) (r5 : (-2147483648) ≤ x5 ∧ x5 ≤ 2147483647) (r6 : 0 ≤ x6 ∧ x6 ≤ 38) (p0 : 0 ≤ σ 42 1 ∧ σ 42 1 ≤ 1700) : qm_T (qe L xs vb) (d + 6) 153 [.ref 42, .int (qz 40), .int (qz 3), .int (qz 3), .int (qz x4), .int (qz x5), .int (qz x6)] (qw σ α κ ρ) (fun r w' => ∃ σ' α', w' = qw σ' α' κ ρ ∧ qI σ' α' κ ρ ∧ qFr [(42, 1)] [43] σ α σ' α' ∧ ∃ v : Int, r = some (.int (qz v)) ∧ ((-2147483648) ≤ v ∧ v ≤ 2147483647) ∧ σ' 42 1 = σ 42 1 + 3) := by
  refine qr_start (d := d + 5) qv_e153 (Nat.le_of_ble_eq_true rfl) ?_
  show qr_W (qe L xs vb) (d + 5) qx_e153 _ (0, [(0, .ref 42), (1, .int (qz 40)), (2, .int (qz 3)), (3, .int (qz 3)), (4, .int (qz x4)), (5, .int (qz x5)), (6, .int (qz x6))], [], _, 0, 0)
  have hF0 := qFr_rf [(42, 1)] [43] σ α
  have hz42_1 : (-2147483648) ≤ σ 42 1 ∧ σ 42 1 ≤ 2147483647 := hI.1 42 1
  refine qr_aload_n 1 rfl rfl rfl ?_
  refine qr_get 4 rfl rfl rfl (by decide) rfl ?_
  refine qr_aload_n 5 rfl rfl rfl ?_
  refine qr_get 8 rfl rfl rfl (by decide) rfl ?_
  refine qr_alen 9 rfl rfl (by first | exact Or.inl (by decide) | exact Or.inr (Or.inl rfl) | exact Or.inr (Or.inr (Or.inl rfl)) | exact Or.inr (Or.inr (Or.inr (Or.inl rfl)))) rfl ?_
  refine qy_v 24 rfl ?_
  refine qr_icmp_ge 22 12 rfl rfl rfl hz42_1 (by decide) (fun h1 => ?_) (fun h1 => ?_)
  · skip
    refine qr_aload_n 23 rfl rfl rfl ?_
    refine qr_dup 24 rfl rfl rfl ?_
    refine qr_get 27 rfl rfl rfl (by decide) rfl ?_
    refine qr_iconst 28 rfl rfl ?_
    refine qr_iadd 29 rfl rfl ?_
    refine qr_put 32 rfl (by decide) rfl (Nat.le_of_ble_eq_true rfl) (Nat.le_of_ble_eq_true rfl) (Or.inl rfl) (qr_fitI rfl _) rfl ?_
    refine qy_wS (qw_s σ 42 1 ((σ 42 1) + 1)) rfl (fun σ2 e3 => ?_)
    have hI4 : qI σ2 α κ ρ := by rw [e3]; exact qI_s hI 42 1 rfl (show (-2147483648) ≤ ((σ 42 1) + 1) ∧ ((σ 42 1) + 1) ≤ 2147483647 by omega)
    have hF5 : qFr [(42, 1)] [43] σ α σ2 α := by rw [e3]; exact qFr_s hF0 42 1 _ (by decide)
    refine qr_getst 35 rfl rfl ?_
    refine qr_iload_n 36 rfl rfl rfl ?_
    refine qr_iaload 37 rfl rfl (by decide) (by decide) rfl ?_
    refine qy_v 0 (by decide) ?_
    refine qr_istore _ 39 rfl (by decide) rfl rfl ?_
    refine qr_iload_n 40 rfl rfl rfl ?_
    refine qr_look (off := 211) 251 rfl (by omega) (by decide) (by decide) rfl ?_
    refine qr_aload_n 252 rfl rfl rfl ?_
    refine qr_iload 254 rfl rfl rfl ?_
    refine qr_iload_n 255 rfl rfl rfl ?_
    refine qr_iconst 256 rfl rfl ?_
    refine qr_iload 258 rfl rfl rfl ?_
    refine qr_iload 260 rfl rfl rfl ?_
    refine qr_iload 262 rfl rfl rfl ?_
    have hs6 : (-2147483648) ≤ σ2 42 1 ∧ σ2 42 1 ≤ 2147483647 := hI4.1 42 1
    have hs7 : σ2 42 1 = ((σ 42 1) + 1) := (congrFun (congrFun e3 42) 1).trans rfl
    refine qr_callN 265 rfl rfl rfl (sf_152_42f0_3_1 (d := d + 0) hI4 r4 r5 r6 (by omega)) ?_
    have hs10 : (-2147483648) ≤ σ2 42 1 ∧ σ2 42 1 ≤ 2147483647 := hI4.1 42 1
    have hs11 : σ2 42 1 = ((σ 42 1) + 1) := (congrFun (congrFun e3 42) 1).trans rfl
    rintro _ _ ⟨σ12, α13, rfl, hI14, hG15, v8, rfl, hv8, hp9⟩
    have hF16 : qFr [(42, 1)] [43] σ α σ12 α13 := qFr_t hF5 hG15 (by decide) (by decide)
    have hs17 : (-2147483648) ≤ σ12 42 1 ∧ σ12 42 1 ≤ 2147483647 := hI14.1 42 1
    show qr_W (qe L xs vb) (d + 5) qx_e153 _ (265, _, [.int (qz v8)], qw σ12 α13 κ ρ, 0, 0)
    refine qr_ineg 266 rfl rfl ?_
    refine qy_can (fun v18 hv18 => ?_)
    refine qr_retI rfl rfl (by decide) (by decide) ?_
    have hw19 : σ12 42 1 = (σ12 42 1) := rfl
    exact ⟨_, _, rfl, hI14, hF16, v18, rfl, hv18, by omega⟩
  · skip
    refine qr_aload_n 13 rfl rfl rfl ?_
    refine qr_get 16 rfl rfl rfl (by decide) rfl ?_
    refine qr_aload_n 17 rfl rfl rfl ?_
    refine qr_get 20 rfl rfl rfl (by decide) rfl ?_
    refine qr_iload_n 21 rfl rfl rfl ?_
    refine qr_iastore 22 rfl (by decide) rfl (by omega) (by decide) rfl ?_
    refine qy_wA (qw_r α 43 (qzu (α 43) ((σ 42 1) : Int).toNat 40)) rfl (fun α20 e21 => ?_)
    have hI22 : qI σ α20 κ ρ := by rw [e21]; exact qI_r hI 43 _ rfl (show (-2147483648) ≤ 40 ∧ 40 ≤ 2147483647 by omega)
    have hF23 : qFr [(42, 1)] [43] σ α σ α20 := by rw [e21]; exact qFr_r hF0 43 _ (by decide)
    refine qr_aload_n 23 rfl rfl rfl ?_
    refine qr_dup 24 rfl rfl rfl ?_
    refine qr_get 27 rfl rfl rfl (by decide) rfl ?_
    refine qr_iconst 28 rfl rfl ?_
    refine qr_iadd 29 rfl rfl ?_
    refine qr_put 32 rfl (by decide) rfl (Nat.le_of_ble_eq_true rfl) (Nat.le_of_ble_eq_true rfl) (Or.inl rfl) (qr_fitI rfl _) rfl ?_
    refine qy_wS (qw_s σ 42 1 ((σ 42 1) + 1)) rfl (fun σ24 e25 => ?_)
    have hI26 : qI σ24 α20 κ ρ := by rw [e25]; exact qI_s hI22 42 1 rfl (show (-2147483648) ≤ ((σ 42 1) + 1) ∧ ((σ 42 1) + 1) ≤ 2147483647 by omega)
    have hF27 : qFr [(42, 1)] [43] σ α σ24 α20 := by rw [e25]; exact qFr_s hF23 42 1 _ (by decide)
    refine qr_getst 35 rfl rfl ?_
    refine qr_iload_n 36 rfl rfl rfl ?_
    refine qr_iaload 37 rfl rfl (by decide) (by decide) rfl ?_
    refine qy_v 0 (by decide) ?_
    refine qr_istore _ 39 rfl (by decide) rfl rfl ?_
    refine qr_iload_n 40 rfl rfl rfl ?_
    refine qr_look (off := 211) 251 rfl (by omega) (by decide) (by decide) rfl ?_
    refine qr_aload_n 252 rfl rfl rfl ?_
    refine qr_iload 254 rfl rfl rfl ?_
    refine qr_iload_n 255 rfl rfl rfl ?_
    refine qr_iconst 256 rfl rfl ?_
    refine qr_iload 258 rfl rfl rfl ?_
    refine qr_iload 260 rfl rfl rfl ?_
    refine qr_iload 262 rfl rfl rfl ?_
    have hs28 : (-2147483648) ≤ σ24 42 1 ∧ σ24 42 1 ≤ 2147483647 := hI26.1 42 1
    have hs29 : σ24 42 1 = ((σ 42 1) + 1) := (congrFun (congrFun e25 42) 1).trans rfl
    refine qr_callN 265 rfl rfl rfl (sf_152_42f0_3_1 (d := d + 0) hI26 r4 r5 r6 (by omega)) ?_
    have hs32 : (-2147483648) ≤ σ24 42 1 ∧ σ24 42 1 ≤ 2147483647 := hI26.1 42 1
    have hs33 : σ24 42 1 = ((σ 42 1) + 1) := (congrFun (congrFun e25 42) 1).trans rfl
    rintro _ _ ⟨σ34, α35, rfl, hI36, hG37, v30, rfl, hv30, hp31⟩
    have hF38 : qFr [(42, 1)] [43] σ α σ34 α35 := qFr_t hF27 hG37 (by decide) (by decide)
    have hs39 : (-2147483648) ≤ σ34 42 1 ∧ σ34 42 1 ≤ 2147483647 := hI36.1 42 1
    show qr_W (qe L xs vb) (d + 5) qx_e153 _ (265, _, [.int (qz v30)], qw σ34 α35 κ ρ, 0, 0)
    refine qr_ineg 266 rfl rfl ?_
    refine qy_can (fun v40 hv40 => ?_)
    refine qr_retI rfl rfl (by decide) (by decide) ?_
    have hw41 : σ34 42 1 = (σ34 42 1) := rfl
    exact ⟨_, _, rfl, hI36, hF38, v40, rfl, hv40, by omega⟩

set_option maxHeartbeats 4000000 in
set_option maxRecDepth 20000 in
/-- OneRoof$Acts.runFrom -/
theorem sf_152_42f3_3_1 {L : Nat} {xs : Nat → Int} {vb : Bool} {d : Nat} {σ α : Nat → Nat → Int} {κ : Nat → Option Nat} {ρ : Nat} {x4 : Int} {x5 : Int} {x6 : Int} (hI : qI σ α κ ρ) (r4 : (-2147483648) ≤ x4 ∧ x4 ≤ 2147483647) (r5 : (-2147483648) ≤ x5 ∧ x5 ≤ 2147483647) (r6 : 0 ≤ x6 ∧ x6 ≤ 37) (p0 : 0 ≤ σ 42 1 ∧ σ 42 1 ≤ 1700) : qm_T (qe L xs vb) (d + 7) 152 [.ref 42, .int (qz 3), .int (qz 3), .int (qz 1), .int (qz x4), .int (qz x5), .int (qz x6)] (qw σ α κ ρ) (fun r w' => ∃ σ' α', w' = qw σ' α' κ ρ ∧ qI σ' α' κ ρ ∧ qFr [(42, 1)] [43] σ α σ' α' ∧ ∃ v : Int, r = some (.int (qz v)) ∧ ((-2147483648) ≤ v ∧ v ≤ 2147483647) ∧ σ' 42 1 = σ 42 1 + 3) := by
  refine qr_start (d := d + 6) qv_e152 (Nat.le_of_ble_eq_true rfl) ?_
  show qr_W (qe L xs vb) (d + 6) qx_e152 _ (0, [(0, .ref 42), (1, .int (qz 3)), (2, .int (qz 3)), (3, .int (qz 1)), (4, .int (qz x4)), (5, .int (qz x5)), (6, .int (qz x6))], [], _, 0, 0)
  have hF0 := qFr_rf [(42, 1)] [43] σ α
  have hz42_1 : (-2147483648) ≤ σ 42 1 ∧ σ 42 1 ≤ 2147483647 := hI.1 42 1
  refine qr_iload_n 1 rfl rfl rfl ?_
  refine qr_istore _ 3 rfl (by decide) rfl rfl ?_
  refine qr_iconst 4 rfl rfl ?_
  refine qr_istore _ 6 rfl (by decide) rfl rfl ?_
  refine qr_iload 8 rfl rfl rfl ?_
  refine qr_getst 11 rfl rfl ?_
  refine qr_alen 12 rfl rfl (by first | exact Or.inl (by decide) | exact Or.inr (Or.inl rfl) | exact Or.inr (Or.inr (Or.inl rfl)) | exact Or.inr (Or.inr (Or.inr (Or.inl rfl)))) rfl ?_
  refine qy_v 7 rfl ?_
  refine qr_icmp_ge 89 15 rfl rfl rfl (by decide) (by decide) (fun h => False.elim (by omega)) (fun h1 => ?_)
  refine qr_iload 17 rfl rfl rfl ?_
  refine qr_if_lt 89 20 rfl rfl rfl (by decide) (fun h => False.elim (by omega)) (fun h2 => ?_)
  refine qr_iload 22 rfl rfl rfl ?_
  refine qr_getst 25 rfl rfl ?_
  refine qr_alen 26 rfl rfl (by first | exact Or.inl (by decide) | exact Or.inr (Or.inl rfl) | exact Or.inr (Or.inr (Or.inl rfl)) | exact Or.inr (Or.inr (Or.inr (Or.inl rfl)))) rfl ?_
  refine qy_v 7 rfl ?_
  refine qr_icmp_ge 89 29 rfl rfl rfl (by decide) (by decide) (fun h => False.elim (by omega)) (fun h3 => ?_)
  refine qr_getst 32 rfl rfl ?_
  refine qr_iload 34 rfl rfl rfl ?_
  refine qr_iconst 35 rfl rfl ?_
  refine qr_imul 36 rfl rfl ?_
  refine qy_v 12 rfl ?_
  refine qr_iload_n 37 rfl rfl rfl ?_
  refine qr_iadd 38 rfl rfl ?_
  refine qy_v 13 rfl ?_
  refine qr_iaload 39 rfl rfl (by decide) (by decide) rfl ?_
  refine qy_v 40 (by decide) ?_
  refine qr_istore _ 41 rfl (by decide) rfl rfl ?_
  refine qr_iload 43 rfl rfl rfl ?_
  refine qr_if_eq 75 46 rfl rfl rfl (by decide) (fun h => False.elim (by omega)) (fun h4 => ?_)
  refine qr_iload 48 rfl rfl rfl ?_
  refine qr_bipush 50 rfl (by decide) rfl ?_
  refine qr_icmp_le 57 53 rfl rfl rfl (qrg r6 (by decide) (by decide)) (by decide) (fun h5 => ?_) (fun h => False.elim (by omega))
  refine qr_aload_n 58 rfl rfl rfl ?_
  refine qr_iload 60 rfl rfl rfl ?_
  refine qr_iload 62 rfl rfl rfl ?_
  refine qr_iload_n 63 rfl rfl rfl ?_
  refine qr_iload 65 rfl rfl rfl ?_
  refine qr_iload 67 rfl rfl rfl ?_
  refine qr_iload 69 rfl rfl rfl ?_
  refine qr_iconst 70 rfl rfl ?_
  refine qr_iadd 71 rfl rfl ?_
  have hs6 : (-2147483648) ≤ σ 42 1 ∧ σ 42 1 ≤ 2147483647 := hI.1 42 1
  refine qr_callN 74 rfl rfl rfl (sf_153_42b40_3_3 (d := d + 0) hI r4 r5 (by omega) (by omega)) ?_
  have hs9 : (-2147483648) ≤ σ 42 1 ∧ σ 42 1 ≤ 2147483647 := hI.1 42 1
  rintro _ _ ⟨σ10, α11, rfl, hI12, hG13, v7, rfl, hv7, hp8⟩
  have hF14 : qFr [(42, 1)] [43] σ α σ10 α11 := qFr_t hF0 hG13 (by decide) (by decide)
  have hs15 : (-2147483648) ≤ σ10 42 1 ∧ σ10 42 1 ≤ 2147483647 := hI12.1 42 1
  show qr_W (qe L xs vb) (d + 6) qx_e152 _ (74, _, [.int (qz v7)], qw σ10 α11 κ ρ, 0, 0)
  refine qr_retI rfl rfl (by decide) (by decide) ?_
  have hw16 : σ10 42 1 = (σ10 42 1) := rfl
  exact ⟨_, _, rfl, hI12, hF14, v7, rfl, hv7, by omega⟩

set_option maxHeartbeats 4000000 in
set_option maxRecDepth 20000 in
/-- OneRoof$Acts.run -/
theorem sf_151_42r3_1 {L : Nat} {xs : Nat → Int} {vb : Bool} {d : Nat} {σ α : Nat → Nat → Int} {κ : Nat → Option Nat} {ρ : Nat} {x3 : Int} {x4 : Int} {x5 : Int} (hI : qI σ α κ ρ) (r3 : (-2147483648) ≤ x3 ∧ x3 ≤ 2147483647) (r4 : (-2147483648) ≤ x4 ∧ x4 ≤ 2147483647) (r5 : 0 ≤ x5 ∧ x5 ≤ 37) (p0 : 0 ≤ σ 42 1 ∧ σ 42 1 ≤ 1700) : qm_T (qe L xs vb) (d + 8) 151 [.ref 42, .int (qz 3), .int (qz 1), .int (qz x3), .int (qz x4), .int (qz x5)] (qw σ α κ ρ) (fun r w' => ∃ σ' α', w' = qw σ' α' κ ρ ∧ qI σ' α' κ ρ ∧ qFr [(42, 1)] [43] σ α σ' α' ∧ ∃ v : Int, r = some (.int (qz v)) ∧ ((-2147483648) ≤ v ∧ v ≤ 2147483647) ∧ σ' 42 1 = σ 42 1 + 3) := by
  refine qr_start (d := d + 7) qv_e151 (Nat.le_of_ble_eq_true rfl) ?_
  show qr_W (qe L xs vb) (d + 7) qx_e151 _ (0, [(0, .ref 42), (1, .int (qz 3)), (2, .int (qz 1)), (3, .int (qz x3)), (4, .int (qz x4)), (5, .int (qz x5))], [], _, 0, 0)
  have hF0 := qFr_rf [(42, 1)] [43] σ α
  have hz42_1 : (-2147483648) ≤ σ 42 1 ∧ σ 42 1 ≤ 2147483647 := hI.1 42 1
  refine qr_aload_n 1 rfl rfl rfl ?_
  refine qr_iload_n 2 rfl rfl rfl ?_
  refine qr_iload_n 3 rfl rfl rfl ?_
  refine qr_iload_n 4 rfl rfl rfl ?_
  refine qr_iload_n 5 rfl rfl rfl ?_
  refine qr_iload 7 rfl rfl rfl ?_
  refine qr_iload 9 rfl rfl rfl ?_
  have hs1 : (-2147483648) ≤ σ 42 1 ∧ σ 42 1 ≤ 2147483647 := hI.1 42 1
  refine qr_callN 12 rfl rfl rfl (sf_152_42f3_3_1 (d := d + 0) hI r3 r4 r5 (by omega)) ?_
  have hs4 : (-2147483648) ≤ σ 42 1 ∧ σ 42 1 ≤ 2147483647 := hI.1 42 1
  rintro _ _ ⟨σ5, α6, rfl, hI7, hG8, v2, rfl, hv2, hp3⟩
  have hF9 : qFr [(42, 1)] [43] σ α σ5 α6 := qFr_t hF0 hG8 (by decide) (by decide)
  have hs10 : (-2147483648) ≤ σ5 42 1 ∧ σ5 42 1 ≤ 2147483647 := hI7.1 42 1
  show qr_W (qe L xs vb) (d + 7) qx_e151 _ (12, _, [.int (qz v2)], qw σ5 α6 κ ρ, 0, 0)
  refine qr_retI rfl rfl (by decide) (by decide) ?_
  have hw11 : σ5 42 1 = (σ5 42 1) := rfl
  exact ⟨_, _, rfl, hI7, hF9, v2, rfl, hv2, by omega⟩

set_option maxHeartbeats 4000000 in
set_option maxRecDepth 20000 in
/-- OneRoof$Acts.start -/
theorem sf_150_42s3_1 {L : Nat} {xs : Nat → Int} {vb : Bool} {d : Nat} {σ α : Nat → Nat → Int} {κ : Nat → Option Nat} {ρ : Nat} {x3 : Int} {x4 : Int} (hI : qI σ α κ ρ) (r3 : (-2147483648) ≤ x3 ∧ x3 ≤ 2147483647) (r4 : (-2147483648) ≤ x4 ∧ x4 ≤ 2147483647) (p0 : σ 42 1 = 0) : qm_T (qe L xs vb) (d + 9) 150 [.ref 42, .int (qz 3), .int (qz 1), .int (qz x3), .int (qz x4)] (qw σ α κ ρ) (fun r w' => ∃ σ' α', w' = qw σ' α' κ ρ ∧ qI σ' α' κ ρ ∧ qFr [(42, 1)] [43] σ α σ' α' ∧ ∃ v : Int, r = some (.int (qz v)) ∧ ((-2147483648) ≤ v ∧ v ≤ 2147483647)) := by
  refine qr_start (d := d + 8) qv_e150 (Nat.le_of_ble_eq_true rfl) ?_
  show qr_W (qe L xs vb) (d + 8) qx_e150 _ (0, [(0, .ref 42), (1, .int (qz 3)), (2, .int (qz 1)), (3, .int (qz x3)), (4, .int (qz x4))], [], _, 0, 0)
  have hF0 := qFr_rf [(42, 1)] [43] σ α
  have hz42_1 : (-2147483648) ≤ σ 42 1 ∧ σ 42 1 ≤ 2147483647 := hI.1 42 1
  refine qr_aload_n 1 rfl rfl rfl ?_
  refine qr_iload_n 2 rfl rfl rfl ?_
  refine qr_iload_n 3 rfl rfl rfl ?_
  refine qr_iload_n 4 rfl rfl rfl ?_
  refine qr_iload 6 rfl rfl rfl ?_
  refine qr_iconst 7 rfl rfl ?_
  have hs1 : (-2147483648) ≤ σ 42 1 ∧ σ 42 1 ≤ 2147483647 := hI.1 42 1
  refine qr_callN 10 rfl rfl rfl (sf_151_42r3_1 (d := d + 0) hI r3 r4 (by decide) (by omega)) ?_
  have hs4 : (-2147483648) ≤ σ 42 1 ∧ σ 42 1 ≤ 2147483647 := hI.1 42 1
  rintro _ _ ⟨σ5, α6, rfl, hI7, hG8, v2, rfl, hv2, hp3⟩
  have hF9 : qFr [(42, 1)] [43] σ α σ5 α6 := qFr_t hF0 hG8 (by decide) (by decide)
  have hs10 : (-2147483648) ≤ σ5 42 1 ∧ σ5 42 1 ≤ 2147483647 := hI7.1 42 1
  show qr_W (qe L xs vb) (d + 8) qx_e150 _ (10, _, [.int (qz v2)], qw σ5 α6 κ ρ, 0, 0)
  refine qr_retI rfl rfl (by decide) (by decide) ?_
  exact ⟨_, _, rfl, hI7, hF9, v2, rfl, hv2⟩

set_option maxHeartbeats 4000000 in
set_option maxRecDepth 20000 in
/-- OneRoof$Acts.begin -/
theorem sf_153_42b10_0_4 {L : Nat} {xs : Nat → Int} {vb : Bool} {d : Nat} {σ α : Nat → Nat → Int} {κ : Nat → Option Nat} {ρ : Nat} {x4 : Int} {x5 : Int} {x6 : Int} (hI : qI σ α κ ρ) (r4 : (-2147483648) ≤ x4 ∧ x4 ≤ 2147483647) (r5 : (-2147483648) ≤ x5 ∧ x5 ≤ 2147483647) (r6 : 0 ≤ x6 ∧ x6 ≤ 39) (p0 : 0 ≤ σ 42 1 ∧ σ 42 1 ≤ 1800) : qm_T (qe L xs vb) (d + 4) 153 [.ref 42, .int (qz 10), .int (qz 0), .int (qz 4), .int (qz x4), .int (qz x5), .int (qz x6)] (qw σ α κ ρ) (fun r w' => ∃ σ' α', w' = qw σ' α' κ ρ ∧ qI σ' α' κ ρ ∧ qFr [(42, 1)] [43] σ α σ' α' ∧ ∃ v : Int, r = some (.int (qz v)) ∧ ((-2147483648) ≤ v ∧ v ≤ 2147483647) ∧ σ' 42 1 = σ 42 1 + 2) := by
  refine qr_start (d := d + 3) qv_e153 (Nat.le_of_ble_eq_true rfl) ?_
  show qr_W (qe L xs vb) (d + 3) qx_e153 _ (0, [(0, .ref 42), (1, .int (qz 10)), (2, .int (qz 0)), (3, .int (qz 4)), (4, .int (qz x4)), (5, .int (qz x5)), (6, .int (qz x6))], [], _, 0, 0)
  have hF0 := qFr_rf [(42, 1)] [43] σ α
  have hz42_1 : (-2147483648) ≤ σ 42 1 ∧ σ 42 1 ≤ 2147483647 := hI.1 42 1
  refine qr_aload_n 1 rfl rfl rfl ?_
  refine qr_get 4 rfl rfl rfl (by decide) rfl ?_
  refine qr_aload_n 5 rfl rfl rfl ?_
  refine qr_get 8 rfl rfl rfl (by decide) rfl ?_
  refine qr_alen 9 rfl rfl (by first | exact Or.inl (by decide) | exact Or.inr (Or.inl rfl) | exact Or.inr (Or.inr (Or.inl rfl)) | exact Or.inr (Or.inr (Or.inr (Or.inl rfl)))) rfl ?_
  refine qy_v 24 rfl ?_
  refine qr_icmp_ge 22 12 rfl rfl rfl hz42_1 (by decide) (fun h1 => ?_) (fun h1 => ?_)
  · skip
    refine qr_aload_n 23 rfl rfl rfl ?_
    refine qr_dup 24 rfl rfl rfl ?_
    refine qr_get 27 rfl rfl rfl (by decide) rfl ?_
    refine qr_iconst 28 rfl rfl ?_
    refine qr_iadd 29 rfl rfl ?_
    refine qr_put 32 rfl (by decide) rfl (Nat.le_of_ble_eq_true rfl) (Nat.le_of_ble_eq_true rfl) (Or.inl rfl) (qr_fitI rfl _) rfl ?_
    refine qy_wS (qw_s σ 42 1 ((σ 42 1) + 1)) rfl (fun σ2 e3 => ?_)
    have hI4 : qI σ2 α κ ρ := by rw [e3]; exact qI_s hI 42 1 rfl (show (-2147483648) ≤ ((σ 42 1) + 1) ∧ ((σ 42 1) + 1) ≤ 2147483647 by omega)
    have hF5 : qFr [(42, 1)] [43] σ α σ2 α := by rw [e3]; exact qFr_s hF0 42 1 _ (by decide)
    refine qr_getst 35 rfl rfl ?_
    refine qr_iload_n 36 rfl rfl rfl ?_
    refine qr_iaload 37 rfl rfl (by decide) (by decide) rfl ?_
    refine qy_v (-1) (by decide) ?_
    refine qr_istore _ 39 rfl (by decide) rfl rfl ?_
    refine qr_iload_n 40 rfl rfl rfl ?_
    refine qr_look (off := 139) 179 rfl (by omega) (by decide) (by decide) rfl ?_
    refine qr_aload_n 180 rfl rfl rfl ?_
    refine qr_iload_n 181 rfl rfl rfl ?_
    refine qr_iconst 182 rfl rfl ?_
    refine qr_iload 184 rfl rfl rfl ?_
    refine qr_iload 186 rfl rfl rfl ?_
    refine qr_iload 188 rfl rfl rfl ?_
    have hs6 : (-2147483648) ≤ σ2 42 1 ∧ σ2 42 1 ≤ 2147483647 := hI4.1 42 1
    have hs7 : σ2 42 1 = ((σ 42 1) + 1) := (congrFun (congrFun e3 42) 1).trans rfl
    refine qr_callN 191 rfl rfl rfl (sf_151_42r4_0 (d := d + 0) hI4 r4 r5 r6 (by omega)) ?_
    have hs10 : (-2147483648) ≤ σ2 42 1 ∧ σ2 42 1 ≤ 2147483647 := hI4.1 42 1
    have hs11 : σ2 42 1 = ((σ 42 1) + 1) := (congrFun (congrFun e3 42) 1).trans rfl
    rintro _ _ ⟨σ12, α13, rfl, hI14, hG15, v8, rfl, hv8, hp9⟩
    have hF16 : qFr [(42, 1)] [43] σ α σ12 α13 := qFr_t hF5 hG15 (by decide) (by decide)
    have hs17 : (-2147483648) ≤ σ12 42 1 ∧ σ12 42 1 ≤ 2147483647 := hI14.1 42 1
    show qr_W (qe L xs vb) (d + 3) qx_e153 _ (191, _, [.int (qz v8)], qw σ12 α13 κ ρ, 0, 0)
    refine qr_iconst 192 rfl rfl ?_
    refine qr_imul 193 rfl rfl ?_
    refine qy_can (fun v18 hv18 => ?_)
    refine qr_retI rfl rfl (by decide) (by decide) ?_
    have hw19 : σ12 42 1 = (σ12 42 1) := rfl
    exact ⟨_, _, rfl, hI14, hF16, v18, rfl, hv18, by omega⟩
  · skip
    refine qr_aload_n 13 rfl rfl rfl ?_
    refine qr_get 16 rfl rfl rfl (by decide) rfl ?_
    refine qr_aload_n 17 rfl rfl rfl ?_
    refine qr_get 20 rfl rfl rfl (by decide) rfl ?_
    refine qr_iload_n 21 rfl rfl rfl ?_
    refine qr_iastore 22 rfl (by decide) rfl (by omega) (by decide) rfl ?_
    refine qy_wA (qw_r α 43 (qzu (α 43) ((σ 42 1) : Int).toNat 10)) rfl (fun α20 e21 => ?_)
    have hI22 : qI σ α20 κ ρ := by rw [e21]; exact qI_r hI 43 _ rfl (show (-2147483648) ≤ 10 ∧ 10 ≤ 2147483647 by omega)
    have hF23 : qFr [(42, 1)] [43] σ α σ α20 := by rw [e21]; exact qFr_r hF0 43 _ (by decide)
    refine qr_aload_n 23 rfl rfl rfl ?_
    refine qr_dup 24 rfl rfl rfl ?_
    refine qr_get 27 rfl rfl rfl (by decide) rfl ?_
    refine qr_iconst 28 rfl rfl ?_
    refine qr_iadd 29 rfl rfl ?_
    refine qr_put 32 rfl (by decide) rfl (Nat.le_of_ble_eq_true rfl) (Nat.le_of_ble_eq_true rfl) (Or.inl rfl) (qr_fitI rfl _) rfl ?_
    refine qy_wS (qw_s σ 42 1 ((σ 42 1) + 1)) rfl (fun σ24 e25 => ?_)
    have hI26 : qI σ24 α20 κ ρ := by rw [e25]; exact qI_s hI22 42 1 rfl (show (-2147483648) ≤ ((σ 42 1) + 1) ∧ ((σ 42 1) + 1) ≤ 2147483647 by omega)
    have hF27 : qFr [(42, 1)] [43] σ α σ24 α20 := by rw [e25]; exact qFr_s hF23 42 1 _ (by decide)
    refine qr_getst 35 rfl rfl ?_
    refine qr_iload_n 36 rfl rfl rfl ?_
    refine qr_iaload 37 rfl rfl (by decide) (by decide) rfl ?_
    refine qy_v (-1) (by decide) ?_
    refine qr_istore _ 39 rfl (by decide) rfl rfl ?_
    refine qr_iload_n 40 rfl rfl rfl ?_
    refine qr_look (off := 139) 179 rfl (by omega) (by decide) (by decide) rfl ?_
    refine qr_aload_n 180 rfl rfl rfl ?_
    refine qr_iload_n 181 rfl rfl rfl ?_
    refine qr_iconst 182 rfl rfl ?_
    refine qr_iload 184 rfl rfl rfl ?_
    refine qr_iload 186 rfl rfl rfl ?_
    refine qr_iload 188 rfl rfl rfl ?_
    have hs28 : (-2147483648) ≤ σ24 42 1 ∧ σ24 42 1 ≤ 2147483647 := hI26.1 42 1
    have hs29 : σ24 42 1 = ((σ 42 1) + 1) := (congrFun (congrFun e25 42) 1).trans rfl
    refine qr_callN 191 rfl rfl rfl (sf_151_42r4_0 (d := d + 0) hI26 r4 r5 r6 (by omega)) ?_
    have hs32 : (-2147483648) ≤ σ24 42 1 ∧ σ24 42 1 ≤ 2147483647 := hI26.1 42 1
    have hs33 : σ24 42 1 = ((σ 42 1) + 1) := (congrFun (congrFun e25 42) 1).trans rfl
    rintro _ _ ⟨σ34, α35, rfl, hI36, hG37, v30, rfl, hv30, hp31⟩
    have hF38 : qFr [(42, 1)] [43] σ α σ34 α35 := qFr_t hF27 hG37 (by decide) (by decide)
    have hs39 : (-2147483648) ≤ σ34 42 1 ∧ σ34 42 1 ≤ 2147483647 := hI36.1 42 1
    show qr_W (qe L xs vb) (d + 3) qx_e153 _ (191, _, [.int (qz v30)], qw σ34 α35 κ ρ, 0, 0)
    refine qr_iconst 192 rfl rfl ?_
    refine qr_imul 193 rfl rfl ?_
    refine qy_can (fun v40 hv40 => ?_)
    refine qr_retI rfl rfl (by decide) (by decide) ?_
    have hw41 : σ34 42 1 = (σ34 42 1) := rfl
    exact ⟨_, _, rfl, hI36, hF38, v40, rfl, hv40, by omega⟩

