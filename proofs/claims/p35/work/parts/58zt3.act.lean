section
set_option maxHeartbeats 4000000 in
set_option maxRecDepth 20000 in
/-- OneRoof$Acts.runFrom -/
theorem sf_152_42ef4_4_0 {L : Nat} {xs : Nat → Int} {vb : Bool} {d : Nat} {σ α : Nat → Nat → Int} {κ : Nat → Option Nat} {ρ : Nat} {x4 : Int} {x5 : Int} {x6 : Int} (hI : qI σ α κ ρ) (r4 : (-2147483648) ≤ x4 ∧ x4 ≤ 2147483647) (r5 : (-2147483648) ≤ x5 ∧ x5 ≤ 2147483647) (r6 : 0 ≤ x6 ∧ x6 ≤ 39) (p0 : 0 ≤ σ 42 1 ∧ σ 42 1 ≤ 23) : qm_T (qe L xs vb) (d + 2) 152 [.ref 42, .int (qz 4), .int (qz 4), .int (qz 0), .int (qz x4), .int (qz x5), .int (qz x6)] (qw σ α κ ρ) (fun r w' => ∃ σ' α', w' = qw σ' α' κ ρ ∧ qI σ' α' κ ρ ∧ qFr [(42, 1)] [43] σ α σ' α' ∧ σ' 42 1 = σ 42 1 + 1 ∧ ∃ v : Int, r = some (.int (qz v)) ∧ ((-2147483648) ≤ v ∧ v ≤ 2147483647) ∧ v = qac_a x4 x5 ∧ α' 43 = qac_t [1] (α 43) (σ 42 1)) := by
  refine qr_start (d := d + 1) qv_e152 (Nat.le_of_ble_eq_true rfl) ?_
  show qr_W (qe L xs vb) (d + 1) qx_e152 _ (0, [(0, .ref 42), (1, .int (qz 4)), (2, .int (qz 4)), (3, .int (qz 0)), (4, .int (qz x4)), (5, .int (qz x5)), (6, .int (qz x6))], [], _, 0, 0)
  have hF0 := qFr_rf [(42, 1)] [43] σ α
  have hz42_1 : (-2147483648) ≤ σ 42 1 ∧ σ 42 1 ≤ 2147483647 := hI.1 42 1
  refine qr_iload_n 1 rfl rfl rfl ?_
  refine qr_istore _ 3 rfl (by decide) rfl rfl ?_
  refine qr_iconst 4 rfl rfl ?_
  refine qr_istore _ 6 rfl (by decide) rfl rfl ?_
  refine qr_iload 8 rfl rfl rfl ?_
  refine qr_getst 11 rfl rfl ?_
  refine qr_alen 12 rfl rfl (by first | exact Or.inl (by decide) | exact Or.inr (Or.inl rfl) | exact Or.inr (Or.inr (Or.inl rfl)) | exact Or.inr (Or.inr (Or.inr (Or.inl rfl)))) rfl ?_
  refine qy_v 7 rfl ?_
  refine qr_icmp_ge 89 15 rfl rfl rfl (by decide) (by decide) (fun h => False.elim (by omega)) (fun h1 => ?_)
  refine qr_iload 17 rfl rfl rfl ?_
  refine qr_if_lt 89 20 rfl rfl rfl (by decide) (fun h => False.elim (by omega)) (fun h2 => ?_)
  refine qr_iload 22 rfl rfl rfl ?_
  refine qr_getst 25 rfl rfl ?_
  refine qr_alen 26 rfl rfl (by first | exact Or.inl (by decide) | exact Or.inr (Or.inl rfl) | exact Or.inr (Or.inr (Or.inl rfl)) | exact Or.inr (Or.inr (Or.inr (Or.inl rfl)))) rfl ?_
  refine qy_v 7 rfl ?_
  refine qr_icmp_ge 89 29 rfl rfl rfl (by decide) (by decide) (fun h => False.elim (by omega)) (fun h3 => ?_)
  refine qr_getst 32 rfl rfl ?_
  refine qr_iload 34 rfl rfl rfl ?_
  refine qr_iconst 35 rfl rfl ?_
  refine qr_imul 36 rfl rfl ?_
  refine qy_v 16 rfl ?_
  refine qr_iload_n 37 rfl rfl rfl ?_
  refine qr_iadd 38 rfl rfl ?_
  refine qy_v 16 rfl ?_
  refine qr_iaload 39 rfl rfl (by decide) (by decide) rfl ?_
  refine qy_v 0 (by decide) ?_
  refine qr_istore _ 41 rfl (by decide) rfl rfl ?_
  refine qr_iload 43 rfl rfl rfl ?_
  refine qr_if_eq 75 46 rfl rfl rfl (by decide) (fun h4 => ?_) (fun h => False.elim (by omega))
  refine qr_getst 78 rfl rfl ?_
  refine qr_iload 80 rfl rfl rfl ?_
  refine qr_iaload 81 rfl rfl (by decide) (by decide) rfl ?_
  refine qy_v 0 (by decide) ?_
  refine qr_istore _ 83 rfl (by decide) rfl rfl ?_
  refine qr_iinc _ 86 rfl rfl (by decide) rfl rfl ?_
  refine qr_goto 6 rfl rfl ?_
  refine qr_iload 8 rfl rfl rfl ?_
  refine qr_getst 11 rfl rfl ?_
  refine qr_alen 12 rfl rfl (by first | exact Or.inl (by decide) | exact Or.inr (Or.inl rfl) | exact Or.inr (Or.inr (Or.inl rfl)) | exact Or.inr (Or.inr (Or.inr (Or.inl rfl)))) rfl ?_
  refine qy_v 7 rfl ?_
  refine qr_icmp_ge 89 15 rfl rfl rfl (by omega) (by decide) (fun h => False.elim (by omega)) (fun h5 => ?_)
  refine qr_iload 17 rfl rfl rfl ?_
  refine qr_if_lt 89 20 rfl rfl rfl (by decide) (fun h => False.elim (by omega)) (fun h6 => ?_)
  refine qr_iload 22 rfl rfl rfl ?_
  refine qr_getst 25 rfl rfl ?_
  refine qr_alen 26 rfl rfl (by first | exact Or.inl (by decide) | exact Or.inr (Or.inl rfl) | exact Or.inr (Or.inr (Or.inl rfl)) | exact Or.inr (Or.inr (Or.inr (Or.inl rfl)))) rfl ?_
  refine qy_v 7 rfl ?_
  refine qr_icmp_ge 89 29 rfl rfl rfl (by decide) (by decide) (fun h => False.elim (by omega)) (fun h7 => ?_)
  refine qr_getst 32 rfl rfl ?_
  refine qr_iload 34 rfl rfl rfl ?_
  refine qr_iconst 35 rfl rfl ?_
  refine qr_imul 36 rfl rfl ?_
  refine qy_v 0 rfl ?_
  refine qr_iload_n 37 rfl rfl rfl ?_
  refine qr_iadd 38 rfl rfl ?_
  refine qy_v 0 rfl ?_
  refine qr_iaload 39 rfl rfl (by decide) (by decide) rfl ?_
  refine qy_v 1 (by decide) ?_
  refine qr_istore _ 41 rfl (by decide) rfl rfl ?_
  refine qr_iload 43 rfl rfl rfl ?_
  refine qr_if_eq 75 46 rfl rfl rfl (by decide) (fun h => False.elim (by omega)) (fun h8 => ?_)
  as_aux_lemma =>
    refine qr_iload 48 rfl rfl rfl ?_
    refine qr_bipush 50 rfl (by decide) rfl ?_
    refine qr_icmp_le 57 53 rfl rfl rfl (qrg r6 (by decide) (by decide)) (by decide) (fun h9 => ?_) (fun h => False.elim (by omega))
    refine qr_aload_n 58 rfl rfl rfl ?_
    refine qr_iload 60 rfl rfl rfl ?_
    refine qr_iload 62 rfl rfl rfl ?_
    refine qr_iload_n 63 rfl rfl rfl ?_
    refine qr_iload 65 rfl rfl rfl ?_
    refine qr_iload 67 rfl rfl rfl ?_
    refine qr_iload 69 rfl rfl rfl ?_
    refine qr_iconst 70 rfl rfl ?_
    refine qr_iadd 71 rfl rfl ?_
    have hs10 : (-2147483648) ≤ σ 42 1 ∧ σ 42 1 ≤ 2147483647 := hI.1 42 1
    refine qr_callN 74 rfl rfl rfl (sf_153_42eb1_0_4 (d := d + 0) hI r4 r5 (by omega) (by omega)) ?_
    rintro _ _ ⟨σ15, α16, rfl, hI17, hG18, hw14, v11, rfl, hv11, hx12, hx13⟩
    have hF19 : qFr [(42, 1)] [43] σ α σ15 α16 := qFr_t hF0 hG18 (by decide) (by decide)
    have hs20 : (-2147483648) ≤ σ15 42 1 ∧ σ15 42 1 ≤ 2147483647 := hI17.1 42 1
    show qr_W (qe L xs vb) (d + 1) qx_e152 _ (74, _, [.int (qz v11)], qw σ15 α16 κ ρ, 0, 0)
    refine qr_retI rfl rfl (by decide) (by decide) ?_
    exact ⟨_, _, rfl, hI17, hF19, (by have hw : σ15 42 1 = (σ15 42 1) := rfl; omega), v11, rfl, hv11, hx12, hx13⟩

set_option maxHeartbeats 4000000 in
set_option maxRecDepth 20000 in
/-- OneRoof$Acts.run -/
theorem sf_151_42er4_0 {L : Nat} {xs : Nat → Int} {vb : Bool} {d : Nat} {σ α : Nat → Nat → Int} {κ : Nat → Option Nat} {ρ : Nat} {x3 : Int} {x4 : Int} {x5 : Int} (hI : qI σ α κ ρ) (r3 : (-2147483648) ≤ x3 ∧ x3 ≤ 2147483647) (r4 : (-2147483648) ≤ x4 ∧ x4 ≤ 2147483647) (r5 : 0 ≤ x5 ∧ x5 ≤ 39) (p0 : 0 ≤ σ 42 1 ∧ σ 42 1 ≤ 23) : qm_T (qe L xs vb) (d + 3) 151 [.ref 42, .int (qz 4), .int (qz 0), .int (qz x3), .int (qz x4), .int (qz x5)] (qw σ α κ ρ) (fun r w' => ∃ σ' α', w' = qw σ' α' κ ρ ∧ qI σ' α' κ ρ ∧ qFr [(42, 1)] [43] σ α σ' α' ∧ σ' 42 1 = σ 42 1 + 1 ∧ ∃ v : Int, r = some (.int (qz v)) ∧ ((-2147483648) ≤ v ∧ v ≤ 2147483647) ∧ v = qac_a x3 x4 ∧ α' 43 = qac_t [1] (α 43) (σ 42 1)) := by
  refine qr_start (d := d + 2) qv_e151 (Nat.le_of_ble_eq_true rfl) ?_
  show qr_W (qe L xs vb) (d + 2) qx_e151 _ (0, [(0, .ref 42), (1, .int (qz 4)), (2, .int (qz 0)), (3, .int (qz x3)), (4, .int (qz x4)), (5, .int (qz x5))], [], _, 0, 0)
  have hF0 := qFr_rf [(42, 1)] [43] σ α
  have hz42_1 : (-2147483648) ≤ σ 42 1 ∧ σ 42 1 ≤ 2147483647 := hI.1 42 1
  refine qr_aload_n 1 rfl rfl rfl ?_
  refine qr_iload_n 2 rfl rfl rfl ?_
  refine qr_iload_n 3 rfl rfl rfl ?_
  refine qr_iload_n 4 rfl rfl rfl ?_
  refine qr_iload_n 5 rfl rfl rfl ?_
  refine qr_iload 7 rfl rfl rfl ?_
  refine qr_iload 9 rfl rfl rfl ?_
  have hs1 : (-2147483648) ≤ σ 42 1 ∧ σ 42 1 ≤ 2147483647 := hI.1 42 1
  refine qr_callN 12 rfl rfl rfl (sf_152_42ef4_4_0 (d := d + 0) hI r3 r4 r5 (by omega)) ?_
  rintro _ _ ⟨σ6, α7, rfl, hI8, hG9, hw5, v2, rfl, hv2, hx3, hx4⟩
  have hF10 : qFr [(42, 1)] [43] σ α σ6 α7 := qFr_t hF0 hG9 (by decide) (by decide)
  have hs11 : (-2147483648) ≤ σ6 42 1 ∧ σ6 42 1 ≤ 2147483647 := hI8.1 42 1
  show qr_W (qe L xs vb) (d + 2) qx_e151 _ (12, _, [.int (qz v2)], qw σ6 α7 κ ρ, 0, 0)
  refine qr_retI rfl rfl (by decide) (by decide) ?_
  exact ⟨_, _, rfl, hI8, hF10, (by have hw : σ6 42 1 = (σ6 42 1) := rfl; omega), v2, rfl, hv2, hx3, hx4⟩

set_option maxHeartbeats 4000000 in
set_option maxRecDepth 20000 in
/-- OneRoof$Acts.start -/
theorem sf_150_42es4_0 {L : Nat} {xs : Nat → Int} {vb : Bool} {d : Nat} {σ α : Nat → Nat → Int} {κ : Nat → Option Nat} {ρ : Nat} {x3 : Int} {x4 : Int} (hI : qI σ α κ ρ) (r3 : (-2147483648) ≤ x3 ∧ x3 ≤ 2147483647) (r4 : (-2147483648) ≤ x4 ∧ x4 ≤ 2147483647) (p0 : 0 ≤ σ 42 1 ∧ σ 42 1 ≤ 23) : qm_T (qe L xs vb) (d + 4) 150 [.ref 42, .int (qz 4), .int (qz 0), .int (qz x3), .int (qz x4)] (qw σ α κ ρ) (fun r w' => ∃ σ' α', w' = qw σ' α' κ ρ ∧ qI σ' α' κ ρ ∧ qFr [(42, 1)] [43] σ α σ' α' ∧ σ' 42 1 = σ 42 1 + 1 ∧ ∃ v : Int, r = some (.int (qz v)) ∧ ((-2147483648) ≤ v ∧ v ≤ 2147483647) ∧ v = qac_a x3 x4 ∧ α' 43 = qac_t [1] (α 43) (σ 42 1)) := by
  refine qr_start (d := d + 3) qv_e150 (Nat.le_of_ble_eq_true rfl) ?_
  show qr_W (qe L xs vb) (d + 3) qx_e150 _ (0, [(0, .ref 42), (1, .int (qz 4)), (2, .int (qz 0)), (3, .int (qz x3)), (4, .int (qz x4))], [], _, 0, 0)
  have hF0 := qFr_rf [(42, 1)] [43] σ α
  have hz42_1 : (-2147483648) ≤ σ 42 1 ∧ σ 42 1 ≤ 2147483647 := hI.1 42 1
  refine qr_aload_n 1 rfl rfl rfl ?_
  refine qr_iload_n 2 rfl rfl rfl ?_
  refine qr_iload_n 3 rfl rfl rfl ?_
  refine qr_iload_n 4 rfl rfl rfl ?_
  refine qr_iload 6 rfl rfl rfl ?_
  refine qr_iconst 7 rfl rfl ?_
  have hs1 : (-2147483648) ≤ σ 42 1 ∧ σ 42 1 ≤ 2147483647 := hI.1 42 1
  refine qr_callN 10 rfl rfl rfl (sf_151_42er4_0 (d := d + 0) hI r3 r4 (by decide) (by omega)) ?_
  rintro _ _ ⟨σ6, α7, rfl, hI8, hG9, hw5, v2, rfl, hv2, hx3, hx4⟩
  have hF10 : qFr [(42, 1)] [43] σ α σ6 α7 := qFr_t hF0 hG9 (by decide) (by decide)
  have hs11 : (-2147483648) ≤ σ6 42 1 ∧ σ6 42 1 ≤ 2147483647 := hI8.1 42 1
  show qr_W (qe L xs vb) (d + 3) qx_e150 _ (10, _, [.int (qz v2)], qw σ6 α7 κ ρ, 0, 0)
  refine qr_retI rfl rfl (by decide) (by decide) ?_
  exact ⟨_, _, rfl, hI8, hF10, (by have hw : σ6 42 1 = (σ6 42 1) := rfl; omega), v2, rfl, hv2, hx3, hx4⟩

set_option maxHeartbeats 4000000 in
set_option maxRecDepth 20000 in
/-- OneRoof$Acts.begin -/
theorem sf_153_42eb10_0_4 {L : Nat} {xs : Nat → Int} {vb : Bool} {d : Nat} {σ α : Nat → Nat → Int} {κ : Nat → Option Nat} {ρ : Nat} {x4 : Int} {x5 : Int} {x6 : Int} (hI : qI σ α κ ρ) (r4 : (-2147483648) ≤ x4 ∧ x4 ≤ 2147483647) (r5 : (-2147483648) ≤ x5 ∧ x5 ≤ 2147483647) (r6 : 0 ≤ x6 ∧ x6 ≤ 39) (p0 : 0 ≤ σ 42 1 ∧ σ 42 1 ≤ 22) : qm_T (qe L xs vb) (d + 4) 153 [.ref 42, .int (qz 10), .int (qz 0), .int (qz 4), .int (qz x4), .int (qz x5), .int (qz x6)] (qw σ α κ ρ) (fun r w' => ∃ σ' α', w' = qw σ' α' κ ρ ∧ qI σ' α' κ ρ ∧ qFr [(42, 1)] [43] σ α σ' α' ∧ σ' 42 1 = σ 42 1 + 2 ∧ ∃ v : Int, r = some (.int (qz v)) ∧ ((-2147483648) ≤ v ∧ v ≤ 2147483647) ∧ v = qac_m (qac_a x4 x5) 2 ∧ α' 43 = qac_t [10, 1] (α 43) (σ 42 1)) := by
  refine qr_start (d := d + 3) qv_e153 (Nat.le_of_ble_eq_true rfl) ?_
  show qr_W (qe L xs vb) (d + 3) qx_e153 _ (0, [(0, .ref 42), (1, .int (qz 10)), (2, .int (qz 0)), (3, .int (qz 4)), (4, .int (qz x4)), (5, .int (qz x5)), (6, .int (qz x6))], [], _, 0, 0)
  have hF0 := qFr_rf [(42, 1)] [43] σ α
  have hz42_1 : (-2147483648) ≤ σ 42 1 ∧ σ 42 1 ≤ 2147483647 := hI.1 42 1
  refine qr_aload_n 1 rfl rfl rfl ?_
  refine qr_get 4 rfl rfl rfl (by decide) rfl ?_
  refine qr_aload_n 5 rfl rfl rfl ?_
  refine qr_get 8 rfl rfl rfl (by decide) rfl ?_
  refine qr_alen 9 rfl rfl (by first | exact Or.inl (by decide) | exact Or.inr (Or.inl rfl) | exact Or.inr (Or.inr (Or.inl rfl)) | exact Or.inr (Or.inr (Or.inr (Or.inl rfl)))) rfl ?_
  refine qy_v 24 rfl ?_
  refine qr_icmp_ge 22 12 rfl rfl rfl hz42_1 (by decide) (fun h => False.elim (by omega)) (fun h1 => ?_)
  refine qr_aload_n 13 rfl rfl rfl ?_
  refine qr_get 16 rfl rfl rfl (by decide) rfl ?_
  refine qr_aload_n 17 rfl rfl rfl ?_
  refine qr_get 20 rfl rfl rfl (by decide) rfl ?_
  refine qr_iload_n 21 rfl rfl rfl ?_
  refine qr_iastore 22 rfl (by decide) rfl (by omega) (by decide) rfl ?_
  refine qy_wA (qw_r α 43 (qzu (α 43) ((σ 42 1) : Int).toNat 10)) rfl (fun α2 e3 => ?_)
  have hI4 : qI σ α2 κ ρ := by rw [e3]; exact qI_r hI 43 _ rfl (show (-2147483648) ≤ 10 ∧ 10 ≤ 2147483647 by omega)
  have hF5 : qFr [(42, 1)] [43] σ α σ α2 := by rw [e3]; exact qFr_r hF0 43 _ (by decide)
  refine qr_aload_n 23 rfl rfl rfl ?_
  refine qr_dup 24 rfl rfl rfl ?_
  refine qr_get 27 rfl rfl rfl (by decide) rfl ?_
  refine qr_iconst 28 rfl rfl ?_
  refine qr_iadd 29 rfl rfl ?_
  refine qr_put 32 rfl (by decide) rfl (Nat.le_of_ble_eq_true rfl) (Nat.le_of_ble_eq_true rfl) (Or.inl rfl) (qr_fitI rfl _) rfl ?_
  refine qy_wS (qw_s σ 42 1 ((σ 42 1) + 1)) rfl (fun σ6 e7 => ?_)
  have hI8 : qI σ6 α2 κ ρ := by rw [e7]; exact qI_s hI4 42 1 rfl (show (-2147483648) ≤ ((σ 42 1) + 1) ∧ ((σ 42 1) + 1) ≤ 2147483647 by omega)
  have hF9 : qFr [(42, 1)] [43] σ α σ6 α2 := by rw [e7]; exact qFr_s hF5 42 1 _ (by decide)
  refine qr_getst 35 rfl rfl ?_
  refine qr_iload_n 36 rfl rfl rfl ?_
  refine qr_iaload 37 rfl rfl (by decide) (by decide) rfl ?_
  refine qy_v (-1) (by decide) ?_
  refine qr_istore _ 39 rfl (by decide) rfl rfl ?_
  refine qr_iload_n 40 rfl rfl rfl ?_
  refine qr_look (off := 139) 179 rfl (by omega) (by decide) (by decide) rfl ?_
  refine qr_aload_n 180 rfl rfl rfl ?_
  refine qr_iload_n 181 rfl rfl rfl ?_
  refine qr_iconst 182 rfl rfl ?_
  refine qr_iload 184 rfl rfl rfl ?_
  refine qr_iload 186 rfl rfl rfl ?_
  refine qr_iload 188 rfl rfl rfl ?_
  have hr10 : σ6 42 1 = ((σ 42 1) + 1) := (congrFun (congrFun e7 42) 1).trans rfl
  have hs11 : (-2147483648) ≤ σ6 42 1 ∧ σ6 42 1 ≤ 2147483647 := hI8.1 42 1
  have hs12 : σ6 42 1 = ((σ 42 1) + 1) := (congrFun (congrFun e7 42) 1).trans rfl
  refine qr_callN 191 rfl rfl rfl (sf_151_42er4_0 (d := d + 0) hI8 r4 r5 r6 (by omega)) ?_
  rintro _ _ ⟨σ17, α18, rfl, hI19, hG20, hw16, v13, rfl, hv13, hx14, hx15⟩
  have hF21 : qFr [(42, 1)] [43] σ α σ17 α18 := qFr_t hF9 hG20 (by decide) (by decide)
  have hs22 : (-2147483648) ≤ σ17 42 1 ∧ σ17 42 1 ≤ 2147483647 := hI19.1 42 1
  show qr_W (qe L xs vb) (d + 3) qx_e153 _ (191, _, [.int (qz v13)], qw σ17 α18 κ ρ, 0, 0)
  refine qr_iconst 192 rfl rfl ?_
  refine qr_imul 193 rfl rfl ?_
  refine qy_canE (fun v23 hv23 hev23 => ?_)
  refine qr_retI rfl rfl (by decide) (by decide) ?_
  exact ⟨_, _, rfl, hI19, hF21, (by have hw : σ17 42 1 = (σ17 42 1) := rfl; omega), v23, rfl, hv23, ((qac_v hev23 (by omega)).trans (by rw [hx14]; rfl)), (by rw [hx15, show α2 43 = qzu (α 43) (σ 42 1 : Int).toNat 10 from ((congrFun e3 43).trans (qw_r_eq.trans (congrArg (fun f => qzu f ((σ 42 1) : Int).toNat 10) rfl))), show σ6 42 1 = σ 42 1 + 1 by omega]; rfl)⟩

set_option maxHeartbeats 4000000 in
set_option maxRecDepth 20000 in
/-- OneRoof$Acts.runFrom -/
theorem sf_152_42ef4_4_1 {L : Nat} {xs : Nat → Int} {vb : Bool} {d : Nat} {σ α : Nat → Nat → Int} {κ : Nat → Option Nat} {ρ : Nat} {x4 : Int} {x5 : Int} {x6 : Int} (hI : qI σ α κ ρ) (r4 : (-2147483648) ≤ x4 ∧ x4 ≤ 2147483647) (r5 : (-2147483648) ≤ x5 ∧ x5 ≤ 2147483647) (r6 : 0 ≤ x6 ∧ x6 ≤ 38) (p0 : 0 ≤ σ 42 1 ∧ σ 42 1 ≤ 22) : qm_T (qe L xs vb) (d + 5) 152 [.ref 42, .int (qz 4), .int (qz 4), .int (qz 1), .int (qz x4), .int (qz x5), .int (qz x6)] (qw σ α κ ρ) (fun r w' => ∃ σ' α', w' = qw σ' α' κ ρ ∧ qI σ' α' κ ρ ∧ qFr [(42, 1)] [43] σ α σ' α' ∧ σ' 42 1 = σ 42 1 + 2 ∧ ∃ v : Int, r = some (.int (qz v)) ∧ ((-2147483648) ≤ v ∧ v ≤ 2147483647) ∧ v = qac_m (qac_a x4 x5) 2 ∧ α' 43 = qac_t [10, 1] (α 43) (σ 42 1)) := by
  refine qr_start (d := d + 4) qv_e152 (Nat.le_of_ble_eq_true rfl) ?_
  show qr_W (qe L xs vb) (d + 4) qx_e152 _ (0, [(0, .ref 42), (1, .int (qz 4)), (2, .int (qz 4)), (3, .int (qz 1)), (4, .int (qz x4)), (5, .int (qz x5)), (6, .int (qz x6))], [], _, 0, 0)
  have hF0 := qFr_rf [(42, 1)] [43] σ α
  have hz42_1 : (-2147483648) ≤ σ 42 1 ∧ σ 42 1 ≤ 2147483647 := hI.1 42 1
  refine qr_iload_n 1 rfl rfl rfl ?_
  refine qr_istore _ 3 rfl (by decide) rfl rfl ?_
  refine qr_iconst 4 rfl rfl ?_
  refine qr_istore _ 6 rfl (by decide) rfl rfl ?_
  refine qr_iload 8 rfl rfl rfl ?_
  refine qr_getst 11 rfl rfl ?_
  refine qr_alen 12 rfl rfl (by first | exact Or.inl (by decide) | exact Or.inr (Or.inl rfl) | exact Or.inr (Or.inr (Or.inl rfl)) | exact Or.inr (Or.inr (Or.inr (Or.inl rfl)))) rfl ?_
  refine qy_v 7 rfl ?_
  refine qr_icmp_ge 89 15 rfl rfl rfl (by decide) (by decide) (fun h => False.elim (by omega)) (fun h1 => ?_)
  refine qr_iload 17 rfl rfl rfl ?_
  refine qr_if_lt 89 20 rfl rfl rfl (by decide) (fun h => False.elim (by omega)) (fun h2 => ?_)
  refine qr_iload 22 rfl rfl rfl ?_
  refine qr_getst 25 rfl rfl ?_
  refine qr_alen 26 rfl rfl (by first | exact Or.inl (by decide) | exact Or.inr (Or.inl rfl) | exact Or.inr (Or.inr (Or.inl rfl)) | exact Or.inr (Or.inr (Or.inr (Or.inl rfl)))) rfl ?_
  refine qy_v 7 rfl ?_
  refine qr_icmp_ge 89 29 rfl rfl rfl (by decide) (by decide) (fun h => False.elim (by omega)) (fun h3 => ?_)
  refine qr_getst 32 rfl rfl ?_
  refine qr_iload 34 rfl rfl rfl ?_
  refine qr_iconst 35 rfl rfl ?_
  refine qr_imul 36 rfl rfl ?_
  refine qy_v 16 rfl ?_
  refine qr_iload_n 37 rfl rfl rfl ?_
  refine qr_iadd 38 rfl rfl ?_
  refine qy_v 17 rfl ?_
  refine qr_iaload 39 rfl rfl (by decide) (by decide) rfl ?_
  refine qy_v 0 (by decide) ?_
  refine qr_istore _ 41 rfl (by decide) rfl rfl ?_
  refine qr_iload 43 rfl rfl rfl ?_
  refine qr_if_eq 75 46 rfl rfl rfl (by decide) (fun h4 => ?_) (fun h => False.elim (by omega))
  refine qr_getst 78 rfl rfl ?_
  refine qr_iload 80 rfl rfl rfl ?_
  refine qr_iaload 81 rfl rfl (by decide) (by decide) rfl ?_
  refine qy_v 0 (by decide) ?_
  refine qr_istore _ 83 rfl (by decide) rfl rfl ?_
  refine qr_iinc _ 86 rfl rfl (by decide) rfl rfl ?_
  refine qr_goto 6 rfl rfl ?_
  refine qr_iload 8 rfl rfl rfl ?_
  refine qr_getst 11 rfl rfl ?_
  refine qr_alen 12 rfl rfl (by first | exact Or.inl (by decide) | exact Or.inr (Or.inl rfl) | exact Or.inr (Or.inr (Or.inl rfl)) | exact Or.inr (Or.inr (Or.inr (Or.inl rfl)))) rfl ?_
  refine qy_v 7 rfl ?_
  refine qr_icmp_ge 89 15 rfl rfl rfl (by omega) (by decide) (fun h => False.elim (by omega)) (fun h5 => ?_)
  refine qr_iload 17 rfl rfl rfl ?_
  refine qr_if_lt 89 20 rfl rfl rfl (by decide) (fun h => False.elim (by omega)) (fun h6 => ?_)
  refine qr_iload 22 rfl rfl rfl ?_
  refine qr_getst 25 rfl rfl ?_
  refine qr_alen 26 rfl rfl (by first | exact Or.inl (by decide) | exact Or.inr (Or.inl rfl) | exact Or.inr (Or.inr (Or.inl rfl)) | exact Or.inr (Or.inr (Or.inr (Or.inl rfl)))) rfl ?_
  refine qy_v 7 rfl ?_
  refine qr_icmp_ge 89 29 rfl rfl rfl (by decide) (by decide) (fun h => False.elim (by omega)) (fun h7 => ?_)
  refine qr_getst 32 rfl rfl ?_
  refine qr_iload 34 rfl rfl rfl ?_
  refine qr_iconst 35 rfl rfl ?_
  refine qr_imul 36 rfl rfl ?_
  refine qy_v 0 rfl ?_
  refine qr_iload_n 37 rfl rfl rfl ?_
  refine qr_iadd 38 rfl rfl ?_
  refine qy_v 1 rfl ?_
  refine qr_iaload 39 rfl rfl (by decide) (by decide) rfl ?_
  refine qy_v 10 (by decide) ?_
  refine qr_istore _ 41 rfl (by decide) rfl rfl ?_
  refine qr_iload 43 rfl rfl rfl ?_
  refine qr_if_eq 75 46 rfl rfl rfl (by decide) (fun h => False.elim (by omega)) (fun h8 => ?_)
  as_aux_lemma =>
    refine qr_iload 48 rfl rfl rfl ?_
    refine qr_bipush 50 rfl (by decide) rfl ?_
    refine qr_icmp_le 57 53 rfl rfl rfl (qrg r6 (by decide) (by decide)) (by decide) (fun h9 => ?_) (fun h => False.elim (by omega))
    refine qr_aload_n 58 rfl rfl rfl ?_
    refine qr_iload 60 rfl rfl rfl ?_
    refine qr_iload 62 rfl rfl rfl ?_
    refine qr_iload_n 63 rfl rfl rfl ?_
    refine qr_iload 65 rfl rfl rfl ?_
    refine qr_iload 67 rfl rfl rfl ?_
    refine qr_iload 69 rfl rfl rfl ?_
    refine qr_iconst 70 rfl rfl ?_
    refine qr_iadd 71 rfl rfl ?_
    have hs10 : (-2147483648) ≤ σ 42 1 ∧ σ 42 1 ≤ 2147483647 := hI.1 42 1
    refine qr_callN 74 rfl rfl rfl (sf_153_42eb10_0_4 (d := d + 0) hI r4 r5 (by omega) (by omega)) ?_
    rintro _ _ ⟨σ15, α16, rfl, hI17, hG18, hw14, v11, rfl, hv11, hx12, hx13⟩
    have hF19 : qFr [(42, 1)] [43] σ α σ15 α16 := qFr_t hF0 hG18 (by decide) (by decide)
    have hs20 : (-2147483648) ≤ σ15 42 1 ∧ σ15 42 1 ≤ 2147483647 := hI17.1 42 1
    show qr_W (qe L xs vb) (d + 4) qx_e152 _ (74, _, [.int (qz v11)], qw σ15 α16 κ ρ, 0, 0)
    refine qr_retI rfl rfl (by decide) (by decide) ?_
    exact ⟨_, _, rfl, hI17, hF19, (by have hw : σ15 42 1 = (σ15 42 1) := rfl; omega), v11, rfl, hv11, hx12, hx13⟩

set_option maxHeartbeats 4000000 in
set_option maxRecDepth 20000 in
/-- OneRoof$Acts.run -/
theorem sf_151_42er4_1 {L : Nat} {xs : Nat → Int} {vb : Bool} {d : Nat} {σ α : Nat → Nat → Int} {κ : Nat → Option Nat} {ρ : Nat} {x3 : Int} {x4 : Int} {x5 : Int} (hI : qI σ α κ ρ) (r3 : (-2147483648) ≤ x3 ∧ x3 ≤ 2147483647) (r4 : (-2147483648) ≤ x4 ∧ x4 ≤ 2147483647) (r5 : 0 ≤ x5 ∧ x5 ≤ 38) (p0 : 0 ≤ σ 42 1 ∧ σ 42 1 ≤ 22) : qm_T (qe L xs vb) (d + 6) 151 [.ref 42, .int (qz 4), .int (qz 1), .int (qz x3), .int (qz x4), .int (qz x5)] (qw σ α κ ρ) (fun r w' => ∃ σ' α', w' = qw σ' α' κ ρ ∧ qI σ' α' κ ρ ∧ qFr [(42, 1)] [43] σ α σ' α' ∧ σ' 42 1 = σ 42 1 + 2 ∧ ∃ v : Int, r = some (.int (qz v)) ∧ ((-2147483648) ≤ v ∧ v ≤ 2147483647) ∧ v = qac_m (qac_a x3 x4) 2 ∧ α' 43 = qac_t [10, 1] (α 43) (σ 42 1)) := by
  refine qr_start (d := d + 5) qv_e151 (Nat.le_of_ble_eq_true rfl) ?_
  show qr_W (qe L xs vb) (d + 5) qx_e151 _ (0, [(0, .ref 42), (1, .int (qz 4)), (2, .int (qz 1)), (3, .int (qz x3)), (4, .int (qz x4)), (5, .int (qz x5))], [], _, 0, 0)
  have hF0 := qFr_rf [(42, 1)] [43] σ α
  have hz42_1 : (-2147483648) ≤ σ 42 1 ∧ σ 42 1 ≤ 2147483647 := hI.1 42 1
  refine qr_aload_n 1 rfl rfl rfl ?_
  refine qr_iload_n 2 rfl rfl rfl ?_
  refine qr_iload_n 3 rfl rfl rfl ?_
  refine qr_iload_n 4 rfl rfl rfl ?_
  refine qr_iload_n 5 rfl rfl rfl ?_
  refine qr_iload 7 rfl rfl rfl ?_
  refine qr_iload 9 rfl rfl rfl ?_
  have hs1 : (-2147483648) ≤ σ 42 1 ∧ σ 42 1 ≤ 2147483647 := hI.1 42 1
  refine qr_callN 12 rfl rfl rfl (sf_152_42ef4_4_1 (d := d + 0) hI r3 r4 r5 (by omega)) ?_
  rintro _ _ ⟨σ6, α7, rfl, hI8, hG9, hw5, v2, rfl, hv2, hx3, hx4⟩
  have hF10 : qFr [(42, 1)] [43] σ α σ6 α7 := qFr_t hF0 hG9 (by decide) (by decide)
  have hs11 : (-2147483648) ≤ σ6 42 1 ∧ σ6 42 1 ≤ 2147483647 := hI8.1 42 1
  show qr_W (qe L xs vb) (d + 5) qx_e151 _ (12, _, [.int (qz v2)], qw σ6 α7 κ ρ, 0, 0)
  refine qr_retI rfl rfl (by decide) (by decide) ?_
  exact ⟨_, _, rfl, hI8, hF10, (by have hw : σ6 42 1 = (σ6 42 1) := rfl; omega), v2, rfl, hv2, hx3, hx4⟩

set_option maxHeartbeats 4000000 in
set_option maxRecDepth 20000 in
/-- OneRoof$Acts.start -/
theorem sf_150_42es4_1 {L : Nat} {xs : Nat → Int} {vb : Bool} {d : Nat} {σ α : Nat → Nat → Int} {κ : Nat → Option Nat} {ρ : Nat} {x3 : Int} {x4 : Int} (hI : qI σ α κ ρ) (r3 : (-2147483648) ≤ x3 ∧ x3 ≤ 2147483647) (r4 : (-2147483648) ≤ x4 ∧ x4 ≤ 2147483647) (p0 : 0 ≤ σ 42 1 ∧ σ 42 1 ≤ 22) : qm_T (qe L xs vb) (d + 7) 150 [.ref 42, .int (qz 4), .int (qz 1), .int (qz x3), .int (qz x4)] (qw σ α κ ρ) (fun r w' => ∃ σ' α', w' = qw σ' α' κ ρ ∧ qI σ' α' κ ρ ∧ qFr [(42, 1)] [43] σ α σ' α' ∧ σ' 42 1 = σ 42 1 + 2 ∧ ∃ v : Int, r = some (.int (qz v)) ∧ ((-2147483648) ≤ v ∧ v ≤ 2147483647) ∧ v = qac_m (qac_a x3 x4) 2 ∧ α' 43 = qac_t [10, 1] (α 43) (σ 42 1)) := by
  refine qr_start (d := d + 6) qv_e150 (Nat.le_of_ble_eq_true rfl) ?_
  show qr_W (qe L xs vb) (d + 6) qx_e150 _ (0, [(0, .ref 42), (1, .int (qz 4)), (2, .int (qz 1)), (3, .int (qz x3)), (4, .int (qz x4))], [], _, 0, 0)
  have hF0 := qFr_rf [(42, 1)] [43] σ α
  have hz42_1 : (-2147483648) ≤ σ 42 1 ∧ σ 42 1 ≤ 2147483647 := hI.1 42 1
  refine qr_aload_n 1 rfl rfl rfl ?_
  refine qr_iload_n 2 rfl rfl rfl ?_
  refine qr_iload_n 3 rfl rfl rfl ?_
  refine qr_iload_n 4 rfl rfl rfl ?_
  refine qr_iload 6 rfl rfl rfl ?_
  refine qr_iconst 7 rfl rfl ?_
  have hs1 : (-2147483648) ≤ σ 42 1 ∧ σ 42 1 ≤ 2147483647 := hI.1 42 1
  refine qr_callN 10 rfl rfl rfl (sf_151_42er4_1 (d := d + 0) hI r3 r4 (by decide) (by omega)) ?_
  rintro _ _ ⟨σ6, α7, rfl, hI8, hG9, hw5, v2, rfl, hv2, hx3, hx4⟩
  have hF10 : qFr [(42, 1)] [43] σ α σ6 α7 := qFr_t hF0 hG9 (by decide) (by decide)
  have hs11 : (-2147483648) ≤ σ6 42 1 ∧ σ6 42 1 ≤ 2147483647 := hI8.1 42 1
  show qr_W (qe L xs vb) (d + 6) qx_e150 _ (10, _, [.int (qz v2)], qw σ6 α7 κ ρ, 0, 0)
  refine qr_retI rfl rfl (by decide) (by decide) ?_
  exact ⟨_, _, rfl, hI8, hF10, (by have hw : σ6 42 1 = (σ6 42 1) := rfl; omega), v2, rfl, hv2, hx3, hx4⟩

set_option maxHeartbeats 4000000 in
set_option maxRecDepth 20000 in
/-- OneRoof$Acts.begin -/
theorem sf_153_42eb11_0_4 {L : Nat} {xs : Nat → Int} {vb : Bool} {d : Nat} {σ α : Nat → Nat → Int} {κ : Nat → Option Nat} {ρ : Nat} {x4 : Int} {x5 : Int} {x6 : Int} (hI : qI σ α κ ρ) (r4 : (-2147483648) ≤ x4 ∧ x4 ≤ 2147483647) (r5 : (-2147483648) ≤ x5 ∧ x5 ≤ 2147483647) (r6 : 0 ≤ x6 ∧ x6 ≤ 40) (p0 : 0 ≤ σ 42 1 ∧ σ 42 1 ≤ 23) : qm_T (qe L xs vb) (d + 1) 153 [.ref 42, .int (qz 11), .int (qz 0), .int (qz 4), .int (qz x4), .int (qz x5), .int (qz x6)] (qw σ α κ ρ) (fun r w' => ∃ σ' α', w' = qw σ' α' κ ρ ∧ qI σ' α' κ ρ ∧ qFr [(42, 1)] [43] σ α σ' α' ∧ σ' 42 1 = σ 42 1 + 1 ∧ ∃ v : Int, r = some (.int (qz v)) ∧ ((-2147483648) ≤ v ∧ v ≤ 2147483647) ∧ v = qac_x x4 x5 ∧ α' 43 = qac_t [11] (α 43) (σ 42 1)) := by
  refine qr_start (d := d + 0) qv_e153 (Nat.le_of_ble_eq_true rfl) ?_
  show qr_W (qe L xs vb) (d + 0) qx_e153 _ (0, [(0, .ref 42), (1, .int (qz 11)), (2, .int (qz 0)), (3, .int (qz 4)), (4, .int (qz x4)), (5, .int (qz x5)), (6, .int (qz x6))], [], _, 0, 0)
  have hF0 := qFr_rf [(42, 1)] [43] σ α
  have hz42_1 : (-2147483648) ≤ σ 42 1 ∧ σ 42 1 ≤ 2147483647 := hI.1 42 1
  refine qr_aload_n 1 rfl rfl rfl ?_
  refine qr_get 4 rfl rfl rfl (by decide) rfl ?_
  refine qr_aload_n 5 rfl rfl rfl ?_
  refine qr_get 8 rfl rfl rfl (by decide) rfl ?_
  refine qr_alen 9 rfl rfl (by first | exact Or.inl (by decide) | exact Or.inr (Or.inl rfl) | exact Or.inr (Or.inr (Or.inl rfl)) | exact Or.inr (Or.inr (Or.inr (Or.inl rfl)))) rfl ?_
  refine qy_v 24 rfl ?_
  refine qr_icmp_ge 22 12 rfl rfl rfl hz42_1 (by decide) (fun h => False.elim (by omega)) (fun h1 => ?_)
  refine qr_aload_n 13 rfl rfl rfl ?_
  refine qr_get 16 rfl rfl rfl (by decide) rfl ?_
  refine qr_aload_n 17 rfl rfl rfl ?_
  refine qr_get 20 rfl rfl rfl (by decide) rfl ?_
  refine qr_iload_n 21 rfl rfl rfl ?_
  refine qr_iastore 22 rfl (by decide) rfl (by omega) (by decide) rfl ?_
  refine qy_wA (qw_r α 43 (qzu (α 43) ((σ 42 1) : Int).toNat 11)) rfl (fun α2 e3 => ?_)
  have hI4 : qI σ α2 κ ρ := by rw [e3]; exact qI_r hI 43 _ rfl (show (-2147483648) ≤ 11 ∧ 11 ≤ 2147483647 by omega)
  have hF5 : qFr [(42, 1)] [43] σ α σ α2 := by rw [e3]; exact qFr_r hF0 43 _ (by decide)
  refine qr_aload_n 23 rfl rfl rfl ?_
  refine qr_dup 24 rfl rfl rfl ?_
  refine qr_get 27 rfl rfl rfl (by decide) rfl ?_
  refine qr_iconst 28 rfl rfl ?_
  refine qr_iadd 29 rfl rfl ?_
  refine qr_put 32 rfl (by decide) rfl (Nat.le_of_ble_eq_true rfl) (Nat.le_of_ble_eq_true rfl) (Or.inl rfl) (qr_fitI rfl _) rfl ?_
  refine qy_wS (qw_s σ 42 1 ((σ 42 1) + 1)) rfl (fun σ6 e7 => ?_)
  have hI8 : qI σ6 α2 κ ρ := by rw [e7]; exact qI_s hI4 42 1 rfl (show (-2147483648) ≤ ((σ 42 1) + 1) ∧ ((σ 42 1) + 1) ≤ 2147483647 by omega)
  have hF9 : qFr [(42, 1)] [43] σ α σ6 α2 := by rw [e7]; exact qFr_s hF5 42 1 _ (by decide)
  refine qr_getst 35 rfl rfl ?_
  refine qr_iload_n 36 rfl rfl rfl ?_
  refine qr_iaload 37 rfl rfl (by decide) (by decide) rfl ?_
  refine qy_v (-1) (by decide) ?_
  refine qr_istore _ 39 rfl (by decide) rfl rfl ?_
  refine qr_iload_n 40 rfl rfl rfl ?_
  refine qr_look (off := 154) 194 rfl (by omega) (by decide) (by decide) rfl ?_
  refine qr_iload 196 rfl rfl rfl ?_
  refine qr_iload 198 rfl rfl rfl ?_
  refine qr_ixor 199 rfl rfl ?_
  refine qy_canE (fun v10 hv10 hev10 => ?_)
  refine qr_retI rfl rfl (by decide) (by decide) ?_
  exact ⟨_, _, rfl, hI8, hF9, (by have hw : σ6 42 1 = ((σ 42 1) + 1) := (congrFun (congrFun e7 42) 1).trans rfl; omega), v10, rfl, hv10, (qac_v hev10 (by omega)), (((congrFun e3 43).trans (qw_r_eq.trans (congrArg (fun f => qzu f ((σ 42 1) : Int).toNat 11) rfl))))⟩

set_option maxHeartbeats 4000000 in
set_option maxRecDepth 20000 in
/-- OneRoof$Acts.runFrom -/
theorem sf_152_42ef4_4_2 {L : Nat} {xs : Nat → Int} {vb : Bool} {d : Nat} {σ α : Nat → Nat → Int} {κ : Nat → Option Nat} {ρ : Nat} {x4 : Int} {x5 : Int} {x6 : Int} (hI : qI σ α κ ρ) (r4 : (-2147483648) ≤ x4 ∧ x4 ≤ 2147483647) (r5 : (-2147483648) ≤ x5 ∧ x5 ≤ 2147483647) (r6 : 0 ≤ x6 ∧ x6 ≤ 39) (p0 : 0 ≤ σ 42 1 ∧ σ 42 1 ≤ 23) : qm_T (qe L xs vb) (d + 2) 152 [.ref 42, .int (qz 4), .int (qz 4), .int (qz 2), .int (qz x4), .int (qz x5), .int (qz x6)] (qw σ α κ ρ) (fun r w' => ∃ σ' α', w' = qw σ' α' κ ρ ∧ qI σ' α' κ ρ ∧ qFr [(42, 1)] [43] σ α σ' α' ∧ σ' 42 1 = σ 42 1 + 1 ∧ ∃ v : Int, r = some (.int (qz v)) ∧ ((-2147483648) ≤ v ∧ v ≤ 2147483647) ∧ v = qac_x x4 x5 ∧ α' 43 = qac_t [11] (α 43) (σ 42 1)) := by
  refine qr_start (d := d + 1) qv_e152 (Nat.le_of_ble_eq_true rfl) ?_
  show qr_W (qe L xs vb) (d + 1) qx_e152 _ (0, [(0, .ref 42), (1, .int (qz 4)), (2, .int (qz 4)), (3, .int (qz 2)), (4, .int (qz x4)), (5, .int (qz x5)), (6, .int (qz x6))], [], _, 0, 0)
  have hF0 := qFr_rf [(42, 1)] [43] σ α
  have hz42_1 : (-2147483648) ≤ σ 42 1 ∧ σ 42 1 ≤ 2147483647 := hI.1 42 1
  refine qr_iload_n 1 rfl rfl rfl ?_
  refine qr_istore _ 3 rfl (by decide) rfl rfl ?_
  refine qr_iconst 4 rfl rfl ?_
  refine qr_istore _ 6 rfl (by decide) rfl rfl ?_
  refine qr_iload 8 rfl rfl rfl ?_
  refine qr_getst 11 rfl rfl ?_
  refine qr_alen 12 rfl rfl (by first | exact Or.inl (by decide) | exact Or.inr (Or.inl rfl) | exact Or.inr (Or.inr (Or.inl rfl)) | exact Or.inr (Or.inr (Or.inr (Or.inl rfl)))) rfl ?_
  refine qy_v 7 rfl ?_
  refine qr_icmp_ge 89 15 rfl rfl rfl (by decide) (by decide) (fun h => False.elim (by omega)) (fun h1 => ?_)
  refine qr_iload 17 rfl rfl rfl ?_
  refine qr_if_lt 89 20 rfl rfl rfl (by decide) (fun h => False.elim (by omega)) (fun h2 => ?_)
  refine qr_iload 22 rfl rfl rfl ?_
  refine qr_getst 25 rfl rfl ?_
  refine qr_alen 26 rfl rfl (by first | exact Or.inl (by decide) | exact Or.inr (Or.inl rfl) | exact Or.inr (Or.inr (Or.inl rfl)) | exact Or.inr (Or.inr (Or.inr (Or.inl rfl)))) rfl ?_
  refine qy_v 7 rfl ?_
  refine qr_icmp_ge 89 29 rfl rfl rfl (by decide) (by decide) (fun h => False.elim (by omega)) (fun h3 => ?_)
  refine qr_getst 32 rfl rfl ?_
  refine qr_iload 34 rfl rfl rfl ?_
  refine qr_iconst 35 rfl rfl ?_
  refine qr_imul 36 rfl rfl ?_
  refine qy_v 16 rfl ?_
  refine qr_iload_n 37 rfl rfl rfl ?_
  refine qr_iadd 38 rfl rfl ?_
  refine qy_v 18 rfl ?_
  refine qr_iaload 39 rfl rfl (by decide) (by decide) rfl ?_
  refine qy_v 0 (by decide) ?_
  refine qr_istore _ 41 rfl (by decide) rfl rfl ?_
  refine qr_iload 43 rfl rfl rfl ?_
  refine qr_if_eq 75 46 rfl rfl rfl (by decide) (fun h4 => ?_) (fun h => False.elim (by omega))
  refine qr_getst 78 rfl rfl ?_
  refine qr_iload 80 rfl rfl rfl ?_
  refine qr_iaload 81 rfl rfl (by decide) (by decide) rfl ?_
  refine qy_v 0 (by decide) ?_
  refine qr_istore _ 83 rfl (by decide) rfl rfl ?_
  refine qr_iinc _ 86 rfl rfl (by decide) rfl rfl ?_
  refine qr_goto 6 rfl rfl ?_
  refine qr_iload 8 rfl rfl rfl ?_
  refine qr_getst 11 rfl rfl ?_
  refine qr_alen 12 rfl rfl (by first | exact Or.inl (by decide) | exact Or.inr (Or.inl rfl) | exact Or.inr (Or.inr (Or.inl rfl)) | exact Or.inr (Or.inr (Or.inr (Or.inl rfl)))) rfl ?_
  refine qy_v 7 rfl ?_
  refine qr_icmp_ge 89 15 rfl rfl rfl (by omega) (by decide) (fun h => False.elim (by omega)) (fun h5 => ?_)
  refine qr_iload 17 rfl rfl rfl ?_
  refine qr_if_lt 89 20 rfl rfl rfl (by decide) (fun h => False.elim (by omega)) (fun h6 => ?_)
  refine qr_iload 22 rfl rfl rfl ?_
  refine qr_getst 25 rfl rfl ?_
  refine qr_alen 26 rfl rfl (by first | exact Or.inl (by decide) | exact Or.inr (Or.inl rfl) | exact Or.inr (Or.inr (Or.inl rfl)) | exact Or.inr (Or.inr (Or.inr (Or.inl rfl)))) rfl ?_
  refine qy_v 7 rfl ?_
  refine qr_icmp_ge 89 29 rfl rfl rfl (by decide) (by decide) (fun h => False.elim (by omega)) (fun h7 => ?_)
  refine qr_getst 32 rfl rfl ?_
  refine qr_iload 34 rfl rfl rfl ?_
  refine qr_iconst 35 rfl rfl ?_
  refine qr_imul 36 rfl rfl ?_
  refine qy_v 0 rfl ?_
  refine qr_iload_n 37 rfl rfl rfl ?_
  refine qr_iadd 38 rfl rfl ?_
  refine qy_v 2 rfl ?_
  refine qr_iaload 39 rfl rfl (by decide) (by decide) rfl ?_
  refine qy_v 11 (by decide) ?_
  refine qr_istore _ 41 rfl (by decide) rfl rfl ?_
  refine qr_iload 43 rfl rfl rfl ?_
  refine qr_if_eq 75 46 rfl rfl rfl (by decide) (fun h => False.elim (by omega)) (fun h8 => ?_)
  as_aux_lemma =>
    refine qr_iload 48 rfl rfl rfl ?_
    refine qr_bipush 50 rfl (by decide) rfl ?_
    refine qr_icmp_le 57 53 rfl rfl rfl (qrg r6 (by decide) (by decide)) (by decide) (fun h9 => ?_) (fun h => False.elim (by omega))
    refine qr_aload_n 58 rfl rfl rfl ?_
    refine qr_iload 60 rfl rfl rfl ?_
    refine qr_iload 62 rfl rfl rfl ?_
    refine qr_iload_n 63 rfl rfl rfl ?_
    refine qr_iload 65 rfl rfl rfl ?_
    refine qr_iload 67 rfl rfl rfl ?_
    refine qr_iload 69 rfl rfl rfl ?_
    refine qr_iconst 70 rfl rfl ?_
    refine qr_iadd 71 rfl rfl ?_
    have hs10 : (-2147483648) ≤ σ 42 1 ∧ σ 42 1 ≤ 2147483647 := hI.1 42 1
    refine qr_callN 74 rfl rfl rfl (sf_153_42eb11_0_4 (d := d + 0) hI r4 r5 (by omega) (by omega)) ?_
    rintro _ _ ⟨σ15, α16, rfl, hI17, hG18, hw14, v11, rfl, hv11, hx12, hx13⟩
    have hF19 : qFr [(42, 1)] [43] σ α σ15 α16 := qFr_t hF0 hG18 (by decide) (by decide)
    have hs20 : (-2147483648) ≤ σ15 42 1 ∧ σ15 42 1 ≤ 2147483647 := hI17.1 42 1
    show qr_W (qe L xs vb) (d + 1) qx_e152 _ (74, _, [.int (qz v11)], qw σ15 α16 κ ρ, 0, 0)
    refine qr_retI rfl rfl (by decide) (by decide) ?_
    exact ⟨_, _, rfl, hI17, hF19, (by have hw : σ15 42 1 = (σ15 42 1) := rfl; omega), v11, rfl, hv11, hx12, hx13⟩

set_option maxHeartbeats 4000000 in
set_option maxRecDepth 20000 in
/-- OneRoof$Acts.run -/
theorem sf_151_42er4_2 {L : Nat} {xs : Nat → Int} {vb : Bool} {d : Nat} {σ α : Nat → Nat → Int} {κ : Nat → Option Nat} {ρ : Nat} {x3 : Int} {x4 : Int} {x5 : Int} (hI : qI σ α κ ρ) (r3 : (-2147483648) ≤ x3 ∧ x3 ≤ 2147483647) (r4 : (-2147483648) ≤ x4 ∧ x4 ≤ 2147483647) (r5 : 0 ≤ x5 ∧ x5 ≤ 39) (p0 : 0 ≤ σ 42 1 ∧ σ 42 1 ≤ 23) : qm_T (qe L xs vb) (d + 3) 151 [.ref 42, .int (qz 4), .int (qz 2), .int (qz x3), .int (qz x4), .int (qz x5)] (qw σ α κ ρ) (fun r w' => ∃ σ' α', w' = qw σ' α' κ ρ ∧ qI σ' α' κ ρ ∧ qFr [(42, 1)] [43] σ α σ' α' ∧ σ' 42 1 = σ 42 1 + 1 ∧ ∃ v : Int, r = some (.int (qz v)) ∧ ((-2147483648) ≤ v ∧ v ≤ 2147483647) ∧ v = qac_x x3 x4 ∧ α' 43 = qac_t [11] (α 43) (σ 42 1)) := by
  refine qr_start (d := d + 2) qv_e151 (Nat.le_of_ble_eq_true rfl) ?_
  show qr_W (qe L xs vb) (d + 2) qx_e151 _ (0, [(0, .ref 42), (1, .int (qz 4)), (2, .int (qz 2)), (3, .int (qz x3)), (4, .int (qz x4)), (5, .int (qz x5))], [], _, 0, 0)
  have hF0 := qFr_rf [(42, 1)] [43] σ α
  have hz42_1 : (-2147483648) ≤ σ 42 1 ∧ σ 42 1 ≤ 2147483647 := hI.1 42 1
  refine qr_aload_n 1 rfl rfl rfl ?_
  refine qr_iload_n 2 rfl rfl rfl ?_
  refine qr_iload_n 3 rfl rfl rfl ?_
  refine qr_iload_n 4 rfl rfl rfl ?_
  refine qr_iload_n 5 rfl rfl rfl ?_
  refine qr_iload 7 rfl rfl rfl ?_
  refine qr_iload 9 rfl rfl rfl ?_
  have hs1 : (-2147483648) ≤ σ 42 1 ∧ σ 42 1 ≤ 2147483647 := hI.1 42 1
  refine qr_callN 12 rfl rfl rfl (sf_152_42ef4_4_2 (d := d + 0) hI r3 r4 r5 (by omega)) ?_
  rintro _ _ ⟨σ6, α7, rfl, hI8, hG9, hw5, v2, rfl, hv2, hx3, hx4⟩
  have hF10 : qFr [(42, 1)] [43] σ α σ6 α7 := qFr_t hF0 hG9 (by decide) (by decide)
  have hs11 : (-2147483648) ≤ σ6 42 1 ∧ σ6 42 1 ≤ 2147483647 := hI8.1 42 1
  show qr_W (qe L xs vb) (d + 2) qx_e151 _ (12, _, [.int (qz v2)], qw σ6 α7 κ ρ, 0, 0)
  refine qr_retI rfl rfl (by decide) (by decide) ?_
  exact ⟨_, _, rfl, hI8, hF10, (by have hw : σ6 42 1 = (σ6 42 1) := rfl; omega), v2, rfl, hv2, hx3, hx4⟩

set_option maxHeartbeats 4000000 in
set_option maxRecDepth 20000 in
/-- OneRoof$Acts.start -/
theorem sf_150_42es4_2 {L : Nat} {xs : Nat → Int} {vb : Bool} {d : Nat} {σ α : Nat → Nat → Int} {κ : Nat → Option Nat} {ρ : Nat} {x3 : Int} {x4 : Int} (hI : qI σ α κ ρ) (r3 : (-2147483648) ≤ x3 ∧ x3 ≤ 2147483647) (r4 : (-2147483648) ≤ x4 ∧ x4 ≤ 2147483647) (p0 : 0 ≤ σ 42 1 ∧ σ 42 1 ≤ 23) : qm_T (qe L xs vb) (d + 4) 150 [.ref 42, .int (qz 4), .int (qz 2), .int (qz x3), .int (qz x4)] (qw σ α κ ρ) (fun r w' => ∃ σ' α', w' = qw σ' α' κ ρ ∧ qI σ' α' κ ρ ∧ qFr [(42, 1)] [43] σ α σ' α' ∧ σ' 42 1 = σ 42 1 + 1 ∧ ∃ v : Int, r = some (.int (qz v)) ∧ ((-2147483648) ≤ v ∧ v ≤ 2147483647) ∧ v = qac_x x3 x4 ∧ α' 43 = qac_t [11] (α 43) (σ 42 1)) := by
  refine qr_start (d := d + 3) qv_e150 (Nat.le_of_ble_eq_true rfl) ?_
  show qr_W (qe L xs vb) (d + 3) qx_e150 _ (0, [(0, .ref 42), (1, .int (qz 4)), (2, .int (qz 2)), (3, .int (qz x3)), (4, .int (qz x4))], [], _, 0, 0)
  have hF0 := qFr_rf [(42, 1)] [43] σ α
  have hz42_1 : (-2147483648) ≤ σ 42 1 ∧ σ 42 1 ≤ 2147483647 := hI.1 42 1
  refine qr_aload_n 1 rfl rfl rfl ?_
  refine qr_iload_n 2 rfl rfl rfl ?_
  refine qr_iload_n 3 rfl rfl rfl ?_
  refine qr_iload_n 4 rfl rfl rfl ?_
  refine qr_iload 6 rfl rfl rfl ?_
  refine qr_iconst 7 rfl rfl ?_
  have hs1 : (-2147483648) ≤ σ 42 1 ∧ σ 42 1 ≤ 2147483647 := hI.1 42 1
  refine qr_callN 10 rfl rfl rfl (sf_151_42er4_2 (d := d + 0) hI r3 r4 (by decide) (by omega)) ?_
  rintro _ _ ⟨σ6, α7, rfl, hI8, hG9, hw5, v2, rfl, hv2, hx3, hx4⟩
  have hF10 : qFr [(42, 1)] [43] σ α σ6 α7 := qFr_t hF0 hG9 (by decide) (by decide)
  have hs11 : (-2147483648) ≤ σ6 42 1 ∧ σ6 42 1 ≤ 2147483647 := hI8.1 42 1
  show qr_W (qe L xs vb) (d + 3) qx_e150 _ (10, _, [.int (qz v2)], qw σ6 α7 κ ρ, 0, 0)
  refine qr_retI rfl rfl (by decide) (by decide) ?_
  exact ⟨_, _, rfl, hI8, hF10, (by have hw : σ6 42 1 = (σ6 42 1) := rfl; omega), v2, rfl, hv2, hx3, hx4⟩

set_option maxHeartbeats 4000000 in
set_option maxRecDepth 20000 in
/-- OneRoof$Acts.begin -/
theorem sf_153_42eb2_0_4 {L : Nat} {xs : Nat → Int} {vb : Bool} {d : Nat} {σ α : Nat → Nat → Int} {κ : Nat → Option Nat} {ρ : Nat} {x4 : Int} {x5 : Int} {x6 : Int} (hI : qI σ α κ ρ) (r4 : (-2147483648) ≤ x4 ∧ x4 ≤ 2147483647) (r5 : (-2147483648) ≤ x5 ∧ x5 ≤ 2147483647) (r6 : 0 ≤ x6 ∧ x6 ≤ 38) (p0 : 0 ≤ σ 42 1 ∧ σ 42 1 ≤ 20) : qm_T (qe L xs vb) (d + 7) 153 [.ref 42, .int (qz 2), .int (qz 0), .int (qz 4), .int (qz x4), .int (qz x5), .int (qz x6)] (qw σ α κ ρ) (fun r w' => ∃ σ' α', w' = qw σ' α' κ ρ ∧ qI σ' α' κ ρ ∧ qFr [(42, 1)] [43] σ α σ' α' ∧ σ' 42 1 = σ 42 1 + 4 ∧ ∃ v : Int, r = some (.int (qz v)) ∧ ((-2147483648) ≤ v ∧ v ≤ 2147483647) ∧ v = qac_s (qac_m (qac_a x4 x5) 2) (qac_x 1 x5) ∧ α' 43 = qac_t [2, 10, 1, 11] (α 43) (σ 42 1)) := by
  refine qr_start (d := d + 6) qv_e153 (Nat.le_of_ble_eq_true rfl) ?_
  show qr_W (qe L xs vb) (d + 6) qx_e153 _ (0, [(0, .ref 42), (1, .int (qz 2)), (2, .int (qz 0)), (3, .int (qz 4)), (4, .int (qz x4)), (5, .int (qz x5)), (6, .int (qz x6))], [], _, 0, 0)
  have hF0 := qFr_rf [(42, 1)] [43] σ α
  have hz42_1 : (-2147483648) ≤ σ 42 1 ∧ σ 42 1 ≤ 2147483647 := hI.1 42 1
  refine qr_aload_n 1 rfl rfl rfl ?_
  refine qr_get 4 rfl rfl rfl (by decide) rfl ?_
  refine qr_aload_n 5 rfl rfl rfl ?_
  refine qr_get 8 rfl rfl rfl (by decide) rfl ?_
  refine qr_alen 9 rfl rfl (by first | exact Or.inl (by decide) | exact Or.inr (Or.inl rfl) | exact Or.inr (Or.inr (Or.inl rfl)) | exact Or.inr (Or.inr (Or.inr (Or.inl rfl)))) rfl ?_
  refine qy_v 24 rfl ?_
  refine qr_icmp_ge 22 12 rfl rfl rfl hz42_1 (by decide) (fun h => False.elim (by omega)) (fun h1 => ?_)
  refine qr_aload_n 13 rfl rfl rfl ?_
  refine qr_get 16 rfl rfl rfl (by decide) rfl ?_
  refine qr_aload_n 17 rfl rfl rfl ?_
  refine qr_get 20 rfl rfl rfl (by decide) rfl ?_
  refine qr_iload_n 21 rfl rfl rfl ?_
  refine qr_iastore 22 rfl (by decide) rfl (by omega) (by decide) rfl ?_
  refine qy_wA (qw_r α 43 (qzu (α 43) ((σ 42 1) : Int).toNat 2)) rfl (fun α2 e3 => ?_)
  have hI4 : qI σ α2 κ ρ := by rw [e3]; exact qI_r hI 43 _ rfl (show (-2147483648) ≤ 2 ∧ 2 ≤ 2147483647 by omega)
  have hF5 : qFr [(42, 1)] [43] σ α σ α2 := by rw [e3]; exact qFr_r hF0 43 _ (by decide)
  refine qr_aload_n 23 rfl rfl rfl ?_
  refine qr_dup 24 rfl rfl rfl ?_
  refine qr_get 27 rfl rfl rfl (by decide) rfl ?_
  refine qr_iconst 28 rfl rfl ?_
  refine qr_iadd 29 rfl rfl ?_
  refine qr_put 32 rfl (by decide) rfl (Nat.le_of_ble_eq_true rfl) (Nat.le_of_ble_eq_true rfl) (Or.inl rfl) (qr_fitI rfl _) rfl ?_
  refine qy_wS (qw_s σ 42 1 ((σ 42 1) + 1)) rfl (fun σ6 e7 => ?_)
  have hI8 : qI σ6 α2 κ ρ := by rw [e7]; exact qI_s hI4 42 1 rfl (show (-2147483648) ≤ ((σ 42 1) + 1) ∧ ((σ 42 1) + 1) ≤ 2147483647 by omega)
  have hF9 : qFr [(42, 1)] [43] σ α σ6 α2 := by rw [e7]; exact qFr_s hF5 42 1 _ (by decide)
  refine qr_getst 35 rfl rfl ?_
  refine qr_iload_n 36 rfl rfl rfl ?_
  refine qr_iaload 37 rfl rfl (by decide) (by decide) rfl ?_
  refine qy_v (-1) (by decide) ?_
  refine qr_istore _ 39 rfl (by decide) rfl rfl ?_
  refine qr_iload_n 40 rfl rfl rfl ?_
  refine qr_look (off := 114) 154 rfl (by omega) (by decide) (by decide) rfl ?_
  refine qr_aload_n 155 rfl rfl rfl ?_
  refine qr_iload_n 156 rfl rfl rfl ?_
  refine qr_iconst 157 rfl rfl ?_
  refine qr_iload 159 rfl rfl rfl ?_
  refine qr_iload 161 rfl rfl rfl ?_
  refine qr_iload 163 rfl rfl rfl ?_
  have hr10 : σ6 42 1 = ((σ 42 1) + 1) := (congrFun (congrFun e7 42) 1).trans rfl
  have hs11 : (-2147483648) ≤ σ6 42 1 ∧ σ6 42 1 ≤ 2147483647 := hI8.1 42 1
  have hs12 : σ6 42 1 = ((σ 42 1) + 1) := (congrFun (congrFun e7 42) 1).trans rfl
  refine qr_callN 166 rfl rfl rfl (sf_151_42er4_1 (d := d + 0) hI8 r4 r5 r6 (by omega)) ?_
  rintro _ _ ⟨σ17, α18, rfl, hI19, hG20, hw16, v13, rfl, hv13, hx14, hx15⟩
  have hF21 : qFr [(42, 1)] [43] σ α σ17 α18 := qFr_t hF9 hG20 (by decide) (by decide)
  have hs22 : (-2147483648) ≤ σ17 42 1 ∧ σ17 42 1 ≤ 2147483647 := hI19.1 42 1
  show qr_W (qe L xs vb) (d + 6) qx_e153 _ (166, _, [.int (qz v13)], qw σ17 α18 κ ρ, 0, 0)
  refine qr_aload_n 167 rfl rfl rfl ?_
  refine qr_iload_n 168 rfl rfl rfl ?_
  refine qr_iconst 169 rfl rfl ?_
  refine qr_iconst 170 rfl rfl ?_
  refine qr_iload 172 rfl rfl rfl ?_
  refine qr_iload 174 rfl rfl rfl ?_
  have hr23 : σ17 42 1 = (σ17 42 1) := rfl
  have hs24 : (-2147483648) ≤ σ17 42 1 ∧ σ17 42 1 ≤ 2147483647 := hI19.1 42 1
  refine qr_callN 177 rfl rfl rfl (sf_151_42er4_2 (d := d + 3) hI19 (by decide) r5 (qrg r6 (by decide) (by decide)) (by omega)) ?_
  rintro _ _ ⟨σ29, α30, rfl, hI31, hG32, hw28, v25, rfl, hv25, hx26, hx27⟩
  have hF33 : qFr [(42, 1)] [43] σ α σ29 α30 := qFr_t hF21 hG32 (by decide) (by decide)
  have hs34 : (-2147483648) ≤ σ29 42 1 ∧ σ29 42 1 ≤ 2147483647 := hI31.1 42 1
  show qr_W (qe L xs vb) (d + 6) qx_e153 _ (177, _, [.int (qz v25), .int (qz v13)], qw σ29 α30 κ ρ, 0, 0)
  refine qr_isub 178 rfl rfl ?_
  refine qy_canE (fun v35 hv35 hev35 => ?_)
  refine qr_retI rfl rfl (by decide) (by decide) ?_
  exact ⟨_, _, rfl, hI31, hF33, (by have hw : σ29 42 1 = (σ29 42 1) := rfl; omega), v35, rfl, hv35, ((qac_v hev35 (by omega)).trans (by rw [hx14, hx26]; rfl)), (by rw [hx27, hx15, show α2 43 = qzu (α 43) (σ 42 1 : Int).toNat 2 from ((congrFun e3 43).trans (qw_r_eq.trans (congrArg (fun f => qzu f ((σ 42 1) : Int).toNat 2) rfl))), show σ6 42 1 = σ 42 1 + 1 by omega, show σ17 42 1 = σ 42 1 + 1 + 2 by omega]; exact (qac_t_app [10, 1] [11] (qzu (α 43) (σ 42 1 : Int).toNat 2) (σ 42 1 + 1)).symm)⟩

set_option maxHeartbeats 4000000 in
set_option maxRecDepth 20000 in
/-- OneRoof$Acts.runFrom -/
theorem sf_152_42ef0_4_3 {L : Nat} {xs : Nat → Int} {vb : Bool} {d : Nat} {σ α : Nat → Nat → Int} {κ : Nat → Option Nat} {ρ : Nat} {x4 : Int} {x5 : Int} {x6 : Int} (hI : qI σ α κ ρ) (r4 : (-2147483648) ≤ x4 ∧ x4 ≤ 2147483647) (r5 : (-2147483648) ≤ x5 ∧ x5 ≤ 2147483647) (r6 : 0 ≤ x6 ∧ x6 ≤ 37) (p0 : 0 ≤ σ 42 1 ∧ σ 42 1 ≤ 20) : qm_T (qe L xs vb) (d + 8) 152 [.ref 42, .int (qz 0), .int (qz 4), .int (qz 3), .int (qz x4), .int (qz x5), .int (qz x6)] (qw σ α κ ρ) (fun r w' => ∃ σ' α', w' = qw σ' α' κ ρ ∧ qI σ' α' κ ρ ∧ qFr [(42, 1)] [43] σ α σ' α' ∧ σ' 42 1 = σ 42 1 + 4 ∧ ∃ v : Int, r = some (.int (qz v)) ∧ ((-2147483648) ≤ v ∧ v ≤ 2147483647) ∧ v = qac_s (qac_m (qac_a x4 x5) 2) (qac_x 1 x5) ∧ α' 43 = qac_t [2, 10, 1, 11] (α 43) (σ 42 1)) := by
  refine qr_start (d := d + 7) qv_e152 (Nat.le_of_ble_eq_true rfl) ?_
  show qr_W (qe L xs vb) (d + 7) qx_e152 _ (0, [(0, .ref 42), (1, .int (qz 0)), (2, .int (qz 4)), (3, .int (qz 3)), (4, .int (qz x4)), (5, .int (qz x5)), (6, .int (qz x6))], [], _, 0, 0)
  have hF0 := qFr_rf [(42, 1)] [43] σ α
  have hz42_1 : (-2147483648) ≤ σ 42 1 ∧ σ 42 1 ≤ 2147483647 := hI.1 42 1
  refine qr_iload_n 1 rfl rfl rfl ?_
  refine qr_istore _ 3 rfl (by decide) rfl rfl ?_
  refine qr_iconst 4 rfl rfl ?_
  refine qr_istore _ 6 rfl (by decide) rfl rfl ?_
  refine qr_iload 8 rfl rfl rfl ?_
  refine qr_getst 11 rfl rfl ?_
  refine qr_alen 12 rfl rfl (by first | exact Or.inl (by decide) | exact Or.inr (Or.inl rfl) | exact Or.inr (Or.inr (Or.inl rfl)) | exact Or.inr (Or.inr (Or.inr (Or.inl rfl)))) rfl ?_
  refine qy_v 7 rfl ?_
  refine qr_icmp_ge 89 15 rfl rfl rfl (by decide) (by decide) (fun h => False.elim (by omega)) (fun h1 => ?_)
  refine qr_iload 17 rfl rfl rfl ?_
  refine qr_if_lt 89 20 rfl rfl rfl (by decide) (fun h => False.elim (by omega)) (fun h2 => ?_)
  refine qr_iload 22 rfl rfl rfl ?_
  refine qr_getst 25 rfl rfl ?_
  refine qr_alen 26 rfl rfl (by first | exact Or.inl (by decide) | exact Or.inr (Or.inl rfl) | exact Or.inr (Or.inr (Or.inl rfl)) | exact Or.inr (Or.inr (Or.inr (Or.inl rfl)))) rfl ?_
  refine qy_v 7 rfl ?_
  refine qr_icmp_ge 89 29 rfl rfl rfl (by decide) (by decide) (fun h => False.elim (by omega)) (fun h3 => ?_)
  refine qr_getst 32 rfl rfl ?_
  refine qr_iload 34 rfl rfl rfl ?_
  refine qr_iconst 35 rfl rfl ?_
  refine qr_imul 36 rfl rfl ?_
  refine qy_v 0 rfl ?_
  refine qr_iload_n 37 rfl rfl rfl ?_
  refine qr_iadd 38 rfl rfl ?_
  refine qy_v 3 rfl ?_
  refine qr_iaload 39 rfl rfl (by decide) (by decide) rfl ?_
  refine qy_v 2 (by decide) ?_
  refine qr_istore _ 41 rfl (by decide) rfl rfl ?_
  refine qr_iload 43 rfl rfl rfl ?_
  refine qr_if_eq 75 46 rfl rfl rfl (by decide) (fun h => False.elim (by omega)) (fun h4 => ?_)
  refine qr_iload 48 rfl rfl rfl ?_
  refine qr_bipush 50 rfl (by decide) rfl ?_
  refine qr_icmp_le 57 53 rfl rfl rfl (qrg r6 (by decide) (by decide)) (by decide) (fun h5 => ?_) (fun h => False.elim (by omega))
  refine qr_aload_n 58 rfl rfl rfl ?_
  refine qr_iload 60 rfl rfl rfl ?_
  refine qr_iload 62 rfl rfl rfl ?_
  refine qr_iload_n 63 rfl rfl rfl ?_
  refine qr_iload 65 rfl rfl rfl ?_
  refine qr_iload 67 rfl rfl rfl ?_
  refine qr_iload 69 rfl rfl rfl ?_
  refine qr_iconst 70 rfl rfl ?_
  refine qr_iadd 71 rfl rfl ?_
  have hs6 : (-2147483648) ≤ σ 42 1 ∧ σ 42 1 ≤ 2147483647 := hI.1 42 1
  refine qr_callN 74 rfl rfl rfl (sf_153_42eb2_0_4 (d := d + 0) hI r4 r5 (by omega) (by omega)) ?_
  rintro _ _ ⟨σ11, α12, rfl, hI13, hG14, hw10, v7, rfl, hv7, hx8, hx9⟩
  have hF15 : qFr [(42, 1)] [43] σ α σ11 α12 := qFr_t hF0 hG14 (by decide) (by decide)
  have hs16 : (-2147483648) ≤ σ11 42 1 ∧ σ11 42 1 ≤ 2147483647 := hI13.1 42 1
  show qr_W (qe L xs vb) (d + 7) qx_e152 _ (74, _, [.int (qz v7)], qw σ11 α12 κ ρ, 0, 0)
  refine qr_retI rfl rfl (by decide) (by decide) ?_
  exact ⟨_, _, rfl, hI13, hF15, (by have hw : σ11 42 1 = (σ11 42 1) := rfl; omega), v7, rfl, hv7, hx8, hx9⟩

set_option maxHeartbeats 4000000 in
set_option maxRecDepth 20000 in
/-- OneRoof$Acts.begin -/
theorem sf_153_42eb50_4_4 {L : Nat} {xs : Nat → Int} {vb : Bool} {d : Nat} {σ α : Nat → Nat → Int} {κ : Nat → Option Nat} {ρ : Nat} {x4 : Int} {x5 : Int} {x6 : Int} (hI : qI σ α κ ρ) (r4 : (-2147483648) ≤ x4 ∧ x4 ≤ 2147483647) (r5 : (-2147483648) ≤ x5 ∧ x5 ≤ 2147483647) (r6 : 0 ≤ x6 ∧ x6 ≤ 37) (p0 : 0 ≤ σ 42 1 ∧ σ 42 1 ≤ 19) : qm_T (qe L xs vb) (d + 9) 153 [.ref 42, .int (qz 50), .int (qz 4), .int (qz 4), .int (qz x4), .int (qz x5), .int (qz x6)] (qw σ α κ ρ) (fun r w' => ∃ σ' α', w' = qw σ' α' κ ρ ∧ qI σ' α' κ ρ ∧ qFr [(42, 1)] [43] σ α σ' α' ∧ σ' 42 1 = σ 42 1 + 5 ∧ ∃ v : Int, r = some (.int (qz v)) ∧ ((-2147483648) ≤ v ∧ v ≤ 2147483647) ∧ v = qac_x (qac_s (qac_m (qac_a x4 x5) 2) (qac_x 1 x5)) 5 ∧ α' 43 = qac_t [50, 2, 10, 1, 11] (α 43) (σ 42 1)) := by
  refine qr_start (d := d + 8) qv_e153 (Nat.le_of_ble_eq_true rfl) ?_
  show qr_W (qe L xs vb) (d + 8) qx_e153 _ (0, [(0, .ref 42), (1, .int (qz 50)), (2, .int (qz 4)), (3, .int (qz 4)), (4, .int (qz x4)), (5, .int (qz x5)), (6, .int (qz x6))], [], _, 0, 0)
  have hF0 := qFr_rf [(42, 1)] [43] σ α
  have hz42_1 : (-2147483648) ≤ σ 42 1 ∧ σ 42 1 ≤ 2147483647 := hI.1 42 1
  refine qr_aload_n 1 rfl rfl rfl ?_
  refine qr_get 4 rfl rfl rfl (by decide) rfl ?_
  refine qr_aload_n 5 rfl rfl rfl ?_
  refine qr_get 8 rfl rfl rfl (by decide) rfl ?_
  refine qr_alen 9 rfl rfl (by first | exact Or.inl (by decide) | exact Or.inr (Or.inl rfl) | exact Or.inr (Or.inr (Or.inl rfl)) | exact Or.inr (Or.inr (Or.inr (Or.inl rfl)))) rfl ?_
  refine qy_v 24 rfl ?_
  refine qr_icmp_ge 22 12 rfl rfl rfl hz42_1 (by decide) (fun h => False.elim (by omega)) (fun h1 => ?_)
  refine qr_aload_n 13 rfl rfl rfl ?_
  refine qr_get 16 rfl rfl rfl (by decide) rfl ?_
  refine qr_aload_n 17 rfl rfl rfl ?_
  refine qr_get 20 rfl rfl rfl (by decide) rfl ?_
  refine qr_iload_n 21 rfl rfl rfl ?_
  refine qr_iastore 22 rfl (by decide) rfl (by omega) (by decide) rfl ?_
  refine qy_wA (qw_r α 43 (qzu (α 43) ((σ 42 1) : Int).toNat 50)) rfl (fun α2 e3 => ?_)
  have hI4 : qI σ α2 κ ρ := by rw [e3]; exact qI_r hI 43 _ rfl (show (-2147483648) ≤ 50 ∧ 50 ≤ 2147483647 by omega)
  have hF5 : qFr [(42, 1)] [43] σ α σ α2 := by rw [e3]; exact qFr_r hF0 43 _ (by decide)
  refine qr_aload_n 23 rfl rfl rfl ?_
  refine qr_dup 24 rfl rfl rfl ?_
  refine qr_get 27 rfl rfl rfl (by decide) rfl ?_
  refine qr_iconst 28 rfl rfl ?_
  refine qr_iadd 29 rfl rfl ?_
  refine qr_put 32 rfl (by decide) rfl (Nat.le_of_ble_eq_true rfl) (Nat.le_of_ble_eq_true rfl) (Or.inl rfl) (qr_fitI rfl _) rfl ?_
  refine qy_wS (qw_s σ 42 1 ((σ 42 1) + 1)) rfl (fun σ6 e7 => ?_)
  have hI8 : qI σ6 α2 κ ρ := by rw [e7]; exact qI_s hI4 42 1 rfl (show (-2147483648) ≤ ((σ 42 1) + 1) ∧ ((σ 42 1) + 1) ≤ 2147483647 by omega)
  have hF9 : qFr [(42, 1)] [43] σ α σ6 α2 := by rw [e7]; exact qFr_s hF5 42 1 _ (by decide)
  refine qr_getst 35 rfl rfl ?_
  refine qr_iload_n 36 rfl rfl rfl ?_
  refine qr_iaload 37 rfl rfl (by decide) (by decide) rfl ?_
  refine qy_v 0 (by decide) ?_
  refine qr_istore _ 39 rfl (by decide) rfl rfl ?_
  refine qr_iload_n 40 rfl rfl rfl ?_
  refine qr_look (off := 227) 267 rfl (by omega) (by decide) (by decide) rfl ?_
  refine qr_aload_n 268 rfl rfl rfl ?_
  refine qr_iload 270 rfl rfl rfl ?_
  refine qr_iload_n 271 rfl rfl rfl ?_
  refine qr_iconst 272 rfl rfl ?_
  refine qr_iload 274 rfl rfl rfl ?_
  refine qr_iload 276 rfl rfl rfl ?_
  refine qr_iload 278 rfl rfl rfl ?_
  have hr10 : σ6 42 1 = ((σ 42 1) + 1) := (congrFun (congrFun e7 42) 1).trans rfl
  have hs11 : (-2147483648) ≤ σ6 42 1 ∧ σ6 42 1 ≤ 2147483647 := hI8.1 42 1
  have hs12 : σ6 42 1 = ((σ 42 1) + 1) := (congrFun (congrFun e7 42) 1).trans rfl
  refine qr_callN 281 rfl rfl rfl (sf_152_42ef0_4_3 (d := d + 0) hI8 r4 r5 r6 (by omega)) ?_
  rintro _ _ ⟨σ17, α18, rfl, hI19, hG20, hw16, v13, rfl, hv13, hx14, hx15⟩
  have hF21 : qFr [(42, 1)] [43] σ α σ17 α18 := qFr_t hF9 hG20 (by decide) (by decide)
  have hs22 : (-2147483648) ≤ σ17 42 1 ∧ σ17 42 1 ≤ 2147483647 := hI19.1 42 1
  show qr_W (qe L xs vb) (d + 8) qx_e153 _ (281, _, [.int (qz v13)], qw σ17 α18 κ ρ, 0, 0)
  refine qr_iconst 282 rfl rfl ?_
  refine qr_ixor 283 rfl rfl ?_
  refine qy_canE (fun v23 hv23 hev23 => ?_)
  refine qr_retI rfl rfl (by decide) (by decide) ?_
  exact ⟨_, _, rfl, hI19, hF21, (by have hw : σ17 42 1 = (σ17 42 1) := rfl; omega), v23, rfl, hv23, ((qac_v hev23 (by omega)).trans (by rw [hx14]; rfl)), (by rw [hx15, show α2 43 = qzu (α 43) (σ 42 1 : Int).toNat 50 from ((congrFun e3 43).trans (qw_r_eq.trans (congrArg (fun f => qzu f ((σ 42 1) : Int).toNat 50) rfl))), show σ6 42 1 = σ 42 1 + 1 by omega]; rfl)⟩

set_option maxHeartbeats 4000000 in
set_option maxRecDepth 20000 in
/-- OneRoof$Acts.runFrom -/
theorem sf_152_42ef4_4_3 {L : Nat} {xs : Nat → Int} {vb : Bool} {d : Nat} {σ α : Nat → Nat → Int} {κ : Nat → Option Nat} {ρ : Nat} {x4 : Int} {x5 : Int} {x6 : Int} (hI : qI σ α κ ρ) (r4 : (-2147483648) ≤ x4 ∧ x4 ≤ 2147483647) (r5 : (-2147483648) ≤ x5 ∧ x5 ≤ 2147483647) (r6 : 0 ≤ x6 ∧ x6 ≤ 36) (p0 : 0 ≤ σ 42 1 ∧ σ 42 1 ≤ 19) : qm_T (qe L xs vb) (d + 10) 152 [.ref 42, .int (qz 4), .int (qz 4), .int (qz 3), .int (qz x4), .int (qz x5), .int (qz x6)] (qw σ α κ ρ) (fun r w' => ∃ σ' α', w' = qw σ' α' κ ρ ∧ qI σ' α' κ ρ ∧ qFr [(42, 1)] [43] σ α σ' α' ∧ σ' 42 1 = σ 42 1 + 5 ∧ ∃ v : Int, r = some (.int (qz v)) ∧ ((-2147483648) ≤ v ∧ v ≤ 2147483647) ∧ v = qac_x (qac_s (qac_m (qac_a x4 x5) 2) (qac_x 1 x5)) 5 ∧ α' 43 = qac_t [50, 2, 10, 1, 11] (α 43) (σ 42 1)) := by
  refine qr_start (d := d + 9) qv_e152 (Nat.le_of_ble_eq_true rfl) ?_
  show qr_W (qe L xs vb) (d + 9) qx_e152 _ (0, [(0, .ref 42), (1, .int (qz 4)), (2, .int (qz 4)), (3, .int (qz 3)), (4, .int (qz x4)), (5, .int (qz x5)), (6, .int (qz x6))], [], _, 0, 0)
  have hF0 := qFr_rf [(42, 1)] [43] σ α
  have hz42_1 : (-2147483648) ≤ σ 42 1 ∧ σ 42 1 ≤ 2147483647 := hI.1 42 1
  refine qr_iload_n 1 rfl rfl rfl ?_
  refine qr_istore _ 3 rfl (by decide) rfl rfl ?_
  refine qr_iconst 4 rfl rfl ?_
  refine qr_istore _ 6 rfl (by decide) rfl rfl ?_
  refine qr_iload 8 rfl rfl rfl ?_
  refine qr_getst 11 rfl rfl ?_
  refine qr_alen 12 rfl rfl (by first | exact Or.inl (by decide) | exact Or.inr (Or.inl rfl) | exact Or.inr (Or.inr (Or.inl rfl)) | exact Or.inr (Or.inr (Or.inr (Or.inl rfl)))) rfl ?_
  refine qy_v 7 rfl ?_
  refine qr_icmp_ge 89 15 rfl rfl rfl (by decide) (by decide) (fun h => False.elim (by omega)) (fun h1 => ?_)
  refine qr_iload 17 rfl rfl rfl ?_
  refine qr_if_lt 89 20 rfl rfl rfl (by decide) (fun h => False.elim (by omega)) (fun h2 => ?_)
  refine qr_iload 22 rfl rfl rfl ?_
  refine qr_getst 25 rfl rfl ?_
  refine qr_alen 26 rfl rfl (by first | exact Or.inl (by decide) | exact Or.inr (Or.inl rfl) | exact Or.inr (Or.inr (Or.inl rfl)) | exact Or.inr (Or.inr (Or.inr (Or.inl rfl)))) rfl ?_
  refine qy_v 7 rfl ?_
  refine qr_icmp_ge 89 29 rfl rfl rfl (by decide) (by decide) (fun h => False.elim (by omega)) (fun h3 => ?_)
  refine qr_getst 32 rfl rfl ?_
  refine qr_iload 34 rfl rfl rfl ?_
  refine qr_iconst 35 rfl rfl ?_
  refine qr_imul 36 rfl rfl ?_
  refine qy_v 16 rfl ?_
  refine qr_iload_n 37 rfl rfl rfl ?_
  refine qr_iadd 38 rfl rfl ?_
  refine qy_v 19 rfl ?_
  refine qr_iaload 39 rfl rfl (by decide) (by decide) rfl ?_
  refine qy_v 50 (by decide) ?_
  refine qr_istore _ 41 rfl (by decide) rfl rfl ?_
  refine qr_iload 43 rfl rfl rfl ?_
  refine qr_if_eq 75 46 rfl rfl rfl (by decide) (fun h => False.elim (by omega)) (fun h4 => ?_)
  refine qr_iload 48 rfl rfl rfl ?_
  refine qr_bipush 50 rfl (by decide) rfl ?_
  refine qr_icmp_le 57 53 rfl rfl rfl (qrg r6 (by decide) (by decide)) (by decide) (fun h5 => ?_) (fun h => False.elim (by omega))
  refine qr_aload_n 58 rfl rfl rfl ?_
  refine qr_iload 60 rfl rfl rfl ?_
  refine qr_iload 62 rfl rfl rfl ?_
  refine qr_iload_n 63 rfl rfl rfl ?_
  refine qr_iload 65 rfl rfl rfl ?_
  refine qr_iload 67 rfl rfl rfl ?_
  refine qr_iload 69 rfl rfl rfl ?_
  refine qr_iconst 70 rfl rfl ?_
  refine qr_iadd 71 rfl rfl ?_
  have hs6 : (-2147483648) ≤ σ 42 1 ∧ σ 42 1 ≤ 2147483647 := hI.1 42 1
  refine qr_callN 74 rfl rfl rfl (sf_153_42eb50_4_4 (d := d + 0) hI r4 r5 (by omega) (by omega)) ?_
  rintro _ _ ⟨σ11, α12, rfl, hI13, hG14, hw10, v7, rfl, hv7, hx8, hx9⟩
  have hF15 : qFr [(42, 1)] [43] σ α σ11 α12 := qFr_t hF0 hG14 (by decide) (by decide)
  have hs16 : (-2147483648) ≤ σ11 42 1 ∧ σ11 42 1 ≤ 2147483647 := hI13.1 42 1
  show qr_W (qe L xs vb) (d + 9) qx_e152 _ (74, _, [.int (qz v7)], qw σ11 α12 κ ρ, 0, 0)
  refine qr_retI rfl rfl (by decide) (by decide) ?_
  exact ⟨_, _, rfl, hI13, hF15, (by have hw : σ11 42 1 = (σ11 42 1) := rfl; omega), v7, rfl, hv7, hx8, hx9⟩

set_option maxHeartbeats 4000000 in
set_option maxRecDepth 20000 in
/-- OneRoof$Acts.run -/
theorem sf_151_42er4_3 {L : Nat} {xs : Nat → Int} {vb : Bool} {d : Nat} {σ α : Nat → Nat → Int} {κ : Nat → Option Nat} {ρ : Nat} {x3 : Int} {x4 : Int} {x5 : Int} (hI : qI σ α κ ρ) (r3 : (-2147483648) ≤ x3 ∧ x3 ≤ 2147483647) (r4 : (-2147483648) ≤ x4 ∧ x4 ≤ 2147483647) (r5 : 0 ≤ x5 ∧ x5 ≤ 36) (p0 : 0 ≤ σ 42 1 ∧ σ 42 1 ≤ 19) : qm_T (qe L xs vb) (d + 11) 151 [.ref 42, .int (qz 4), .int (qz 3), .int (qz x3), .int (qz x4), .int (qz x5)] (qw σ α κ ρ) (fun r w' => ∃ σ' α', w' = qw σ' α' κ ρ ∧ qI σ' α' κ ρ ∧ qFr [(42, 1)] [43] σ α σ' α' ∧ σ' 42 1 = σ 42 1 + 5 ∧ ∃ v : Int, r = some (.int (qz v)) ∧ ((-2147483648) ≤ v ∧ v ≤ 2147483647) ∧ v = qac_x (qac_s (qac_m (qac_a x3 x4) 2) (qac_x 1 x4)) 5 ∧ α' 43 = qac_t [50, 2, 10, 1, 11] (α 43) (σ 42 1)) := by
  refine qr_start (d := d + 10) qv_e151 (Nat.le_of_ble_eq_true rfl) ?_
  show qr_W (qe L xs vb) (d + 10) qx_e151 _ (0, [(0, .ref 42), (1, .int (qz 4)), (2, .int (qz 3)), (3, .int (qz x3)), (4, .int (qz x4)), (5, .int (qz x5))], [], _, 0, 0)
  have hF0 := qFr_rf [(42, 1)] [43] σ α
  have hz42_1 : (-2147483648) ≤ σ 42 1 ∧ σ 42 1 ≤ 2147483647 := hI.1 42 1
  refine qr_aload_n 1 rfl rfl rfl ?_
  refine qr_iload_n 2 rfl rfl rfl ?_
  refine qr_iload_n 3 rfl rfl rfl ?_
  refine qr_iload_n 4 rfl rfl rfl ?_
  refine qr_iload_n 5 rfl rfl rfl ?_
  refine qr_iload 7 rfl rfl rfl ?_
  refine qr_iload 9 rfl rfl rfl ?_
  have hs1 : (-2147483648) ≤ σ 42 1 ∧ σ 42 1 ≤ 2147483647 := hI.1 42 1
  refine qr_callN 12 rfl rfl rfl (sf_152_42ef4_4_3 (d := d + 0) hI r3 r4 r5 (by omega)) ?_
  rintro _ _ ⟨σ6, α7, rfl, hI8, hG9, hw5, v2, rfl, hv2, hx3, hx4⟩
  have hF10 : qFr [(42, 1)] [43] σ α σ6 α7 := qFr_t hF0 hG9 (by decide) (by decide)
  have hs11 : (-2147483648) ≤ σ6 42 1 ∧ σ6 42 1 ≤ 2147483647 := hI8.1 42 1
  show qr_W (qe L xs vb) (d + 10) qx_e151 _ (12, _, [.int (qz v2)], qw σ6 α7 κ ρ, 0, 0)
  refine qr_retI rfl rfl (by decide) (by decide) ?_
  exact ⟨_, _, rfl, hI8, hF10, (by have hw : σ6 42 1 = (σ6 42 1) := rfl; omega), v2, rfl, hv2, hx3, hx4⟩

set_option maxHeartbeats 4000000 in
set_option maxRecDepth 20000 in
/-- OneRoof$Acts.start -/
theorem sf_150_42es4_3 {L : Nat} {xs : Nat → Int} {vb : Bool} {d : Nat} {σ α : Nat → Nat → Int} {κ : Nat → Option Nat} {ρ : Nat} {x3 : Int} {x4 : Int} (hI : qI σ α κ ρ) (r3 : (-2147483648) ≤ x3 ∧ x3 ≤ 2147483647) (r4 : (-2147483648) ≤ x4 ∧ x4 ≤ 2147483647) (p0 : 0 ≤ σ 42 1 ∧ σ 42 1 ≤ 19) : qm_T (qe L xs vb) (d + 12) 150 [.ref 42, .int (qz 4), .int (qz 3), .int (qz x3), .int (qz x4)] (qw σ α κ ρ) (fun r w' => ∃ σ' α', w' = qw σ' α' κ ρ ∧ qI σ' α' κ ρ ∧ qFr [(42, 1)] [43] σ α σ' α' ∧ σ' 42 1 = σ 42 1 + 5 ∧ ∃ v : Int, r = some (.int (qz v)) ∧ ((-2147483648) ≤ v ∧ v ≤ 2147483647) ∧ v = qac_x (qac_s (qac_m (qac_a x3 x4) 2) (qac_x 1 x4)) 5 ∧ α' 43 = qac_t [50, 2, 10, 1, 11] (α 43) (σ 42 1)) := by
  refine qr_start (d := d + 11) qv_e150 (Nat.le_of_ble_eq_true rfl) ?_
  show qr_W (qe L xs vb) (d + 11) qx_e150 _ (0, [(0, .ref 42), (1, .int (qz 4)), (2, .int (qz 3)), (3, .int (qz x3)), (4, .int (qz x4))], [], _, 0, 0)
  have hF0 := qFr_rf [(42, 1)] [43] σ α
  have hz42_1 : (-2147483648) ≤ σ 42 1 ∧ σ 42 1 ≤ 2147483647 := hI.1 42 1
  refine qr_aload_n 1 rfl rfl rfl ?_
  refine qr_iload_n 2 rfl rfl rfl ?_
  refine qr_iload_n 3 rfl rfl rfl ?_
  refine qr_iload_n 4 rfl rfl rfl ?_
  refine qr_iload 6 rfl rfl rfl ?_
  refine qr_iconst 7 rfl rfl ?_
  have hs1 : (-2147483648) ≤ σ 42 1 ∧ σ 42 1 ≤ 2147483647 := hI.1 42 1
  refine qr_callN 10 rfl rfl rfl (sf_151_42er4_3 (d := d + 0) hI r3 r4 (by decide) (by omega)) ?_
  rintro _ _ ⟨σ6, α7, rfl, hI8, hG9, hw5, v2, rfl, hv2, hx3, hx4⟩
  have hF10 : qFr [(42, 1)] [43] σ α σ6 α7 := qFr_t hF0 hG9 (by decide) (by decide)
  have hs11 : (-2147483648) ≤ σ6 42 1 ∧ σ6 42 1 ≤ 2147483647 := hI8.1 42 1
  show qr_W (qe L xs vb) (d + 11) qx_e150 _ (10, _, [.int (qz v2)], qw σ6 α7 κ ρ, 0, 0)
  refine qr_retI rfl rfl (by decide) (by decide) ?_
  exact ⟨_, _, rfl, hI8, hF10, (by have hw : σ6 42 1 = (σ6 42 1) := rfl; omega), v2, rfl, hv2, hx3, hx4⟩

set_option maxHeartbeats 4000000 in
set_option maxRecDepth 20000 in
/-- OneRoof$Acts.begin -/
theorem sf_153_42eb1_0_5 {L : Nat} {xs : Nat → Int} {vb : Bool} {d : Nat} {σ α : Nat → Nat → Int} {κ : Nat → Option Nat} {ρ : Nat} {x4 : Int} {x5 : Int} {x6 : Int} (hI : qI σ α κ ρ) (r4 : (-2147483648) ≤ x4 ∧ x4 ≤ 2147483647) (r5 : (-2147483648) ≤ x5 ∧ x5 ≤ 2147483647) (r6 : 0 ≤ x6 ∧ x6 ≤ 40) (p0 : 0 ≤ σ 42 1 ∧ σ 42 1 ≤ 23) : qm_T (qe L xs vb) (d + 1) 153 [.ref 42, .int (qz 1), .int (qz 0), .int (qz 5), .int (qz x4), .int (qz x5), .int (qz x6)] (qw σ α κ ρ) (fun r w' => ∃ σ' α', w' = qw σ' α' κ ρ ∧ qI σ' α' κ ρ ∧ qFr [(42, 1)] [43] σ α σ' α' ∧ σ' 42 1 = σ 42 1 + 1 ∧ ∃ v : Int, r = some (.int (qz v)) ∧ ((-2147483648) ≤ v ∧ v ≤ 2147483647) ∧ v = qac_a x4 x5 ∧ α' 43 = qac_t [1] (α 43) (σ 42 1)) := by
  refine qr_start (d := d + 0) qv_e153 (Nat.le_of_ble_eq_true rfl) ?_
  show qr_W (qe L xs vb) (d + 0) qx_e153 _ (0, [(0, .ref 42), (1, .int (qz 1)), (2, .int (qz 0)), (3, .int (qz 5)), (4, .int (qz x4)), (5, .int (qz x5)), (6, .int (qz x6))], [], _, 0, 0)
  have hF0 := qFr_rf [(42, 1)] [43] σ α
  have hz42_1 : (-2147483648) ≤ σ 42 1 ∧ σ 42 1 ≤ 2147483647 := hI.1 42 1
  refine qr_aload_n 1 rfl rfl rfl ?_
  refine qr_get 4 rfl rfl rfl (by decide) rfl ?_
  refine qr_aload_n 5 rfl rfl rfl ?_
  refine qr_get 8 rfl rfl rfl (by decide) rfl ?_
  refine qr_alen 9 rfl rfl (by first | exact Or.inl (by decide) | exact Or.inr (Or.inl rfl) | exact Or.inr (Or.inr (Or.inl rfl)) | exact Or.inr (Or.inr (Or.inr (Or.inl rfl)))) rfl ?_
  refine qy_v 24 rfl ?_
  refine qr_icmp_ge 22 12 rfl rfl rfl hz42_1 (by decide) (fun h => False.elim (by omega)) (fun h1 => ?_)
  refine qr_aload_n 13 rfl rfl rfl ?_
  refine qr_get 16 rfl rfl rfl (by decide) rfl ?_
  refine qr_aload_n 17 rfl rfl rfl ?_
  refine qr_get 20 rfl rfl rfl (by decide) rfl ?_
  refine qr_iload_n 21 rfl rfl rfl ?_
  refine qr_iastore 22 rfl (by decide) rfl (by omega) (by decide) rfl ?_
  refine qy_wA (qw_r α 43 (qzu (α 43) ((σ 42 1) : Int).toNat 1)) rfl (fun α2 e3 => ?_)
  have hI4 : qI σ α2 κ ρ := by rw [e3]; exact qI_r hI 43 _ rfl (show (-2147483648) ≤ 1 ∧ 1 ≤ 2147483647 by omega)
  have hF5 : qFr [(42, 1)] [43] σ α σ α2 := by rw [e3]; exact qFr_r hF0 43 _ (by decide)
  refine qr_aload_n 23 rfl rfl rfl ?_
  refine qr_dup 24 rfl rfl rfl ?_
  refine qr_get 27 rfl rfl rfl (by decide) rfl ?_
  refine qr_iconst 28 rfl rfl ?_
  refine qr_iadd 29 rfl rfl ?_
  refine qr_put 32 rfl (by decide) rfl (Nat.le_of_ble_eq_true rfl) (Nat.le_of_ble_eq_true rfl) (Or.inl rfl) (qr_fitI rfl _) rfl ?_
  refine qy_wS (qw_s σ 42 1 ((σ 42 1) + 1)) rfl (fun σ6 e7 => ?_)
  have hI8 : qI σ6 α2 κ ρ := by rw [e7]; exact qI_s hI4 42 1 rfl (show (-2147483648) ≤ ((σ 42 1) + 1) ∧ ((σ 42 1) + 1) ≤ 2147483647 by omega)
  have hF9 : qFr [(42, 1)] [43] σ α σ6 α2 := by rw [e7]; exact qFr_s hF5 42 1 _ (by decide)
  refine qr_getst 35 rfl rfl ?_
  refine qr_iload_n 36 rfl rfl rfl ?_
  refine qr_iaload 37 rfl rfl (by decide) (by decide) rfl ?_
  refine qy_v (-1) (by decide) ?_
  refine qr_istore _ 39 rfl (by decide) rfl rfl ?_
  refine qr_iload_n 40 rfl rfl rfl ?_
  refine qr_look (off := 108) 148 rfl (by omega) (by decide) (by decide) rfl ?_
  refine qr_iload 150 rfl rfl rfl ?_
  refine qr_iload 152 rfl rfl rfl ?_
  refine qr_iadd 153 rfl rfl ?_
  refine qy_canE (fun v10 hv10 hev10 => ?_)
  refine qr_retI rfl rfl (by decide) (by decide) ?_
  exact ⟨_, _, rfl, hI8, hF9, (by have hw : σ6 42 1 = ((σ 42 1) + 1) := (congrFun (congrFun e7 42) 1).trans rfl; omega), v10, rfl, hv10, (qac_v hev10 (by omega)), (((congrFun e3 43).trans (qw_r_eq.trans (congrArg (fun f => qzu f ((σ 42 1) : Int).toNat 1) rfl))))⟩

set_option maxHeartbeats 4000000 in
set_option maxRecDepth 20000 in
/-- OneRoof$Acts.runFrom -/
theorem sf_152_42ef4_5_0 {L : Nat} {xs : Nat → Int} {vb : Bool} {d : Nat} {σ α : Nat → Nat → Int} {κ : Nat → Option Nat} {ρ : Nat} {x4 : Int} {x5 : Int} {x6 : Int} (hI : qI σ α κ ρ) (r4 : (-2147483648) ≤ x4 ∧ x4 ≤ 2147483647) (r5 : (-2147483648) ≤ x5 ∧ x5 ≤ 2147483647) (r6 : 0 ≤ x6 ∧ x6 ≤ 39) (p0 : 0 ≤ σ 42 1 ∧ σ 42 1 ≤ 23) : qm_T (qe L xs vb) (d + 2) 152 [.ref 42, .int (qz 4), .int (qz 5), .int (qz 0), .int (qz x4), .int (qz x5), .int (qz x6)] (qw σ α κ ρ) (fun r w' => ∃ σ' α', w' = qw σ' α' κ ρ ∧ qI σ' α' κ ρ ∧ qFr [(42, 1)] [43] σ α σ' α' ∧ σ' 42 1 = σ 42 1 + 1 ∧ ∃ v : Int, r = some (.int (qz v)) ∧ ((-2147483648) ≤ v ∧ v ≤ 2147483647) ∧ v = qac_a x4 x5 ∧ α' 43 = qac_t [1] (α 43) (σ 42 1)) := by
  refine qr_start (d := d + 1) qv_e152 (Nat.le_of_ble_eq_true rfl) ?_
  show qr_W (qe L xs vb) (d + 1) qx_e152 _ (0, [(0, .ref 42), (1, .int (qz 4)), (2, .int (qz 5)), (3, .int (qz 0)), (4, .int (qz x4)), (5, .int (qz x5)), (6, .int (qz x6))], [], _, 0, 0)
  have hF0 := qFr_rf [(42, 1)] [43] σ α
  have hz42_1 : (-2147483648) ≤ σ 42 1 ∧ σ 42 1 ≤ 2147483647 := hI.1 42 1
  refine qr_iload_n 1 rfl rfl rfl ?_
  refine qr_istore _ 3 rfl (by decide) rfl rfl ?_
  refine qr_iconst 4 rfl rfl ?_
  refine qr_istore _ 6 rfl (by decide) rfl rfl ?_
  refine qr_iload 8 rfl rfl rfl ?_
  refine qr_getst 11 rfl rfl ?_
  refine qr_alen 12 rfl rfl (by first | exact Or.inl (by decide) | exact Or.inr (Or.inl rfl) | exact Or.inr (Or.inr (Or.inl rfl)) | exact Or.inr (Or.inr (Or.inr (Or.inl rfl)))) rfl ?_
  refine qy_v 7 rfl ?_
  refine qr_icmp_ge 89 15 rfl rfl rfl (by decide) (by decide) (fun h => False.elim (by omega)) (fun h1 => ?_)
  refine qr_iload 17 rfl rfl rfl ?_
  refine qr_if_lt 89 20 rfl rfl rfl (by decide) (fun h => False.elim (by omega)) (fun h2 => ?_)
  refine qr_iload 22 rfl rfl rfl ?_
  refine qr_getst 25 rfl rfl ?_
  refine qr_alen 26 rfl rfl (by first | exact Or.inl (by decide) | exact Or.inr (Or.inl rfl) | exact Or.inr (Or.inr (Or.inl rfl)) | exact Or.inr (Or.inr (Or.inr (Or.inl rfl)))) rfl ?_
  refine qy_v 7 rfl ?_
  refine qr_icmp_ge 89 29 rfl rfl rfl (by decide) (by decide) (fun h => False.elim (by omega)) (fun h3 => ?_)
  refine qr_getst 32 rfl rfl ?_
  refine qr_iload 34 rfl rfl rfl ?_
  refine qr_iconst 35 rfl rfl ?_
  refine qr_imul 36 rfl rfl ?_
  refine qy_v 16 rfl ?_
  refine qr_iload_n 37 rfl rfl rfl ?_
  refine qr_iadd 38 rfl rfl ?_
  refine qy_v 16 rfl ?_
  refine qr_iaload 39 rfl rfl (by decide) (by decide) rfl ?_
  refine qy_v 0 (by decide) ?_
  refine qr_istore _ 41 rfl (by decide) rfl rfl ?_
  refine qr_iload 43 rfl rfl rfl ?_
  refine qr_if_eq 75 46 rfl rfl rfl (by decide) (fun h4 => ?_) (fun h => False.elim (by omega))
  refine qr_getst 78 rfl rfl ?_
  refine qr_iload 80 rfl rfl rfl ?_
  refine qr_iaload 81 rfl rfl (by decide) (by decide) rfl ?_
  refine qy_v 0 (by decide) ?_
  refine qr_istore _ 83 rfl (by decide) rfl rfl ?_
  refine qr_iinc _ 86 rfl rfl (by decide) rfl rfl ?_
  refine qr_goto 6 rfl rfl ?_
  refine qr_iload 8 rfl rfl rfl ?_
  refine qr_getst 11 rfl rfl ?_
  refine qr_alen 12 rfl rfl (by first | exact Or.inl (by decide) | exact Or.inr (Or.inl rfl) | exact Or.inr (Or.inr (Or.inl rfl)) | exact Or.inr (Or.inr (Or.inr (Or.inl rfl)))) rfl ?_
  refine qy_v 7 rfl ?_
  refine qr_icmp_ge 89 15 rfl rfl rfl (by omega) (by decide) (fun h => False.elim (by omega)) (fun h5 => ?_)
  refine qr_iload 17 rfl rfl rfl ?_
  refine qr_if_lt 89 20 rfl rfl rfl (by decide) (fun h => False.elim (by omega)) (fun h6 => ?_)
  refine qr_iload 22 rfl rfl rfl ?_
  refine qr_getst 25 rfl rfl ?_
  refine qr_alen 26 rfl rfl (by first | exact Or.inl (by decide) | exact Or.inr (Or.inl rfl) | exact Or.inr (Or.inr (Or.inl rfl)) | exact Or.inr (Or.inr (Or.inr (Or.inl rfl)))) rfl ?_
  refine qy_v 7 rfl ?_
  refine qr_icmp_ge 89 29 rfl rfl rfl (by decide) (by decide) (fun h => False.elim (by omega)) (fun h7 => ?_)
  refine qr_getst 32 rfl rfl ?_
  refine qr_iload 34 rfl rfl rfl ?_
  refine qr_iconst 35 rfl rfl ?_
  refine qr_imul 36 rfl rfl ?_
  refine qy_v 0 rfl ?_
  refine qr_iload_n 37 rfl rfl rfl ?_
  refine qr_iadd 38 rfl rfl ?_
  refine qy_v 0 rfl ?_
  refine qr_iaload 39 rfl rfl (by decide) (by decide) rfl ?_
  refine qy_v 1 (by decide) ?_
  refine qr_istore _ 41 rfl (by decide) rfl rfl ?_
  refine qr_iload 43 rfl rfl rfl ?_
  refine qr_if_eq 75 46 rfl rfl rfl (by decide) (fun h => False.elim (by omega)) (fun h8 => ?_)
  as_aux_lemma =>
    refine qr_iload 48 rfl rfl rfl ?_
    refine qr_bipush 50 rfl (by decide) rfl ?_
    refine qr_icmp_le 57 53 rfl rfl rfl (qrg r6 (by decide) (by decide)) (by decide) (fun h9 => ?_) (fun h => False.elim (by omega))
    refine qr_aload_n 58 rfl rfl rfl ?_
    refine qr_iload 60 rfl rfl rfl ?_
    refine qr_iload 62 rfl rfl rfl ?_
    refine qr_iload_n 63 rfl rfl rfl ?_
    refine qr_iload 65 rfl rfl rfl ?_
    refine qr_iload 67 rfl rfl rfl ?_
    refine qr_iload 69 rfl rfl rfl ?_
    refine qr_iconst 70 rfl rfl ?_
    refine qr_iadd 71 rfl rfl ?_
    have hs10 : (-2147483648) ≤ σ 42 1 ∧ σ 42 1 ≤ 2147483647 := hI.1 42 1
    refine qr_callN 74 rfl rfl rfl (sf_153_42eb1_0_5 (d := d + 0) hI r4 r5 (by omega) (by omega)) ?_
    rintro _ _ ⟨σ15, α16, rfl, hI17, hG18, hw14, v11, rfl, hv11, hx12, hx13⟩
    have hF19 : qFr [(42, 1)] [43] σ α σ15 α16 := qFr_t hF0 hG18 (by decide) (by decide)
    have hs20 : (-2147483648) ≤ σ15 42 1 ∧ σ15 42 1 ≤ 2147483647 := hI17.1 42 1
    show qr_W (qe L xs vb) (d + 1) qx_e152 _ (74, _, [.int (qz v11)], qw σ15 α16 κ ρ, 0, 0)
    refine qr_retI rfl rfl (by decide) (by decide) ?_
    exact ⟨_, _, rfl, hI17, hF19, (by have hw : σ15 42 1 = (σ15 42 1) := rfl; omega), v11, rfl, hv11, hx12, hx13⟩

set_option maxHeartbeats 4000000 in
set_option maxRecDepth 20000 in
/-- OneRoof$Acts.begin -/
theorem sf_153_42eb11_0_5 {L : Nat} {xs : Nat → Int} {vb : Bool} {d : Nat} {σ α : Nat → Nat → Int} {κ : Nat → Option Nat} {ρ : Nat} {x4 : Int} {x5 : Int} {x6 : Int} (hI : qI σ α κ ρ) (r4 : (-2147483648) ≤ x4 ∧ x4 ≤ 2147483647) (r5 : (-2147483648) ≤ x5 ∧ x5 ≤ 2147483647) (r6 : 0 ≤ x6 ∧ x6 ≤ 40) (p0 : 0 ≤ σ 42 1 ∧ σ 42 1 ≤ 23) : qm_T (qe L xs vb) (d + 1) 153 [.ref 42, .int (qz 11), .int (qz 0), .int (qz 5), .int (qz x4), .int (qz x5), .int (qz x6)] (qw σ α κ ρ) (fun r w' => ∃ σ' α', w' = qw σ' α' κ ρ ∧ qI σ' α' κ ρ ∧ qFr [(42, 1)] [43] σ α σ' α' ∧ σ' 42 1 = σ 42 1 + 1 ∧ ∃ v : Int, r = some (.int (qz v)) ∧ ((-2147483648) ≤ v ∧ v ≤ 2147483647) ∧ v = qac_x x4 x5 ∧ α' 43 = qac_t [11] (α 43) (σ 42 1)) := by
  refine qr_start (d := d + 0) qv_e153 (Nat.le_of_ble_eq_true rfl) ?_
  show qr_W (qe L xs vb) (d + 0) qx_e153 _ (0, [(0, .ref 42), (1, .int (qz 11)), (2, .int (qz 0)), (3, .int (qz 5)), (4, .int (qz x4)), (5, .int (qz x5)), (6, .int (qz x6))], [], _, 0, 0)
  have hF0 := qFr_rf [(42, 1)] [43] σ α
  have hz42_1 : (-2147483648) ≤ σ 42 1 ∧ σ 42 1 ≤ 2147483647 := hI.1 42 1
  refine qr_aload_n 1 rfl rfl rfl ?_
  refine qr_get 4 rfl rfl rfl (by decide) rfl ?_
  refine qr_aload_n 5 rfl rfl rfl ?_
  refine qr_get 8 rfl rfl rfl (by decide) rfl ?_
  refine qr_alen 9 rfl rfl (by first | exact Or.inl (by decide) | exact Or.inr (Or.inl rfl) | exact Or.inr (Or.inr (Or.inl rfl)) | exact Or.inr (Or.inr (Or.inr (Or.inl rfl)))) rfl ?_
  refine qy_v 24 rfl ?_
  refine qr_icmp_ge 22 12 rfl rfl rfl hz42_1 (by decide) (fun h => False.elim (by omega)) (fun h1 => ?_)
  refine qr_aload_n 13 rfl rfl rfl ?_
  refine qr_get 16 rfl rfl rfl (by decide) rfl ?_
  refine qr_aload_n 17 rfl rfl rfl ?_
  refine qr_get 20 rfl rfl rfl (by decide) rfl ?_
  refine qr_iload_n 21 rfl rfl rfl ?_
  refine qr_iastore 22 rfl (by decide) rfl (by omega) (by decide) rfl ?_
  refine qy_wA (qw_r α 43 (qzu (α 43) ((σ 42 1) : Int).toNat 11)) rfl (fun α2 e3 => ?_)
  have hI4 : qI σ α2 κ ρ := by rw [e3]; exact qI_r hI 43 _ rfl (show (-2147483648) ≤ 11 ∧ 11 ≤ 2147483647 by omega)
  have hF5 : qFr [(42, 1)] [43] σ α σ α2 := by rw [e3]; exact qFr_r hF0 43 _ (by decide)
  refine qr_aload_n 23 rfl rfl rfl ?_
  refine qr_dup 24 rfl rfl rfl ?_
  refine qr_get 27 rfl rfl rfl (by decide) rfl ?_
  refine qr_iconst 28 rfl rfl ?_
  refine qr_iadd 29 rfl rfl ?_
  refine qr_put 32 rfl (by decide) rfl (Nat.le_of_ble_eq_true rfl) (Nat.le_of_ble_eq_true rfl) (Or.inl rfl) (qr_fitI rfl _) rfl ?_
  refine qy_wS (qw_s σ 42 1 ((σ 42 1) + 1)) rfl (fun σ6 e7 => ?_)
  have hI8 : qI σ6 α2 κ ρ := by rw [e7]; exact qI_s hI4 42 1 rfl (show (-2147483648) ≤ ((σ 42 1) + 1) ∧ ((σ 42 1) + 1) ≤ 2147483647 by omega)
  have hF9 : qFr [(42, 1)] [43] σ α σ6 α2 := by rw [e7]; exact qFr_s hF5 42 1 _ (by decide)
  refine qr_getst 35 rfl rfl ?_
  refine qr_iload_n 36 rfl rfl rfl ?_
  refine qr_iaload 37 rfl rfl (by decide) (by decide) rfl ?_
  refine qy_v (-1) (by decide) ?_
  refine qr_istore _ 39 rfl (by decide) rfl rfl ?_
  refine qr_iload_n 40 rfl rfl rfl ?_
  refine qr_look (off := 154) 194 rfl (by omega) (by decide) (by decide) rfl ?_
  refine qr_iload 196 rfl rfl rfl ?_
  refine qr_iload 198 rfl rfl rfl ?_
  refine qr_ixor 199 rfl rfl ?_
  refine qy_canE (fun v10 hv10 hev10 => ?_)
  refine qr_retI rfl rfl (by decide) (by decide) ?_
  exact ⟨_, _, rfl, hI8, hF9, (by have hw : σ6 42 1 = ((σ 42 1) + 1) := (congrFun (congrFun e7 42) 1).trans rfl; omega), v10, rfl, hv10, (qac_v hev10 (by omega)), (((congrFun e3 43).trans (qw_r_eq.trans (congrArg (fun f => qzu f ((σ 42 1) : Int).toNat 11) rfl))))⟩

set_option maxHeartbeats 4000000 in
set_option maxRecDepth 20000 in
/-- OneRoof$Acts.runFrom -/
theorem sf_152_42ef5_5_2 {L : Nat} {xs : Nat → Int} {vb : Bool} {d : Nat} {σ α : Nat → Nat → Int} {κ : Nat → Option Nat} {ρ : Nat} {x4 : Int} {x5 : Int} {x6 : Int} (hI : qI σ α κ ρ) (r4 : (-2147483648) ≤ x4 ∧ x4 ≤ 2147483647) (r5 : (-2147483648) ≤ x5 ∧ x5 ≤ 2147483647) (r6 : 0 ≤ x6 ∧ x6 ≤ 39) (p0 : 0 ≤ σ 42 1 ∧ σ 42 1 ≤ 23) : qm_T (qe L xs vb) (d + 2) 152 [.ref 42, .int (qz 5), .int (qz 5), .int (qz 2), .int (qz x4), .int (qz x5), .int (qz x6)] (qw σ α κ ρ) (fun r w' => ∃ σ' α', w' = qw σ' α' κ ρ ∧ qI σ' α' κ ρ ∧ qFr [(42, 1)] [43] σ α σ' α' ∧ σ' 42 1 = σ 42 1 + 1 ∧ ∃ v : Int, r = some (.int (qz v)) ∧ ((-2147483648) ≤ v ∧ v ≤ 2147483647) ∧ v = qac_x x4 x5 ∧ α' 43 = qac_t [11] (α 43) (σ 42 1)) := by
  refine qr_start (d := d + 1) qv_e152 (Nat.le_of_ble_eq_true rfl) ?_
  show qr_W (qe L xs vb) (d + 1) qx_e152 _ (0, [(0, .ref 42), (1, .int (qz 5)), (2, .int (qz 5)), (3, .int (qz 2)), (4, .int (qz x4)), (5, .int (qz x5)), (6, .int (qz x6))], [], _, 0, 0)
  have hF0 := qFr_rf [(42, 1)] [43] σ α
  have hz42_1 : (-2147483648) ≤ σ 42 1 ∧ σ 42 1 ≤ 2147483647 := hI.1 42 1
  refine qr_iload_n 1 rfl rfl rfl ?_
  refine qr_istore _ 3 rfl (by decide) rfl rfl ?_
  refine qr_iconst 4 rfl rfl ?_
  refine qr_istore _ 6 rfl (by decide) rfl rfl ?_
  refine qr_iload 8 rfl rfl rfl ?_
  refine qr_getst 11 rfl rfl ?_
  refine qr_alen 12 rfl rfl (by first | exact Or.inl (by decide) | exact Or.inr (Or.inl rfl) | exact Or.inr (Or.inr (Or.inl rfl)) | exact Or.inr (Or.inr (Or.inr (Or.inl rfl)))) rfl ?_
  refine qy_v 7 rfl ?_
  refine qr_icmp_ge 89 15 rfl rfl rfl (by decide) (by decide) (fun h => False.elim (by omega)) (fun h1 => ?_)
  refine qr_iload 17 rfl rfl rfl ?_
  refine qr_if_lt 89 20 rfl rfl rfl (by decide) (fun h => False.elim (by omega)) (fun h2 => ?_)
  refine qr_iload 22 rfl rfl rfl ?_
  refine qr_getst 25 rfl rfl ?_
  refine qr_alen 26 rfl rfl (by first | exact Or.inl (by decide) | exact Or.inr (Or.inl rfl) | exact Or.inr (Or.inr (Or.inl rfl)) | exact Or.inr (Or.inr (Or.inr (Or.inl rfl)))) rfl ?_
  refine qy_v 7 rfl ?_
  refine qr_icmp_ge 89 29 rfl rfl rfl (by decide) (by decide) (fun h => False.elim (by omega)) (fun h3 => ?_)
  refine qr_getst 32 rfl rfl ?_
  refine qr_iload 34 rfl rfl rfl ?_
  refine qr_iconst 35 rfl rfl ?_
  refine qr_imul 36 rfl rfl ?_
  refine qy_v 20 rfl ?_
  refine qr_iload_n 37 rfl rfl rfl ?_
  refine qr_iadd 38 rfl rfl ?_
  refine qy_v 22 rfl ?_
  refine qr_iaload 39 rfl rfl (by decide) (by decide) rfl ?_
  refine qy_v 0 (by decide) ?_
  refine qr_istore _ 41 rfl (by decide) rfl rfl ?_
  refine qr_iload 43 rfl rfl rfl ?_
  refine qr_if_eq 75 46 rfl rfl rfl (by decide) (fun h4 => ?_) (fun h => False.elim (by omega))
  refine qr_getst 78 rfl rfl ?_
  refine qr_iload 80 rfl rfl rfl ?_
  refine qr_iaload 81 rfl rfl (by decide) (by decide) rfl ?_
  refine qy_v 4 (by decide) ?_
  refine qr_istore _ 83 rfl (by decide) rfl rfl ?_
  refine qr_iinc _ 86 rfl rfl (by decide) rfl rfl ?_
  refine qr_goto 6 rfl rfl ?_
  refine qr_iload 8 rfl rfl rfl ?_
  refine qr_getst 11 rfl rfl ?_
  refine qr_alen 12 rfl rfl (by first | exact Or.inl (by decide) | exact Or.inr (Or.inl rfl) | exact Or.inr (Or.inr (Or.inl rfl)) | exact Or.inr (Or.inr (Or.inr (Or.inl rfl)))) rfl ?_
  refine qy_v 7 rfl ?_
  refine qr_icmp_ge 89 15 rfl rfl rfl (by omega) (by decide) (fun h => False.elim (by omega)) (fun h5 => ?_)
  refine qr_iload 17 rfl rfl rfl ?_
  refine qr_if_lt 89 20 rfl rfl rfl (by decide) (fun h => False.elim (by omega)) (fun h6 => ?_)
  refine qr_iload 22 rfl rfl rfl ?_
  refine qr_getst 25 rfl rfl ?_
  refine qr_alen 26 rfl rfl (by first | exact Or.inl (by decide) | exact Or.inr (Or.inl rfl) | exact Or.inr (Or.inr (Or.inl rfl)) | exact Or.inr (Or.inr (Or.inr (Or.inl rfl)))) rfl ?_
  refine qy_v 7 rfl ?_
  refine qr_icmp_ge 89 29 rfl rfl rfl (by decide) (by decide) (fun h => False.elim (by omega)) (fun h7 => ?_)
  refine qr_getst 32 rfl rfl ?_
  refine qr_iload 34 rfl rfl rfl ?_
  refine qr_iconst 35 rfl rfl ?_
  refine qr_imul 36 rfl rfl ?_
  refine qy_v 16 rfl ?_
  refine qr_iload_n 37 rfl rfl rfl ?_
  refine qr_iadd 38 rfl rfl ?_
  refine qy_v 18 rfl ?_
  refine qr_iaload 39 rfl rfl (by decide) (by decide) rfl ?_
  refine qy_v 0 (by decide) ?_
  refine qr_istore _ 41 rfl (by decide) rfl rfl ?_
  refine qr_iload 43 rfl rfl rfl ?_
  refine qr_if_eq 75 46 rfl rfl rfl (by decide) (fun h8 => ?_) (fun h => False.elim (by omega))
  as_aux_lemma =>
    refine qr_getst 78 rfl rfl ?_
    refine qr_iload 80 rfl rfl rfl ?_
    refine qr_iaload 81 rfl rfl (by decide) (by decide) rfl ?_
    refine qy_v 0 (by decide) ?_
    refine qr_istore _ 83 rfl (by decide) rfl rfl ?_
    refine qr_iinc _ 86 rfl rfl (by decide) rfl rfl ?_
    refine qr_goto 6 rfl rfl ?_
    refine qr_iload 8 rfl rfl rfl ?_
    refine qr_getst 11 rfl rfl ?_
    refine qr_alen 12 rfl rfl (by first | exact Or.inl (by decide) | exact Or.inr (Or.inl rfl) | exact Or.inr (Or.inr (Or.inl rfl)) | exact Or.inr (Or.inr (Or.inr (Or.inl rfl)))) rfl ?_
    refine qy_v 7 rfl ?_
    refine qr_icmp_ge 89 15 rfl rfl rfl (by omega) (by decide) (fun h => False.elim (by omega)) (fun h9 => ?_)
    refine qr_iload 17 rfl rfl rfl ?_
    refine qr_if_lt 89 20 rfl rfl rfl (by decide) (fun h => False.elim (by omega)) (fun h10 => ?_)
    refine qr_iload 22 rfl rfl rfl ?_
    refine qr_getst 25 rfl rfl ?_
    refine qr_alen 26 rfl rfl (by first | exact Or.inl (by decide) | exact Or.inr (Or.inl rfl) | exact Or.inr (Or.inr (Or.inl rfl)) | exact Or.inr (Or.inr (Or.inr (Or.inl rfl)))) rfl ?_
    refine qy_v 7 rfl ?_
    refine qr_icmp_ge 89 29 rfl rfl rfl (by decide) (by decide) (fun h => False.elim (by omega)) (fun h11 => ?_)
    refine qr_getst 32 rfl rfl ?_
    refine qr_iload 34 rfl rfl rfl ?_
    refine qr_iconst 35 rfl rfl ?_
    refine qr_imul 36 rfl rfl ?_
    refine qy_v 0 rfl ?_
    refine qr_iload_n 37 rfl rfl rfl ?_
    refine qr_iadd 38 rfl rfl ?_
    refine qy_v 2 rfl ?_
    refine qr_iaload 39 rfl rfl (by decide) (by decide) rfl ?_
    refine qy_v 11 (by decide) ?_
    refine qr_istore _ 41 rfl (by decide) rfl rfl ?_
    refine qr_iload 43 rfl rfl rfl ?_
    refine qr_if_eq 75 46 rfl rfl rfl (by decide) (fun h => False.elim (by omega)) (fun h12 => ?_)
    refine qr_iload 48 rfl rfl rfl ?_
    refine qr_bipush 50 rfl (by decide) rfl ?_
    refine qr_icmp_le 57 53 rfl rfl rfl (qrg r6 (by decide) (by decide)) (by decide) (fun h13 => ?_) (fun h => False.elim (by omega))
    refine qr_aload_n 58 rfl rfl rfl ?_
    refine qr_iload 60 rfl rfl rfl ?_
    refine qr_iload 62 rfl rfl rfl ?_
    refine qr_iload_n 63 rfl rfl rfl ?_
    refine qr_iload 65 rfl rfl rfl ?_
    refine qr_iload 67 rfl rfl rfl ?_
    refine qr_iload 69 rfl rfl rfl ?_
    refine qr_iconst 70 rfl rfl ?_
    refine qr_iadd 71 rfl rfl ?_
    have hs14 : (-2147483648) ≤ σ 42 1 ∧ σ 42 1 ≤ 2147483647 := hI.1 42 1
    refine qr_callN 74 rfl rfl rfl (sf_153_42eb11_0_5 (d := d + 0) hI r4 r5 (by omega) (by omega)) ?_
    rintro _ _ ⟨σ19, α20, rfl, hI21, hG22, hw18, v15, rfl, hv15, hx16, hx17⟩
    have hF23 : qFr [(42, 1)] [43] σ α σ19 α20 := qFr_t hF0 hG22 (by decide) (by decide)
    have hs24 : (-2147483648) ≤ σ19 42 1 ∧ σ19 42 1 ≤ 2147483647 := hI21.1 42 1
    show qr_W (qe L xs vb) (d + 1) qx_e152 _ (74, _, [.int (qz v15)], qw σ19 α20 κ ρ, 0, 0)
    refine qr_retI rfl rfl (by decide) (by decide) ?_
    exact ⟨_, _, rfl, hI21, hF23, (by have hw : σ19 42 1 = (σ19 42 1) := rfl; omega), v15, rfl, hv15, hx16, hx17⟩

set_option maxHeartbeats 4000000 in
set_option maxRecDepth 20000 in
/-- OneRoof$Acts.run -/
theorem sf_151_42er5_2 {L : Nat} {xs : Nat → Int} {vb : Bool} {d : Nat} {σ α : Nat → Nat → Int} {κ : Nat → Option Nat} {ρ : Nat} {x3 : Int} {x4 : Int} {x5 : Int} (hI : qI σ α κ ρ) (r3 : (-2147483648) ≤ x3 ∧ x3 ≤ 2147483647) (r4 : (-2147483648) ≤ x4 ∧ x4 ≤ 2147483647) (r5 : 0 ≤ x5 ∧ x5 ≤ 39) (p0 : 0 ≤ σ 42 1 ∧ σ 42 1 ≤ 23) : qm_T (qe L xs vb) (d + 3) 151 [.ref 42, .int (qz 5), .int (qz 2), .int (qz x3), .int (qz x4), .int (qz x5)] (qw σ α κ ρ) (fun r w' => ∃ σ' α', w' = qw σ' α' κ ρ ∧ qI σ' α' κ ρ ∧ qFr [(42, 1)] [43] σ α σ' α' ∧ σ' 42 1 = σ 42 1 + 1 ∧ ∃ v : Int, r = some (.int (qz v)) ∧ ((-2147483648) ≤ v ∧ v ≤ 2147483647) ∧ v = qac_x x3 x4 ∧ α' 43 = qac_t [11] (α 43) (σ 42 1)) := by
  refine qr_start (d := d + 2) qv_e151 (Nat.le_of_ble_eq_true rfl) ?_
  show qr_W (qe L xs vb) (d + 2) qx_e151 _ (0, [(0, .ref 42), (1, .int (qz 5)), (2, .int (qz 2)), (3, .int (qz x3)), (4, .int (qz x4)), (5, .int (qz x5))], [], _, 0, 0)
  have hF0 := qFr_rf [(42, 1)] [43] σ α
  have hz42_1 : (-2147483648) ≤ σ 42 1 ∧ σ 42 1 ≤ 2147483647 := hI.1 42 1
  refine qr_aload_n 1 rfl rfl rfl ?_
  refine qr_iload_n 2 rfl rfl rfl ?_
  refine qr_iload_n 3 rfl rfl rfl ?_
  refine qr_iload_n 4 rfl rfl rfl ?_
  refine qr_iload_n 5 rfl rfl rfl ?_
  refine qr_iload 7 rfl rfl rfl ?_
  refine qr_iload 9 rfl rfl rfl ?_
  have hs1 : (-2147483648) ≤ σ 42 1 ∧ σ 42 1 ≤ 2147483647 := hI.1 42 1
  refine qr_callN 12 rfl rfl rfl (sf_152_42ef5_5_2 (d := d + 0) hI r3 r4 r5 (by omega)) ?_
  rintro _ _ ⟨σ6, α7, rfl, hI8, hG9, hw5, v2, rfl, hv2, hx3, hx4⟩
  have hF10 : qFr [(42, 1)] [43] σ α σ6 α7 := qFr_t hF0 hG9 (by decide) (by decide)
  have hs11 : (-2147483648) ≤ σ6 42 1 ∧ σ6 42 1 ≤ 2147483647 := hI8.1 42 1
  show qr_W (qe L xs vb) (d + 2) qx_e151 _ (12, _, [.int (qz v2)], qw σ6 α7 κ ρ, 0, 0)
  refine qr_retI rfl rfl (by decide) (by decide) ?_
  exact ⟨_, _, rfl, hI8, hF10, (by have hw : σ6 42 1 = (σ6 42 1) := rfl; omega), v2, rfl, hv2, hx3, hx4⟩

set_option maxHeartbeats 4000000 in
set_option maxRecDepth 20000 in
/-- OneRoof$Acts.begin -/
theorem sf_153_42eb60_5_5 {L : Nat} {xs : Nat → Int} {vb : Bool} {d : Nat} {σ α : Nat → Nat → Int} {κ : Nat → Option Nat} {ρ : Nat} {x4 : Int} {x5 : Int} {x6 : Int} (hI : qI σ α κ ρ) (r4 : (-2147483648) ≤ x4 ∧ x4 ≤ 2147483647) (r5 : (-2147483648) ≤ x5 ∧ x5 ≤ 2147483647) (r6 : 0 ≤ x6 ∧ x6 ≤ 39) (p0 : 0 ≤ σ 42 1 ∧ σ 42 1 ≤ 21) : qm_T (qe L xs vb) (d + 4) 153 [.ref 42, .int (qz 60), .int (qz 5), .int (qz 5), .int (qz x4), .int (qz x5), .int (qz x6)] (qw σ α κ ρ) (fun r w' => ∃ σ' α', w' = qw σ' α' κ ρ ∧ qI σ' α' κ ρ ∧ qFr [(42, 1)] [43] σ α σ' α' ∧ σ' 42 1 = σ 42 1 + 3 ∧ ∃ v : Int, r = some (.int (qz v)) ∧ ((-2147483648) ≤ v ∧ v ≤ 2147483647) ∧ v = qac_s (qac_a x4 x5) (qac_x 2 x5) ∧ α' 43 = qac_t [60, 1, 11] (α 43) (σ 42 1)) := by
  refine qr_start (d := d + 3) qv_e153 (Nat.le_of_ble_eq_true rfl) ?_
  show qr_W (qe L xs vb) (d + 3) qx_e153 _ (0, [(0, .ref 42), (1, .int (qz 60)), (2, .int (qz 5)), (3, .int (qz 5)), (4, .int (qz x4)), (5, .int (qz x5)), (6, .int (qz x6))], [], _, 0, 0)
  have hF0 := qFr_rf [(42, 1)] [43] σ α
  have hz42_1 : (-2147483648) ≤ σ 42 1 ∧ σ 42 1 ≤ 2147483647 := hI.1 42 1
  refine qr_aload_n 1 rfl rfl rfl ?_
  refine qr_get 4 rfl rfl rfl (by decide) rfl ?_
  refine qr_aload_n 5 rfl rfl rfl ?_
  refine qr_get 8 rfl rfl rfl (by decide) rfl ?_
  refine qr_alen 9 rfl rfl (by first | exact Or.inl (by decide) | exact Or.inr (Or.inl rfl) | exact Or.inr (Or.inr (Or.inl rfl)) | exact Or.inr (Or.inr (Or.inr (Or.inl rfl)))) rfl ?_
  refine qy_v 24 rfl ?_
  refine qr_icmp_ge 22 12 rfl rfl rfl hz42_1 (by decide) (fun h => False.elim (by omega)) (fun h1 => ?_)
  refine qr_aload_n 13 rfl rfl rfl ?_
  refine qr_get 16 rfl rfl rfl (by decide) rfl ?_
  refine qr_aload_n 17 rfl rfl rfl ?_
  refine qr_get 20 rfl rfl rfl (by decide) rfl ?_
  refine qr_iload_n 21 rfl rfl rfl ?_
  refine qr_iastore 22 rfl (by decide) rfl (by omega) (by decide) rfl ?_
  refine qy_wA (qw_r α 43 (qzu (α 43) ((σ 42 1) : Int).toNat 60)) rfl (fun α2 e3 => ?_)
  have hI4 : qI σ α2 κ ρ := by rw [e3]; exact qI_r hI 43 _ rfl (show (-2147483648) ≤ 60 ∧ 60 ≤ 2147483647 by omega)
  have hF5 : qFr [(42, 1)] [43] σ α σ α2 := by rw [e3]; exact qFr_r hF0 43 _ (by decide)
  refine qr_aload_n 23 rfl rfl rfl ?_
  refine qr_dup 24 rfl rfl rfl ?_
  refine qr_get 27 rfl rfl rfl (by decide) rfl ?_
  refine qr_iconst 28 rfl rfl ?_
  refine qr_iadd 29 rfl rfl ?_
  refine qr_put 32 rfl (by decide) rfl (Nat.le_of_ble_eq_true rfl) (Nat.le_of_ble_eq_true rfl) (Or.inl rfl) (qr_fitI rfl _) rfl ?_
  refine qy_wS (qw_s σ 42 1 ((σ 42 1) + 1)) rfl (fun σ6 e7 => ?_)
  have hI8 : qI σ6 α2 κ ρ := by rw [e7]; exact qI_s hI4 42 1 rfl (show (-2147483648) ≤ ((σ 42 1) + 1) ∧ ((σ 42 1) + 1) ≤ 2147483647 by omega)
  have hF9 : qFr [(42, 1)] [43] σ α σ6 α2 := by rw [e7]; exact qFr_s hF5 42 1 _ (by decide)
  refine qr_getst 35 rfl rfl ?_
  refine qr_iload_n 36 rfl rfl rfl ?_
  refine qr_iaload 37 rfl rfl (by decide) (by decide) rfl ?_
  refine qy_v 4 (by decide) ?_
  refine qr_istore _ 39 rfl (by decide) rfl rfl ?_
  refine qr_iload_n 40 rfl rfl rfl ?_
  refine qr_look (off := 244) 284 rfl (by omega) (by decide) (by decide) rfl ?_
  refine qr_aload_n 285 rfl rfl rfl ?_
  refine qr_iload 287 rfl rfl rfl ?_
  refine qr_iload_n 288 rfl rfl rfl ?_
  refine qr_iconst 289 rfl rfl ?_
  refine qr_iload 291 rfl rfl rfl ?_
  refine qr_iload 293 rfl rfl rfl ?_
  refine qr_iload 295 rfl rfl rfl ?_
  have hr10 : σ6 42 1 = ((σ 42 1) + 1) := (congrFun (congrFun e7 42) 1).trans rfl
  have hs11 : (-2147483648) ≤ σ6 42 1 ∧ σ6 42 1 ≤ 2147483647 := hI8.1 42 1
  have hs12 : σ6 42 1 = ((σ 42 1) + 1) := (congrFun (congrFun e7 42) 1).trans rfl
  refine qr_callN 298 rfl rfl rfl (sf_152_42ef4_5_0 (d := d + 1) hI8 r4 r5 r6 (by omega)) ?_
  rintro _ _ ⟨σ17, α18, rfl, hI19, hG20, hw16, v13, rfl, hv13, hx14, hx15⟩
  have hF21 : qFr [(42, 1)] [43] σ α σ17 α18 := qFr_t hF9 hG20 (by decide) (by decide)
  have hs22 : (-2147483648) ≤ σ17 42 1 ∧ σ17 42 1 ≤ 2147483647 := hI19.1 42 1
  show qr_W (qe L xs vb) (d + 3) qx_e153 _ (298, _, [.int (qz v13)], qw σ17 α18 κ ρ, 0, 0)
  refine qr_aload_n 299 rfl rfl rfl ?_
  refine qr_iload_n 300 rfl rfl rfl ?_
  refine qr_iconst 301 rfl rfl ?_
  refine qr_iconst 302 rfl rfl ?_
  refine qr_iload 304 rfl rfl rfl ?_
  refine qr_iload 306 rfl rfl rfl ?_
  have hr23 : σ17 42 1 = (σ17 42 1) := rfl
  have hs24 : (-2147483648) ≤ σ17 42 1 ∧ σ17 42 1 ≤ 2147483647 := hI19.1 42 1
  refine qr_callN 309 rfl rfl rfl (sf_151_42er5_2 (d := d + 0) hI19 (by decide) r5 r6 (by omega)) ?_
  rintro _ _ ⟨σ29, α30, rfl, hI31, hG32, hw28, v25, rfl, hv25, hx26, hx27⟩
  have hF33 : qFr [(42, 1)] [43] σ α σ29 α30 := qFr_t hF21 hG32 (by decide) (by decide)
  have hs34 : (-2147483648) ≤ σ29 42 1 ∧ σ29 42 1 ≤ 2147483647 := hI31.1 42 1
  show qr_W (qe L xs vb) (d + 3) qx_e153 _ (309, _, [.int (qz v25), .int (qz v13)], qw σ29 α30 κ ρ, 0, 0)
  refine qr_isub 310 rfl rfl ?_
  refine qy_canE (fun v35 hv35 hev35 => ?_)
  refine qr_retI rfl rfl (by decide) (by decide) ?_
  exact ⟨_, _, rfl, hI31, hF33, (by have hw : σ29 42 1 = (σ29 42 1) := rfl; omega), v35, rfl, hv35, ((qac_v hev35 (by omega)).trans (by rw [hx14, hx26]; rfl)), (by rw [hx27, hx15, show α2 43 = qzu (α 43) (σ 42 1 : Int).toNat 60 from ((congrFun e3 43).trans (qw_r_eq.trans (congrArg (fun f => qzu f ((σ 42 1) : Int).toNat 60) rfl))), show σ6 42 1 = σ 42 1 + 1 by omega, show σ17 42 1 = σ 42 1 + 1 + 1 by omega]; exact (qac_t_app [1] [11] (qzu (α 43) (σ 42 1 : Int).toNat 60) (σ 42 1 + 1)).symm)⟩

set_option maxHeartbeats 4000000 in
set_option maxRecDepth 20000 in
/-- OneRoof$Acts.runFrom -/
theorem sf_152_42ef5_5_0 {L : Nat} {xs : Nat → Int} {vb : Bool} {d : Nat} {σ α : Nat → Nat → Int} {κ : Nat → Option Nat} {ρ : Nat} {x4 : Int} {x5 : Int} {x6 : Int} (hI : qI σ α κ ρ) (r4 : (-2147483648) ≤ x4 ∧ x4 ≤ 2147483647) (r5 : (-2147483648) ≤ x5 ∧ x5 ≤ 2147483647) (r6 : 0 ≤ x6 ∧ x6 ≤ 38) (p0 : 0 ≤ σ 42 1 ∧ σ 42 1 ≤ 21) : qm_T (qe L xs vb) (d + 5) 152 [.ref 42, .int (qz 5), .int (qz 5), .int (qz 0), .int (qz x4), .int (qz x5), .int (qz x6)] (qw σ α κ ρ) (fun r w' => ∃ σ' α', w' = qw σ' α' κ ρ ∧ qI σ' α' κ ρ ∧ qFr [(42, 1)] [43] σ α σ' α' ∧ σ' 42 1 = σ 42 1 + 3 ∧ ∃ v : Int, r = some (.int (qz v)) ∧ ((-2147483648) ≤ v ∧ v ≤ 2147483647) ∧ v = qac_s (qac_a x4 x5) (qac_x 2 x5) ∧ α' 43 = qac_t [60, 1, 11] (α 43) (σ 42 1)) := by
  refine qr_start (d := d + 4) qv_e152 (Nat.le_of_ble_eq_true rfl) ?_
  show qr_W (qe L xs vb) (d + 4) qx_e152 _ (0, [(0, .ref 42), (1, .int (qz 5)), (2, .int (qz 5)), (3, .int (qz 0)), (4, .int (qz x4)), (5, .int (qz x5)), (6, .int (qz x6))], [], _, 0, 0)
  have hF0 := qFr_rf [(42, 1)] [43] σ α
  have hz42_1 : (-2147483648) ≤ σ 42 1 ∧ σ 42 1 ≤ 2147483647 := hI.1 42 1
  refine qr_iload_n 1 rfl rfl rfl ?_
  refine qr_istore _ 3 rfl (by decide) rfl rfl ?_
  refine qr_iconst 4 rfl rfl ?_
  refine qr_istore _ 6 rfl (by decide) rfl rfl ?_
  refine qr_iload 8 rfl rfl rfl ?_
  refine qr_getst 11 rfl rfl ?_
  refine qr_alen 12 rfl rfl (by first | exact Or.inl (by decide) | exact Or.inr (Or.inl rfl) | exact Or.inr (Or.inr (Or.inl rfl)) | exact Or.inr (Or.inr (Or.inr (Or.inl rfl)))) rfl ?_
  refine qy_v 7 rfl ?_
  refine qr_icmp_ge 89 15 rfl rfl rfl (by decide) (by decide) (fun h => False.elim (by omega)) (fun h1 => ?_)
  refine qr_iload 17 rfl rfl rfl ?_
  refine qr_if_lt 89 20 rfl rfl rfl (by decide) (fun h => False.elim (by omega)) (fun h2 => ?_)
  refine qr_iload 22 rfl rfl rfl ?_
  refine qr_getst 25 rfl rfl ?_
  refine qr_alen 26 rfl rfl (by first | exact Or.inl (by decide) | exact Or.inr (Or.inl rfl) | exact Or.inr (Or.inr (Or.inl rfl)) | exact Or.inr (Or.inr (Or.inr (Or.inl rfl)))) rfl ?_
  refine qy_v 7 rfl ?_
  refine qr_icmp_ge 89 29 rfl rfl rfl (by decide) (by decide) (fun h => False.elim (by omega)) (fun h3 => ?_)
  refine qr_getst 32 rfl rfl ?_
  refine qr_iload 34 rfl rfl rfl ?_
  refine qr_iconst 35 rfl rfl ?_
  refine qr_imul 36 rfl rfl ?_
  refine qy_v 20 rfl ?_
  refine qr_iload_n 37 rfl rfl rfl ?_
  refine qr_iadd 38 rfl rfl ?_
  refine qy_v 20 rfl ?_
  refine qr_iaload 39 rfl rfl (by decide) (by decide) rfl ?_
  refine qy_v 60 (by decide) ?_
  refine qr_istore _ 41 rfl (by decide) rfl rfl ?_
  refine qr_iload 43 rfl rfl rfl ?_
  refine qr_if_eq 75 46 rfl rfl rfl (by decide) (fun h => False.elim (by omega)) (fun h4 => ?_)
  refine qr_iload 48 rfl rfl rfl ?_
  refine qr_bipush 50 rfl (by decide) rfl ?_
  refine qr_icmp_le 57 53 rfl rfl rfl (qrg r6 (by decide) (by decide)) (by decide) (fun h5 => ?_) (fun h => False.elim (by omega))
  refine qr_aload_n 58 rfl rfl rfl ?_
  refine qr_iload 60 rfl rfl rfl ?_
  refine qr_iload 62 rfl rfl rfl ?_
  refine qr_iload_n 63 rfl rfl rfl ?_
  refine qr_iload 65 rfl rfl rfl ?_
  refine qr_iload 67 rfl rfl rfl ?_
  refine qr_iload 69 rfl rfl rfl ?_
  refine qr_iconst 70 rfl rfl ?_
  refine qr_iadd 71 rfl rfl ?_
  have hs6 : (-2147483648) ≤ σ 42 1 ∧ σ 42 1 ≤ 2147483647 := hI.1 42 1
  refine qr_callN 74 rfl rfl rfl (sf_153_42eb60_5_5 (d := d + 0) hI r4 r5 (by omega) (by omega)) ?_
  rintro _ _ ⟨σ11, α12, rfl, hI13, hG14, hw10, v7, rfl, hv7, hx8, hx9⟩
  have hF15 : qFr [(42, 1)] [43] σ α σ11 α12 := qFr_t hF0 hG14 (by decide) (by decide)
  have hs16 : (-2147483648) ≤ σ11 42 1 ∧ σ11 42 1 ≤ 2147483647 := hI13.1 42 1
  show qr_W (qe L xs vb) (d + 4) qx_e152 _ (74, _, [.int (qz v7)], qw σ11 α12 κ ρ, 0, 0)
  refine qr_retI rfl rfl (by decide) (by decide) ?_
  exact ⟨_, _, rfl, hI13, hF15, (by have hw : σ11 42 1 = (σ11 42 1) := rfl; omega), v7, rfl, hv7, hx8, hx9⟩

set_option maxHeartbeats 4000000 in
set_option maxRecDepth 20000 in
/-- OneRoof$Acts.run -/
theorem sf_151_42er5_0 {L : Nat} {xs : Nat → Int} {vb : Bool} {d : Nat} {σ α : Nat → Nat → Int} {κ : Nat → Option Nat} {ρ : Nat} {x3 : Int} {x4 : Int} {x5 : Int} (hI : qI σ α κ ρ) (r3 : (-2147483648) ≤ x3 ∧ x3 ≤ 2147483647) (r4 : (-2147483648) ≤ x4 ∧ x4 ≤ 2147483647) (r5 : 0 ≤ x5 ∧ x5 ≤ 38) (p0 : 0 ≤ σ 42 1 ∧ σ 42 1 ≤ 21) : qm_T (qe L xs vb) (d + 6) 151 [.ref 42, .int (qz 5), .int (qz 0), .int (qz x3), .int (qz x4), .int (qz x5)] (qw σ α κ ρ) (fun r w' => ∃ σ' α', w' = qw σ' α' κ ρ ∧ qI σ' α' κ ρ ∧ qFr [(42, 1)] [43] σ α σ' α' ∧ σ' 42 1 = σ 42 1 + 3 ∧ ∃ v : Int, r = some (.int (qz v)) ∧ ((-2147483648) ≤ v ∧ v ≤ 2147483647) ∧ v = qac_s (qac_a x3 x4) (qac_x 2 x4) ∧ α' 43 = qac_t [60, 1, 11] (α 43) (σ 42 1)) := by
  refine qr_start (d := d + 5) qv_e151 (Nat.le_of_ble_eq_true rfl) ?_
  show qr_W (qe L xs vb) (d + 5) qx_e151 _ (0, [(0, .ref 42), (1, .int (qz 5)), (2, .int (qz 0)), (3, .int (qz x3)), (4, .int (qz x4)), (5, .int (qz x5))], [], _, 0, 0)
  have hF0 := qFr_rf [(42, 1)] [43] σ α
  have hz42_1 : (-2147483648) ≤ σ 42 1 ∧ σ 42 1 ≤ 2147483647 := hI.1 42 1
  refine qr_aload_n 1 rfl rfl rfl ?_
  refine qr_iload_n 2 rfl rfl rfl ?_
  refine qr_iload_n 3 rfl rfl rfl ?_
  refine qr_iload_n 4 rfl rfl rfl ?_
  refine qr_iload_n 5 rfl rfl rfl ?_
  refine qr_iload 7 rfl rfl rfl ?_
  refine qr_iload 9 rfl rfl rfl ?_
  have hs1 : (-2147483648) ≤ σ 42 1 ∧ σ 42 1 ≤ 2147483647 := hI.1 42 1
  refine qr_callN 12 rfl rfl rfl (sf_152_42ef5_5_0 (d := d + 0) hI r3 r4 r5 (by omega)) ?_
  rintro _ _ ⟨σ6, α7, rfl, hI8, hG9, hw5, v2, rfl, hv2, hx3, hx4⟩
  have hF10 : qFr [(42, 1)] [43] σ α σ6 α7 := qFr_t hF0 hG9 (by decide) (by decide)
  have hs11 : (-2147483648) ≤ σ6 42 1 ∧ σ6 42 1 ≤ 2147483647 := hI8.1 42 1
  show qr_W (qe L xs vb) (d + 5) qx_e151 _ (12, _, [.int (qz v2)], qw σ6 α7 κ ρ, 0, 0)
  refine qr_retI rfl rfl (by decide) (by decide) ?_
  exact ⟨_, _, rfl, hI8, hF10, (by have hw : σ6 42 1 = (σ6 42 1) := rfl; omega), v2, rfl, hv2, hx3, hx4⟩

set_option maxHeartbeats 4000000 in
set_option maxRecDepth 20000 in
/-- OneRoof$Acts.start -/
theorem sf_150_42es5_0 {L : Nat} {xs : Nat → Int} {vb : Bool} {d : Nat} {σ α : Nat → Nat → Int} {κ : Nat → Option Nat} {ρ : Nat} {x3 : Int} {x4 : Int} (hI : qI σ α κ ρ) (r3 : (-2147483648) ≤ x3 ∧ x3 ≤ 2147483647) (r4 : (-2147483648) ≤ x4 ∧ x4 ≤ 2147483647) (p0 : 0 ≤ σ 42 1 ∧ σ 42 1 ≤ 21) : qm_T (qe L xs vb) (d + 7) 150 [.ref 42, .int (qz 5), .int (qz 0), .int (qz x3), .int (qz x4)] (qw σ α κ ρ) (fun r w' => ∃ σ' α', w' = qw σ' α' κ ρ ∧ qI σ' α' κ ρ ∧ qFr [(42, 1)] [43] σ α σ' α' ∧ σ' 42 1 = σ 42 1 + 3 ∧ ∃ v : Int, r = some (.int (qz v)) ∧ ((-2147483648) ≤ v ∧ v ≤ 2147483647) ∧ v = qac_s (qac_a x3 x4) (qac_x 2 x4) ∧ α' 43 = qac_t [60, 1, 11] (α 43) (σ 42 1)) := by
  refine qr_start (d := d + 6) qv_e150 (Nat.le_of_ble_eq_true rfl) ?_
  show qr_W (qe L xs vb) (d + 6) qx_e150 _ (0, [(0, .ref 42), (1, .int (qz 5)), (2, .int (qz 0)), (3, .int (qz x3)), (4, .int (qz x4))], [], _, 0, 0)
  have hF0 := qFr_rf [(42, 1)] [43] σ α
  have hz42_1 : (-2147483648) ≤ σ 42 1 ∧ σ 42 1 ≤ 2147483647 := hI.1 42 1
  refine qr_aload_n 1 rfl rfl rfl ?_
  refine qr_iload_n 2 rfl rfl rfl ?_
  refine qr_iload_n 3 rfl rfl rfl ?_
  refine qr_iload_n 4 rfl rfl rfl ?_
  refine qr_iload 6 rfl rfl rfl ?_
  refine qr_iconst 7 rfl rfl ?_
  have hs1 : (-2147483648) ≤ σ 42 1 ∧ σ 42 1 ≤ 2147483647 := hI.1 42 1
  refine qr_callN 10 rfl rfl rfl (sf_151_42er5_0 (d := d + 0) hI r3 r4 (by decide) (by omega)) ?_
  rintro _ _ ⟨σ6, α7, rfl, hI8, hG9, hw5, v2, rfl, hv2, hx3, hx4⟩
  have hF10 : qFr [(42, 1)] [43] σ α σ6 α7 := qFr_t hF0 hG9 (by decide) (by decide)
  have hs11 : (-2147483648) ≤ σ6 42 1 ∧ σ6 42 1 ≤ 2147483647 := hI8.1 42 1
  show qr_W (qe L xs vb) (d + 6) qx_e150 _ (10, _, [.int (qz v2)], qw σ6 α7 κ ρ, 0, 0)
  refine qr_retI rfl rfl (by decide) (by decide) ?_
  exact ⟨_, _, rfl, hI8, hF10, (by have hw : σ6 42 1 = (σ6 42 1) := rfl; omega), v2, rfl, hv2, hx3, hx4⟩

set_option maxHeartbeats 4000000 in
set_option maxRecDepth 20000 in
/-- OneRoof$Acts.begin -/
theorem sf_153_42eb10_0_5 {L : Nat} {xs : Nat → Int} {vb : Bool} {d : Nat} {σ α : Nat → Nat → Int} {κ : Nat → Option Nat} {ρ : Nat} {x4 : Int} {x5 : Int} {x6 : Int} (hI : qI σ α κ ρ) (r4 : (-2147483648) ≤ x4 ∧ x4 ≤ 2147483647) (r5 : (-2147483648) ≤ x5 ∧ x5 ≤ 2147483647) (r6 : 0 ≤ x6 ∧ x6 ≤ 38) (p0 : 0 ≤ σ 42 1 ∧ σ 42 1 ≤ 20) : qm_T (qe L xs vb) (d + 7) 153 [.ref 42, .int (qz 10), .int (qz 0), .int (qz 5), .int (qz x4), .int (qz x5), .int (qz x6)] (qw σ α κ ρ) (fun r w' => ∃ σ' α', w' = qw σ' α' κ ρ ∧ qI σ' α' κ ρ ∧ qFr [(42, 1)] [43] σ α σ' α' ∧ σ' 42 1 = σ 42 1 + 4 ∧ ∃ v : Int, r = some (.int (qz v)) ∧ ((-2147483648) ≤ v ∧ v ≤ 2147483647) ∧ v = qac_m (qac_s (qac_a x4 x5) (qac_x 2 x5)) 2 ∧ α' 43 = qac_t [10, 60, 1, 11] (α 43) (σ 42 1)) := by
  refine qr_start (d := d + 6) qv_e153 (Nat.le_of_ble_eq_true rfl) ?_
  show qr_W (qe L xs vb) (d + 6) qx_e153 _ (0, [(0, .ref 42), (1, .int (qz 10)), (2, .int (qz 0)), (3, .int (qz 5)), (4, .int (qz x4)), (5, .int (qz x5)), (6, .int (qz x6))], [], _, 0, 0)
  have hF0 := qFr_rf [(42, 1)] [43] σ α
  have hz42_1 : (-2147483648) ≤ σ 42 1 ∧ σ 42 1 ≤ 2147483647 := hI.1 42 1
  refine qr_aload_n 1 rfl rfl rfl ?_
  refine qr_get 4 rfl rfl rfl (by decide) rfl ?_
  refine qr_aload_n 5 rfl rfl rfl ?_
  refine qr_get 8 rfl rfl rfl (by decide) rfl ?_
  refine qr_alen 9 rfl rfl (by first | exact Or.inl (by decide) | exact Or.inr (Or.inl rfl) | exact Or.inr (Or.inr (Or.inl rfl)) | exact Or.inr (Or.inr (Or.inr (Or.inl rfl)))) rfl ?_
  refine qy_v 24 rfl ?_
  refine qr_icmp_ge 22 12 rfl rfl rfl hz42_1 (by decide) (fun h => False.elim (by omega)) (fun h1 => ?_)
  refine qr_aload_n 13 rfl rfl rfl ?_
  refine qr_get 16 rfl rfl rfl (by decide) rfl ?_
  refine qr_aload_n 17 rfl rfl rfl ?_
  refine qr_get 20 rfl rfl rfl (by decide) rfl ?_
  refine qr_iload_n 21 rfl rfl rfl ?_
  refine qr_iastore 22 rfl (by decide) rfl (by omega) (by decide) rfl ?_
  refine qy_wA (qw_r α 43 (qzu (α 43) ((σ 42 1) : Int).toNat 10)) rfl (fun α2 e3 => ?_)
  have hI4 : qI σ α2 κ ρ := by rw [e3]; exact qI_r hI 43 _ rfl (show (-2147483648) ≤ 10 ∧ 10 ≤ 2147483647 by omega)
  have hF5 : qFr [(42, 1)] [43] σ α σ α2 := by rw [e3]; exact qFr_r hF0 43 _ (by decide)
  refine qr_aload_n 23 rfl rfl rfl ?_
  refine qr_dup 24 rfl rfl rfl ?_
  refine qr_get 27 rfl rfl rfl (by decide) rfl ?_
  refine qr_iconst 28 rfl rfl ?_
  refine qr_iadd 29 rfl rfl ?_
  refine qr_put 32 rfl (by decide) rfl (Nat.le_of_ble_eq_true rfl) (Nat.le_of_ble_eq_true rfl) (Or.inl rfl) (qr_fitI rfl _) rfl ?_
  refine qy_wS (qw_s σ 42 1 ((σ 42 1) + 1)) rfl (fun σ6 e7 => ?_)
  have hI8 : qI σ6 α2 κ ρ := by rw [e7]; exact qI_s hI4 42 1 rfl (show (-2147483648) ≤ ((σ 42 1) + 1) ∧ ((σ 42 1) + 1) ≤ 2147483647 by omega)
  have hF9 : qFr [(42, 1)] [43] σ α σ6 α2 := by rw [e7]; exact qFr_s hF5 42 1 _ (by decide)
  refine qr_getst 35 rfl rfl ?_
  refine qr_iload_n 36 rfl rfl rfl ?_
  refine qr_iaload 37 rfl rfl (by decide) (by decide) rfl ?_
  refine qy_v (-1) (by decide) ?_
  refine qr_istore _ 39 rfl (by decide) rfl rfl ?_
  refine qr_iload_n 40 rfl rfl rfl ?_
  refine qr_look (off := 139) 179 rfl (by omega) (by decide) (by decide) rfl ?_
  refine qr_aload_n 180 rfl rfl rfl ?_
  refine qr_iload_n 181 rfl rfl rfl ?_
  refine qr_iconst 182 rfl rfl ?_
  refine qr_iload 184 rfl rfl rfl ?_
  refine qr_iload 186 rfl rfl rfl ?_
  refine qr_iload 188 rfl rfl rfl ?_
  have hr10 : σ6 42 1 = ((σ 42 1) + 1) := (congrFun (congrFun e7 42) 1).trans rfl
  have hs11 : (-2147483648) ≤ σ6 42 1 ∧ σ6 42 1 ≤ 2147483647 := hI8.1 42 1
  have hs12 : σ6 42 1 = ((σ 42 1) + 1) := (congrFun (congrFun e7 42) 1).trans rfl
  refine qr_callN 191 rfl rfl rfl (sf_151_42er5_0 (d := d + 0) hI8 r4 r5 r6 (by omega)) ?_
  rintro _ _ ⟨σ17, α18, rfl, hI19, hG20, hw16, v13, rfl, hv13, hx14, hx15⟩
  have hF21 : qFr [(42, 1)] [43] σ α σ17 α18 := qFr_t hF9 hG20 (by decide) (by decide)
  have hs22 : (-2147483648) ≤ σ17 42 1 ∧ σ17 42 1 ≤ 2147483647 := hI19.1 42 1
  show qr_W (qe L xs vb) (d + 6) qx_e153 _ (191, _, [.int (qz v13)], qw σ17 α18 κ ρ, 0, 0)
  refine qr_iconst 192 rfl rfl ?_
  refine qr_imul 193 rfl rfl ?_
  refine qy_canE (fun v23 hv23 hev23 => ?_)
  refine qr_retI rfl rfl (by decide) (by decide) ?_
  exact ⟨_, _, rfl, hI19, hF21, (by have hw : σ17 42 1 = (σ17 42 1) := rfl; omega), v23, rfl, hv23, ((qac_v hev23 (by omega)).trans (by rw [hx14]; rfl)), (by rw [hx15, show α2 43 = qzu (α 43) (σ 42 1 : Int).toNat 10 from ((congrFun e3 43).trans (qw_r_eq.trans (congrArg (fun f => qzu f ((σ 42 1) : Int).toNat 10) rfl))), show σ6 42 1 = σ 42 1 + 1 by omega]; rfl)⟩

set_option maxHeartbeats 4000000 in
set_option maxRecDepth 20000 in
/-- OneRoof$Acts.runFrom -/
theorem sf_152_42ef5_5_1 {L : Nat} {xs : Nat → Int} {vb : Bool} {d : Nat} {σ α : Nat → Nat → Int} {κ : Nat → Option Nat} {ρ : Nat} {x4 : Int} {x5 : Int} {x6 : Int} (hI : qI σ α κ ρ) (r4 : (-2147483648) ≤ x4 ∧ x4 ≤ 2147483647) (r5 : (-2147483648) ≤ x5 ∧ x5 ≤ 2147483647) (r6 : 0 ≤ x6 ∧ x6 ≤ 37) (p0 : 0 ≤ σ 42 1 ∧ σ 42 1 ≤ 20) : qm_T (qe L xs vb) (d + 8) 152 [.ref 42, .int (qz 5), .int (qz 5), .int (qz 1), .int (qz x4), .int (qz x5), .int (qz x6)] (qw σ α κ ρ) (fun r w' => ∃ σ' α', w' = qw σ' α' κ ρ ∧ qI σ' α' κ ρ ∧ qFr [(42, 1)] [43] σ α σ' α' ∧ σ' 42 1 = σ 42 1 + 4 ∧ ∃ v : Int, r = some (.int (qz v)) ∧ ((-2147483648) ≤ v ∧ v ≤ 2147483647) ∧ v = qac_m (qac_s (qac_a x4 x5) (qac_x 2 x5)) 2 ∧ α' 43 = qac_t [10, 60, 1, 11] (α 43) (σ 42 1)) := by
  refine qr_start (d := d + 7) qv_e152 (Nat.le_of_ble_eq_true rfl) ?_
  show qr_W (qe L xs vb) (d + 7) qx_e152 _ (0, [(0, .ref 42), (1, .int (qz 5)), (2, .int (qz 5)), (3, .int (qz 1)), (4, .int (qz x4)), (5, .int (qz x5)), (6, .int (qz x6))], [], _, 0, 0)
  have hF0 := qFr_rf [(42, 1)] [43] σ α
  have hz42_1 : (-2147483648) ≤ σ 42 1 ∧ σ 42 1 ≤ 2147483647 := hI.1 42 1
  refine qr_iload_n 1 rfl rfl rfl ?_
  refine qr_istore _ 3 rfl (by decide) rfl rfl ?_
  refine qr_iconst 4 rfl rfl ?_
  refine qr_istore _ 6 rfl (by decide) rfl rfl ?_
  refine qr_iload 8 rfl rfl rfl ?_
  refine qr_getst 11 rfl rfl ?_
  refine qr_alen 12 rfl rfl (by first | exact Or.inl (by decide) | exact Or.inr (Or.inl rfl) | exact Or.inr (Or.inr (Or.inl rfl)) | exact Or.inr (Or.inr (Or.inr (Or.inl rfl)))) rfl ?_
  refine qy_v 7 rfl ?_
  refine qr_icmp_ge 89 15 rfl rfl rfl (by decide) (by decide) (fun h => False.elim (by omega)) (fun h1 => ?_)
  refine qr_iload 17 rfl rfl rfl ?_
  refine qr_if_lt 89 20 rfl rfl rfl (by decide) (fun h => False.elim (by omega)) (fun h2 => ?_)
  refine qr_iload 22 rfl rfl rfl ?_
  refine qr_getst 25 rfl rfl ?_
  refine qr_alen 26 rfl rfl (by first | exact Or.inl (by decide) | exact Or.inr (Or.inl rfl) | exact Or.inr (Or.inr (Or.inl rfl)) | exact Or.inr (Or.inr (Or.inr (Or.inl rfl)))) rfl ?_
  refine qy_v 7 rfl ?_
  refine qr_icmp_ge 89 29 rfl rfl rfl (by decide) (by decide) (fun h => False.elim (by omega)) (fun h3 => ?_)
  refine qr_getst 32 rfl rfl ?_
  refine qr_iload 34 rfl rfl rfl ?_
  refine qr_iconst 35 rfl rfl ?_
  refine qr_imul 36 rfl rfl ?_
  refine qy_v 20 rfl ?_
  refine qr_iload_n 37 rfl rfl rfl ?_
  refine qr_iadd 38 rfl rfl ?_
  refine qy_v 21 rfl ?_
  refine qr_iaload 39 rfl rfl (by decide) (by decide) rfl ?_
  refine qy_v 0 (by decide) ?_
  refine qr_istore _ 41 rfl (by decide) rfl rfl ?_
  refine qr_iload 43 rfl rfl rfl ?_
  refine qr_if_eq 75 46 rfl rfl rfl (by decide) (fun h4 => ?_) (fun h => False.elim (by omega))
  refine qr_getst 78 rfl rfl ?_
  refine qr_iload 80 rfl rfl rfl ?_
  refine qr_iaload 81 rfl rfl (by decide) (by decide) rfl ?_
  refine qy_v 4 (by decide) ?_
  refine qr_istore _ 83 rfl (by decide) rfl rfl ?_
  refine qr_iinc _ 86 rfl rfl (by decide) rfl rfl ?_
  refine qr_goto 6 rfl rfl ?_
  refine qr_iload 8 rfl rfl rfl ?_
  refine qr_getst 11 rfl rfl ?_
  refine qr_alen 12 rfl rfl (by first | exact Or.inl (by decide) | exact Or.inr (Or.inl rfl) | exact Or.inr (Or.inr (Or.inl rfl)) | exact Or.inr (Or.inr (Or.inr (Or.inl rfl)))) rfl ?_
  refine qy_v 7 rfl ?_
  refine qr_icmp_ge 89 15 rfl rfl rfl (by omega) (by decide) (fun h => False.elim (by omega)) (fun h5 => ?_)
  refine qr_iload 17 rfl rfl rfl ?_
  refine qr_if_lt 89 20 rfl rfl rfl (by decide) (fun h => False.elim (by omega)) (fun h6 => ?_)
  refine qr_iload 22 rfl rfl rfl ?_
  refine qr_getst 25 rfl rfl ?_
  refine qr_alen 26 rfl rfl (by first | exact Or.inl (by decide) | exact Or.inr (Or.inl rfl) | exact Or.inr (Or.inr (Or.inl rfl)) | exact Or.inr (Or.inr (Or.inr (Or.inl rfl)))) rfl ?_
  refine qy_v 7 rfl ?_
  refine qr_icmp_ge 89 29 rfl rfl rfl (by decide) (by decide) (fun h => False.elim (by omega)) (fun h7 => ?_)
  refine qr_getst 32 rfl rfl ?_
  refine qr_iload 34 rfl rfl rfl ?_
  refine qr_iconst 35 rfl rfl ?_
  refine qr_imul 36 rfl rfl ?_
  refine qy_v 16 rfl ?_
  refine qr_iload_n 37 rfl rfl rfl ?_
  refine qr_iadd 38 rfl rfl ?_
  refine qy_v 17 rfl ?_
  refine qr_iaload 39 rfl rfl (by decide) (by decide) rfl ?_
  refine qy_v 0 (by decide) ?_
  refine qr_istore _ 41 rfl (by decide) rfl rfl ?_
  refine qr_iload 43 rfl rfl rfl ?_
  refine qr_if_eq 75 46 rfl rfl rfl (by decide) (fun h8 => ?_) (fun h => False.elim (by omega))
  as_aux_lemma =>
    refine qr_getst 78 rfl rfl ?_
    refine qr_iload 80 rfl rfl rfl ?_
    refine qr_iaload 81 rfl rfl (by decide) (by decide) rfl ?_
    refine qy_v 0 (by decide) ?_
    refine qr_istore _ 83 rfl (by decide) rfl rfl ?_
    refine qr_iinc _ 86 rfl rfl (by decide) rfl rfl ?_
    refine qr_goto 6 rfl rfl ?_
    refine qr_iload 8 rfl rfl rfl ?_
    refine qr_getst 11 rfl rfl ?_
    refine qr_alen 12 rfl rfl (by first | exact Or.inl (by decide) | exact Or.inr (Or.inl rfl) | exact Or.inr (Or.inr (Or.inl rfl)) | exact Or.inr (Or.inr (Or.inr (Or.inl rfl)))) rfl ?_
    refine qy_v 7 rfl ?_
    refine qr_icmp_ge 89 15 rfl rfl rfl (by omega) (by decide) (fun h => False.elim (by omega)) (fun h9 => ?_)
    refine qr_iload 17 rfl rfl rfl ?_
    refine qr_if_lt 89 20 rfl rfl rfl (by decide) (fun h => False.elim (by omega)) (fun h10 => ?_)
    refine qr_iload 22 rfl rfl rfl ?_
    refine qr_getst 25 rfl rfl ?_
    refine qr_alen 26 rfl rfl (by first | exact Or.inl (by decide) | exact Or.inr (Or.inl rfl) | exact Or.inr (Or.inr (Or.inl rfl)) | exact Or.inr (Or.inr (Or.inr (Or.inl rfl)))) rfl ?_
    refine qy_v 7 rfl ?_
    refine qr_icmp_ge 89 29 rfl rfl rfl (by decide) (by decide) (fun h => False.elim (by omega)) (fun h11 => ?_)
    refine qr_getst 32 rfl rfl ?_
    refine qr_iload 34 rfl rfl rfl ?_
    refine qr_iconst 35 rfl rfl ?_
    refine qr_imul 36 rfl rfl ?_
    refine qy_v 0 rfl ?_
    refine qr_iload_n 37 rfl rfl rfl ?_
    refine qr_iadd 38 rfl rfl ?_
    refine qy_v 1 rfl ?_
    refine qr_iaload 39 rfl rfl (by decide) (by decide) rfl ?_
    refine qy_v 10 (by decide) ?_
    refine qr_istore _ 41 rfl (by decide) rfl rfl ?_
    refine qr_iload 43 rfl rfl rfl ?_
    refine qr_if_eq 75 46 rfl rfl rfl (by decide) (fun h => False.elim (by omega)) (fun h12 => ?_)
    refine qr_iload 48 rfl rfl rfl ?_
    refine qr_bipush 50 rfl (by decide) rfl ?_
    refine qr_icmp_le 57 53 rfl rfl rfl (qrg r6 (by decide) (by decide)) (by decide) (fun h13 => ?_) (fun h => False.elim (by omega))
    refine qr_aload_n 58 rfl rfl rfl ?_
    refine qr_iload 60 rfl rfl rfl ?_
    refine qr_iload 62 rfl rfl rfl ?_
    refine qr_iload_n 63 rfl rfl rfl ?_
    refine qr_iload 65 rfl rfl rfl ?_
    refine qr_iload 67 rfl rfl rfl ?_
    refine qr_iload 69 rfl rfl rfl ?_
    refine qr_iconst 70 rfl rfl ?_
    refine qr_iadd 71 rfl rfl ?_
    have hs14 : (-2147483648) ≤ σ 42 1 ∧ σ 42 1 ≤ 2147483647 := hI.1 42 1
    refine qr_callN 74 rfl rfl rfl (sf_153_42eb10_0_5 (d := d + 0) hI r4 r5 (by omega) (by omega)) ?_
    rintro _ _ ⟨σ19, α20, rfl, hI21, hG22, hw18, v15, rfl, hv15, hx16, hx17⟩
    have hF23 : qFr [(42, 1)] [43] σ α σ19 α20 := qFr_t hF0 hG22 (by decide) (by decide)
    have hs24 : (-2147483648) ≤ σ19 42 1 ∧ σ19 42 1 ≤ 2147483647 := hI21.1 42 1
    show qr_W (qe L xs vb) (d + 7) qx_e152 _ (74, _, [.int (qz v15)], qw σ19 α20 κ ρ, 0, 0)
    refine qr_retI rfl rfl (by decide) (by decide) ?_
    exact ⟨_, _, rfl, hI21, hF23, (by have hw : σ19 42 1 = (σ19 42 1) := rfl; omega), v15, rfl, hv15, hx16, hx17⟩

set_option maxHeartbeats 4000000 in
set_option maxRecDepth 20000 in
/-- OneRoof$Acts.run -/
theorem sf_151_42er5_1 {L : Nat} {xs : Nat → Int} {vb : Bool} {d : Nat} {σ α : Nat → Nat → Int} {κ : Nat → Option Nat} {ρ : Nat} {x3 : Int} {x4 : Int} {x5 : Int} (hI : qI σ α κ ρ) (r3 : (-2147483648) ≤ x3 ∧ x3 ≤ 2147483647) (r4 : (-2147483648) ≤ x4 ∧ x4 ≤ 2147483647) (r5 : 0 ≤ x5 ∧ x5 ≤ 37) (p0 : 0 ≤ σ 42 1 ∧ σ 42 1 ≤ 20) : qm_T (qe L xs vb) (d + 9) 151 [.ref 42, .int (qz 5), .int (qz 1), .int (qz x3), .int (qz x4), .int (qz x5)] (qw σ α κ ρ) (fun r w' => ∃ σ' α', w' = qw σ' α' κ ρ ∧ qI σ' α' κ ρ ∧ qFr [(42, 1)] [43] σ α σ' α' ∧ σ' 42 1 = σ 42 1 + 4 ∧ ∃ v : Int, r = some (.int (qz v)) ∧ ((-2147483648) ≤ v ∧ v ≤ 2147483647) ∧ v = qac_m (qac_s (qac_a x3 x4) (qac_x 2 x4)) 2 ∧ α' 43 = qac_t [10, 60, 1, 11] (α 43) (σ 42 1)) := by
  refine qr_start (d := d + 8) qv_e151 (Nat.le_of_ble_eq_true rfl) ?_
  show qr_W (qe L xs vb) (d + 8) qx_e151 _ (0, [(0, .ref 42), (1, .int (qz 5)), (2, .int (qz 1)), (3, .int (qz x3)), (4, .int (qz x4)), (5, .int (qz x5))], [], _, 0, 0)
  have hF0 := qFr_rf [(42, 1)] [43] σ α
  have hz42_1 : (-2147483648) ≤ σ 42 1 ∧ σ 42 1 ≤ 2147483647 := hI.1 42 1
  refine qr_aload_n 1 rfl rfl rfl ?_
  refine qr_iload_n 2 rfl rfl rfl ?_
  refine qr_iload_n 3 rfl rfl rfl ?_
  refine qr_iload_n 4 rfl rfl rfl ?_
  refine qr_iload_n 5 rfl rfl rfl ?_
  refine qr_iload 7 rfl rfl rfl ?_
  refine qr_iload 9 rfl rfl rfl ?_
  have hs1 : (-2147483648) ≤ σ 42 1 ∧ σ 42 1 ≤ 2147483647 := hI.1 42 1
  refine qr_callN 12 rfl rfl rfl (sf_152_42ef5_5_1 (d := d + 0) hI r3 r4 r5 (by omega)) ?_
  rintro _ _ ⟨σ6, α7, rfl, hI8, hG9, hw5, v2, rfl, hv2, hx3, hx4⟩
  have hF10 : qFr [(42, 1)] [43] σ α σ6 α7 := qFr_t hF0 hG9 (by decide) (by decide)
  have hs11 : (-2147483648) ≤ σ6 42 1 ∧ σ6 42 1 ≤ 2147483647 := hI8.1 42 1
  show qr_W (qe L xs vb) (d + 8) qx_e151 _ (12, _, [.int (qz v2)], qw σ6 α7 κ ρ, 0, 0)
  refine qr_retI rfl rfl (by decide) (by decide) ?_
  exact ⟨_, _, rfl, hI8, hF10, (by have hw : σ6 42 1 = (σ6 42 1) := rfl; omega), v2, rfl, hv2, hx3, hx4⟩

set_option maxHeartbeats 4000000 in
set_option maxRecDepth 20000 in
/-- OneRoof$Acts.start -/
theorem sf_150_42es5_1 {L : Nat} {xs : Nat → Int} {vb : Bool} {d : Nat} {σ α : Nat → Nat → Int} {κ : Nat → Option Nat} {ρ : Nat} {x3 : Int} {x4 : Int} (hI : qI σ α κ ρ) (r3 : (-2147483648) ≤ x3 ∧ x3 ≤ 2147483647) (r4 : (-2147483648) ≤ x4 ∧ x4 ≤ 2147483647) (p0 : 0 ≤ σ 42 1 ∧ σ 42 1 ≤ 20) : qm_T (qe L xs vb) (d + 10) 150 [.ref 42, .int (qz 5), .int (qz 1), .int (qz x3), .int (qz x4)] (qw σ α κ ρ) (fun r w' => ∃ σ' α', w' = qw σ' α' κ ρ ∧ qI σ' α' κ ρ ∧ qFr [(42, 1)] [43] σ α σ' α' ∧ σ' 42 1 = σ 42 1 + 4 ∧ ∃ v : Int, r = some (.int (qz v)) ∧ ((-2147483648) ≤ v ∧ v ≤ 2147483647) ∧ v = qac_m (qac_s (qac_a x3 x4) (qac_x 2 x4)) 2 ∧ α' 43 = qac_t [10, 60, 1, 11] (α 43) (σ 42 1)) := by
  refine qr_start (d := d + 9) qv_e150 (Nat.le_of_ble_eq_true rfl) ?_
  show qr_W (qe L xs vb) (d + 9) qx_e150 _ (0, [(0, .ref 42), (1, .int (qz 5)), (2, .int (qz 1)), (3, .int (qz x3)), (4, .int (qz x4))], [], _, 0, 0)
  have hF0 := qFr_rf [(42, 1)] [43] σ α
  have hz42_1 : (-2147483648) ≤ σ 42 1 ∧ σ 42 1 ≤ 2147483647 := hI.1 42 1
  refine qr_aload_n 1 rfl rfl rfl ?_
  refine qr_iload_n 2 rfl rfl rfl ?_
  refine qr_iload_n 3 rfl rfl rfl ?_
  refine qr_iload_n 4 rfl rfl rfl ?_
  refine qr_iload 6 rfl rfl rfl ?_
  refine qr_iconst 7 rfl rfl ?_
  have hs1 : (-2147483648) ≤ σ 42 1 ∧ σ 42 1 ≤ 2147483647 := hI.1 42 1
  refine qr_callN 10 rfl rfl rfl (sf_151_42er5_1 (d := d + 0) hI r3 r4 (by decide) (by omega)) ?_
  rintro _ _ ⟨σ6, α7, rfl, hI8, hG9, hw5, v2, rfl, hv2, hx3, hx4⟩
  have hF10 : qFr [(42, 1)] [43] σ α σ6 α7 := qFr_t hF0 hG9 (by decide) (by decide)
  have hs11 : (-2147483648) ≤ σ6 42 1 ∧ σ6 42 1 ≤ 2147483647 := hI8.1 42 1
  show qr_W (qe L xs vb) (d + 9) qx_e150 _ (10, _, [.int (qz v2)], qw σ6 α7 κ ρ, 0, 0)
  refine qr_retI rfl rfl (by decide) (by decide) ?_
  exact ⟨_, _, rfl, hI8, hF10, (by have hw : σ6 42 1 = (σ6 42 1) := rfl; omega), v2, rfl, hv2, hx3, hx4⟩

set_option maxHeartbeats 4000000 in
set_option maxRecDepth 20000 in
/-- OneRoof$Acts.start -/
theorem sf_150_42es5_2 {L : Nat} {xs : Nat → Int} {vb : Bool} {d : Nat} {σ α : Nat → Nat → Int} {κ : Nat → Option Nat} {ρ : Nat} {x3 : Int} {x4 : Int} (hI : qI σ α κ ρ) (r3 : (-2147483648) ≤ x3 ∧ x3 ≤ 2147483647) (r4 : (-2147483648) ≤ x4 ∧ x4 ≤ 2147483647) (p0 : 0 ≤ σ 42 1 ∧ σ 42 1 ≤ 23) : qm_T (qe L xs vb) (d + 4) 150 [.ref 42, .int (qz 5), .int (qz 2), .int (qz x3), .int (qz x4)] (qw σ α κ ρ) (fun r w' => ∃ σ' α', w' = qw σ' α' κ ρ ∧ qI σ' α' κ ρ ∧ qFr [(42, 1)] [43] σ α σ' α' ∧ σ' 42 1 = σ 42 1 + 1 ∧ ∃ v : Int, r = some (.int (qz v)) ∧ ((-2147483648) ≤ v ∧ v ≤ 2147483647) ∧ v = qac_x x3 x4 ∧ α' 43 = qac_t [11] (α 43) (σ 42 1)) := by
  refine qr_start (d := d + 3) qv_e150 (Nat.le_of_ble_eq_true rfl) ?_
  show qr_W (qe L xs vb) (d + 3) qx_e150 _ (0, [(0, .ref 42), (1, .int (qz 5)), (2, .int (qz 2)), (3, .int (qz x3)), (4, .int (qz x4))], [], _, 0, 0)
  have hF0 := qFr_rf [(42, 1)] [43] σ α
  have hz42_1 : (-2147483648) ≤ σ 42 1 ∧ σ 42 1 ≤ 2147483647 := hI.1 42 1
  refine qr_aload_n 1 rfl rfl rfl ?_
  refine qr_iload_n 2 rfl rfl rfl ?_
  refine qr_iload_n 3 rfl rfl rfl ?_
  refine qr_iload_n 4 rfl rfl rfl ?_
  refine qr_iload 6 rfl rfl rfl ?_
  refine qr_iconst 7 rfl rfl ?_
  have hs1 : (-2147483648) ≤ σ 42 1 ∧ σ 42 1 ≤ 2147483647 := hI.1 42 1
  refine qr_callN 10 rfl rfl rfl (sf_151_42er5_2 (d := d + 0) hI r3 r4 (by decide) (by omega)) ?_
  rintro _ _ ⟨σ6, α7, rfl, hI8, hG9, hw5, v2, rfl, hv2, hx3, hx4⟩
  have hF10 : qFr [(42, 1)] [43] σ α σ6 α7 := qFr_t hF0 hG9 (by decide) (by decide)
  have hs11 : (-2147483648) ≤ σ6 42 1 ∧ σ6 42 1 ≤ 2147483647 := hI8.1 42 1
  show qr_W (qe L xs vb) (d + 3) qx_e150 _ (10, _, [.int (qz v2)], qw σ6 α7 κ ρ, 0, 0)
  refine qr_retI rfl rfl (by decide) (by decide) ?_
  exact ⟨_, _, rfl, hI8, hF10, (by have hw : σ6 42 1 = (σ6 42 1) := rfl; omega), v2, rfl, hv2, hx3, hx4⟩

set_option maxHeartbeats 4000000 in
set_option maxRecDepth 20000 in
/-- OneRoof$Acts.begin -/
theorem sf_153_42eb2_0_5 {L : Nat} {xs : Nat → Int} {vb : Bool} {d : Nat} {σ α : Nat → Nat → Int} {κ : Nat → Option Nat} {ρ : Nat} {x4 : Int} {x5 : Int} {x6 : Int} (hI : qI σ α κ ρ) (r4 : (-2147483648) ≤ x4 ∧ x4 ≤ 2147483647) (r5 : (-2147483648) ≤ x5 ∧ x5 ≤ 2147483647) (r6 : 0 ≤ x6 ∧ x6 ≤ 37) (p0 : 0 ≤ σ 42 1 ∧ σ 42 1 ≤ 18) : qm_T (qe L xs vb) (d + 10) 153 [.ref 42, .int (qz 2), .int (qz 0), .int (qz 5), .int (qz x4), .int (qz x5), .int (qz x6)] (qw σ α κ ρ) (fun r w' => ∃ σ' α', w' = qw σ' α' κ ρ ∧ qI σ' α' κ ρ ∧ qFr [(42, 1)] [43] σ α σ' α' ∧ σ' 42 1 = σ 42 1 + 6 ∧ ∃ v : Int, r = some (.int (qz v)) ∧ ((-2147483648) ≤ v ∧ v ≤ 2147483647) ∧ v = qac_s (qac_m (qac_s (qac_a x4 x5) (qac_x 2 x5)) 2) (qac_x 1 x5) ∧ α' 43 = qac_t [2, 10, 60, 1, 11, 11] (α 43) (σ 42 1)) := by
  refine qr_start (d := d + 9) qv_e153 (Nat.le_of_ble_eq_true rfl) ?_
  show qr_W (qe L xs vb) (d + 9) qx_e153 _ (0, [(0, .ref 42), (1, .int (qz 2)), (2, .int (qz 0)), (3, .int (qz 5)), (4, .int (qz x4)), (5, .int (qz x5)), (6, .int (qz x6))], [], _, 0, 0)
  have hF0 := qFr_rf [(42, 1)] [43] σ α
  have hz42_1 : (-2147483648) ≤ σ 42 1 ∧ σ 42 1 ≤ 2147483647 := hI.1 42 1
  refine qr_aload_n 1 rfl rfl rfl ?_
  refine qr_get 4 rfl rfl rfl (by decide) rfl ?_
  refine qr_aload_n 5 rfl rfl rfl ?_
  refine qr_get 8 rfl rfl rfl (by decide) rfl ?_
  refine qr_alen 9 rfl rfl (by first | exact Or.inl (by decide) | exact Or.inr (Or.inl rfl) | exact Or.inr (Or.inr (Or.inl rfl)) | exact Or.inr (Or.inr (Or.inr (Or.inl rfl)))) rfl ?_
  refine qy_v 24 rfl ?_
  refine qr_icmp_ge 22 12 rfl rfl rfl hz42_1 (by decide) (fun h => False.elim (by omega)) (fun h1 => ?_)
  refine qr_aload_n 13 rfl rfl rfl ?_
  refine qr_get 16 rfl rfl rfl (by decide) rfl ?_
  refine qr_aload_n 17 rfl rfl rfl ?_
  refine qr_get 20 rfl rfl rfl (by decide) rfl ?_
  refine qr_iload_n 21 rfl rfl rfl ?_
  refine qr_iastore 22 rfl (by decide) rfl (by omega) (by decide) rfl ?_
  refine qy_wA (qw_r α 43 (qzu (α 43) ((σ 42 1) : Int).toNat 2)) rfl (fun α2 e3 => ?_)
  have hI4 : qI σ α2 κ ρ := by rw [e3]; exact qI_r hI 43 _ rfl (show (-2147483648) ≤ 2 ∧ 2 ≤ 2147483647 by omega)
  have hF5 : qFr [(42, 1)] [43] σ α σ α2 := by rw [e3]; exact qFr_r hF0 43 _ (by decide)
  refine qr_aload_n 23 rfl rfl rfl ?_
  refine qr_dup 24 rfl rfl rfl ?_
  refine qr_get 27 rfl rfl rfl (by decide) rfl ?_
  refine qr_iconst 28 rfl rfl ?_
  refine qr_iadd 29 rfl rfl ?_
  refine qr_put 32 rfl (by decide) rfl (Nat.le_of_ble_eq_true rfl) (Nat.le_of_ble_eq_true rfl) (Or.inl rfl) (qr_fitI rfl _) rfl ?_
  refine qy_wS (qw_s σ 42 1 ((σ 42 1) + 1)) rfl (fun σ6 e7 => ?_)
  have hI8 : qI σ6 α2 κ ρ := by rw [e7]; exact qI_s hI4 42 1 rfl (show (-2147483648) ≤ ((σ 42 1) + 1) ∧ ((σ 42 1) + 1) ≤ 2147483647 by omega)
  have hF9 : qFr [(42, 1)] [43] σ α σ6 α2 := by rw [e7]; exact qFr_s hF5 42 1 _ (by decide)
  refine qr_getst 35 rfl rfl ?_
  refine qr_iload_n 36 rfl rfl rfl ?_
  refine qr_iaload 37 rfl rfl (by decide) (by decide) rfl ?_
  refine qy_v (-1) (by decide) ?_
  refine qr_istore _ 39 rfl (by decide) rfl rfl ?_
  refine qr_iload_n 40 rfl rfl rfl ?_
  refine qr_look (off := 114) 154 rfl (by omega) (by decide) (by decide) rfl ?_
  refine qr_aload_n 155 rfl rfl rfl ?_
  refine qr_iload_n 156 rfl rfl rfl ?_
  refine qr_iconst 157 rfl rfl ?_
  refine qr_iload 159 rfl rfl rfl ?_
  refine qr_iload 161 rfl rfl rfl ?_
  refine qr_iload 163 rfl rfl rfl ?_
  have hr10 : σ6 42 1 = ((σ 42 1) + 1) := (congrFun (congrFun e7 42) 1).trans rfl
  have hs11 : (-2147483648) ≤ σ6 42 1 ∧ σ6 42 1 ≤ 2147483647 := hI8.1 42 1
  have hs12 : σ6 42 1 = ((σ 42 1) + 1) := (congrFun (congrFun e7 42) 1).trans rfl
  refine qr_callN 166 rfl rfl rfl (sf_151_42er5_1 (d := d + 0) hI8 r4 r5 r6 (by omega)) ?_
  rintro _ _ ⟨σ17, α18, rfl, hI19, hG20, hw16, v13, rfl, hv13, hx14, hx15⟩
  have hF21 : qFr [(42, 1)] [43] σ α σ17 α18 := qFr_t hF9 hG20 (by decide) (by decide)
  have hs22 : (-2147483648) ≤ σ17 42 1 ∧ σ17 42 1 ≤ 2147483647 := hI19.1 42 1
  show qr_W (qe L xs vb) (d + 9) qx_e153 _ (166, _, [.int (qz v13)], qw σ17 α18 κ ρ, 0, 0)
  refine qr_aload_n 167 rfl rfl rfl ?_
  refine qr_iload_n 168 rfl rfl rfl ?_
  refine qr_iconst 169 rfl rfl ?_
  refine qr_iconst 170 rfl rfl ?_
  refine qr_iload 172 rfl rfl rfl ?_
  refine qr_iload 174 rfl rfl rfl ?_
  have hr23 : σ17 42 1 = (σ17 42 1) := rfl
  have hs24 : (-2147483648) ≤ σ17 42 1 ∧ σ17 42 1 ≤ 2147483647 := hI19.1 42 1
  refine qr_callN 177 rfl rfl rfl (sf_151_42er5_2 (d := d + 6) hI19 (by decide) r5 (qrg r6 (by decide) (by decide)) (by omega)) ?_
  rintro _ _ ⟨σ29, α30, rfl, hI31, hG32, hw28, v25, rfl, hv25, hx26, hx27⟩
  have hF33 : qFr [(42, 1)] [43] σ α σ29 α30 := qFr_t hF21 hG32 (by decide) (by decide)
  have hs34 : (-2147483648) ≤ σ29 42 1 ∧ σ29 42 1 ≤ 2147483647 := hI31.1 42 1
  show qr_W (qe L xs vb) (d + 9) qx_e153 _ (177, _, [.int (qz v25), .int (qz v13)], qw σ29 α30 κ ρ, 0, 0)
  refine qr_isub 178 rfl rfl ?_
  refine qy_canE (fun v35 hv35 hev35 => ?_)
  refine qr_retI rfl rfl (by decide) (by decide) ?_
  exact ⟨_, _, rfl, hI31, hF33, (by have hw : σ29 42 1 = (σ29 42 1) := rfl; omega), v35, rfl, hv35, ((qac_v hev35 (by omega)).trans (by rw [hx14, hx26]; rfl)), (by rw [hx27, hx15, show α2 43 = qzu (α 43) (σ 42 1 : Int).toNat 2 from ((congrFun e3 43).trans (qw_r_eq.trans (congrArg (fun f => qzu f ((σ 42 1) : Int).toNat 2) rfl))), show σ6 42 1 = σ 42 1 + 1 by omega, show σ17 42 1 = σ 42 1 + 1 + 4 by omega]; exact (qac_t_app [10, 60, 1, 11] [11] (qzu (α 43) (σ 42 1 : Int).toNat 2) (σ 42 1 + 1)).symm)⟩

set_option maxHeartbeats 4000000 in
set_option maxRecDepth 20000 in
/-- OneRoof$Acts.runFrom -/
theorem sf_152_42ef0_5_3 {L : Nat} {xs : Nat → Int} {vb : Bool} {d : Nat} {σ α : Nat → Nat → Int} {κ : Nat → Option Nat} {ρ : Nat} {x4 : Int} {x5 : Int} {x6 : Int} (hI : qI σ α κ ρ) (r4 : (-2147483648) ≤ x4 ∧ x4 ≤ 2147483647) (r5 : (-2147483648) ≤ x5 ∧ x5 ≤ 2147483647) (r6 : 0 ≤ x6 ∧ x6 ≤ 36) (p0 : 0 ≤ σ 42 1 ∧ σ 42 1 ≤ 18) : qm_T (qe L xs vb) (d + 11) 152 [.ref 42, .int (qz 0), .int (qz 5), .int (qz 3), .int (qz x4), .int (qz x5), .int (qz x6)] (qw σ α κ ρ) (fun r w' => ∃ σ' α', w' = qw σ' α' κ ρ ∧ qI σ' α' κ ρ ∧ qFr [(42, 1)] [43] σ α σ' α' ∧ σ' 42 1 = σ 42 1 + 6 ∧ ∃ v : Int, r = some (.int (qz v)) ∧ ((-2147483648) ≤ v ∧ v ≤ 2147483647) ∧ v = qac_s (qac_m (qac_s (qac_a x4 x5) (qac_x 2 x5)) 2) (qac_x 1 x5) ∧ α' 43 = qac_t [2, 10, 60, 1, 11, 11] (α 43) (σ 42 1)) := by
  refine qr_start (d := d + 10) qv_e152 (Nat.le_of_ble_eq_true rfl) ?_
  show qr_W (qe L xs vb) (d + 10) qx_e152 _ (0, [(0, .ref 42), (1, .int (qz 0)), (2, .int (qz 5)), (3, .int (qz 3)), (4, .int (qz x4)), (5, .int (qz x5)), (6, .int (qz x6))], [], _, 0, 0)
  have hF0 := qFr_rf [(42, 1)] [43] σ α
  have hz42_1 : (-2147483648) ≤ σ 42 1 ∧ σ 42 1 ≤ 2147483647 := hI.1 42 1
  refine qr_iload_n 1 rfl rfl rfl ?_
  refine qr_istore _ 3 rfl (by decide) rfl rfl ?_
  refine qr_iconst 4 rfl rfl ?_
  refine qr_istore _ 6 rfl (by decide) rfl rfl ?_
  refine qr_iload 8 rfl rfl rfl ?_
  refine qr_getst 11 rfl rfl ?_
  refine qr_alen 12 rfl rfl (by first | exact Or.inl (by decide) | exact Or.inr (Or.inl rfl) | exact Or.inr (Or.inr (Or.inl rfl)) | exact Or.inr (Or.inr (Or.inr (Or.inl rfl)))) rfl ?_
  refine qy_v 7 rfl ?_
  refine qr_icmp_ge 89 15 rfl rfl rfl (by decide) (by decide) (fun h => False.elim (by omega)) (fun h1 => ?_)
  refine qr_iload 17 rfl rfl rfl ?_
  refine qr_if_lt 89 20 rfl rfl rfl (by decide) (fun h => False.elim (by omega)) (fun h2 => ?_)
  refine qr_iload 22 rfl rfl rfl ?_
  refine qr_getst 25 rfl rfl ?_
  refine qr_alen 26 rfl rfl (by first | exact Or.inl (by decide) | exact Or.inr (Or.inl rfl) | exact Or.inr (Or.inr (Or.inl rfl)) | exact Or.inr (Or.inr (Or.inr (Or.inl rfl)))) rfl ?_
  refine qy_v 7 rfl ?_
  refine qr_icmp_ge 89 29 rfl rfl rfl (by decide) (by decide) (fun h => False.elim (by omega)) (fun h3 => ?_)
  refine qr_getst 32 rfl rfl ?_
  refine qr_iload 34 rfl rfl rfl ?_
  refine qr_iconst 35 rfl rfl ?_
  refine qr_imul 36 rfl rfl ?_
  refine qy_v 0 rfl ?_
  refine qr_iload_n 37 rfl rfl rfl ?_
  refine qr_iadd 38 rfl rfl ?_
  refine qy_v 3 rfl ?_
  refine qr_iaload 39 rfl rfl (by decide) (by decide) rfl ?_
  refine qy_v 2 (by decide) ?_
  refine qr_istore _ 41 rfl (by decide) rfl rfl ?_
  refine qr_iload 43 rfl rfl rfl ?_
  refine qr_if_eq 75 46 rfl rfl rfl (by decide) (fun h => False.elim (by omega)) (fun h4 => ?_)
  refine qr_iload 48 rfl rfl rfl ?_
  refine qr_bipush 50 rfl (by decide) rfl ?_
  refine qr_icmp_le 57 53 rfl rfl rfl (qrg r6 (by decide) (by decide)) (by decide) (fun h5 => ?_) (fun h => False.elim (by omega))
  refine qr_aload_n 58 rfl rfl rfl ?_
  refine qr_iload 60 rfl rfl rfl ?_
  refine qr_iload 62 rfl rfl rfl ?_
  refine qr_iload_n 63 rfl rfl rfl ?_
  refine qr_iload 65 rfl rfl rfl ?_
  refine qr_iload 67 rfl rfl rfl ?_
  refine qr_iload 69 rfl rfl rfl ?_
  refine qr_iconst 70 rfl rfl ?_
  refine qr_iadd 71 rfl rfl ?_
  have hs6 : (-2147483648) ≤ σ 42 1 ∧ σ 42 1 ≤ 2147483647 := hI.1 42 1
  refine qr_callN 74 rfl rfl rfl (sf_153_42eb2_0_5 (d := d + 0) hI r4 r5 (by omega) (by omega)) ?_
  rintro _ _ ⟨σ11, α12, rfl, hI13, hG14, hw10, v7, rfl, hv7, hx8, hx9⟩
  have hF15 : qFr [(42, 1)] [43] σ α σ11 α12 := qFr_t hF0 hG14 (by decide) (by decide)
  have hs16 : (-2147483648) ≤ σ11 42 1 ∧ σ11 42 1 ≤ 2147483647 := hI13.1 42 1
  show qr_W (qe L xs vb) (d + 10) qx_e152 _ (74, _, [.int (qz v7)], qw σ11 α12 κ ρ, 0, 0)
  refine qr_retI rfl rfl (by decide) (by decide) ?_
  exact ⟨_, _, rfl, hI13, hF15, (by have hw : σ11 42 1 = (σ11 42 1) := rfl; omega), v7, rfl, hv7, hx8, hx9⟩

set_option maxHeartbeats 4000000 in
set_option maxRecDepth 20000 in
/-- OneRoof$Acts.begin -/
theorem sf_153_42eb50_4_5 {L : Nat} {xs : Nat → Int} {vb : Bool} {d : Nat} {σ α : Nat → Nat → Int} {κ : Nat → Option Nat} {ρ : Nat} {x4 : Int} {x5 : Int} {x6 : Int} (hI : qI σ α κ ρ) (r4 : (-2147483648) ≤ x4 ∧ x4 ≤ 2147483647) (r5 : (-2147483648) ≤ x5 ∧ x5 ≤ 2147483647) (r6 : 0 ≤ x6 ∧ x6 ≤ 36) (p0 : 0 ≤ σ 42 1 ∧ σ 42 1 ≤ 17) : qm_T (qe L xs vb) (d + 12) 153 [.ref 42, .int (qz 50), .int (qz 4), .int (qz 5), .int (qz x4), .int (qz x5), .int (qz x6)] (qw σ α κ ρ) (fun r w' => ∃ σ' α', w' = qw σ' α' κ ρ ∧ qI σ' α' κ ρ ∧ qFr [(42, 1)] [43] σ α σ' α' ∧ σ' 42 1 = σ 42 1 + 7 ∧ ∃ v : Int, r = some (.int (qz v)) ∧ ((-2147483648) ≤ v ∧ v ≤ 2147483647) ∧ v = qac_x (qac_s (qac_m (qac_s (qac_a x4 x5) (qac_x 2 x5)) 2) (qac_x 1 x5)) 5 ∧ α' 43 = qac_t [50, 2, 10, 60, 1, 11, 11] (α 43) (σ 42 1)) := by
  refine qr_start (d := d + 11) qv_e153 (Nat.le_of_ble_eq_true rfl) ?_
  show qr_W (qe L xs vb) (d + 11) qx_e153 _ (0, [(0, .ref 42), (1, .int (qz 50)), (2, .int (qz 4)), (3, .int (qz 5)), (4, .int (qz x4)), (5, .int (qz x5)), (6, .int (qz x6))], [], _, 0, 0)
  have hF0 := qFr_rf [(42, 1)] [43] σ α
  have hz42_1 : (-2147483648) ≤ σ 42 1 ∧ σ 42 1 ≤ 2147483647 := hI.1 42 1
  refine qr_aload_n 1 rfl rfl rfl ?_
  refine qr_get 4 rfl rfl rfl (by decide) rfl ?_
  refine qr_aload_n 5 rfl rfl rfl ?_
  refine qr_get 8 rfl rfl rfl (by decide) rfl ?_
  refine qr_alen 9 rfl rfl (by first | exact Or.inl (by decide) | exact Or.inr (Or.inl rfl) | exact Or.inr (Or.inr (Or.inl rfl)) | exact Or.inr (Or.inr (Or.inr (Or.inl rfl)))) rfl ?_
  refine qy_v 24 rfl ?_
  refine qr_icmp_ge 22 12 rfl rfl rfl hz42_1 (by decide) (fun h => False.elim (by omega)) (fun h1 => ?_)
  refine qr_aload_n 13 rfl rfl rfl ?_
  refine qr_get 16 rfl rfl rfl (by decide) rfl ?_
  refine qr_aload_n 17 rfl rfl rfl ?_
  refine qr_get 20 rfl rfl rfl (by decide) rfl ?_
  refine qr_iload_n 21 rfl rfl rfl ?_
  refine qr_iastore 22 rfl (by decide) rfl (by omega) (by decide) rfl ?_
  refine qy_wA (qw_r α 43 (qzu (α 43) ((σ 42 1) : Int).toNat 50)) rfl (fun α2 e3 => ?_)
  have hI4 : qI σ α2 κ ρ := by rw [e3]; exact qI_r hI 43 _ rfl (show (-2147483648) ≤ 50 ∧ 50 ≤ 2147483647 by omega)
  have hF5 : qFr [(42, 1)] [43] σ α σ α2 := by rw [e3]; exact qFr_r hF0 43 _ (by decide)
  refine qr_aload_n 23 rfl rfl rfl ?_
  refine qr_dup 24 rfl rfl rfl ?_
  refine qr_get 27 rfl rfl rfl (by decide) rfl ?_
  refine qr_iconst 28 rfl rfl ?_
  refine qr_iadd 29 rfl rfl ?_
  refine qr_put 32 rfl (by decide) rfl (Nat.le_of_ble_eq_true rfl) (Nat.le_of_ble_eq_true rfl) (Or.inl rfl) (qr_fitI rfl _) rfl ?_
  refine qy_wS (qw_s σ 42 1 ((σ 42 1) + 1)) rfl (fun σ6 e7 => ?_)
  have hI8 : qI σ6 α2 κ ρ := by rw [e7]; exact qI_s hI4 42 1 rfl (show (-2147483648) ≤ ((σ 42 1) + 1) ∧ ((σ 42 1) + 1) ≤ 2147483647 by omega)
  have hF9 : qFr [(42, 1)] [43] σ α σ6 α2 := by rw [e7]; exact qFr_s hF5 42 1 _ (by decide)
  refine qr_getst 35 rfl rfl ?_
  refine qr_iload_n 36 rfl rfl rfl ?_
  refine qr_iaload 37 rfl rfl (by decide) (by decide) rfl ?_
  refine qy_v 0 (by decide) ?_
  refine qr_istore _ 39 rfl (by decide) rfl rfl ?_
  refine qr_iload_n 40 rfl rfl rfl ?_
  refine qr_look (off := 227) 267 rfl (by omega) (by decide) (by decide) rfl ?_
  refine qr_aload_n 268 rfl rfl rfl ?_
  refine qr_iload 270 rfl rfl rfl ?_
  refine qr_iload_n 271 rfl rfl rfl ?_
  refine qr_iconst 272 rfl rfl ?_
  refine qr_iload 274 rfl rfl rfl ?_
  refine qr_iload 276 rfl rfl rfl ?_
  refine qr_iload 278 rfl rfl rfl ?_
  have hr10 : σ6 42 1 = ((σ 42 1) + 1) := (congrFun (congrFun e7 42) 1).trans rfl
  have hs11 : (-2147483648) ≤ σ6 42 1 ∧ σ6 42 1 ≤ 2147483647 := hI8.1 42 1
  have hs12 : σ6 42 1 = ((σ 42 1) + 1) := (congrFun (congrFun e7 42) 1).trans rfl
  refine qr_callN 281 rfl rfl rfl (sf_152_42ef0_5_3 (d := d + 0) hI8 r4 r5 r6 (by omega)) ?_
  rintro _ _ ⟨σ17, α18, rfl, hI19, hG20, hw16, v13, rfl, hv13, hx14, hx15⟩
  have hF21 : qFr [(42, 1)] [43] σ α σ17 α18 := qFr_t hF9 hG20 (by decide) (by decide)
  have hs22 : (-2147483648) ≤ σ17 42 1 ∧ σ17 42 1 ≤ 2147483647 := hI19.1 42 1
  show qr_W (qe L xs vb) (d + 11) qx_e153 _ (281, _, [.int (qz v13)], qw σ17 α18 κ ρ, 0, 0)
  refine qr_iconst 282 rfl rfl ?_
  refine qr_ixor 283 rfl rfl ?_
  refine qy_canE (fun v23 hv23 hev23 => ?_)
  refine qr_retI rfl rfl (by decide) (by decide) ?_
  exact ⟨_, _, rfl, hI19, hF21, (by have hw : σ17 42 1 = (σ17 42 1) := rfl; omega), v23, rfl, hv23, ((qac_v hev23 (by omega)).trans (by rw [hx14]; rfl)), (by rw [hx15, show α2 43 = qzu (α 43) (σ 42 1 : Int).toNat 50 from ((congrFun e3 43).trans (qw_r_eq.trans (congrArg (fun f => qzu f ((σ 42 1) : Int).toNat 50) rfl))), show σ6 42 1 = σ 42 1 + 1 by omega]; rfl)⟩

set_option maxHeartbeats 4000000 in
set_option maxRecDepth 20000 in
/-- OneRoof$Acts.runFrom -/
theorem sf_152_42ef5_5_3 {L : Nat} {xs : Nat → Int} {vb : Bool} {d : Nat} {σ α : Nat → Nat → Int} {κ : Nat → Option Nat} {ρ : Nat} {x4 : Int} {x5 : Int} {x6 : Int} (hI : qI σ α κ ρ) (r4 : (-2147483648) ≤ x4 ∧ x4 ≤ 2147483647) (r5 : (-2147483648) ≤ x5 ∧ x5 ≤ 2147483647) (r6 : 0 ≤ x6 ∧ x6 ≤ 35) (p0 : 0 ≤ σ 42 1 ∧ σ 42 1 ≤ 17) : qm_T (qe L xs vb) (d + 13) 152 [.ref 42, .int (qz 5), .int (qz 5), .int (qz 3), .int (qz x4), .int (qz x5), .int (qz x6)] (qw σ α κ ρ) (fun r w' => ∃ σ' α', w' = qw σ' α' κ ρ ∧ qI σ' α' κ ρ ∧ qFr [(42, 1)] [43] σ α σ' α' ∧ σ' 42 1 = σ 42 1 + 7 ∧ ∃ v : Int, r = some (.int (qz v)) ∧ ((-2147483648) ≤ v ∧ v ≤ 2147483647) ∧ v = qac_x (qac_s (qac_m (qac_s (qac_a x4 x5) (qac_x 2 x5)) 2) (qac_x 1 x5)) 5 ∧ α' 43 = qac_t [50, 2, 10, 60, 1, 11, 11] (α 43) (σ 42 1)) := by
  refine qr_start (d := d + 12) qv_e152 (Nat.le_of_ble_eq_true rfl) ?_
  show qr_W (qe L xs vb) (d + 12) qx_e152 _ (0, [(0, .ref 42), (1, .int (qz 5)), (2, .int (qz 5)), (3, .int (qz 3)), (4, .int (qz x4)), (5, .int (qz x5)), (6, .int (qz x6))], [], _, 0, 0)
  have hF0 := qFr_rf [(42, 1)] [43] σ α
  have hz42_1 : (-2147483648) ≤ σ 42 1 ∧ σ 42 1 ≤ 2147483647 := hI.1 42 1
  refine qr_iload_n 1 rfl rfl rfl ?_
  refine qr_istore _ 3 rfl (by decide) rfl rfl ?_
  refine qr_iconst 4 rfl rfl ?_
  refine qr_istore _ 6 rfl (by decide) rfl rfl ?_
  refine qr_iload 8 rfl rfl rfl ?_
  refine qr_getst 11 rfl rfl ?_
  refine qr_alen 12 rfl rfl (by first | exact Or.inl (by decide) | exact Or.inr (Or.inl rfl) | exact Or.inr (Or.inr (Or.inl rfl)) | exact Or.inr (Or.inr (Or.inr (Or.inl rfl)))) rfl ?_
  refine qy_v 7 rfl ?_
  refine qr_icmp_ge 89 15 rfl rfl rfl (by decide) (by decide) (fun h => False.elim (by omega)) (fun h1 => ?_)
  refine qr_iload 17 rfl rfl rfl ?_
  refine qr_if_lt 89 20 rfl rfl rfl (by decide) (fun h => False.elim (by omega)) (fun h2 => ?_)
  refine qr_iload 22 rfl rfl rfl ?_
  refine qr_getst 25 rfl rfl ?_
  refine qr_alen 26 rfl rfl (by first | exact Or.inl (by decide) | exact Or.inr (Or.inl rfl) | exact Or.inr (Or.inr (Or.inl rfl)) | exact Or.inr (Or.inr (Or.inr (Or.inl rfl)))) rfl ?_
  refine qy_v 7 rfl ?_
  refine qr_icmp_ge 89 29 rfl rfl rfl (by decide) (by decide) (fun h => False.elim (by omega)) (fun h3 => ?_)
  refine qr_getst 32 rfl rfl ?_
  refine qr_iload 34 rfl rfl rfl ?_
  refine qr_iconst 35 rfl rfl ?_
  refine qr_imul 36 rfl rfl ?_
  refine qy_v 20 rfl ?_
  refine qr_iload_n 37 rfl rfl rfl ?_
  refine qr_iadd 38 rfl rfl ?_
  refine qy_v 23 rfl ?_
  refine qr_iaload 39 rfl rfl (by decide) (by decide) rfl ?_
  refine qy_v 0 (by decide) ?_
  refine qr_istore _ 41 rfl (by decide) rfl rfl ?_
  refine qr_iload 43 rfl rfl rfl ?_
  refine qr_if_eq 75 46 rfl rfl rfl (by decide) (fun h4 => ?_) (fun h => False.elim (by omega))
  refine qr_getst 78 rfl rfl ?_
  refine qr_iload 80 rfl rfl rfl ?_
  refine qr_iaload 81 rfl rfl (by decide) (by decide) rfl ?_
  refine qy_v 4 (by decide) ?_
  refine qr_istore _ 83 rfl (by decide) rfl rfl ?_
  refine qr_iinc _ 86 rfl rfl (by decide) rfl rfl ?_
  refine qr_goto 6 rfl rfl ?_
  refine qr_iload 8 rfl rfl rfl ?_
  refine qr_getst 11 rfl rfl ?_
  refine qr_alen 12 rfl rfl (by first | exact Or.inl (by decide) | exact Or.inr (Or.inl rfl) | exact Or.inr (Or.inr (Or.inl rfl)) | exact Or.inr (Or.inr (Or.inr (Or.inl rfl)))) rfl ?_
  refine qy_v 7 rfl ?_
  refine qr_icmp_ge 89 15 rfl rfl rfl (by omega) (by decide) (fun h => False.elim (by omega)) (fun h5 => ?_)
  refine qr_iload 17 rfl rfl rfl ?_
  refine qr_if_lt 89 20 rfl rfl rfl (by decide) (fun h => False.elim (by omega)) (fun h6 => ?_)
  refine qr_iload 22 rfl rfl rfl ?_
  refine qr_getst 25 rfl rfl ?_
  refine qr_alen 26 rfl rfl (by first | exact Or.inl (by decide) | exact Or.inr (Or.inl rfl) | exact Or.inr (Or.inr (Or.inl rfl)) | exact Or.inr (Or.inr (Or.inr (Or.inl rfl)))) rfl ?_
  refine qy_v 7 rfl ?_
  refine qr_icmp_ge 89 29 rfl rfl rfl (by decide) (by decide) (fun h => False.elim (by omega)) (fun h7 => ?_)
  refine qr_getst 32 rfl rfl ?_
  refine qr_iload 34 rfl rfl rfl ?_
  refine qr_iconst 35 rfl rfl ?_
  refine qr_imul 36 rfl rfl ?_
  refine qy_v 16 rfl ?_
  refine qr_iload_n 37 rfl rfl rfl ?_
  refine qr_iadd 38 rfl rfl ?_
  refine qy_v 19 rfl ?_
  refine qr_iaload 39 rfl rfl (by decide) (by decide) rfl ?_
  refine qy_v 50 (by decide) ?_
  refine qr_istore _ 41 rfl (by decide) rfl rfl ?_
  refine qr_iload 43 rfl rfl rfl ?_
  refine qr_if_eq 75 46 rfl rfl rfl (by decide) (fun h => False.elim (by omega)) (fun h8 => ?_)
  as_aux_lemma =>
    refine qr_iload 48 rfl rfl rfl ?_
    refine qr_bipush 50 rfl (by decide) rfl ?_
    refine qr_icmp_le 57 53 rfl rfl rfl (qrg r6 (by decide) (by decide)) (by decide) (fun h9 => ?_) (fun h => False.elim (by omega))
    refine qr_aload_n 58 rfl rfl rfl ?_
    refine qr_iload 60 rfl rfl rfl ?_
    refine qr_iload 62 rfl rfl rfl ?_
    refine qr_iload_n 63 rfl rfl rfl ?_
    refine qr_iload 65 rfl rfl rfl ?_
    refine qr_iload 67 rfl rfl rfl ?_
    refine qr_iload 69 rfl rfl rfl ?_
    refine qr_iconst 70 rfl rfl ?_
    refine qr_iadd 71 rfl rfl ?_
    have hs10 : (-2147483648) ≤ σ 42 1 ∧ σ 42 1 ≤ 2147483647 := hI.1 42 1
    refine qr_callN 74 rfl rfl rfl (sf_153_42eb50_4_5 (d := d + 0) hI r4 r5 (by omega) (by omega)) ?_
    rintro _ _ ⟨σ15, α16, rfl, hI17, hG18, hw14, v11, rfl, hv11, hx12, hx13⟩
    have hF19 : qFr [(42, 1)] [43] σ α σ15 α16 := qFr_t hF0 hG18 (by decide) (by decide)
    have hs20 : (-2147483648) ≤ σ15 42 1 ∧ σ15 42 1 ≤ 2147483647 := hI17.1 42 1
    show qr_W (qe L xs vb) (d + 12) qx_e152 _ (74, _, [.int (qz v11)], qw σ15 α16 κ ρ, 0, 0)
    refine qr_retI rfl rfl (by decide) (by decide) ?_
    exact ⟨_, _, rfl, hI17, hF19, (by have hw : σ15 42 1 = (σ15 42 1) := rfl; omega), v11, rfl, hv11, hx12, hx13⟩
end
section
set_option maxHeartbeats 4000000 in
set_option maxRecDepth 20000 in
/-- OneRoof$Acts.run -/
theorem sf_151_42er5_3 {L : Nat} {xs : Nat → Int} {vb : Bool} {d : Nat} {σ α : Nat → Nat → Int} {κ : Nat → Option Nat} {ρ : Nat} {x3 : Int} {x4 : Int} {x5 : Int} (hI : qI σ α κ ρ) (r3 : (-2147483648) ≤ x3 ∧ x3 ≤ 2147483647) (r4 : (-2147483648) ≤ x4 ∧ x4 ≤ 2147483647) (r5 : 0 ≤ x5 ∧ x5 ≤ 35) (p0 : 0 ≤ σ 42 1 ∧ σ 42 1 ≤ 17) : qm_T (qe L xs vb) (d + 14) 151 [.ref 42, .int (qz 5), .int (qz 3), .int (qz x3), .int (qz x4), .int (qz x5)] (qw σ α κ ρ) (fun r w' => ∃ σ' α', w' = qw σ' α' κ ρ ∧ qI σ' α' κ ρ ∧ qFr [(42, 1)] [43] σ α σ' α' ∧ σ' 42 1 = σ 42 1 + 7 ∧ ∃ v : Int, r = some (.int (qz v)) ∧ ((-2147483648) ≤ v ∧ v ≤ 2147483647) ∧ v = qac_x (qac_s (qac_m (qac_s (qac_a x3 x4) (qac_x 2 x4)) 2) (qac_x 1 x4)) 5 ∧ α' 43 = qac_t [50, 2, 10, 60, 1, 11, 11] (α 43) (σ 42 1)) := by
  refine qr_start (d := d + 13) qv_e151 (Nat.le_of_ble_eq_true rfl) ?_
  show qr_W (qe L xs vb) (d + 13) qx_e151 _ (0, [(0, .ref 42), (1, .int (qz 5)), (2, .int (qz 3)), (3, .int (qz x3)), (4, .int (qz x4)), (5, .int (qz x5))], [], _, 0, 0)
  have hF0 := qFr_rf [(42, 1)] [43] σ α
  have hz42_1 : (-2147483648) ≤ σ 42 1 ∧ σ 42 1 ≤ 2147483647 := hI.1 42 1
  refine qr_aload_n 1 rfl rfl rfl ?_
  refine qr_iload_n 2 rfl rfl rfl ?_
  refine qr_iload_n 3 rfl rfl rfl ?_
  refine qr_iload_n 4 rfl rfl rfl ?_
  refine qr_iload_n 5 rfl rfl rfl ?_
  refine qr_iload 7 rfl rfl rfl ?_
  refine qr_iload 9 rfl rfl rfl ?_
  have hs1 : (-2147483648) ≤ σ 42 1 ∧ σ 42 1 ≤ 2147483647 := hI.1 42 1
  refine qr_callN 12 rfl rfl rfl (sf_152_42ef5_5_3 (d := d + 0) hI r3 r4 r5 (by omega)) ?_
  rintro _ _ ⟨σ6, α7, rfl, hI8, hG9, hw5, v2, rfl, hv2, hx3, hx4⟩
  have hF10 : qFr [(42, 1)] [43] σ α σ6 α7 := qFr_t hF0 hG9 (by decide) (by decide)
  have hs11 : (-2147483648) ≤ σ6 42 1 ∧ σ6 42 1 ≤ 2147483647 := hI8.1 42 1
  show qr_W (qe L xs vb) (d + 13) qx_e151 _ (12, _, [.int (qz v2)], qw σ6 α7 κ ρ, 0, 0)
  refine qr_retI rfl rfl (by decide) (by decide) ?_
  exact ⟨_, _, rfl, hI8, hF10, (by have hw : σ6 42 1 = (σ6 42 1) := rfl; omega), v2, rfl, hv2, hx3, hx4⟩

set_option maxHeartbeats 4000000 in
set_option maxRecDepth 20000 in
/-- OneRoof$Acts.start -/
theorem sf_150_42es5_3 {L : Nat} {xs : Nat → Int} {vb : Bool} {d : Nat} {σ α : Nat → Nat → Int} {κ : Nat → Option Nat} {ρ : Nat} {x3 : Int} {x4 : Int} (hI : qI σ α κ ρ) (r3 : (-2147483648) ≤ x3 ∧ x3 ≤ 2147483647) (r4 : (-2147483648) ≤ x4 ∧ x4 ≤ 2147483647) (p0 : 0 ≤ σ 42 1 ∧ σ 42 1 ≤ 17) : qm_T (qe L xs vb) (d + 15) 150 [.ref 42, .int (qz 5), .int (qz 3), .int (qz x3), .int (qz x4)] (qw σ α κ ρ) (fun r w' => ∃ σ' α', w' = qw σ' α' κ ρ ∧ qI σ' α' κ ρ ∧ qFr [(42, 1)] [43] σ α σ' α' ∧ σ' 42 1 = σ 42 1 + 7 ∧ ∃ v : Int, r = some (.int (qz v)) ∧ ((-2147483648) ≤ v ∧ v ≤ 2147483647) ∧ v = qac_x (qac_s (qac_m (qac_s (qac_a x3 x4) (qac_x 2 x4)) 2) (qac_x 1 x4)) 5 ∧ α' 43 = qac_t [50, 2, 10, 60, 1, 11, 11] (α 43) (σ 42 1)) := by
  refine qr_start (d := d + 14) qv_e150 (Nat.le_of_ble_eq_true rfl) ?_
  show qr_W (qe L xs vb) (d + 14) qx_e150 _ (0, [(0, .ref 42), (1, .int (qz 5)), (2, .int (qz 3)), (3, .int (qz x3)), (4, .int (qz x4))], [], _, 0, 0)
  have hF0 := qFr_rf [(42, 1)] [43] σ α
  have hz42_1 : (-2147483648) ≤ σ 42 1 ∧ σ 42 1 ≤ 2147483647 := hI.1 42 1
  refine qr_aload_n 1 rfl rfl rfl ?_
  refine qr_iload_n 2 rfl rfl rfl ?_
  refine qr_iload_n 3 rfl rfl rfl ?_
  refine qr_iload_n 4 rfl rfl rfl ?_
  refine qr_iload 6 rfl rfl rfl ?_
  refine qr_iconst 7 rfl rfl ?_
  have hs1 : (-2147483648) ≤ σ 42 1 ∧ σ 42 1 ≤ 2147483647 := hI.1 42 1
  refine qr_callN 10 rfl rfl rfl (sf_151_42er5_3 (d := d + 0) hI r3 r4 (by decide) (by omega)) ?_
  rintro _ _ ⟨σ6, α7, rfl, hI8, hG9, hw5, v2, rfl, hv2, hx3, hx4⟩
  have hF10 : qFr [(42, 1)] [43] σ α σ6 α7 := qFr_t hF0 hG9 (by decide) (by decide)
  have hs11 : (-2147483648) ≤ σ6 42 1 ∧ σ6 42 1 ≤ 2147483647 := hI8.1 42 1
  show qr_W (qe L xs vb) (d + 14) qx_e150 _ (10, _, [.int (qz v2)], qw σ6 α7 κ ρ, 0, 0)
  refine qr_retI rfl rfl (by decide) (by decide) ?_
  exact ⟨_, _, rfl, hI8, hF10, (by have hw : σ6 42 1 = (σ6 42 1) := rfl; omega), v2, rfl, hv2, hx3, hx4⟩

set_option maxHeartbeats 4000000 in
set_option maxRecDepth 20000 in
/-- OneRoof$Acts.begin -/
theorem sf_153_42eb1_0_6 {L : Nat} {xs : Nat → Int} {vb : Bool} {d : Nat} {σ α : Nat → Nat → Int} {κ : Nat → Option Nat} {ρ : Nat} {x4 : Int} {x5 : Int} {x6 : Int} (hI : qI σ α κ ρ) (r4 : (-2147483648) ≤ x4 ∧ x4 ≤ 2147483647) (r5 : (-2147483648) ≤ x5 ∧ x5 ≤ 2147483647) (r6 : 0 ≤ x6 ∧ x6 ≤ 40) (p0 : 0 ≤ σ 42 1 ∧ σ 42 1 ≤ 23) : qm_T (qe L xs vb) (d + 1) 153 [.ref 42, .int (qz 1), .int (qz 0), .int (qz 6), .int (qz x4), .int (qz x5), .int (qz x6)] (qw σ α κ ρ) (fun r w' => ∃ σ' α', w' = qw σ' α' κ ρ ∧ qI σ' α' κ ρ ∧ qFr [(42, 1)] [43] σ α σ' α' ∧ σ' 42 1 = σ 42 1 + 1 ∧ ∃ v : Int, r = some (.int (qz v)) ∧ ((-2147483648) ≤ v ∧ v ≤ 2147483647) ∧ v = qac_a x4 x5 ∧ α' 43 = qac_t [1] (α 43) (σ 42 1)) := by
  refine qr_start (d := d + 0) qv_e153 (Nat.le_of_ble_eq_true rfl) ?_
  show qr_W (qe L xs vb) (d + 0) qx_e153 _ (0, [(0, .ref 42), (1, .int (qz 1)), (2, .int (qz 0)), (3, .int (qz 6)), (4, .int (qz x4)), (5, .int (qz x5)), (6, .int (qz x6))], [], _, 0, 0)
  have hF0 := qFr_rf [(42, 1)] [43] σ α
  have hz42_1 : (-2147483648) ≤ σ 42 1 ∧ σ 42 1 ≤ 2147483647 := hI.1 42 1
  refine qr_aload_n 1 rfl rfl rfl ?_
  refine qr_get 4 rfl rfl rfl (by decide) rfl ?_
  refine qr_aload_n 5 rfl rfl rfl ?_
  refine qr_get 8 rfl rfl rfl (by decide) rfl ?_
  refine qr_alen 9 rfl rfl (by first | exact Or.inl (by decide) | exact Or.inr (Or.inl rfl) | exact Or.inr (Or.inr (Or.inl rfl)) | exact Or.inr (Or.inr (Or.inr (Or.inl rfl)))) rfl ?_
  refine qy_v 24 rfl ?_
  refine qr_icmp_ge 22 12 rfl rfl rfl hz42_1 (by decide) (fun h => False.elim (by omega)) (fun h1 => ?_)
  refine qr_aload_n 13 rfl rfl rfl ?_
  refine qr_get 16 rfl rfl rfl (by decide) rfl ?_
  refine qr_aload_n 17 rfl rfl rfl ?_
  refine qr_get 20 rfl rfl rfl (by decide) rfl ?_
  refine qr_iload_n 21 rfl rfl rfl ?_
  refine qr_iastore 22 rfl (by decide) rfl (by omega) (by decide) rfl ?_
  refine qy_wA (qw_r α 43 (qzu (α 43) ((σ 42 1) : Int).toNat 1)) rfl (fun α2 e3 => ?_)
  have hI4 : qI σ α2 κ ρ := by rw [e3]; exact qI_r hI 43 _ rfl (show (-2147483648) ≤ 1 ∧ 1 ≤ 2147483647 by omega)
  have hF5 : qFr [(42, 1)] [43] σ α σ α2 := by rw [e3]; exact qFr_r hF0 43 _ (by decide)
  refine qr_aload_n 23 rfl rfl rfl ?_
  refine qr_dup 24 rfl rfl rfl ?_
  refine qr_get 27 rfl rfl rfl (by decide) rfl ?_
  refine qr_iconst 28 rfl rfl ?_
  refine qr_iadd 29 rfl rfl ?_
  refine qr_put 32 rfl (by decide) rfl (Nat.le_of_ble_eq_true rfl) (Nat.le_of_ble_eq_true rfl) (Or.inl rfl) (qr_fitI rfl _) rfl ?_
  refine qy_wS (qw_s σ 42 1 ((σ 42 1) + 1)) rfl (fun σ6 e7 => ?_)
  have hI8 : qI σ6 α2 κ ρ := by rw [e7]; exact qI_s hI4 42 1 rfl (show (-2147483648) ≤ ((σ 42 1) + 1) ∧ ((σ 42 1) + 1) ≤ 2147483647 by omega)
  have hF9 : qFr [(42, 1)] [43] σ α σ6 α2 := by rw [e7]; exact qFr_s hF5 42 1 _ (by decide)
  refine qr_getst 35 rfl rfl ?_
  refine qr_iload_n 36 rfl rfl rfl ?_
  refine qr_iaload 37 rfl rfl (by decide) (by decide) rfl ?_
  refine qy_v (-1) (by decide) ?_
  refine qr_istore _ 39 rfl (by decide) rfl rfl ?_
  refine qr_iload_n 40 rfl rfl rfl ?_
  refine qr_look (off := 108) 148 rfl (by omega) (by decide) (by decide) rfl ?_
  refine qr_iload 150 rfl rfl rfl ?_
  refine qr_iload 152 rfl rfl rfl ?_
  refine qr_iadd 153 rfl rfl ?_
  refine qy_canE (fun v10 hv10 hev10 => ?_)
  refine qr_retI rfl rfl (by decide) (by decide) ?_
  exact ⟨_, _, rfl, hI8, hF9, (by have hw : σ6 42 1 = ((σ 42 1) + 1) := (congrFun (congrFun e7 42) 1).trans rfl; omega), v10, rfl, hv10, (qac_v hev10 (by omega)), (((congrFun e3 43).trans (qw_r_eq.trans (congrArg (fun f => qzu f ((σ 42 1) : Int).toNat 1) rfl))))⟩

set_option maxHeartbeats 4000000 in
set_option maxRecDepth 20000 in
/-- OneRoof$Acts.runFrom -/
theorem sf_152_42ef6_6_0 {L : Nat} {xs : Nat → Int} {vb : Bool} {d : Nat} {σ α : Nat → Nat → Int} {κ : Nat → Option Nat} {ρ : Nat} {x4 : Int} {x5 : Int} {x6 : Int} (hI : qI σ α κ ρ) (r4 : (-2147483648) ≤ x4 ∧ x4 ≤ 2147483647) (r5 : (-2147483648) ≤ x5 ∧ x5 ≤ 2147483647) (r6 : 0 ≤ x6 ∧ x6 ≤ 39) (p0 : 0 ≤ σ 42 1 ∧ σ 42 1 ≤ 23) : qm_T (qe L xs vb) (d + 2) 152 [.ref 42, .int (qz 6), .int (qz 6), .int (qz 0), .int (qz x4), .int (qz x5), .int (qz x6)] (qw σ α κ ρ) (fun r w' => ∃ σ' α', w' = qw σ' α' κ ρ ∧ qI σ' α' κ ρ ∧ qFr [(42, 1)] [43] σ α σ' α' ∧ σ' 42 1 = σ 42 1 + 1 ∧ ∃ v : Int, r = some (.int (qz v)) ∧ ((-2147483648) ≤ v ∧ v ≤ 2147483647) ∧ v = qac_a x4 x5 ∧ α' 43 = qac_t [1] (α 43) (σ 42 1)) := by
  refine qr_start (d := d + 1) qv_e152 (Nat.le_of_ble_eq_true rfl) ?_
  show qr_W (qe L xs vb) (d + 1) qx_e152 _ (0, [(0, .ref 42), (1, .int (qz 6)), (2, .int (qz 6)), (3, .int (qz 0)), (4, .int (qz x4)), (5, .int (qz x5)), (6, .int (qz x6))], [], _, 0, 0)
  have hF0 := qFr_rf [(42, 1)] [43] σ α
  have hz42_1 : (-2147483648) ≤ σ 42 1 ∧ σ 42 1 ≤ 2147483647 := hI.1 42 1
  refine qr_iload_n 1 rfl rfl rfl ?_
  refine qr_istore _ 3 rfl (by decide) rfl rfl ?_
  refine qr_iconst 4 rfl rfl ?_
  refine qr_istore _ 6 rfl (by decide) rfl rfl ?_
  refine qr_iload 8 rfl rfl rfl ?_
  refine qr_getst 11 rfl rfl ?_
  refine qr_alen 12 rfl rfl (by first | exact Or.inl (by decide) | exact Or.inr (Or.inl rfl) | exact Or.inr (Or.inr (Or.inl rfl)) | exact Or.inr (Or.inr (Or.inr (Or.inl rfl)))) rfl ?_
  refine qy_v 7 rfl ?_
  refine qr_icmp_ge 89 15 rfl rfl rfl (by decide) (by decide) (fun h => False.elim (by omega)) (fun h1 => ?_)
  refine qr_iload 17 rfl rfl rfl ?_
  refine qr_if_lt 89 20 rfl rfl rfl (by decide) (fun h => False.elim (by omega)) (fun h2 => ?_)
  refine qr_iload 22 rfl rfl rfl ?_
  refine qr_getst 25 rfl rfl ?_
  refine qr_alen 26 rfl rfl (by first | exact Or.inl (by decide) | exact Or.inr (Or.inl rfl) | exact Or.inr (Or.inr (Or.inl rfl)) | exact Or.inr (Or.inr (Or.inr (Or.inl rfl)))) rfl ?_
  refine qy_v 7 rfl ?_
  refine qr_icmp_ge 89 29 rfl rfl rfl (by decide) (by decide) (fun h => False.elim (by omega)) (fun h3 => ?_)
  refine qr_getst 32 rfl rfl ?_
  refine qr_iload 34 rfl rfl rfl ?_
  refine qr_iconst 35 rfl rfl ?_
  refine qr_imul 36 rfl rfl ?_
  refine qy_v 24 rfl ?_
  refine qr_iload_n 37 rfl rfl rfl ?_
  refine qr_iadd 38 rfl rfl ?_
  refine qy_v 24 rfl ?_
  refine qr_iaload 39 rfl rfl (by decide) (by decide) rfl ?_
  refine qy_v 0 (by decide) ?_
  refine qr_istore _ 41 rfl (by decide) rfl rfl ?_
  refine qr_iload 43 rfl rfl rfl ?_
  refine qr_if_eq 75 46 rfl rfl rfl (by decide) (fun h4 => ?_) (fun h => False.elim (by omega))
  refine qr_getst 78 rfl rfl ?_
  refine qr_iload 80 rfl rfl rfl ?_
  refine qr_iaload 81 rfl rfl (by decide) (by decide) rfl ?_
  refine qy_v 0 (by decide) ?_
  refine qr_istore _ 83 rfl (by decide) rfl rfl ?_
  refine qr_iinc _ 86 rfl rfl (by decide) rfl rfl ?_
  refine qr_goto 6 rfl rfl ?_
  refine qr_iload 8 rfl rfl rfl ?_
  refine qr_getst 11 rfl rfl ?_
  refine qr_alen 12 rfl rfl (by first | exact Or.inl (by decide) | exact Or.inr (Or.inl rfl) | exact Or.inr (Or.inr (Or.inl rfl)) | exact Or.inr (Or.inr (Or.inr (Or.inl rfl)))) rfl ?_
  refine qy_v 7 rfl ?_
  refine qr_icmp_ge 89 15 rfl rfl rfl (by omega) (by decide) (fun h => False.elim (by omega)) (fun h5 => ?_)
  refine qr_iload 17 rfl rfl rfl ?_
  refine qr_if_lt 89 20 rfl rfl rfl (by decide) (fun h => False.elim (by omega)) (fun h6 => ?_)
  refine qr_iload 22 rfl rfl rfl ?_
  refine qr_getst 25 rfl rfl ?_
  refine qr_alen 26 rfl rfl (by first | exact Or.inl (by decide) | exact Or.inr (Or.inl rfl) | exact Or.inr (Or.inr (Or.inl rfl)) | exact Or.inr (Or.inr (Or.inr (Or.inl rfl)))) rfl ?_
  refine qy_v 7 rfl ?_
  refine qr_icmp_ge 89 29 rfl rfl rfl (by decide) (by decide) (fun h => False.elim (by omega)) (fun h7 => ?_)
  refine qr_getst 32 rfl rfl ?_
  refine qr_iload 34 rfl rfl rfl ?_
  refine qr_iconst 35 rfl rfl ?_
  refine qr_imul 36 rfl rfl ?_
  refine qy_v 0 rfl ?_
  refine qr_iload_n 37 rfl rfl rfl ?_
  refine qr_iadd 38 rfl rfl ?_
  refine qy_v 0 rfl ?_
  refine qr_iaload 39 rfl rfl (by decide) (by decide) rfl ?_
  refine qy_v 1 (by decide) ?_
  refine qr_istore _ 41 rfl (by decide) rfl rfl ?_
  refine qr_iload 43 rfl rfl rfl ?_
  refine qr_if_eq 75 46 rfl rfl rfl (by decide) (fun h => False.elim (by omega)) (fun h8 => ?_)
  as_aux_lemma =>
    refine qr_iload 48 rfl rfl rfl ?_
    refine qr_bipush 50 rfl (by decide) rfl ?_
    refine qr_icmp_le 57 53 rfl rfl rfl (qrg r6 (by decide) (by decide)) (by decide) (fun h9 => ?_) (fun h => False.elim (by omega))
    refine qr_aload_n 58 rfl rfl rfl ?_
    refine qr_iload 60 rfl rfl rfl ?_
    refine qr_iload 62 rfl rfl rfl ?_
    refine qr_iload_n 63 rfl rfl rfl ?_
    refine qr_iload 65 rfl rfl rfl ?_
    refine qr_iload 67 rfl rfl rfl ?_
    refine qr_iload 69 rfl rfl rfl ?_
    refine qr_iconst 70 rfl rfl ?_
    refine qr_iadd 71 rfl rfl ?_
    have hs10 : (-2147483648) ≤ σ 42 1 ∧ σ 42 1 ≤ 2147483647 := hI.1 42 1
    refine qr_callN 74 rfl rfl rfl (sf_153_42eb1_0_6 (d := d + 0) hI r4 r5 (by omega) (by omega)) ?_
    rintro _ _ ⟨σ15, α16, rfl, hI17, hG18, hw14, v11, rfl, hv11, hx12, hx13⟩
    have hF19 : qFr [(42, 1)] [43] σ α σ15 α16 := qFr_t hF0 hG18 (by decide) (by decide)
    have hs20 : (-2147483648) ≤ σ15 42 1 ∧ σ15 42 1 ≤ 2147483647 := hI17.1 42 1
    show qr_W (qe L xs vb) (d + 1) qx_e152 _ (74, _, [.int (qz v11)], qw σ15 α16 κ ρ, 0, 0)
    refine qr_retI rfl rfl (by decide) (by decide) ?_
    exact ⟨_, _, rfl, hI17, hF19, (by have hw : σ15 42 1 = (σ15 42 1) := rfl; omega), v11, rfl, hv11, hx12, hx13⟩

set_option maxHeartbeats 4000000 in
set_option maxRecDepth 20000 in
/-- OneRoof$Acts.run -/
theorem sf_151_42er6_0 {L : Nat} {xs : Nat → Int} {vb : Bool} {d : Nat} {σ α : Nat → Nat → Int} {κ : Nat → Option Nat} {ρ : Nat} {x3 : Int} {x4 : Int} {x5 : Int} (hI : qI σ α κ ρ) (r3 : (-2147483648) ≤ x3 ∧ x3 ≤ 2147483647) (r4 : (-2147483648) ≤ x4 ∧ x4 ≤ 2147483647) (r5 : 0 ≤ x5 ∧ x5 ≤ 39) (p0 : 0 ≤ σ 42 1 ∧ σ 42 1 ≤ 23) : qm_T (qe L xs vb) (d + 3) 151 [.ref 42, .int (qz 6), .int (qz 0), .int (qz x3), .int (qz x4), .int (qz x5)] (qw σ α κ ρ) (fun r w' => ∃ σ' α', w' = qw σ' α' κ ρ ∧ qI σ' α' κ ρ ∧ qFr [(42, 1)] [43] σ α σ' α' ∧ σ' 42 1 = σ 42 1 + 1 ∧ ∃ v : Int, r = some (.int (qz v)) ∧ ((-2147483648) ≤ v ∧ v ≤ 2147483647) ∧ v = qac_a x3 x4 ∧ α' 43 = qac_t [1] (α 43) (σ 42 1)) := by
  refine qr_start (d := d + 2) qv_e151 (Nat.le_of_ble_eq_true rfl) ?_
  show qr_W (qe L xs vb) (d + 2) qx_e151 _ (0, [(0, .ref 42), (1, .int (qz 6)), (2, .int (qz 0)), (3, .int (qz x3)), (4, .int (qz x4)), (5, .int (qz x5))], [], _, 0, 0)
  have hF0 := qFr_rf [(42, 1)] [43] σ α
  have hz42_1 : (-2147483648) ≤ σ 42 1 ∧ σ 42 1 ≤ 2147483647 := hI.1 42 1
  refine qr_aload_n 1 rfl rfl rfl ?_
  refine qr_iload_n 2 rfl rfl rfl ?_
  refine qr_iload_n 3 rfl rfl rfl ?_
  refine qr_iload_n 4 rfl rfl rfl ?_
  refine qr_iload_n 5 rfl rfl rfl ?_
  refine qr_iload 7 rfl rfl rfl ?_
  refine qr_iload 9 rfl rfl rfl ?_
  have hs1 : (-2147483648) ≤ σ 42 1 ∧ σ 42 1 ≤ 2147483647 := hI.1 42 1
  refine qr_callN 12 rfl rfl rfl (sf_152_42ef6_6_0 (d := d + 0) hI r3 r4 r5 (by omega)) ?_
  rintro _ _ ⟨σ6, α7, rfl, hI8, hG9, hw5, v2, rfl, hv2, hx3, hx4⟩
  have hF10 : qFr [(42, 1)] [43] σ α σ6 α7 := qFr_t hF0 hG9 (by decide) (by decide)
  have hs11 : (-2147483648) ≤ σ6 42 1 ∧ σ6 42 1 ≤ 2147483647 := hI8.1 42 1
  show qr_W (qe L xs vb) (d + 2) qx_e151 _ (12, _, [.int (qz v2)], qw σ6 α7 κ ρ, 0, 0)
  refine qr_retI rfl rfl (by decide) (by decide) ?_
  exact ⟨_, _, rfl, hI8, hF10, (by have hw : σ6 42 1 = (σ6 42 1) := rfl; omega), v2, rfl, hv2, hx3, hx4⟩

set_option maxHeartbeats 4000000 in
set_option maxRecDepth 20000 in
/-- OneRoof$Acts.start -/
theorem sf_150_42es6_0 {L : Nat} {xs : Nat → Int} {vb : Bool} {d : Nat} {σ α : Nat → Nat → Int} {κ : Nat → Option Nat} {ρ : Nat} {x3 : Int} {x4 : Int} (hI : qI σ α κ ρ) (r3 : (-2147483648) ≤ x3 ∧ x3 ≤ 2147483647) (r4 : (-2147483648) ≤ x4 ∧ x4 ≤ 2147483647) (p0 : 0 ≤ σ 42 1 ∧ σ 42 1 ≤ 23) : qm_T (qe L xs vb) (d + 4) 150 [.ref 42, .int (qz 6), .int (qz 0), .int (qz x3), .int (qz x4)] (qw σ α κ ρ) (fun r w' => ∃ σ' α', w' = qw σ' α' κ ρ ∧ qI σ' α' κ ρ ∧ qFr [(42, 1)] [43] σ α σ' α' ∧ σ' 42 1 = σ 42 1 + 1 ∧ ∃ v : Int, r = some (.int (qz v)) ∧ ((-2147483648) ≤ v ∧ v ≤ 2147483647) ∧ v = qac_a x3 x4 ∧ α' 43 = qac_t [1] (α 43) (σ 42 1)) := by
  refine qr_start (d := d + 3) qv_e150 (Nat.le_of_ble_eq_true rfl) ?_
  show qr_W (qe L xs vb) (d + 3) qx_e150 _ (0, [(0, .ref 42), (1, .int (qz 6)), (2, .int (qz 0)), (3, .int (qz x3)), (4, .int (qz x4))], [], _, 0, 0)
  have hF0 := qFr_rf [(42, 1)] [43] σ α
  have hz42_1 : (-2147483648) ≤ σ 42 1 ∧ σ 42 1 ≤ 2147483647 := hI.1 42 1
  refine qr_aload_n 1 rfl rfl rfl ?_
  refine qr_iload_n 2 rfl rfl rfl ?_
  refine qr_iload_n 3 rfl rfl rfl ?_
  refine qr_iload_n 4 rfl rfl rfl ?_
  refine qr_iload 6 rfl rfl rfl ?_
  refine qr_iconst 7 rfl rfl ?_
  have hs1 : (-2147483648) ≤ σ 42 1 ∧ σ 42 1 ≤ 2147483647 := hI.1 42 1
  refine qr_callN 10 rfl rfl rfl (sf_151_42er6_0 (d := d + 0) hI r3 r4 (by decide) (by omega)) ?_
  rintro _ _ ⟨σ6, α7, rfl, hI8, hG9, hw5, v2, rfl, hv2, hx3, hx4⟩
  have hF10 : qFr [(42, 1)] [43] σ α σ6 α7 := qFr_t hF0 hG9 (by decide) (by decide)
  have hs11 : (-2147483648) ≤ σ6 42 1 ∧ σ6 42 1 ≤ 2147483647 := hI8.1 42 1
  show qr_W (qe L xs vb) (d + 3) qx_e150 _ (10, _, [.int (qz v2)], qw σ6 α7 κ ρ, 0, 0)
  refine qr_retI rfl rfl (by decide) (by decide) ?_
  exact ⟨_, _, rfl, hI8, hF10, (by have hw : σ6 42 1 = (σ6 42 1) := rfl; omega), v2, rfl, hv2, hx3, hx4⟩

set_option maxHeartbeats 4000000 in
set_option maxRecDepth 20000 in
/-- OneRoof$Acts.begin -/
theorem sf_153_42eb10_0_6 {L : Nat} {xs : Nat → Int} {vb : Bool} {d : Nat} {σ α : Nat → Nat → Int} {κ : Nat → Option Nat} {ρ : Nat} {x4 : Int} {x5 : Int} {x6 : Int} (hI : qI σ α κ ρ) (r4 : (-2147483648) ≤ x4 ∧ x4 ≤ 2147483647) (r5 : (-2147483648) ≤ x5 ∧ x5 ≤ 2147483647) (r6 : 0 ≤ x6 ∧ x6 ≤ 39) (p0 : 0 ≤ σ 42 1 ∧ σ 42 1 ≤ 22) : qm_T (qe L xs vb) (d + 4) 153 [.ref 42, .int (qz 10), .int (qz 0), .int (qz 6), .int (qz x4), .int (qz x5), .int (qz x6)] (qw σ α κ ρ) (fun r w' => ∃ σ' α', w' = qw σ' α' κ ρ ∧ qI σ' α' κ ρ ∧ qFr [(42, 1)] [43] σ α σ' α' ∧ σ' 42 1 = σ 42 1 + 2 ∧ ∃ v : Int, r = some (.int (qz v)) ∧ ((-2147483648) ≤ v ∧ v ≤ 2147483647) ∧ v = qac_m (qac_a x4 x5) 2 ∧ α' 43 = qac_t [10, 1] (α 43) (σ 42 1)) := by
  refine qr_start (d := d + 3) qv_e153 (Nat.le_of_ble_eq_true rfl) ?_
  show qr_W (qe L xs vb) (d + 3) qx_e153 _ (0, [(0, .ref 42), (1, .int (qz 10)), (2, .int (qz 0)), (3, .int (qz 6)), (4, .int (qz x4)), (5, .int (qz x5)), (6, .int (qz x6))], [], _, 0, 0)
  have hF0 := qFr_rf [(42, 1)] [43] σ α
  have hz42_1 : (-2147483648) ≤ σ 42 1 ∧ σ 42 1 ≤ 2147483647 := hI.1 42 1
  refine qr_aload_n 1 rfl rfl rfl ?_
  refine qr_get 4 rfl rfl rfl (by decide) rfl ?_
  refine qr_aload_n 5 rfl rfl rfl ?_
  refine qr_get 8 rfl rfl rfl (by decide) rfl ?_
  refine qr_alen 9 rfl rfl (by first | exact Or.inl (by decide) | exact Or.inr (Or.inl rfl) | exact Or.inr (Or.inr (Or.inl rfl)) | exact Or.inr (Or.inr (Or.inr (Or.inl rfl)))) rfl ?_
  refine qy_v 24 rfl ?_
  refine qr_icmp_ge 22 12 rfl rfl rfl hz42_1 (by decide) (fun h => False.elim (by omega)) (fun h1 => ?_)
  refine qr_aload_n 13 rfl rfl rfl ?_
  refine qr_get 16 rfl rfl rfl (by decide) rfl ?_
  refine qr_aload_n 17 rfl rfl rfl ?_
  refine qr_get 20 rfl rfl rfl (by decide) rfl ?_
  refine qr_iload_n 21 rfl rfl rfl ?_
  refine qr_iastore 22 rfl (by decide) rfl (by omega) (by decide) rfl ?_
  refine qy_wA (qw_r α 43 (qzu (α 43) ((σ 42 1) : Int).toNat 10)) rfl (fun α2 e3 => ?_)
  have hI4 : qI σ α2 κ ρ := by rw [e3]; exact qI_r hI 43 _ rfl (show (-2147483648) ≤ 10 ∧ 10 ≤ 2147483647 by omega)
  have hF5 : qFr [(42, 1)] [43] σ α σ α2 := by rw [e3]; exact qFr_r hF0 43 _ (by decide)
  refine qr_aload_n 23 rfl rfl rfl ?_
  refine qr_dup 24 rfl rfl rfl ?_
  refine qr_get 27 rfl rfl rfl (by decide) rfl ?_
  refine qr_iconst 28 rfl rfl ?_
  refine qr_iadd 29 rfl rfl ?_
  refine qr_put 32 rfl (by decide) rfl (Nat.le_of_ble_eq_true rfl) (Nat.le_of_ble_eq_true rfl) (Or.inl rfl) (qr_fitI rfl _) rfl ?_
  refine qy_wS (qw_s σ 42 1 ((σ 42 1) + 1)) rfl (fun σ6 e7 => ?_)
  have hI8 : qI σ6 α2 κ ρ := by rw [e7]; exact qI_s hI4 42 1 rfl (show (-2147483648) ≤ ((σ 42 1) + 1) ∧ ((σ 42 1) + 1) ≤ 2147483647 by omega)
  have hF9 : qFr [(42, 1)] [43] σ α σ6 α2 := by rw [e7]; exact qFr_s hF5 42 1 _ (by decide)
  refine qr_getst 35 rfl rfl ?_
  refine qr_iload_n 36 rfl rfl rfl ?_
  refine qr_iaload 37 rfl rfl (by decide) (by decide) rfl ?_
  refine qy_v (-1) (by decide) ?_
  refine qr_istore _ 39 rfl (by decide) rfl rfl ?_
  refine qr_iload_n 40 rfl rfl rfl ?_
  refine qr_look (off := 139) 179 rfl (by omega) (by decide) (by decide) rfl ?_
  refine qr_aload_n 180 rfl rfl rfl ?_
  refine qr_iload_n 181 rfl rfl rfl ?_
  refine qr_iconst 182 rfl rfl ?_
  refine qr_iload 184 rfl rfl rfl ?_
  refine qr_iload 186 rfl rfl rfl ?_
  refine qr_iload 188 rfl rfl rfl ?_
  have hr10 : σ6 42 1 = ((σ 42 1) + 1) := (congrFun (congrFun e7 42) 1).trans rfl
  have hs11 : (-2147483648) ≤ σ6 42 1 ∧ σ6 42 1 ≤ 2147483647 := hI8.1 42 1
  have hs12 : σ6 42 1 = ((σ 42 1) + 1) := (congrFun (congrFun e7 42) 1).trans rfl
  refine qr_callN 191 rfl rfl rfl (sf_151_42er6_0 (d := d + 0) hI8 r4 r5 r6 (by omega)) ?_
  rintro _ _ ⟨σ17, α18, rfl, hI19, hG20, hw16, v13, rfl, hv13, hx14, hx15⟩
  have hF21 : qFr [(42, 1)] [43] σ α σ17 α18 := qFr_t hF9 hG20 (by decide) (by decide)
  have hs22 : (-2147483648) ≤ σ17 42 1 ∧ σ17 42 1 ≤ 2147483647 := hI19.1 42 1
  show qr_W (qe L xs vb) (d + 3) qx_e153 _ (191, _, [.int (qz v13)], qw σ17 α18 κ ρ, 0, 0)
  refine qr_iconst 192 rfl rfl ?_
  refine qr_imul 193 rfl rfl ?_
  refine qy_canE (fun v23 hv23 hev23 => ?_)
  refine qr_retI rfl rfl (by decide) (by decide) ?_
  exact ⟨_, _, rfl, hI19, hF21, (by have hw : σ17 42 1 = (σ17 42 1) := rfl; omega), v23, rfl, hv23, ((qac_v hev23 (by omega)).trans (by rw [hx14]; rfl)), (by rw [hx15, show α2 43 = qzu (α 43) (σ 42 1 : Int).toNat 10 from ((congrFun e3 43).trans (qw_r_eq.trans (congrArg (fun f => qzu f ((σ 42 1) : Int).toNat 10) rfl))), show σ6 42 1 = σ 42 1 + 1 by omega]; rfl)⟩

set_option maxHeartbeats 4000000 in
set_option maxRecDepth 20000 in
/-- OneRoof$Acts.runFrom -/
theorem sf_152_42ef0_6_1 {L : Nat} {xs : Nat → Int} {vb : Bool} {d : Nat} {σ α : Nat → Nat → Int} {κ : Nat → Option Nat} {ρ : Nat} {x4 : Int} {x5 : Int} {x6 : Int} (hI : qI σ α κ ρ) (r4 : (-2147483648) ≤ x4 ∧ x4 ≤ 2147483647) (r5 : (-2147483648) ≤ x5 ∧ x5 ≤ 2147483647) (r6 : 0 ≤ x6 ∧ x6 ≤ 38) (p0 : 0 ≤ σ 42 1 ∧ σ 42 1 ≤ 22) : qm_T (qe L xs vb) (d + 5) 152 [.ref 42, .int (qz 0), .int (qz 6), .int (qz 1), .int (qz x4), .int (qz x5), .int (qz x6)] (qw σ α κ ρ) (fun r w' => ∃ σ' α', w' = qw σ' α' κ ρ ∧ qI σ' α' κ ρ ∧ qFr [(42, 1)] [43] σ α σ' α' ∧ σ' 42 1 = σ 42 1 + 2 ∧ ∃ v : Int, r = some (.int (qz v)) ∧ ((-2147483648) ≤ v ∧ v ≤ 2147483647) ∧ v = qac_m (qac_a x4 x5) 2 ∧ α' 43 = qac_t [10, 1] (α 43) (σ 42 1)) := by
  refine qr_start (d := d + 4) qv_e152 (Nat.le_of_ble_eq_true rfl) ?_
  show qr_W (qe L xs vb) (d + 4) qx_e152 _ (0, [(0, .ref 42), (1, .int (qz 0)), (2, .int (qz 6)), (3, .int (qz 1)), (4, .int (qz x4)), (5, .int (qz x5)), (6, .int (qz x6))], [], _, 0, 0)
  have hF0 := qFr_rf [(42, 1)] [43] σ α
  have hz42_1 : (-2147483648) ≤ σ 42 1 ∧ σ 42 1 ≤ 2147483647 := hI.1 42 1
  refine qr_iload_n 1 rfl rfl rfl ?_
  refine qr_istore _ 3 rfl (by decide) rfl rfl ?_
  refine qr_iconst 4 rfl rfl ?_
  refine qr_istore _ 6 rfl (by decide) rfl rfl ?_
  refine qr_iload 8 rfl rfl rfl ?_
  refine qr_getst 11 rfl rfl ?_
  refine qr_alen 12 rfl rfl (by first | exact Or.inl (by decide) | exact Or.inr (Or.inl rfl) | exact Or.inr (Or.inr (Or.inl rfl)) | exact Or.inr (Or.inr (Or.inr (Or.inl rfl)))) rfl ?_
  refine qy_v 7 rfl ?_
  refine qr_icmp_ge 89 15 rfl rfl rfl (by decide) (by decide) (fun h => False.elim (by omega)) (fun h1 => ?_)
  refine qr_iload 17 rfl rfl rfl ?_
  refine qr_if_lt 89 20 rfl rfl rfl (by decide) (fun h => False.elim (by omega)) (fun h2 => ?_)
  refine qr_iload 22 rfl rfl rfl ?_
  refine qr_getst 25 rfl rfl ?_
  refine qr_alen 26 rfl rfl (by first | exact Or.inl (by decide) | exact Or.inr (Or.inl rfl) | exact Or.inr (Or.inr (Or.inl rfl)) | exact Or.inr (Or.inr (Or.inr (Or.inl rfl)))) rfl ?_
  refine qy_v 7 rfl ?_
  refine qr_icmp_ge 89 29 rfl rfl rfl (by decide) (by decide) (fun h => False.elim (by omega)) (fun h3 => ?_)
  refine qr_getst 32 rfl rfl ?_
  refine qr_iload 34 rfl rfl rfl ?_
  refine qr_iconst 35 rfl rfl ?_
  refine qr_imul 36 rfl rfl ?_
  refine qy_v 0 rfl ?_
  refine qr_iload_n 37 rfl rfl rfl ?_
  refine qr_iadd 38 rfl rfl ?_
  refine qy_v 1 rfl ?_
  refine qr_iaload 39 rfl rfl (by decide) (by decide) rfl ?_
  refine qy_v 10 (by decide) ?_
  refine qr_istore _ 41 rfl (by decide) rfl rfl ?_
  refine qr_iload 43 rfl rfl rfl ?_
  refine qr_if_eq 75 46 rfl rfl rfl (by decide) (fun h => False.elim (by omega)) (fun h4 => ?_)
  refine qr_iload 48 rfl rfl rfl ?_
  refine qr_bipush 50 rfl (by decide) rfl ?_
  refine qr_icmp_le 57 53 rfl rfl rfl (qrg r6 (by decide) (by decide)) (by decide) (fun h5 => ?_) (fun h => False.elim (by omega))
  refine qr_aload_n 58 rfl rfl rfl ?_
  refine qr_iload 60 rfl rfl rfl ?_
  refine qr_iload 62 rfl rfl rfl ?_
  refine qr_iload_n 63 rfl rfl rfl ?_
  refine qr_iload 65 rfl rfl rfl ?_
  refine qr_iload 67 rfl rfl rfl ?_
  refine qr_iload 69 rfl rfl rfl ?_
  refine qr_iconst 70 rfl rfl ?_
  refine qr_iadd 71 rfl rfl ?_
  have hs6 : (-2147483648) ≤ σ 42 1 ∧ σ 42 1 ≤ 2147483647 := hI.1 42 1
  refine qr_callN 74 rfl rfl rfl (sf_153_42eb10_0_6 (d := d + 0) hI r4 r5 (by omega) (by omega)) ?_
  rintro _ _ ⟨σ11, α12, rfl, hI13, hG14, hw10, v7, rfl, hv7, hx8, hx9⟩
  have hF15 : qFr [(42, 1)] [43] σ α σ11 α12 := qFr_t hF0 hG14 (by decide) (by decide)
  have hs16 : (-2147483648) ≤ σ11 42 1 ∧ σ11 42 1 ≤ 2147483647 := hI13.1 42 1
  show qr_W (qe L xs vb) (d + 4) qx_e152 _ (74, _, [.int (qz v7)], qw σ11 α12 κ ρ, 0, 0)
  refine qr_retI rfl rfl (by decide) (by decide) ?_
  exact ⟨_, _, rfl, hI13, hF15, (by have hw : σ11 42 1 = (σ11 42 1) := rfl; omega), v7, rfl, hv7, hx8, hx9⟩

set_option maxHeartbeats 4000000 in
set_option maxRecDepth 20000 in
/-- OneRoof$Acts.begin -/
theorem sf_153_42eb71_6_6 {L : Nat} {xs : Nat → Int} {vb : Bool} {d : Nat} {σ α : Nat → Nat → Int} {κ : Nat → Option Nat} {ρ : Nat} {x4 : Int} {x5 : Int} {x6 : Int} (hI : qI σ α κ ρ) (r4 : (-2147483648) ≤ x4 ∧ x4 ≤ 2147483647) (r5 : (-2147483648) ≤ x5 ∧ x5 ≤ 2147483647) (r6 : 0 ≤ x6 ∧ x6 ≤ 38) (p0 : 0 ≤ σ 42 1 ∧ σ 42 1 ≤ 21) : qm_T (qe L xs vb) (d + 6) 153 [.ref 42, .int (qz 71), .int (qz 6), .int (qz 6), .int (qz x4), .int (qz x5), .int (qz x6)] (qw σ α κ ρ) (fun r w' => ∃ σ' α', w' = qw σ' α' κ ρ ∧ qI σ' α' κ ρ ∧ qFr [(42, 1)] [43] σ α σ' α' ∧ σ' 42 1 = σ 42 1 + 3 ∧ ∃ v : Int, r = some (.int (qz v)) ∧ ((-2147483648) ≤ v ∧ v ≤ 2147483647) ∧ v = qac_m (qac_m (qac_a x4 x5) 2) 2 ∧ α' 43 = qac_t [71, 10, 1] (α 43) (σ 42 1)) := by
  refine qr_start (d := d + 5) qv_e153 (Nat.le_of_ble_eq_true rfl) ?_
  show qr_W (qe L xs vb) (d + 5) qx_e153 _ (0, [(0, .ref 42), (1, .int (qz 71)), (2, .int (qz 6)), (3, .int (qz 6)), (4, .int (qz x4)), (5, .int (qz x5)), (6, .int (qz x6))], [], _, 0, 0)
  have hF0 := qFr_rf [(42, 1)] [43] σ α
  have hz42_1 : (-2147483648) ≤ σ 42 1 ∧ σ 42 1 ≤ 2147483647 := hI.1 42 1
  refine qr_aload_n 1 rfl rfl rfl ?_
  refine qr_get 4 rfl rfl rfl (by decide) rfl ?_
  refine qr_aload_n 5 rfl rfl rfl ?_
  refine qr_get 8 rfl rfl rfl (by decide) rfl ?_
  refine qr_alen 9 rfl rfl (by first | exact Or.inl (by decide) | exact Or.inr (Or.inl rfl) | exact Or.inr (Or.inr (Or.inl rfl)) | exact Or.inr (Or.inr (Or.inr (Or.inl rfl)))) rfl ?_
  refine qy_v 24 rfl ?_
  refine qr_icmp_ge 22 12 rfl rfl rfl hz42_1 (by decide) (fun h => False.elim (by omega)) (fun h1 => ?_)
  refine qr_aload_n 13 rfl rfl rfl ?_
  refine qr_get 16 rfl rfl rfl (by decide) rfl ?_
  refine qr_aload_n 17 rfl rfl rfl ?_
  refine qr_get 20 rfl rfl rfl (by decide) rfl ?_
  refine qr_iload_n 21 rfl rfl rfl ?_
  refine qr_iastore 22 rfl (by decide) rfl (by omega) (by decide) rfl ?_
  refine qy_wA (qw_r α 43 (qzu (α 43) ((σ 42 1) : Int).toNat 71)) rfl (fun α2 e3 => ?_)
  have hI4 : qI σ α2 κ ρ := by rw [e3]; exact qI_r hI 43 _ rfl (show (-2147483648) ≤ 71 ∧ 71 ≤ 2147483647 by omega)
  have hF5 : qFr [(42, 1)] [43] σ α σ α2 := by rw [e3]; exact qFr_r hF0 43 _ (by decide)
  refine qr_aload_n 23 rfl rfl rfl ?_
  refine qr_dup 24 rfl rfl rfl ?_
  refine qr_get 27 rfl rfl rfl (by decide) rfl ?_
  refine qr_iconst 28 rfl rfl ?_
  refine qr_iadd 29 rfl rfl ?_
  refine qr_put 32 rfl (by decide) rfl (Nat.le_of_ble_eq_true rfl) (Nat.le_of_ble_eq_true rfl) (Or.inl rfl) (qr_fitI rfl _) rfl ?_
  refine qy_wS (qw_s σ 42 1 ((σ 42 1) + 1)) rfl (fun σ6 e7 => ?_)
  have hI8 : qI σ6 α2 κ ρ := by rw [e7]; exact qI_s hI4 42 1 rfl (show (-2147483648) ≤ ((σ 42 1) + 1) ∧ ((σ 42 1) + 1) ≤ 2147483647 by omega)
  have hF9 : qFr [(42, 1)] [43] σ α σ6 α2 := by rw [e7]; exact qFr_s hF5 42 1 _ (by decide)
  refine qr_getst 35 rfl rfl ?_
  refine qr_iload_n 36 rfl rfl rfl ?_
  refine qr_iaload 37 rfl rfl (by decide) (by decide) rfl ?_
  refine qy_v 0 (by decide) ?_
  refine qr_istore _ 39 rfl (by decide) rfl rfl ?_
  refine qr_iload_n 40 rfl rfl rfl ?_
  refine qr_look (off := 298) 338 rfl (by omega) (by decide) (by decide) rfl ?_
  refine qr_aload_n 339 rfl rfl rfl ?_
  refine qr_iload 341 rfl rfl rfl ?_
  refine qr_iload_n 342 rfl rfl rfl ?_
  refine qr_iconst 343 rfl rfl ?_
  refine qr_iload 345 rfl rfl rfl ?_
  refine qr_iload 347 rfl rfl rfl ?_
  refine qr_iload 349 rfl rfl rfl ?_
  have hr10 : σ6 42 1 = ((σ 42 1) + 1) := (congrFun (congrFun e7 42) 1).trans rfl
  have hs11 : (-2147483648) ≤ σ6 42 1 ∧ σ6 42 1 ≤ 2147483647 := hI8.1 42 1
  have hs12 : σ6 42 1 = ((σ 42 1) + 1) := (congrFun (congrFun e7 42) 1).trans rfl
  refine qr_callN 352 rfl rfl rfl (sf_152_42ef0_6_1 (d := d + 0) hI8 r4 r5 r6 (by omega)) ?_
  rintro _ _ ⟨σ17, α18, rfl, hI19, hG20, hw16, v13, rfl, hv13, hx14, hx15⟩
  have hF21 : qFr [(42, 1)] [43] σ α σ17 α18 := qFr_t hF9 hG20 (by decide) (by decide)
  have hs22 : (-2147483648) ≤ σ17 42 1 ∧ σ17 42 1 ≤ 2147483647 := hI19.1 42 1
  show qr_W (qe L xs vb) (d + 5) qx_e153 _ (352, _, [.int (qz v13)], qw σ17 α18 κ ρ, 0, 0)
  refine qr_iconst 353 rfl rfl ?_
  refine qr_imul 354 rfl rfl ?_
  refine qy_canE (fun v23 hv23 hev23 => ?_)
  refine qr_retI rfl rfl (by decide) (by decide) ?_
  exact ⟨_, _, rfl, hI19, hF21, (by have hw : σ17 42 1 = (σ17 42 1) := rfl; omega), v23, rfl, hv23, ((qac_v hev23 (by omega)).trans (by rw [hx14]; rfl)), (by rw [hx15, show α2 43 = qzu (α 43) (σ 42 1 : Int).toNat 71 from ((congrFun e3 43).trans (qw_r_eq.trans (congrArg (fun f => qzu f ((σ 42 1) : Int).toNat 71) rfl))), show σ6 42 1 = σ 42 1 + 1 by omega]; rfl)⟩

set_option maxHeartbeats 4000000 in
set_option maxRecDepth 20000 in
/-- OneRoof$Acts.runFrom -/
theorem sf_152_42ef6_6_1 {L : Nat} {xs : Nat → Int} {vb : Bool} {d : Nat} {σ α : Nat → Nat → Int} {κ : Nat → Option Nat} {ρ : Nat} {x4 : Int} {x5 : Int} {x6 : Int} (hI : qI σ α κ ρ) (r4 : (-2147483648) ≤ x4 ∧ x4 ≤ 2147483647) (r5 : (-2147483648) ≤ x5 ∧ x5 ≤ 2147483647) (r6 : 0 ≤ x6 ∧ x6 ≤ 37) (p0 : 0 ≤ σ 42 1 ∧ σ 42 1 ≤ 21) : qm_T (qe L xs vb) (d + 7) 152 [.ref 42, .int (qz 6), .int (qz 6), .int (qz 1), .int (qz x4), .int (qz x5), .int (qz x6)] (qw σ α κ ρ) (fun r w' => ∃ σ' α', w' = qw σ' α' κ ρ ∧ qI σ' α' κ ρ ∧ qFr [(42, 1)] [43] σ α σ' α' ∧ σ' 42 1 = σ 42 1 + 3 ∧ ∃ v : Int, r = some (.int (qz v)) ∧ ((-2147483648) ≤ v ∧ v ≤ 2147483647) ∧ v = qac_m (qac_m (qac_a x4 x5) 2) 2 ∧ α' 43 = qac_t [71, 10, 1] (α 43) (σ 42 1)) := by
  refine qr_start (d := d + 6) qv_e152 (Nat.le_of_ble_eq_true rfl) ?_
  show qr_W (qe L xs vb) (d + 6) qx_e152 _ (0, [(0, .ref 42), (1, .int (qz 6)), (2, .int (qz 6)), (3, .int (qz 1)), (4, .int (qz x4)), (5, .int (qz x5)), (6, .int (qz x6))], [], _, 0, 0)
  have hF0 := qFr_rf [(42, 1)] [43] σ α
  have hz42_1 : (-2147483648) ≤ σ 42 1 ∧ σ 42 1 ≤ 2147483647 := hI.1 42 1
  refine qr_iload_n 1 rfl rfl rfl ?_
  refine qr_istore _ 3 rfl (by decide) rfl rfl ?_
  refine qr_iconst 4 rfl rfl ?_
  refine qr_istore _ 6 rfl (by decide) rfl rfl ?_
  refine qr_iload 8 rfl rfl rfl ?_
  refine qr_getst 11 rfl rfl ?_
  refine qr_alen 12 rfl rfl (by first | exact Or.inl (by decide) | exact Or.inr (Or.inl rfl) | exact Or.inr (Or.inr (Or.inl rfl)) | exact Or.inr (Or.inr (Or.inr (Or.inl rfl)))) rfl ?_
  refine qy_v 7 rfl ?_
  refine qr_icmp_ge 89 15 rfl rfl rfl (by decide) (by decide) (fun h => False.elim (by omega)) (fun h1 => ?_)
  refine qr_iload 17 rfl rfl rfl ?_
  refine qr_if_lt 89 20 rfl rfl rfl (by decide) (fun h => False.elim (by omega)) (fun h2 => ?_)
  refine qr_iload 22 rfl rfl rfl ?_
  refine qr_getst 25 rfl rfl ?_
  refine qr_alen 26 rfl rfl (by first | exact Or.inl (by decide) | exact Or.inr (Or.inl rfl) | exact Or.inr (Or.inr (Or.inl rfl)) | exact Or.inr (Or.inr (Or.inr (Or.inl rfl)))) rfl ?_
  refine qy_v 7 rfl ?_
  refine qr_icmp_ge 89 29 rfl rfl rfl (by decide) (by decide) (fun h => False.elim (by omega)) (fun h3 => ?_)
  refine qr_getst 32 rfl rfl ?_
  refine qr_iload 34 rfl rfl rfl ?_
  refine qr_iconst 35 rfl rfl ?_
  refine qr_imul 36 rfl rfl ?_
  refine qy_v 24 rfl ?_
  refine qr_iload_n 37 rfl rfl rfl ?_
  refine qr_iadd 38 rfl rfl ?_
  refine qy_v 25 rfl ?_
  refine qr_iaload 39 rfl rfl (by decide) (by decide) rfl ?_
  refine qy_v 71 (by decide) ?_
  refine qr_istore _ 41 rfl (by decide) rfl rfl ?_
  refine qr_iload 43 rfl rfl rfl ?_
  refine qr_if_eq 75 46 rfl rfl rfl (by decide) (fun h => False.elim (by omega)) (fun h4 => ?_)
  refine qr_iload 48 rfl rfl rfl ?_
  refine qr_bipush 50 rfl (by decide) rfl ?_
  refine qr_icmp_le 57 53 rfl rfl rfl (qrg r6 (by decide) (by decide)) (by decide) (fun h5 => ?_) (fun h => False.elim (by omega))
  refine qr_aload_n 58 rfl rfl rfl ?_
  refine qr_iload 60 rfl rfl rfl ?_
  refine qr_iload 62 rfl rfl rfl ?_
  refine qr_iload_n 63 rfl rfl rfl ?_
  refine qr_iload 65 rfl rfl rfl ?_
  refine qr_iload 67 rfl rfl rfl ?_
  refine qr_iload 69 rfl rfl rfl ?_
  refine qr_iconst 70 rfl rfl ?_
  refine qr_iadd 71 rfl rfl ?_
  have hs6 : (-2147483648) ≤ σ 42 1 ∧ σ 42 1 ≤ 2147483647 := hI.1 42 1
  refine qr_callN 74 rfl rfl rfl (sf_153_42eb71_6_6 (d := d + 0) hI r4 r5 (by omega) (by omega)) ?_
  rintro _ _ ⟨σ11, α12, rfl, hI13, hG14, hw10, v7, rfl, hv7, hx8, hx9⟩
  have hF15 : qFr [(42, 1)] [43] σ α σ11 α12 := qFr_t hF0 hG14 (by decide) (by decide)
  have hs16 : (-2147483648) ≤ σ11 42 1 ∧ σ11 42 1 ≤ 2147483647 := hI13.1 42 1
  show qr_W (qe L xs vb) (d + 6) qx_e152 _ (74, _, [.int (qz v7)], qw σ11 α12 κ ρ, 0, 0)
  refine qr_retI rfl rfl (by decide) (by decide) ?_
  exact ⟨_, _, rfl, hI13, hF15, (by have hw : σ11 42 1 = (σ11 42 1) := rfl; omega), v7, rfl, hv7, hx8, hx9⟩

set_option maxHeartbeats 4000000 in
set_option maxRecDepth 20000 in
/-- OneRoof$Acts.run -/
theorem sf_151_42er6_1 {L : Nat} {xs : Nat → Int} {vb : Bool} {d : Nat} {σ α : Nat → Nat → Int} {κ : Nat → Option Nat} {ρ : Nat} {x3 : Int} {x4 : Int} {x5 : Int} (hI : qI σ α κ ρ) (r3 : (-2147483648) ≤ x3 ∧ x3 ≤ 2147483647) (r4 : (-2147483648) ≤ x4 ∧ x4 ≤ 2147483647) (r5 : 0 ≤ x5 ∧ x5 ≤ 37) (p0 : 0 ≤ σ 42 1 ∧ σ 42 1 ≤ 21) : qm_T (qe L xs vb) (d + 8) 151 [.ref 42, .int (qz 6), .int (qz 1), .int (qz x3), .int (qz x4), .int (qz x5)] (qw σ α κ ρ) (fun r w' => ∃ σ' α', w' = qw σ' α' κ ρ ∧ qI σ' α' κ ρ ∧ qFr [(42, 1)] [43] σ α σ' α' ∧ σ' 42 1 = σ 42 1 + 3 ∧ ∃ v : Int, r = some (.int (qz v)) ∧ ((-2147483648) ≤ v ∧ v ≤ 2147483647) ∧ v = qac_m (qac_m (qac_a x3 x4) 2) 2 ∧ α' 43 = qac_t [71, 10, 1] (α 43) (σ 42 1)) := by
  refine qr_start (d := d + 7) qv_e151 (Nat.le_of_ble_eq_true rfl) ?_
  show qr_W (qe L xs vb) (d + 7) qx_e151 _ (0, [(0, .ref 42), (1, .int (qz 6)), (2, .int (qz 1)), (3, .int (qz x3)), (4, .int (qz x4)), (5, .int (qz x5))], [], _, 0, 0)
  have hF0 := qFr_rf [(42, 1)] [43] σ α
  have hz42_1 : (-2147483648) ≤ σ 42 1 ∧ σ 42 1 ≤ 2147483647 := hI.1 42 1
  refine qr_aload_n 1 rfl rfl rfl ?_
  refine qr_iload_n 2 rfl rfl rfl ?_
  refine qr_iload_n 3 rfl rfl rfl ?_
  refine qr_iload_n 4 rfl rfl rfl ?_
  refine qr_iload_n 5 rfl rfl rfl ?_
  refine qr_iload 7 rfl rfl rfl ?_
  refine qr_iload 9 rfl rfl rfl ?_
  have hs1 : (-2147483648) ≤ σ 42 1 ∧ σ 42 1 ≤ 2147483647 := hI.1 42 1
  refine qr_callN 12 rfl rfl rfl (sf_152_42ef6_6_1 (d := d + 0) hI r3 r4 r5 (by omega)) ?_
  rintro _ _ ⟨σ6, α7, rfl, hI8, hG9, hw5, v2, rfl, hv2, hx3, hx4⟩
  have hF10 : qFr [(42, 1)] [43] σ α σ6 α7 := qFr_t hF0 hG9 (by decide) (by decide)
  have hs11 : (-2147483648) ≤ σ6 42 1 ∧ σ6 42 1 ≤ 2147483647 := hI8.1 42 1
  show qr_W (qe L xs vb) (d + 7) qx_e151 _ (12, _, [.int (qz v2)], qw σ6 α7 κ ρ, 0, 0)
  refine qr_retI rfl rfl (by decide) (by decide) ?_
  exact ⟨_, _, rfl, hI8, hF10, (by have hw : σ6 42 1 = (σ6 42 1) := rfl; omega), v2, rfl, hv2, hx3, hx4⟩

set_option maxHeartbeats 4000000 in
set_option maxRecDepth 20000 in
/-- OneRoof$Acts.start -/
theorem sf_150_42es6_1 {L : Nat} {xs : Nat → Int} {vb : Bool} {d : Nat} {σ α : Nat → Nat → Int} {κ : Nat → Option Nat} {ρ : Nat} {x3 : Int} {x4 : Int} (hI : qI σ α κ ρ) (r3 : (-2147483648) ≤ x3 ∧ x3 ≤ 2147483647) (r4 : (-2147483648) ≤ x4 ∧ x4 ≤ 2147483647) (p0 : 0 ≤ σ 42 1 ∧ σ 42 1 ≤ 21) : qm_T (qe L xs vb) (d + 9) 150 [.ref 42, .int (qz 6), .int (qz 1), .int (qz x3), .int (qz x4)] (qw σ α κ ρ) (fun r w' => ∃ σ' α', w' = qw σ' α' κ ρ ∧ qI σ' α' κ ρ ∧ qFr [(42, 1)] [43] σ α σ' α' ∧ σ' 42 1 = σ 42 1 + 3 ∧ ∃ v : Int, r = some (.int (qz v)) ∧ ((-2147483648) ≤ v ∧ v ≤ 2147483647) ∧ v = qac_m (qac_m (qac_a x3 x4) 2) 2 ∧ α' 43 = qac_t [71, 10, 1] (α 43) (σ 42 1)) := by
  refine qr_start (d := d + 8) qv_e150 (Nat.le_of_ble_eq_true rfl) ?_
  show qr_W (qe L xs vb) (d + 8) qx_e150 _ (0, [(0, .ref 42), (1, .int (qz 6)), (2, .int (qz 1)), (3, .int (qz x3)), (4, .int (qz x4))], [], _, 0, 0)
  have hF0 := qFr_rf [(42, 1)] [43] σ α
  have hz42_1 : (-2147483648) ≤ σ 42 1 ∧ σ 42 1 ≤ 2147483647 := hI.1 42 1
  refine qr_aload_n 1 rfl rfl rfl ?_
  refine qr_iload_n 2 rfl rfl rfl ?_
  refine qr_iload_n 3 rfl rfl rfl ?_
  refine qr_iload_n 4 rfl rfl rfl ?_
  refine qr_iload 6 rfl rfl rfl ?_
  refine qr_iconst 7 rfl rfl ?_
  have hs1 : (-2147483648) ≤ σ 42 1 ∧ σ 42 1 ≤ 2147483647 := hI.1 42 1
  refine qr_callN 10 rfl rfl rfl (sf_151_42er6_1 (d := d + 0) hI r3 r4 (by decide) (by omega)) ?_
  rintro _ _ ⟨σ6, α7, rfl, hI8, hG9, hw5, v2, rfl, hv2, hx3, hx4⟩
  have hF10 : qFr [(42, 1)] [43] σ α σ6 α7 := qFr_t hF0 hG9 (by decide) (by decide)
  have hs11 : (-2147483648) ≤ σ6 42 1 ∧ σ6 42 1 ≤ 2147483647 := hI8.1 42 1
  show qr_W (qe L xs vb) (d + 8) qx_e150 _ (10, _, [.int (qz v2)], qw σ6 α7 κ ρ, 0, 0)
  refine qr_retI rfl rfl (by decide) (by decide) ?_
  exact ⟨_, _, rfl, hI8, hF10, (by have hw : σ6 42 1 = (σ6 42 1) := rfl; omega), v2, rfl, hv2, hx3, hx4⟩

set_option maxHeartbeats 4000000 in
set_option maxRecDepth 20000 in
/-- OneRoof$Acts.begin -/
theorem sf_153_42eb11_0_6 {L : Nat} {xs : Nat → Int} {vb : Bool} {d : Nat} {σ α : Nat → Nat → Int} {κ : Nat → Option Nat} {ρ : Nat} {x4 : Int} {x5 : Int} {x6 : Int} (hI : qI σ α κ ρ) (r4 : (-2147483648) ≤ x4 ∧ x4 ≤ 2147483647) (r5 : (-2147483648) ≤ x5 ∧ x5 ≤ 2147483647) (r6 : 0 ≤ x6 ∧ x6 ≤ 40) (p0 : 0 ≤ σ 42 1 ∧ σ 42 1 ≤ 23) : qm_T (qe L xs vb) (d + 1) 153 [.ref 42, .int (qz 11), .int (qz 0), .int (qz 6), .int (qz x4), .int (qz x5), .int (qz x6)] (qw σ α κ ρ) (fun r w' => ∃ σ' α', w' = qw σ' α' κ ρ ∧ qI σ' α' κ ρ ∧ qFr [(42, 1)] [43] σ α σ' α' ∧ σ' 42 1 = σ 42 1 + 1 ∧ ∃ v : Int, r = some (.int (qz v)) ∧ ((-2147483648) ≤ v ∧ v ≤ 2147483647) ∧ v = qac_x x4 x5 ∧ α' 43 = qac_t [11] (α 43) (σ 42 1)) := by
  refine qr_start (d := d + 0) qv_e153 (Nat.le_of_ble_eq_true rfl) ?_
  show qr_W (qe L xs vb) (d + 0) qx_e153 _ (0, [(0, .ref 42), (1, .int (qz 11)), (2, .int (qz 0)), (3, .int (qz 6)), (4, .int (qz x4)), (5, .int (qz x5)), (6, .int (qz x6))], [], _, 0, 0)
  have hF0 := qFr_rf [(42, 1)] [43] σ α
  have hz42_1 : (-2147483648) ≤ σ 42 1 ∧ σ 42 1 ≤ 2147483647 := hI.1 42 1
  refine qr_aload_n 1 rfl rfl rfl ?_
  refine qr_get 4 rfl rfl rfl (by decide) rfl ?_
  refine qr_aload_n 5 rfl rfl rfl ?_
  refine qr_get 8 rfl rfl rfl (by decide) rfl ?_
  refine qr_alen 9 rfl rfl (by first | exact Or.inl (by decide) | exact Or.inr (Or.inl rfl) | exact Or.inr (Or.inr (Or.inl rfl)) | exact Or.inr (Or.inr (Or.inr (Or.inl rfl)))) rfl ?_
  refine qy_v 24 rfl ?_
  refine qr_icmp_ge 22 12 rfl rfl rfl hz42_1 (by decide) (fun h => False.elim (by omega)) (fun h1 => ?_)
  refine qr_aload_n 13 rfl rfl rfl ?_
  refine qr_get 16 rfl rfl rfl (by decide) rfl ?_
  refine qr_aload_n 17 rfl rfl rfl ?_
  refine qr_get 20 rfl rfl rfl (by decide) rfl ?_
  refine qr_iload_n 21 rfl rfl rfl ?_
  refine qr_iastore 22 rfl (by decide) rfl (by omega) (by decide) rfl ?_
  refine qy_wA (qw_r α 43 (qzu (α 43) ((σ 42 1) : Int).toNat 11)) rfl (fun α2 e3 => ?_)
  have hI4 : qI σ α2 κ ρ := by rw [e3]; exact qI_r hI 43 _ rfl (show (-2147483648) ≤ 11 ∧ 11 ≤ 2147483647 by omega)
  have hF5 : qFr [(42, 1)] [43] σ α σ α2 := by rw [e3]; exact qFr_r hF0 43 _ (by decide)
  refine qr_aload_n 23 rfl rfl rfl ?_
  refine qr_dup 24 rfl rfl rfl ?_
  refine qr_get 27 rfl rfl rfl (by decide) rfl ?_
  refine qr_iconst 28 rfl rfl ?_
  refine qr_iadd 29 rfl rfl ?_
  refine qr_put 32 rfl (by decide) rfl (Nat.le_of_ble_eq_true rfl) (Nat.le_of_ble_eq_true rfl) (Or.inl rfl) (qr_fitI rfl _) rfl ?_
  refine qy_wS (qw_s σ 42 1 ((σ 42 1) + 1)) rfl (fun σ6 e7 => ?_)
  have hI8 : qI σ6 α2 κ ρ := by rw [e7]; exact qI_s hI4 42 1 rfl (show (-2147483648) ≤ ((σ 42 1) + 1) ∧ ((σ 42 1) + 1) ≤ 2147483647 by omega)
  have hF9 : qFr [(42, 1)] [43] σ α σ6 α2 := by rw [e7]; exact qFr_s hF5 42 1 _ (by decide)
  refine qr_getst 35 rfl rfl ?_
  refine qr_iload_n 36 rfl rfl rfl ?_
  refine qr_iaload 37 rfl rfl (by decide) (by decide) rfl ?_
  refine qy_v (-1) (by decide) ?_
  refine qr_istore _ 39 rfl (by decide) rfl rfl ?_
  refine qr_iload_n 40 rfl rfl rfl ?_
  refine qr_look (off := 154) 194 rfl (by omega) (by decide) (by decide) rfl ?_
  refine qr_iload 196 rfl rfl rfl ?_
  refine qr_iload 198 rfl rfl rfl ?_
  refine qr_ixor 199 rfl rfl ?_
  refine qy_canE (fun v10 hv10 hev10 => ?_)
  refine qr_retI rfl rfl (by decide) (by decide) ?_
  exact ⟨_, _, rfl, hI8, hF9, (by have hw : σ6 42 1 = ((σ 42 1) + 1) := (congrFun (congrFun e7 42) 1).trans rfl; omega), v10, rfl, hv10, (qac_v hev10 (by omega)), (((congrFun e3 43).trans (qw_r_eq.trans (congrArg (fun f => qzu f ((σ 42 1) : Int).toNat 11) rfl))))⟩

set_option maxHeartbeats 4000000 in
set_option maxRecDepth 20000 in
/-- OneRoof$Acts.runFrom -/
theorem sf_152_42ef0_6_2 {L : Nat} {xs : Nat → Int} {vb : Bool} {d : Nat} {σ α : Nat → Nat → Int} {κ : Nat → Option Nat} {ρ : Nat} {x4 : Int} {x5 : Int} {x6 : Int} (hI : qI σ α κ ρ) (r4 : (-2147483648) ≤ x4 ∧ x4 ≤ 2147483647) (r5 : (-2147483648) ≤ x5 ∧ x5 ≤ 2147483647) (r6 : 0 ≤ x6 ∧ x6 ≤ 39) (p0 : 0 ≤ σ 42 1 ∧ σ 42 1 ≤ 23) : qm_T (qe L xs vb) (d + 2) 152 [.ref 42, .int (qz 0), .int (qz 6), .int (qz 2), .int (qz x4), .int (qz x5), .int (qz x6)] (qw σ α κ ρ) (fun r w' => ∃ σ' α', w' = qw σ' α' κ ρ ∧ qI σ' α' κ ρ ∧ qFr [(42, 1)] [43] σ α σ' α' ∧ σ' 42 1 = σ 42 1 + 1 ∧ ∃ v : Int, r = some (.int (qz v)) ∧ ((-2147483648) ≤ v ∧ v ≤ 2147483647) ∧ v = qac_x x4 x5 ∧ α' 43 = qac_t [11] (α 43) (σ 42 1)) := by
  refine qr_start (d := d + 1) qv_e152 (Nat.le_of_ble_eq_true rfl) ?_
  show qr_W (qe L xs vb) (d + 1) qx_e152 _ (0, [(0, .ref 42), (1, .int (qz 0)), (2, .int (qz 6)), (3, .int (qz 2)), (4, .int (qz x4)), (5, .int (qz x5)), (6, .int (qz x6))], [], _, 0, 0)
  have hF0 := qFr_rf [(42, 1)] [43] σ α
  have hz42_1 : (-2147483648) ≤ σ 42 1 ∧ σ 42 1 ≤ 2147483647 := hI.1 42 1
  refine qr_iload_n 1 rfl rfl rfl ?_
  refine qr_istore _ 3 rfl (by decide) rfl rfl ?_
  refine qr_iconst 4 rfl rfl ?_
  refine qr_istore _ 6 rfl (by decide) rfl rfl ?_
  refine qr_iload 8 rfl rfl rfl ?_
  refine qr_getst 11 rfl rfl ?_
  refine qr_alen 12 rfl rfl (by first | exact Or.inl (by decide) | exact Or.inr (Or.inl rfl) | exact Or.inr (Or.inr (Or.inl rfl)) | exact Or.inr (Or.inr (Or.inr (Or.inl rfl)))) rfl ?_
  refine qy_v 7 rfl ?_
  refine qr_icmp_ge 89 15 rfl rfl rfl (by decide) (by decide) (fun h => False.elim (by omega)) (fun h1 => ?_)
  refine qr_iload 17 rfl rfl rfl ?_
  refine qr_if_lt 89 20 rfl rfl rfl (by decide) (fun h => False.elim (by omega)) (fun h2 => ?_)
  refine qr_iload 22 rfl rfl rfl ?_
  refine qr_getst 25 rfl rfl ?_
  refine qr_alen 26 rfl rfl (by first | exact Or.inl (by decide) | exact Or.inr (Or.inl rfl) | exact Or.inr (Or.inr (Or.inl rfl)) | exact Or.inr (Or.inr (Or.inr (Or.inl rfl)))) rfl ?_
  refine qy_v 7 rfl ?_
  refine qr_icmp_ge 89 29 rfl rfl rfl (by decide) (by decide) (fun h => False.elim (by omega)) (fun h3 => ?_)
  refine qr_getst 32 rfl rfl ?_
  refine qr_iload 34 rfl rfl rfl ?_
  refine qr_iconst 35 rfl rfl ?_
  refine qr_imul 36 rfl rfl ?_
  refine qy_v 0 rfl ?_
  refine qr_iload_n 37 rfl rfl rfl ?_
  refine qr_iadd 38 rfl rfl ?_
  refine qy_v 2 rfl ?_
  refine qr_iaload 39 rfl rfl (by decide) (by decide) rfl ?_
  refine qy_v 11 (by decide) ?_
  refine qr_istore _ 41 rfl (by decide) rfl rfl ?_
  refine qr_iload 43 rfl rfl rfl ?_
  refine qr_if_eq 75 46 rfl rfl rfl (by decide) (fun h => False.elim (by omega)) (fun h4 => ?_)
  refine qr_iload 48 rfl rfl rfl ?_
  refine qr_bipush 50 rfl (by decide) rfl ?_
  refine qr_icmp_le 57 53 rfl rfl rfl (qrg r6 (by decide) (by decide)) (by decide) (fun h5 => ?_) (fun h => False.elim (by omega))
  refine qr_aload_n 58 rfl rfl rfl ?_
  refine qr_iload 60 rfl rfl rfl ?_
  refine qr_iload 62 rfl rfl rfl ?_
  refine qr_iload_n 63 rfl rfl rfl ?_
  refine qr_iload 65 rfl rfl rfl ?_
  refine qr_iload 67 rfl rfl rfl ?_
  refine qr_iload 69 rfl rfl rfl ?_
  refine qr_iconst 70 rfl rfl ?_
  refine qr_iadd 71 rfl rfl ?_
  have hs6 : (-2147483648) ≤ σ 42 1 ∧ σ 42 1 ≤ 2147483647 := hI.1 42 1
  refine qr_callN 74 rfl rfl rfl (sf_153_42eb11_0_6 (d := d + 0) hI r4 r5 (by omega) (by omega)) ?_
  rintro _ _ ⟨σ11, α12, rfl, hI13, hG14, hw10, v7, rfl, hv7, hx8, hx9⟩
  have hF15 : qFr [(42, 1)] [43] σ α σ11 α12 := qFr_t hF0 hG14 (by decide) (by decide)
  have hs16 : (-2147483648) ≤ σ11 42 1 ∧ σ11 42 1 ≤ 2147483647 := hI13.1 42 1
  show qr_W (qe L xs vb) (d + 1) qx_e152 _ (74, _, [.int (qz v7)], qw σ11 α12 κ ρ, 0, 0)
  refine qr_retI rfl rfl (by decide) (by decide) ?_
  exact ⟨_, _, rfl, hI13, hF15, (by have hw : σ11 42 1 = (σ11 42 1) := rfl; omega), v7, rfl, hv7, hx8, hx9⟩

set_option maxHeartbeats 4000000 in
set_option maxRecDepth 20000 in
/-- OneRoof$Acts.begin -/
theorem sf_153_42eb70_6_6 {L : Nat} {xs : Nat → Int} {vb : Bool} {d : Nat} {σ α : Nat → Nat → Int} {κ : Nat → Option Nat} {ρ : Nat} {x4 : Int} {x5 : Int} {x6 : Int} (hI : qI σ α κ ρ) (r4 : (-2147483648) ≤ x4 ∧ x4 ≤ 2147483647) (r5 : (-2147483648) ≤ x5 ∧ x5 ≤ 2147483647) (r6 : 0 ≤ x6 ∧ x6 ≤ 39) (p0 : 0 ≤ σ 42 1 ∧ σ 42 1 ≤ 21) : qm_T (qe L xs vb) (d + 4) 153 [.ref 42, .int (qz 70), .int (qz 6), .int (qz 6), .int (qz x4), .int (qz x5), .int (qz x6)] (qw σ α κ ρ) (fun r w' => ∃ σ' α', w' = qw σ' α' κ ρ ∧ qI σ' α' κ ρ ∧ qFr [(42, 1)] [43] σ α σ' α' ∧ σ' 42 1 = σ 42 1 + 3 ∧ ∃ v : Int, r = some (.int (qz v)) ∧ ((-2147483648) ≤ v ∧ v ≤ 2147483647) ∧ v = qac_a (qac_x x4 x5) (qac_a 1 x5) ∧ α' 43 = qac_t [70, 11, 1] (α 43) (σ 42 1)) := by
  refine qr_start (d := d + 3) qv_e153 (Nat.le_of_ble_eq_true rfl) ?_
  show qr_W (qe L xs vb) (d + 3) qx_e153 _ (0, [(0, .ref 42), (1, .int (qz 70)), (2, .int (qz 6)), (3, .int (qz 6)), (4, .int (qz x4)), (5, .int (qz x5)), (6, .int (qz x6))], [], _, 0, 0)
  have hF0 := qFr_rf [(42, 1)] [43] σ α
  have hz42_1 : (-2147483648) ≤ σ 42 1 ∧ σ 42 1 ≤ 2147483647 := hI.1 42 1
  refine qr_aload_n 1 rfl rfl rfl ?_
  refine qr_get 4 rfl rfl rfl (by decide) rfl ?_
  refine qr_aload_n 5 rfl rfl rfl ?_
  refine qr_get 8 rfl rfl rfl (by decide) rfl ?_
  refine qr_alen 9 rfl rfl (by first | exact Or.inl (by decide) | exact Or.inr (Or.inl rfl) | exact Or.inr (Or.inr (Or.inl rfl)) | exact Or.inr (Or.inr (Or.inr (Or.inl rfl)))) rfl ?_
  refine qy_v 24 rfl ?_
  refine qr_icmp_ge 22 12 rfl rfl rfl hz42_1 (by decide) (fun h => False.elim (by omega)) (fun h1 => ?_)
  refine qr_aload_n 13 rfl rfl rfl ?_
  refine qr_get 16 rfl rfl rfl (by decide) rfl ?_
  refine qr_aload_n 17 rfl rfl rfl ?_
  refine qr_get 20 rfl rfl rfl (by decide) rfl ?_
  refine qr_iload_n 21 rfl rfl rfl ?_
  refine qr_iastore 22 rfl (by decide) rfl (by omega) (by decide) rfl ?_
  refine qy_wA (qw_r α 43 (qzu (α 43) ((σ 42 1) : Int).toNat 70)) rfl (fun α2 e3 => ?_)
  have hI4 : qI σ α2 κ ρ := by rw [e3]; exact qI_r hI 43 _ rfl (show (-2147483648) ≤ 70 ∧ 70 ≤ 2147483647 by omega)
  have hF5 : qFr [(42, 1)] [43] σ α σ α2 := by rw [e3]; exact qFr_r hF0 43 _ (by decide)
  refine qr_aload_n 23 rfl rfl rfl ?_
  refine qr_dup 24 rfl rfl rfl ?_
  refine qr_get 27 rfl rfl rfl (by decide) rfl ?_
  refine qr_iconst 28 rfl rfl ?_
  refine qr_iadd 29 rfl rfl ?_
  refine qr_put 32 rfl (by decide) rfl (Nat.le_of_ble_eq_true rfl) (Nat.le_of_ble_eq_true rfl) (Or.inl rfl) (qr_fitI rfl _) rfl ?_
  refine qy_wS (qw_s σ 42 1 ((σ 42 1) + 1)) rfl (fun σ6 e7 => ?_)
  have hI8 : qI σ6 α2 κ ρ := by rw [e7]; exact qI_s hI4 42 1 rfl (show (-2147483648) ≤ ((σ 42 1) + 1) ∧ ((σ 42 1) + 1) ≤ 2147483647 by omega)
  have hF9 : qFr [(42, 1)] [43] σ α σ6 α2 := by rw [e7]; exact qFr_s hF5 42 1 _ (by decide)
  refine qr_getst 35 rfl rfl ?_
  refine qr_iload_n 36 rfl rfl rfl ?_
  refine qr_iaload 37 rfl rfl (by decide) (by decide) rfl ?_
  refine qy_v 0 (by decide) ?_
  refine qr_istore _ 39 rfl (by decide) rfl rfl ?_
  refine qr_iload_n 40 rfl rfl rfl ?_
  refine qr_look (off := 271) 311 rfl (by omega) (by decide) (by decide) rfl ?_
  refine qr_aload_n 312 rfl rfl rfl ?_
  refine qr_iload 314 rfl rfl rfl ?_
  refine qr_iload_n 315 rfl rfl rfl ?_
  refine qr_iconst 316 rfl rfl ?_
  refine qr_iload 318 rfl rfl rfl ?_
  refine qr_iload 320 rfl rfl rfl ?_
  refine qr_iload 322 rfl rfl rfl ?_
  have hr10 : σ6 42 1 = ((σ 42 1) + 1) := (congrFun (congrFun e7 42) 1).trans rfl
  have hs11 : (-2147483648) ≤ σ6 42 1 ∧ σ6 42 1 ≤ 2147483647 := hI8.1 42 1
  have hs12 : σ6 42 1 = ((σ 42 1) + 1) := (congrFun (congrFun e7 42) 1).trans rfl
  refine qr_callN 325 rfl rfl rfl (sf_152_42ef0_6_2 (d := d + 1) hI8 r4 r5 r6 (by omega)) ?_
  rintro _ _ ⟨σ17, α18, rfl, hI19, hG20, hw16, v13, rfl, hv13, hx14, hx15⟩
  have hF21 : qFr [(42, 1)] [43] σ α σ17 α18 := qFr_t hF9 hG20 (by decide) (by decide)
  have hs22 : (-2147483648) ≤ σ17 42 1 ∧ σ17 42 1 ≤ 2147483647 := hI19.1 42 1
  show qr_W (qe L xs vb) (d + 3) qx_e153 _ (325, _, [.int (qz v13)], qw σ17 α18 κ ρ, 0, 0)
  refine qr_aload_n 326 rfl rfl rfl ?_
  refine qr_iload_n 327 rfl rfl rfl ?_
  refine qr_iconst 328 rfl rfl ?_
  refine qr_iconst 329 rfl rfl ?_
  refine qr_iload 331 rfl rfl rfl ?_
  refine qr_iload 333 rfl rfl rfl ?_
  have hr23 : σ17 42 1 = (σ17 42 1) := rfl
  have hs24 : (-2147483648) ≤ σ17 42 1 ∧ σ17 42 1 ≤ 2147483647 := hI19.1 42 1
  refine qr_callN 336 rfl rfl rfl (sf_151_42er6_0 (d := d + 0) hI19 (by decide) r5 r6 (by omega)) ?_
  rintro _ _ ⟨σ29, α30, rfl, hI31, hG32, hw28, v25, rfl, hv25, hx26, hx27⟩
  have hF33 : qFr [(42, 1)] [43] σ α σ29 α30 := qFr_t hF21 hG32 (by decide) (by decide)
  have hs34 : (-2147483648) ≤ σ29 42 1 ∧ σ29 42 1 ≤ 2147483647 := hI31.1 42 1
  show qr_W (qe L xs vb) (d + 3) qx_e153 _ (336, _, [.int (qz v25), .int (qz v13)], qw σ29 α30 κ ρ, 0, 0)
  refine qr_iadd 337 rfl rfl ?_
  refine qy_canE (fun v35 hv35 hev35 => ?_)
  refine qr_retI rfl rfl (by decide) (by decide) ?_
  exact ⟨_, _, rfl, hI31, hF33, (by have hw : σ29 42 1 = (σ29 42 1) := rfl; omega), v35, rfl, hv35, ((qac_v hev35 (by omega)).trans (by rw [hx14, hx26]; rfl)), (by rw [hx27, hx15, show α2 43 = qzu (α 43) (σ 42 1 : Int).toNat 70 from ((congrFun e3 43).trans (qw_r_eq.trans (congrArg (fun f => qzu f ((σ 42 1) : Int).toNat 70) rfl))), show σ6 42 1 = σ 42 1 + 1 by omega, show σ17 42 1 = σ 42 1 + 1 + 1 by omega]; exact (qac_t_app [11] [1] (qzu (α 43) (σ 42 1 : Int).toNat 70) (σ 42 1 + 1)).symm)⟩

set_option maxHeartbeats 4000000 in
set_option maxRecDepth 20000 in
/-- OneRoof$Acts.runFrom -/
theorem sf_152_42ef6_6_2 {L : Nat} {xs : Nat → Int} {vb : Bool} {d : Nat} {σ α : Nat → Nat → Int} {κ : Nat → Option Nat} {ρ : Nat} {x4 : Int} {x5 : Int} {x6 : Int} (hI : qI σ α κ ρ) (r4 : (-2147483648) ≤ x4 ∧ x4 ≤ 2147483647) (r5 : (-2147483648) ≤ x5 ∧ x5 ≤ 2147483647) (r6 : 0 ≤ x6 ∧ x6 ≤ 38) (p0 : 0 ≤ σ 42 1 ∧ σ 42 1 ≤ 21) : qm_T (qe L xs vb) (d + 5) 152 [.ref 42, .int (qz 6), .int (qz 6), .int (qz 2), .int (qz x4), .int (qz x5), .int (qz x6)] (qw σ α κ ρ) (fun r w' => ∃ σ' α', w' = qw σ' α' κ ρ ∧ qI σ' α' κ ρ ∧ qFr [(42, 1)] [43] σ α σ' α' ∧ σ' 42 1 = σ 42 1 + 3 ∧ ∃ v : Int, r = some (.int (qz v)) ∧ ((-2147483648) ≤ v ∧ v ≤ 2147483647) ∧ v = qac_a (qac_x x4 x5) (qac_a 1 x5) ∧ α' 43 = qac_t [70, 11, 1] (α 43) (σ 42 1)) := by
  refine qr_start (d := d + 4) qv_e152 (Nat.le_of_ble_eq_true rfl) ?_
  show qr_W (qe L xs vb) (d + 4) qx_e152 _ (0, [(0, .ref 42), (1, .int (qz 6)), (2, .int (qz 6)), (3, .int (qz 2)), (4, .int (qz x4)), (5, .int (qz x5)), (6, .int (qz x6))], [], _, 0, 0)
  have hF0 := qFr_rf [(42, 1)] [43] σ α
  have hz42_1 : (-2147483648) ≤ σ 42 1 ∧ σ 42 1 ≤ 2147483647 := hI.1 42 1
  refine qr_iload_n 1 rfl rfl rfl ?_
  refine qr_istore _ 3 rfl (by decide) rfl rfl ?_
  refine qr_iconst 4 rfl rfl ?_
  refine qr_istore _ 6 rfl (by decide) rfl rfl ?_
  refine qr_iload 8 rfl rfl rfl ?_
  refine qr_getst 11 rfl rfl ?_
  refine qr_alen 12 rfl rfl (by first | exact Or.inl (by decide) | exact Or.inr (Or.inl rfl) | exact Or.inr (Or.inr (Or.inl rfl)) | exact Or.inr (Or.inr (Or.inr (Or.inl rfl)))) rfl ?_
  refine qy_v 7 rfl ?_
  refine qr_icmp_ge 89 15 rfl rfl rfl (by decide) (by decide) (fun h => False.elim (by omega)) (fun h1 => ?_)
  refine qr_iload 17 rfl rfl rfl ?_
  refine qr_if_lt 89 20 rfl rfl rfl (by decide) (fun h => False.elim (by omega)) (fun h2 => ?_)
  refine qr_iload 22 rfl rfl rfl ?_
  refine qr_getst 25 rfl rfl ?_
  refine qr_alen 26 rfl rfl (by first | exact Or.inl (by decide) | exact Or.inr (Or.inl rfl) | exact Or.inr (Or.inr (Or.inl rfl)) | exact Or.inr (Or.inr (Or.inr (Or.inl rfl)))) rfl ?_
  refine qy_v 7 rfl ?_
  refine qr_icmp_ge 89 29 rfl rfl rfl (by decide) (by decide) (fun h => False.elim (by omega)) (fun h3 => ?_)
  refine qr_getst 32 rfl rfl ?_
  refine qr_iload 34 rfl rfl rfl ?_
  refine qr_iconst 35 rfl rfl ?_
  refine qr_imul 36 rfl rfl ?_
  refine qy_v 24 rfl ?_
  refine qr_iload_n 37 rfl rfl rfl ?_
  refine qr_iadd 38 rfl rfl ?_
  refine qy_v 26 rfl ?_
  refine qr_iaload 39 rfl rfl (by decide) (by decide) rfl ?_
  refine qy_v 70 (by decide) ?_
  refine qr_istore _ 41 rfl (by decide) rfl rfl ?_
  refine qr_iload 43 rfl rfl rfl ?_
  refine qr_if_eq 75 46 rfl rfl rfl (by decide) (fun h => False.elim (by omega)) (fun h4 => ?_)
  refine qr_iload 48 rfl rfl rfl ?_
  refine qr_bipush 50 rfl (by decide) rfl ?_
  refine qr_icmp_le 57 53 rfl rfl rfl (qrg r6 (by decide) (by decide)) (by decide) (fun h5 => ?_) (fun h => False.elim (by omega))
  refine qr_aload_n 58 rfl rfl rfl ?_
  refine qr_iload 60 rfl rfl rfl ?_
  refine qr_iload 62 rfl rfl rfl ?_
  refine qr_iload_n 63 rfl rfl rfl ?_
  refine qr_iload 65 rfl rfl rfl ?_
  refine qr_iload 67 rfl rfl rfl ?_
  refine qr_iload 69 rfl rfl rfl ?_
  refine qr_iconst 70 rfl rfl ?_
  refine qr_iadd 71 rfl rfl ?_
  have hs6 : (-2147483648) ≤ σ 42 1 ∧ σ 42 1 ≤ 2147483647 := hI.1 42 1
  refine qr_callN 74 rfl rfl rfl (sf_153_42eb70_6_6 (d := d + 0) hI r4 r5 (by omega) (by omega)) ?_
  rintro _ _ ⟨σ11, α12, rfl, hI13, hG14, hw10, v7, rfl, hv7, hx8, hx9⟩
  have hF15 : qFr [(42, 1)] [43] σ α σ11 α12 := qFr_t hF0 hG14 (by decide) (by decide)
  have hs16 : (-2147483648) ≤ σ11 42 1 ∧ σ11 42 1 ≤ 2147483647 := hI13.1 42 1
  show qr_W (qe L xs vb) (d + 4) qx_e152 _ (74, _, [.int (qz v7)], qw σ11 α12 κ ρ, 0, 0)
  refine qr_retI rfl rfl (by decide) (by decide) ?_
  exact ⟨_, _, rfl, hI13, hF15, (by have hw : σ11 42 1 = (σ11 42 1) := rfl; omega), v7, rfl, hv7, hx8, hx9⟩

set_option maxHeartbeats 4000000 in
set_option maxRecDepth 20000 in
/-- OneRoof$Acts.run -/
theorem sf_151_42er6_2 {L : Nat} {xs : Nat → Int} {vb : Bool} {d : Nat} {σ α : Nat → Nat → Int} {κ : Nat → Option Nat} {ρ : Nat} {x3 : Int} {x4 : Int} {x5 : Int} (hI : qI σ α κ ρ) (r3 : (-2147483648) ≤ x3 ∧ x3 ≤ 2147483647) (r4 : (-2147483648) ≤ x4 ∧ x4 ≤ 2147483647) (r5 : 0 ≤ x5 ∧ x5 ≤ 38) (p0 : 0 ≤ σ 42 1 ∧ σ 42 1 ≤ 21) : qm_T (qe L xs vb) (d + 6) 151 [.ref 42, .int (qz 6), .int (qz 2), .int (qz x3), .int (qz x4), .int (qz x5)] (qw σ α κ ρ) (fun r w' => ∃ σ' α', w' = qw σ' α' κ ρ ∧ qI σ' α' κ ρ ∧ qFr [(42, 1)] [43] σ α σ' α' ∧ σ' 42 1 = σ 42 1 + 3 ∧ ∃ v : Int, r = some (.int (qz v)) ∧ ((-2147483648) ≤ v ∧ v ≤ 2147483647) ∧ v = qac_a (qac_x x3 x4) (qac_a 1 x4) ∧ α' 43 = qac_t [70, 11, 1] (α 43) (σ 42 1)) := by
  refine qr_start (d := d + 5) qv_e151 (Nat.le_of_ble_eq_true rfl) ?_
  show qr_W (qe L xs vb) (d + 5) qx_e151 _ (0, [(0, .ref 42), (1, .int (qz 6)), (2, .int (qz 2)), (3, .int (qz x3)), (4, .int (qz x4)), (5, .int (qz x5))], [], _, 0, 0)
  have hF0 := qFr_rf [(42, 1)] [43] σ α
  have hz42_1 : (-2147483648) ≤ σ 42 1 ∧ σ 42 1 ≤ 2147483647 := hI.1 42 1
  refine qr_aload_n 1 rfl rfl rfl ?_
  refine qr_iload_n 2 rfl rfl rfl ?_
  refine qr_iload_n 3 rfl rfl rfl ?_
  refine qr_iload_n 4 rfl rfl rfl ?_
  refine qr_iload_n 5 rfl rfl rfl ?_
  refine qr_iload 7 rfl rfl rfl ?_
  refine qr_iload 9 rfl rfl rfl ?_
  have hs1 : (-2147483648) ≤ σ 42 1 ∧ σ 42 1 ≤ 2147483647 := hI.1 42 1
  refine qr_callN 12 rfl rfl rfl (sf_152_42ef6_6_2 (d := d + 0) hI r3 r4 r5 (by omega)) ?_
  rintro _ _ ⟨σ6, α7, rfl, hI8, hG9, hw5, v2, rfl, hv2, hx3, hx4⟩
  have hF10 : qFr [(42, 1)] [43] σ α σ6 α7 := qFr_t hF0 hG9 (by decide) (by decide)
  have hs11 : (-2147483648) ≤ σ6 42 1 ∧ σ6 42 1 ≤ 2147483647 := hI8.1 42 1
  show qr_W (qe L xs vb) (d + 5) qx_e151 _ (12, _, [.int (qz v2)], qw σ6 α7 κ ρ, 0, 0)
  refine qr_retI rfl rfl (by decide) (by decide) ?_
  exact ⟨_, _, rfl, hI8, hF10, (by have hw : σ6 42 1 = (σ6 42 1) := rfl; omega), v2, rfl, hv2, hx3, hx4⟩

set_option maxHeartbeats 4000000 in
set_option maxRecDepth 20000 in
/-- OneRoof$Acts.start -/
theorem sf_150_42es6_2 {L : Nat} {xs : Nat → Int} {vb : Bool} {d : Nat} {σ α : Nat → Nat → Int} {κ : Nat → Option Nat} {ρ : Nat} {x3 : Int} {x4 : Int} (hI : qI σ α κ ρ) (r3 : (-2147483648) ≤ x3 ∧ x3 ≤ 2147483647) (r4 : (-2147483648) ≤ x4 ∧ x4 ≤ 2147483647) (p0 : 0 ≤ σ 42 1 ∧ σ 42 1 ≤ 21) : qm_T (qe L xs vb) (d + 7) 150 [.ref 42, .int (qz 6), .int (qz 2), .int (qz x3), .int (qz x4)] (qw σ α κ ρ) (fun r w' => ∃ σ' α', w' = qw σ' α' κ ρ ∧ qI σ' α' κ ρ ∧ qFr [(42, 1)] [43] σ α σ' α' ∧ σ' 42 1 = σ 42 1 + 3 ∧ ∃ v : Int, r = some (.int (qz v)) ∧ ((-2147483648) ≤ v ∧ v ≤ 2147483647) ∧ v = qac_a (qac_x x3 x4) (qac_a 1 x4) ∧ α' 43 = qac_t [70, 11, 1] (α 43) (σ 42 1)) := by
  refine qr_start (d := d + 6) qv_e150 (Nat.le_of_ble_eq_true rfl) ?_
  show qr_W (qe L xs vb) (d + 6) qx_e150 _ (0, [(0, .ref 42), (1, .int (qz 6)), (2, .int (qz 2)), (3, .int (qz x3)), (4, .int (qz x4))], [], _, 0, 0)
  have hF0 := qFr_rf [(42, 1)] [43] σ α
  have hz42_1 : (-2147483648) ≤ σ 42 1 ∧ σ 42 1 ≤ 2147483647 := hI.1 42 1
  refine qr_aload_n 1 rfl rfl rfl ?_
  refine qr_iload_n 2 rfl rfl rfl ?_
  refine qr_iload_n 3 rfl rfl rfl ?_
  refine qr_iload_n 4 rfl rfl rfl ?_
  refine qr_iload 6 rfl rfl rfl ?_
  refine qr_iconst 7 rfl rfl ?_
  have hs1 : (-2147483648) ≤ σ 42 1 ∧ σ 42 1 ≤ 2147483647 := hI.1 42 1
  refine qr_callN 10 rfl rfl rfl (sf_151_42er6_2 (d := d + 0) hI r3 r4 (by decide) (by omega)) ?_
  rintro _ _ ⟨σ6, α7, rfl, hI8, hG9, hw5, v2, rfl, hv2, hx3, hx4⟩
  have hF10 : qFr [(42, 1)] [43] σ α σ6 α7 := qFr_t hF0 hG9 (by decide) (by decide)
  have hs11 : (-2147483648) ≤ σ6 42 1 ∧ σ6 42 1 ≤ 2147483647 := hI8.1 42 1
  show qr_W (qe L xs vb) (d + 6) qx_e150 _ (10, _, [.int (qz v2)], qw σ6 α7 κ ρ, 0, 0)
  refine qr_retI rfl rfl (by decide) (by decide) ?_
  exact ⟨_, _, rfl, hI8, hF10, (by have hw : σ6 42 1 = (σ6 42 1) := rfl; omega), v2, rfl, hv2, hx3, hx4⟩

set_option maxHeartbeats 4000000 in
set_option maxRecDepth 20000 in
/-- OneRoof$Acts.begin -/
theorem sf_153_42eb2_0_6 {L : Nat} {xs : Nat → Int} {vb : Bool} {d : Nat} {σ α : Nat → Nat → Int} {κ : Nat → Option Nat} {ρ : Nat} {x4 : Int} {x5 : Int} {x6 : Int} (hI : qI σ α κ ρ) (r4 : (-2147483648) ≤ x4 ∧ x4 ≤ 2147483647) (r5 : (-2147483648) ≤ x5 ∧ x5 ≤ 2147483647) (r6 : 0 ≤ x6 ∧ x6 ≤ 37) (p0 : 0 ≤ σ 42 1 ∧ σ 42 1 ≤ 17) : qm_T (qe L xs vb) (d + 9) 153 [.ref 42, .int (qz 2), .int (qz 0), .int (qz 6), .int (qz x4), .int (qz x5), .int (qz x6)] (qw σ α κ ρ) (fun r w' => ∃ σ' α', w' = qw σ' α' κ ρ ∧ qI σ' α' κ ρ ∧ qFr [(42, 1)] [43] σ α σ' α' ∧ σ' 42 1 = σ 42 1 + 7 ∧ ∃ v : Int, r = some (.int (qz v)) ∧ ((-2147483648) ≤ v ∧ v ≤ 2147483647) ∧ v = qac_s (qac_m (qac_m (qac_a x4 x5) 2) 2) (qac_a (qac_x 1 x5) (qac_a 1 x5)) ∧ α' 43 = qac_t [2, 71, 10, 1, 70, 11, 1] (α 43) (σ 42 1)) := by
  refine qr_start (d := d + 8) qv_e153 (Nat.le_of_ble_eq_true rfl) ?_
  show qr_W (qe L xs vb) (d + 8) qx_e153 _ (0, [(0, .ref 42), (1, .int (qz 2)), (2, .int (qz 0)), (3, .int (qz 6)), (4, .int (qz x4)), (5, .int (qz x5)), (6, .int (qz x6))], [], _, 0, 0)
  have hF0 := qFr_rf [(42, 1)] [43] σ α
  have hz42_1 : (-2147483648) ≤ σ 42 1 ∧ σ 42 1 ≤ 2147483647 := hI.1 42 1
  refine qr_aload_n 1 rfl rfl rfl ?_
  refine qr_get 4 rfl rfl rfl (by decide) rfl ?_
  refine qr_aload_n 5 rfl rfl rfl ?_
  refine qr_get 8 rfl rfl rfl (by decide) rfl ?_
  refine qr_alen 9 rfl rfl (by first | exact Or.inl (by decide) | exact Or.inr (Or.inl rfl) | exact Or.inr (Or.inr (Or.inl rfl)) | exact Or.inr (Or.inr (Or.inr (Or.inl rfl)))) rfl ?_
  refine qy_v 24 rfl ?_
  refine qr_icmp_ge 22 12 rfl rfl rfl hz42_1 (by decide) (fun h => False.elim (by omega)) (fun h1 => ?_)
  refine qr_aload_n 13 rfl rfl rfl ?_
  refine qr_get 16 rfl rfl rfl (by decide) rfl ?_
  refine qr_aload_n 17 rfl rfl rfl ?_
  refine qr_get 20 rfl rfl rfl (by decide) rfl ?_
  refine qr_iload_n 21 rfl rfl rfl ?_
  refine qr_iastore 22 rfl (by decide) rfl (by omega) (by decide) rfl ?_
  refine qy_wA (qw_r α 43 (qzu (α 43) ((σ 42 1) : Int).toNat 2)) rfl (fun α2 e3 => ?_)
  have hI4 : qI σ α2 κ ρ := by rw [e3]; exact qI_r hI 43 _ rfl (show (-2147483648) ≤ 2 ∧ 2 ≤ 2147483647 by omega)
  have hF5 : qFr [(42, 1)] [43] σ α σ α2 := by rw [e3]; exact qFr_r hF0 43 _ (by decide)
  refine qr_aload_n 23 rfl rfl rfl ?_
  refine qr_dup 24 rfl rfl rfl ?_
  refine qr_get 27 rfl rfl rfl (by decide) rfl ?_
  refine qr_iconst 28 rfl rfl ?_
  refine qr_iadd 29 rfl rfl ?_
  refine qr_put 32 rfl (by decide) rfl (Nat.le_of_ble_eq_true rfl) (Nat.le_of_ble_eq_true rfl) (Or.inl rfl) (qr_fitI rfl _) rfl ?_
  refine qy_wS (qw_s σ 42 1 ((σ 42 1) + 1)) rfl (fun σ6 e7 => ?_)
  have hI8 : qI σ6 α2 κ ρ := by rw [e7]; exact qI_s hI4 42 1 rfl (show (-2147483648) ≤ ((σ 42 1) + 1) ∧ ((σ 42 1) + 1) ≤ 2147483647 by omega)
  have hF9 : qFr [(42, 1)] [43] σ α σ6 α2 := by rw [e7]; exact qFr_s hF5 42 1 _ (by decide)
  refine qr_getst 35 rfl rfl ?_
  refine qr_iload_n 36 rfl rfl rfl ?_
  refine qr_iaload 37 rfl rfl (by decide) (by decide) rfl ?_
  refine qy_v (-1) (by decide) ?_
  refine qr_istore _ 39 rfl (by decide) rfl rfl ?_
  refine qr_iload_n 40 rfl rfl rfl ?_
  refine qr_look (off := 114) 154 rfl (by omega) (by decide) (by decide) rfl ?_
  refine qr_aload_n 155 rfl rfl rfl ?_
  refine qr_iload_n 156 rfl rfl rfl ?_
  refine qr_iconst 157 rfl rfl ?_
  refine qr_iload 159 rfl rfl rfl ?_
  refine qr_iload 161 rfl rfl rfl ?_
  refine qr_iload 163 rfl rfl rfl ?_
  have hr10 : σ6 42 1 = ((σ 42 1) + 1) := (congrFun (congrFun e7 42) 1).trans rfl
  have hs11 : (-2147483648) ≤ σ6 42 1 ∧ σ6 42 1 ≤ 2147483647 := hI8.1 42 1
  have hs12 : σ6 42 1 = ((σ 42 1) + 1) := (congrFun (congrFun e7 42) 1).trans rfl
  refine qr_callN 166 rfl rfl rfl (sf_151_42er6_1 (d := d + 0) hI8 r4 r5 r6 (by omega)) ?_
  rintro _ _ ⟨σ17, α18, rfl, hI19, hG20, hw16, v13, rfl, hv13, hx14, hx15⟩
  have hF21 : qFr [(42, 1)] [43] σ α σ17 α18 := qFr_t hF9 hG20 (by decide) (by decide)
  have hs22 : (-2147483648) ≤ σ17 42 1 ∧ σ17 42 1 ≤ 2147483647 := hI19.1 42 1
  show qr_W (qe L xs vb) (d + 8) qx_e153 _ (166, _, [.int (qz v13)], qw σ17 α18 κ ρ, 0, 0)
  refine qr_aload_n 167 rfl rfl rfl ?_
  refine qr_iload_n 168 rfl rfl rfl ?_
  refine qr_iconst 169 rfl rfl ?_
  refine qr_iconst 170 rfl rfl ?_
  refine qr_iload 172 rfl rfl rfl ?_
  refine qr_iload 174 rfl rfl rfl ?_
  have hr23 : σ17 42 1 = (σ17 42 1) := rfl
  have hs24 : (-2147483648) ≤ σ17 42 1 ∧ σ17 42 1 ≤ 2147483647 := hI19.1 42 1
  refine qr_callN 177 rfl rfl rfl (sf_151_42er6_2 (d := d + 2) hI19 (by decide) r5 (qrg r6 (by decide) (by decide)) (by omega)) ?_
  rintro _ _ ⟨σ29, α30, rfl, hI31, hG32, hw28, v25, rfl, hv25, hx26, hx27⟩
  have hF33 : qFr [(42, 1)] [43] σ α σ29 α30 := qFr_t hF21 hG32 (by decide) (by decide)
  have hs34 : (-2147483648) ≤ σ29 42 1 ∧ σ29 42 1 ≤ 2147483647 := hI31.1 42 1
  show qr_W (qe L xs vb) (d + 8) qx_e153 _ (177, _, [.int (qz v25), .int (qz v13)], qw σ29 α30 κ ρ, 0, 0)
  refine qr_isub 178 rfl rfl ?_
  refine qy_canE (fun v35 hv35 hev35 => ?_)
  refine qr_retI rfl rfl (by decide) (by decide) ?_
  exact ⟨_, _, rfl, hI31, hF33, (by have hw : σ29 42 1 = (σ29 42 1) := rfl; omega), v35, rfl, hv35, ((qac_v hev35 (by omega)).trans (by rw [hx14, hx26]; rfl)), (by rw [hx27, hx15, show α2 43 = qzu (α 43) (σ 42 1 : Int).toNat 2 from ((congrFun e3 43).trans (qw_r_eq.trans (congrArg (fun f => qzu f ((σ 42 1) : Int).toNat 2) rfl))), show σ6 42 1 = σ 42 1 + 1 by omega, show σ17 42 1 = σ 42 1 + 1 + 3 by omega]; exact (qac_t_app [71, 10, 1] [70, 11, 1] (qzu (α 43) (σ 42 1 : Int).toNat 2) (σ 42 1 + 1)).symm)⟩

set_option maxHeartbeats 4000000 in
set_option maxRecDepth 20000 in
/-- OneRoof$Acts.runFrom -/
theorem sf_152_42ef6_6_3 {L : Nat} {xs : Nat → Int} {vb : Bool} {d : Nat} {σ α : Nat → Nat → Int} {κ : Nat → Option Nat} {ρ : Nat} {x4 : Int} {x5 : Int} {x6 : Int} (hI : qI σ α κ ρ) (r4 : (-2147483648) ≤ x4 ∧ x4 ≤ 2147483647) (r5 : (-2147483648) ≤ x5 ∧ x5 ≤ 2147483647) (r6 : 0 ≤ x6 ∧ x6 ≤ 36) (p0 : 0 ≤ σ 42 1 ∧ σ 42 1 ≤ 17) : qm_T (qe L xs vb) (d + 10) 152 [.ref 42, .int (qz 6), .int (qz 6), .int (qz 3), .int (qz x4), .int (qz x5), .int (qz x6)] (qw σ α κ ρ) (fun r w' => ∃ σ' α', w' = qw σ' α' κ ρ ∧ qI σ' α' κ ρ ∧ qFr [(42, 1)] [43] σ α σ' α' ∧ σ' 42 1 = σ 42 1 + 7 ∧ ∃ v : Int, r = some (.int (qz v)) ∧ ((-2147483648) ≤ v ∧ v ≤ 2147483647) ∧ v = qac_s (qac_m (qac_m (qac_a x4 x5) 2) 2) (qac_a (qac_x 1 x5) (qac_a 1 x5)) ∧ α' 43 = qac_t [2, 71, 10, 1, 70, 11, 1] (α 43) (σ 42 1)) := by
  refine qr_start (d := d + 9) qv_e152 (Nat.le_of_ble_eq_true rfl) ?_
  show qr_W (qe L xs vb) (d + 9) qx_e152 _ (0, [(0, .ref 42), (1, .int (qz 6)), (2, .int (qz 6)), (3, .int (qz 3)), (4, .int (qz x4)), (5, .int (qz x5)), (6, .int (qz x6))], [], _, 0, 0)
  have hF0 := qFr_rf [(42, 1)] [43] σ α
  have hz42_1 : (-2147483648) ≤ σ 42 1 ∧ σ 42 1 ≤ 2147483647 := hI.1 42 1
  refine qr_iload_n 1 rfl rfl rfl ?_
  refine qr_istore _ 3 rfl (by decide) rfl rfl ?_
  refine qr_iconst 4 rfl rfl ?_
  refine qr_istore _ 6 rfl (by decide) rfl rfl ?_
  refine qr_iload 8 rfl rfl rfl ?_
  refine qr_getst 11 rfl rfl ?_
  refine qr_alen 12 rfl rfl (by first | exact Or.inl (by decide) | exact Or.inr (Or.inl rfl) | exact Or.inr (Or.inr (Or.inl rfl)) | exact Or.inr (Or.inr (Or.inr (Or.inl rfl)))) rfl ?_
  refine qy_v 7 rfl ?_
  refine qr_icmp_ge 89 15 rfl rfl rfl (by decide) (by decide) (fun h => False.elim (by omega)) (fun h1 => ?_)
  refine qr_iload 17 rfl rfl rfl ?_
  refine qr_if_lt 89 20 rfl rfl rfl (by decide) (fun h => False.elim (by omega)) (fun h2 => ?_)
  refine qr_iload 22 rfl rfl rfl ?_
  refine qr_getst 25 rfl rfl ?_
  refine qr_alen 26 rfl rfl (by first | exact Or.inl (by decide) | exact Or.inr (Or.inl rfl) | exact Or.inr (Or.inr (Or.inl rfl)) | exact Or.inr (Or.inr (Or.inr (Or.inl rfl)))) rfl ?_
  refine qy_v 7 rfl ?_
  refine qr_icmp_ge 89 29 rfl rfl rfl (by decide) (by decide) (fun h => False.elim (by omega)) (fun h3 => ?_)
  refine qr_getst 32 rfl rfl ?_
  refine qr_iload 34 rfl rfl rfl ?_
  refine qr_iconst 35 rfl rfl ?_
  refine qr_imul 36 rfl rfl ?_
  refine qy_v 24 rfl ?_
  refine qr_iload_n 37 rfl rfl rfl ?_
  refine qr_iadd 38 rfl rfl ?_
  refine qy_v 27 rfl ?_
  refine qr_iaload 39 rfl rfl (by decide) (by decide) rfl ?_
  refine qy_v 0 (by decide) ?_
  refine qr_istore _ 41 rfl (by decide) rfl rfl ?_
  refine qr_iload 43 rfl rfl rfl ?_
  refine qr_if_eq 75 46 rfl rfl rfl (by decide) (fun h4 => ?_) (fun h => False.elim (by omega))
  refine qr_getst 78 rfl rfl ?_
  refine qr_iload 80 rfl rfl rfl ?_
  refine qr_iaload 81 rfl rfl (by decide) (by decide) rfl ?_
  refine qy_v 0 (by decide) ?_
  refine qr_istore _ 83 rfl (by decide) rfl rfl ?_
  refine qr_iinc _ 86 rfl rfl (by decide) rfl rfl ?_
  refine qr_goto 6 rfl rfl ?_
  refine qr_iload 8 rfl rfl rfl ?_
  refine qr_getst 11 rfl rfl ?_
  refine qr_alen 12 rfl rfl (by first | exact Or.inl (by decide) | exact Or.inr (Or.inl rfl) | exact Or.inr (Or.inr (Or.inl rfl)) | exact Or.inr (Or.inr (Or.inr (Or.inl rfl)))) rfl ?_
  refine qy_v 7 rfl ?_
  refine qr_icmp_ge 89 15 rfl rfl rfl (by omega) (by decide) (fun h => False.elim (by omega)) (fun h5 => ?_)
  refine qr_iload 17 rfl rfl rfl ?_
  refine qr_if_lt 89 20 rfl rfl rfl (by decide) (fun h => False.elim (by omega)) (fun h6 => ?_)
  refine qr_iload 22 rfl rfl rfl ?_
  refine qr_getst 25 rfl rfl ?_
  refine qr_alen 26 rfl rfl (by first | exact Or.inl (by decide) | exact Or.inr (Or.inl rfl) | exact Or.inr (Or.inr (Or.inl rfl)) | exact Or.inr (Or.inr (Or.inr (Or.inl rfl)))) rfl ?_
  refine qy_v 7 rfl ?_
  refine qr_icmp_ge 89 29 rfl rfl rfl (by decide) (by decide) (fun h => False.elim (by omega)) (fun h7 => ?_)
  refine qr_getst 32 rfl rfl ?_
  refine qr_iload 34 rfl rfl rfl ?_
  refine qr_iconst 35 rfl rfl ?_
  refine qr_imul 36 rfl rfl ?_
  refine qy_v 0 rfl ?_
  refine qr_iload_n 37 rfl rfl rfl ?_
  refine qr_iadd 38 rfl rfl ?_
  refine qy_v 3 rfl ?_
  refine qr_iaload 39 rfl rfl (by decide) (by decide) rfl ?_
  refine qy_v 2 (by decide) ?_
  refine qr_istore _ 41 rfl (by decide) rfl rfl ?_
  refine qr_iload 43 rfl rfl rfl ?_
  refine qr_if_eq 75 46 rfl rfl rfl (by decide) (fun h => False.elim (by omega)) (fun h8 => ?_)
  as_aux_lemma =>
    refine qr_iload 48 rfl rfl rfl ?_
    refine qr_bipush 50 rfl (by decide) rfl ?_
    refine qr_icmp_le 57 53 rfl rfl rfl (qrg r6 (by decide) (by decide)) (by decide) (fun h9 => ?_) (fun h => False.elim (by omega))
    refine qr_aload_n 58 rfl rfl rfl ?_
    refine qr_iload 60 rfl rfl rfl ?_
    refine qr_iload 62 rfl rfl rfl ?_
    refine qr_iload_n 63 rfl rfl rfl ?_
    refine qr_iload 65 rfl rfl rfl ?_
    refine qr_iload 67 rfl rfl rfl ?_
    refine qr_iload 69 rfl rfl rfl ?_
    refine qr_iconst 70 rfl rfl ?_
    refine qr_iadd 71 rfl rfl ?_
    have hs10 : (-2147483648) ≤ σ 42 1 ∧ σ 42 1 ≤ 2147483647 := hI.1 42 1
    refine qr_callN 74 rfl rfl rfl (sf_153_42eb2_0_6 (d := d + 0) hI r4 r5 (by omega) (by omega)) ?_
    rintro _ _ ⟨σ15, α16, rfl, hI17, hG18, hw14, v11, rfl, hv11, hx12, hx13⟩
    have hF19 : qFr [(42, 1)] [43] σ α σ15 α16 := qFr_t hF0 hG18 (by decide) (by decide)
    have hs20 : (-2147483648) ≤ σ15 42 1 ∧ σ15 42 1 ≤ 2147483647 := hI17.1 42 1
    show qr_W (qe L xs vb) (d + 9) qx_e152 _ (74, _, [.int (qz v11)], qw σ15 α16 κ ρ, 0, 0)
    refine qr_retI rfl rfl (by decide) (by decide) ?_
    exact ⟨_, _, rfl, hI17, hF19, (by have hw : σ15 42 1 = (σ15 42 1) := rfl; omega), v11, rfl, hv11, hx12, hx13⟩

set_option maxHeartbeats 4000000 in
set_option maxRecDepth 20000 in
/-- OneRoof$Acts.run -/
theorem sf_151_42er6_3 {L : Nat} {xs : Nat → Int} {vb : Bool} {d : Nat} {σ α : Nat → Nat → Int} {κ : Nat → Option Nat} {ρ : Nat} {x3 : Int} {x4 : Int} {x5 : Int} (hI : qI σ α κ ρ) (r3 : (-2147483648) ≤ x3 ∧ x3 ≤ 2147483647) (r4 : (-2147483648) ≤ x4 ∧ x4 ≤ 2147483647) (r5 : 0 ≤ x5 ∧ x5 ≤ 36) (p0 : 0 ≤ σ 42 1 ∧ σ 42 1 ≤ 17) : qm_T (qe L xs vb) (d + 11) 151 [.ref 42, .int (qz 6), .int (qz 3), .int (qz x3), .int (qz x4), .int (qz x5)] (qw σ α κ ρ) (fun r w' => ∃ σ' α', w' = qw σ' α' κ ρ ∧ qI σ' α' κ ρ ∧ qFr [(42, 1)] [43] σ α σ' α' ∧ σ' 42 1 = σ 42 1 + 7 ∧ ∃ v : Int, r = some (.int (qz v)) ∧ ((-2147483648) ≤ v ∧ v ≤ 2147483647) ∧ v = qac_s (qac_m (qac_m (qac_a x3 x4) 2) 2) (qac_a (qac_x 1 x4) (qac_a 1 x4)) ∧ α' 43 = qac_t [2, 71, 10, 1, 70, 11, 1] (α 43) (σ 42 1)) := by
  refine qr_start (d := d + 10) qv_e151 (Nat.le_of_ble_eq_true rfl) ?_
  show qr_W (qe L xs vb) (d + 10) qx_e151 _ (0, [(0, .ref 42), (1, .int (qz 6)), (2, .int (qz 3)), (3, .int (qz x3)), (4, .int (qz x4)), (5, .int (qz x5))], [], _, 0, 0)
  have hF0 := qFr_rf [(42, 1)] [43] σ α
  have hz42_1 : (-2147483648) ≤ σ 42 1 ∧ σ 42 1 ≤ 2147483647 := hI.1 42 1
  refine qr_aload_n 1 rfl rfl rfl ?_
  refine qr_iload_n 2 rfl rfl rfl ?_
  refine qr_iload_n 3 rfl rfl rfl ?_
  refine qr_iload_n 4 rfl rfl rfl ?_
  refine qr_iload_n 5 rfl rfl rfl ?_
  refine qr_iload 7 rfl rfl rfl ?_
  refine qr_iload 9 rfl rfl rfl ?_
  have hs1 : (-2147483648) ≤ σ 42 1 ∧ σ 42 1 ≤ 2147483647 := hI.1 42 1
  refine qr_callN 12 rfl rfl rfl (sf_152_42ef6_6_3 (d := d + 0) hI r3 r4 r5 (by omega)) ?_
  rintro _ _ ⟨σ6, α7, rfl, hI8, hG9, hw5, v2, rfl, hv2, hx3, hx4⟩
  have hF10 : qFr [(42, 1)] [43] σ α σ6 α7 := qFr_t hF0 hG9 (by decide) (by decide)
  have hs11 : (-2147483648) ≤ σ6 42 1 ∧ σ6 42 1 ≤ 2147483647 := hI8.1 42 1
  show qr_W (qe L xs vb) (d + 10) qx_e151 _ (12, _, [.int (qz v2)], qw σ6 α7 κ ρ, 0, 0)
  refine qr_retI rfl rfl (by decide) (by decide) ?_
  exact ⟨_, _, rfl, hI8, hF10, (by have hw : σ6 42 1 = (σ6 42 1) := rfl; omega), v2, rfl, hv2, hx3, hx4⟩

set_option maxHeartbeats 4000000 in
set_option maxRecDepth 20000 in
/-- OneRoof$Acts.start -/
theorem sf_150_42es6_3 {L : Nat} {xs : Nat → Int} {vb : Bool} {d : Nat} {σ α : Nat → Nat → Int} {κ : Nat → Option Nat} {ρ : Nat} {x3 : Int} {x4 : Int} (hI : qI σ α κ ρ) (r3 : (-2147483648) ≤ x3 ∧ x3 ≤ 2147483647) (r4 : (-2147483648) ≤ x4 ∧ x4 ≤ 2147483647) (p0 : 0 ≤ σ 42 1 ∧ σ 42 1 ≤ 17) : qm_T (qe L xs vb) (d + 12) 150 [.ref 42, .int (qz 6), .int (qz 3), .int (qz x3), .int (qz x4)] (qw σ α κ ρ) (fun r w' => ∃ σ' α', w' = qw σ' α' κ ρ ∧ qI σ' α' κ ρ ∧ qFr [(42, 1)] [43] σ α σ' α' ∧ σ' 42 1 = σ 42 1 + 7 ∧ ∃ v : Int, r = some (.int (qz v)) ∧ ((-2147483648) ≤ v ∧ v ≤ 2147483647) ∧ v = qac_s (qac_m (qac_m (qac_a x3 x4) 2) 2) (qac_a (qac_x 1 x4) (qac_a 1 x4)) ∧ α' 43 = qac_t [2, 71, 10, 1, 70, 11, 1] (α 43) (σ 42 1)) := by
  refine qr_start (d := d + 11) qv_e150 (Nat.le_of_ble_eq_true rfl) ?_
  show qr_W (qe L xs vb) (d + 11) qx_e150 _ (0, [(0, .ref 42), (1, .int (qz 6)), (2, .int (qz 3)), (3, .int (qz x3)), (4, .int (qz x4))], [], _, 0, 0)
  have hF0 := qFr_rf [(42, 1)] [43] σ α
  have hz42_1 : (-2147483648) ≤ σ 42 1 ∧ σ 42 1 ≤ 2147483647 := hI.1 42 1
  refine qr_aload_n 1 rfl rfl rfl ?_
  refine qr_iload_n 2 rfl rfl rfl ?_
  refine qr_iload_n 3 rfl rfl rfl ?_
  refine qr_iload_n 4 rfl rfl rfl ?_
  refine qr_iload 6 rfl rfl rfl ?_
  refine qr_iconst 7 rfl rfl ?_
  have hs1 : (-2147483648) ≤ σ 42 1 ∧ σ 42 1 ≤ 2147483647 := hI.1 42 1
  refine qr_callN 10 rfl rfl rfl (sf_151_42er6_3 (d := d + 0) hI r3 r4 (by decide) (by omega)) ?_
  rintro _ _ ⟨σ6, α7, rfl, hI8, hG9, hw5, v2, rfl, hv2, hx3, hx4⟩
  have hF10 : qFr [(42, 1)] [43] σ α σ6 α7 := qFr_t hF0 hG9 (by decide) (by decide)
  have hs11 : (-2147483648) ≤ σ6 42 1 ∧ σ6 42 1 ≤ 2147483647 := hI8.1 42 1
  show qr_W (qe L xs vb) (d + 11) qx_e150 _ (10, _, [.int (qz v2)], qw σ6 α7 κ ρ, 0, 0)
  refine qr_retI rfl rfl (by decide) (by decide) ?_
  exact ⟨_, _, rfl, hI8, hF10, (by have hw : σ6 42 1 = (σ6 42 1) := rfl; omega), v2, rfl, hv2, hx3, hx4⟩

set_option maxHeartbeats 4000000 in
set_option maxRecDepth 20000 in
/-- OneRoof$Acts.start -/
theorem sf_150_42ex {L : Nat} {xs : Nat → Int} {vb : Bool} {d : Nat} {σ α : Nat → Nat → Int} {κ : Nat → Option Nat} {ρ : Nat} {x1 : Int} {x2 : Int} {x3 : Int} {x4 : Int} (hI : qI σ α κ ρ) (r1 : (-2147483648) ≤ x1 ∧ x1 ≤ 2147483647) (r2 : (-2147483648) ≤ x2 ∧ x2 ≤ 2147483647) (r3 : (-2147483648) ≤ x3 ∧ x3 ≤ 2147483647) (r4 : (-2147483648) ≤ x4 ∧ x4 ≤ 2147483647) (p0 : 0 ≤ x1 ∧ x1 ≤ 6) (p1 : 0 ≤ x2 ∧ x2 ≤ 3) (p2 : 0 ≤ σ 42 1 ∧ σ 42 1 ≤ 16) : qm_T (qe L xs vb) (d + 15) 150 [.ref 42, .int (qz x1), .int (qz x2), .int (qz x3), .int (qz x4)] (qw σ α κ ρ) (fun r w' => ∃ σ' α', w' = qw σ' α' κ ρ ∧ qI σ' α' κ ρ ∧ qFr [(42, 1)] [43] σ α σ' α' ∧ ∃ v : Int, r = some (.int (qz v)) ∧ ((-2147483648) ≤ v ∧ v ≤ 2147483647) ∧ v = qAE x1 x2 x3 x4 ∧ σ' 42 1 = σ 42 1 + ((qAT x1 x2).length : Int) ∧ α' 43 = qac_t (qAT x1 x2) (α 43) (σ 42 1)) := by
  have h1 : x1 = 0 ∨ x1 = 1 ∨ x1 = 2 ∨ x1 = 3 ∨ x1 = 4 ∨ x1 = 5 ∨ x1 = 6 := by omega
  rcases h1 with rfl | rfl | rfl | rfl | rfl | rfl | rfl
  · have h2 : x2 = 0 ∨ x2 = 1 ∨ x2 = 2 ∨ x2 = 3 := by omega
    rcases h2 with rfl | rfl | rfl | rfl
    · refine qr_mono (sf_150_42es0_0 (d := d + 11) hI (by omega) (by omega) (by omega)) ?_
      rintro r w' ⟨σ2, α2, h2, h3, h4, hw, v, h5, h6, h7, h8⟩
      exact ⟨σ2, α2, h2, h3, h4, v, h5, h6, h7, hw, h8⟩
    · refine qr_mono (sf_150_42es0_1 (d := d + 8) hI (by omega) (by omega) (by omega)) ?_
      rintro r w' ⟨σ2, α2, h2, h3, h4, hw, v, h5, h6, h7, h8⟩
      exact ⟨σ2, α2, h2, h3, h4, v, h5, h6, h7, hw, h8⟩
    · refine qr_mono (sf_150_42es0_2 (d := d + 11) hI (by omega) (by omega) (by omega)) ?_
      rintro r w' ⟨σ2, α2, h2, h3, h4, hw, v, h5, h6, h7, h8⟩
      exact ⟨σ2, α2, h2, h3, h4, v, h5, h6, h7, hw, h8⟩
    · refine qr_mono (sf_150_42es0_3 (d := d + 5) hI (by omega) (by omega) (by omega)) ?_
      rintro r w' ⟨σ2, α2, h2, h3, h4, hw, v, h5, h6, h7, h8⟩
      exact ⟨σ2, α2, h2, h3, h4, v, h5, h6, h7, hw, h8⟩
  · have h2 : x2 = 0 ∨ x2 = 1 ∨ x2 = 2 ∨ x2 = 3 := by omega
    rcases h2 with rfl | rfl | rfl | rfl
    · refine qr_mono (sf_150_42es1_0 (d := d + 9) hI (by omega) (by omega) (by omega)) ?_
      rintro r w' ⟨σ2, α2, h2, h3, h4, hw, v, h5, h6, h7, h8⟩
      exact ⟨σ2, α2, h2, h3, h4, v, h5, h6, h7, hw, h8⟩
    · refine qr_mono (sf_150_42es1_1 (d := d + 6) hI (by omega) (by omega) (by omega)) ?_
      rintro r w' ⟨σ2, α2, h2, h3, h4, hw, v, h5, h6, h7, h8⟩
      exact ⟨σ2, α2, h2, h3, h4, v, h5, h6, h7, hw, h8⟩
    · refine qr_mono (sf_150_42es1_2 (d := d + 11) hI (by omega) (by omega) (by omega)) ?_
      rintro r w' ⟨σ2, α2, h2, h3, h4, hw, v, h5, h6, h7, h8⟩
      exact ⟨σ2, α2, h2, h3, h4, v, h5, h6, h7, hw, h8⟩
    · refine qr_mono (sf_150_42es1_3 (d := d + 3) hI (by omega) (by omega) (by omega)) ?_
      rintro r w' ⟨σ2, α2, h2, h3, h4, hw, v, h5, h6, h7, h8⟩
      exact ⟨σ2, α2, h2, h3, h4, v, h5, h6, h7, hw, h8⟩
  · have h2 : x2 = 0 ∨ x2 = 1 ∨ x2 = 2 ∨ x2 = 3 := by omega
    rcases h2 with rfl | rfl | rfl | rfl
    · refine qr_mono (sf_150_42es2_0 (d := d + 7) hI (by omega) (by omega) (by omega)) ?_
      rintro r w' ⟨σ2, α2, h2, h3, h4, hw, v, h5, h6, h7, h8⟩
      exact ⟨σ2, α2, h2, h3, h4, v, h5, h6, h7, hw, h8⟩
    · refine qr_mono (sf_150_42es2_1 (d := d + 4) hI (by omega) (by omega) (by omega)) ?_
      rintro r w' ⟨σ2, α2, h2, h3, h4, hw, v, h5, h6, h7, h8⟩
      exact ⟨σ2, α2, h2, h3, h4, v, h5, h6, h7, hw, h8⟩
    · refine qr_mono (sf_150_42es2_2 (d := d + 9) hI (by omega) (by omega) (by omega)) ?_
      rintro r w' ⟨σ2, α2, h2, h3, h4, hw, v, h5, h6, h7, h8⟩
      exact ⟨σ2, α2, h2, h3, h4, v, h5, h6, h7, hw, h8⟩
    · refine qr_mono (sf_150_42es2_3 (d := d + 1) hI (by omega) (by omega) (by omega)) ?_
      rintro r w' ⟨σ2, α2, h2, h3, h4, hw, v, h5, h6, h7, h8⟩
      exact ⟨σ2, α2, h2, h3, h4, v, h5, h6, h7, hw, h8⟩
  · have h2 : x2 = 0 ∨ x2 = 1 ∨ x2 = 2 ∨ x2 = 3 := by omega
    rcases h2 with rfl | rfl | rfl | rfl
    · refine qr_mono (sf_150_42es3_0 (d := d + 11) hI (by omega) (by omega) (by omega)) ?_
      rintro r w' ⟨σ2, α2, h2, h3, h4, hw, v, h5, h6, h7, h8⟩
      exact ⟨σ2, α2, h2, h3, h4, v, h5, h6, h7, hw, h8⟩
    · refine qr_mono (sf_150_42es3_1 (d := d + 6) hI (by omega) (by omega) (by omega)) ?_
      rintro r w' ⟨σ2, α2, h2, h3, h4, hw, v, h5, h6, h7, h8⟩
      exact ⟨σ2, α2, h2, h3, h4, v, h5, h6, h7, hw, h8⟩
    · refine qr_mono (sf_150_42es3_2 (d := d + 11) hI (by omega) (by omega) (by omega)) ?_
      rintro r w' ⟨σ2, α2, h2, h3, h4, hw, v, h5, h6, h7, h8⟩
      exact ⟨σ2, α2, h2, h3, h4, v, h5, h6, h7, hw, h8⟩
    · refine qr_mono (sf_150_42es3_3 (d := d + 3) hI (by omega) (by omega) (by omega)) ?_
      rintro r w' ⟨σ2, α2, h2, h3, h4, hw, v, h5, h6, h7, h8⟩
      exact ⟨σ2, α2, h2, h3, h4, v, h5, h6, h7, hw, h8⟩
  · have h2 : x2 = 0 ∨ x2 = 1 ∨ x2 = 2 ∨ x2 = 3 := by omega
    rcases h2 with rfl | rfl | rfl | rfl
    · refine qr_mono (sf_150_42es4_0 (d := d + 11) hI (by omega) (by omega) (by omega)) ?_
      rintro r w' ⟨σ2, α2, h2, h3, h4, hw, v, h5, h6, h7, h8⟩
      exact ⟨σ2, α2, h2, h3, h4, v, h5, h6, h7, hw, h8⟩
    · refine qr_mono (sf_150_42es4_1 (d := d + 8) hI (by omega) (by omega) (by omega)) ?_
      rintro r w' ⟨σ2, α2, h2, h3, h4, hw, v, h5, h6, h7, h8⟩
      exact ⟨σ2, α2, h2, h3, h4, v, h5, h6, h7, hw, h8⟩
    · refine qr_mono (sf_150_42es4_2 (d := d + 11) hI (by omega) (by omega) (by omega)) ?_
      rintro r w' ⟨σ2, α2, h2, h3, h4, hw, v, h5, h6, h7, h8⟩
      exact ⟨σ2, α2, h2, h3, h4, v, h5, h6, h7, hw, h8⟩
    · refine qr_mono (sf_150_42es4_3 (d := d + 3) hI (by omega) (by omega) (by omega)) ?_
      rintro r w' ⟨σ2, α2, h2, h3, h4, hw, v, h5, h6, h7, h8⟩
      exact ⟨σ2, α2, h2, h3, h4, v, h5, h6, h7, hw, h8⟩
  · have h2 : x2 = 0 ∨ x2 = 1 ∨ x2 = 2 ∨ x2 = 3 := by omega
    rcases h2 with rfl | rfl | rfl | rfl
    · refine qr_mono (sf_150_42es5_0 (d := d + 8) hI (by omega) (by omega) (by omega)) ?_
      rintro r w' ⟨σ2, α2, h2, h3, h4, hw, v, h5, h6, h7, h8⟩
      exact ⟨σ2, α2, h2, h3, h4, v, h5, h6, h7, hw, h8⟩
    · refine qr_mono (sf_150_42es5_1 (d := d + 5) hI (by omega) (by omega) (by omega)) ?_
      rintro r w' ⟨σ2, α2, h2, h3, h4, hw, v, h5, h6, h7, h8⟩
      exact ⟨σ2, α2, h2, h3, h4, v, h5, h6, h7, hw, h8⟩
    · refine qr_mono (sf_150_42es5_2 (d := d + 11) hI (by omega) (by omega) (by omega)) ?_
      rintro r w' ⟨σ2, α2, h2, h3, h4, hw, v, h5, h6, h7, h8⟩
      exact ⟨σ2, α2, h2, h3, h4, v, h5, h6, h7, hw, h8⟩
    · refine qr_mono (sf_150_42es5_3 (d := d + 0) hI (by omega) (by omega) (by omega)) ?_
      rintro r w' ⟨σ2, α2, h2, h3, h4, hw, v, h5, h6, h7, h8⟩
      exact ⟨σ2, α2, h2, h3, h4, v, h5, h6, h7, hw, h8⟩
  · have h2 : x2 = 0 ∨ x2 = 1 ∨ x2 = 2 ∨ x2 = 3 := by omega
    rcases h2 with rfl | rfl | rfl | rfl
    · refine qr_mono (sf_150_42es6_0 (d := d + 11) hI (by omega) (by omega) (by omega)) ?_
      rintro r w' ⟨σ2, α2, h2, h3, h4, hw, v, h5, h6, h7, h8⟩
      exact ⟨σ2, α2, h2, h3, h4, v, h5, h6, h7, hw, h8⟩
    · refine qr_mono (sf_150_42es6_1 (d := d + 6) hI (by omega) (by omega) (by omega)) ?_
      rintro r w' ⟨σ2, α2, h2, h3, h4, hw, v, h5, h6, h7, h8⟩
      exact ⟨σ2, α2, h2, h3, h4, v, h5, h6, h7, hw, h8⟩
    · refine qr_mono (sf_150_42es6_2 (d := d + 8) hI (by omega) (by omega) (by omega)) ?_
      rintro r w' ⟨σ2, α2, h2, h3, h4, hw, v, h5, h6, h7, h8⟩
      exact ⟨σ2, α2, h2, h3, h4, v, h5, h6, h7, hw, h8⟩
    · refine qr_mono (sf_150_42es6_3 (d := d + 3) hI (by omega) (by omega) (by omega)) ?_
      rintro r w' ⟨σ2, α2, h2, h3, h4, hw, v, h5, h6, h7, h8⟩
      exact ⟨σ2, α2, h2, h3, h4, v, h5, h6, h7, hw, h8⟩

set_option maxHeartbeats 4000000 in
set_option maxRecDepth 20000 in
/-- OneRoof.act -/
theorem sf_148_16x {L : Nat} {xs : Nat → Int} {vb : Bool} {d : Nat} {σ α : Nat → Nat → Int} {κ : Nat → Option Nat} {ρ : Nat} {x1 : Int} {x2 : Int} {x3 : Int} (hI : qI σ α κ ρ) (r1 : (-2147483648) ≤ x1 ∧ x1 ≤ 2147483647) (r2 : (-2147483648) ≤ x2 ∧ x2 ≤ 2147483647) (r3 : (-2147483648) ≤ x3 ∧ x3 ≤ 2147483647) (p0 : ∀ k : Nat, (k : Int) < σ 34 7 → 0 ≤ α 35 k ∧ α 35 k ≤ 6) : qm_T (qe L xs vb) (d + 16) 148 [.ref 16, .int (qz x1), .int (qz x2), .int (qz x3)] (qw σ α κ ρ) (fun r w' => ∃ σ' α', w' = qw σ' α' κ ρ ∧ qI σ' α' κ ρ ∧ qFr [(42, 1)] [43] σ α σ' α' ∧ ∃ v : Int, r = some (.int (qz v)) ∧ ((-2147483648) ≤ v ∧ v ≤ 2147483647) ∧ ((v = 0 ∧ ¬ (0 ≤ x1 ∧ x1 < σ 34 7 ∧ 0 ≤ x2 ∧ x2 ≤ 3) ∧ σ' 42 1 = 0) ∨ ((0 ≤ x1 ∧ x1 < σ 34 7 ∧ 0 ≤ x2 ∧ x2 ≤ 3) ∧ v = qAE (α 35 (x1 : Int).toNat) x2 x3 x1 ∧ σ' 42 1 = ((qAT (α 35 (x1 : Int).toNat) x2).length : Int) ∧ α' 43 = qac_t (qAT (α 35 (x1 : Int).toNat) x2) (α 43) 0))) := by
  refine qr_start (d := d + 15) qv_e148 (Nat.le_of_ble_eq_true rfl) ?_
  show qr_W (qe L xs vb) (d + 15) qx_e148 _ (0, [(0, .ref 16), (1, .int (qz x1)), (2, .int (qz x2)), (3, .int (qz x3))], [], _, 0, 0)
  have hF0 := qFr_rf [(42, 1)] [43] σ α
  have hz34_7 : 0 ≤ σ 34 7 ∧ σ 34 7 ≤ 60 := hI.1 34 7
  refine qr_aload_n 1 rfl rfl rfl ?_
  refine qr_get 4 rfl rfl rfl (by decide) rfl ?_
  refine qr_callN 7 rfl rfl rfl (sf_149_42z (d := d + 14) hI ) ?_
  rintro _ _ ⟨σ2, rfl, hI3, hG4, hw1, rfl⟩
  have hF5 : qFr [(42, 1)] [43] σ α σ2 α := qFr_t hF0 hG4 (by decide) (by decide)
  have hs6 : (-2147483648) ≤ σ2 42 1 ∧ σ2 42 1 ≤ 2147483647 := hI3.1 42 1
  show qr_W (qe L xs vb) (d + 15) qx_e148 _ (7, _, [], qw σ2 α κ ρ, 0, 0)
  refine qr_aload_n 8 rfl rfl rfl ?_
  refine qr_get 11 rfl rfl rfl (by decide) rfl ?_
  refine qr_iload_n 12 rfl rfl rfl ?_
  refine qr_callN 15 rfl rfl rfl (sf_73_34 (d := d + 14) hI3 r1) ?_
  have hs9 : 0 ≤ σ2 34 7 ∧ σ2 34 7 ≤ 60 := hI3.1 34 7
  have hs10 : σ2 34 7 = (σ 34 7) := (hG4.1 34 7 (by decide)).trans rfl
  rintro _ _ ⟨rfl, v7, rfl, hv7, hp8⟩
  show qr_W (qe L xs vb) (d + 15) qx_e148 _ (15, _, [.int (qz v7)], qw σ2 α κ ρ, 0, 0)
  refine qr_if_eq 27 18 rfl rfl rfl (qrg hv7 (by decide) (by decide)) (fun h11 => ?_) (fun h11 => ?_)
  · skip
    refine qr_iconst 28 rfl rfl ?_
    refine qr_retI rfl rfl (by decide) (by decide) ?_
    exact ⟨_, _, rfl, hI3, hF5, 0, rfl, (by decide), (Or.inl ⟨by omega, by omega, by omega⟩)⟩
  · skip
    refine qr_iload_n 19 rfl rfl rfl ?_
    refine qr_if_lt 27 22 rfl rfl rfl r2 (fun h12 => ?_) (fun h12 => ?_)
    · skip
      refine qr_iconst 28 rfl rfl ?_
      refine qr_retI rfl rfl (by decide) (by decide) ?_
      exact ⟨_, _, rfl, hI3, hF5, 0, rfl, (by decide), (Or.inl ⟨by omega, by omega, by omega⟩)⟩
    · skip
      refine qr_iload_n 23 rfl rfl rfl ?_
      refine qr_iconst 24 rfl rfl ?_
      refine qr_icmp_lt 29 27 rfl rfl rfl r2 (by decide) (fun h13 => ?_) (fun h13 => ?_)
      · skip
        refine qr_aload_n 30 rfl rfl rfl ?_
        refine qr_get 33 rfl rfl rfl (by decide) rfl ?_
        refine qr_aload_n 34 rfl rfl rfl ?_
        refine qr_get 37 rfl rfl rfl (by decide) rfl ?_
        refine qr_get 40 rfl rfl rfl (by decide) rfl ?_
        refine qr_iload_n 41 rfl rfl rfl ?_
        refine qr_iaload 42 rfl rfl (by omega) (by decide) rfl ?_
        refine qr_topI (fun v14 hv14 => ?_)
        have hs15 : (-2147483648) ≤ v14 ∧ v14 ≤ 2147483647 := by rw [hv14]; exact hI3.2.1 35 _ (show _ < 60 by omega)
        refine qr_iload_n 43 rfl rfl rfl ?_
        refine qr_iload_n 44 rfl rfl rfl ?_
        refine qr_iload_n 45 rfl rfl rfl ?_
        have hs16 : (-2147483648) ≤ σ2 42 1 ∧ σ2 42 1 ≤ 2147483647 := hI3.1 42 1
        refine qr_callN 48 rfl rfl rfl (sf_150_42ex (d := d + 0) hI3 hs15 r2 r3 r1 (by have hz := p0 (x1 : Int).toNat (by omega); rw [← hv14] at hz; omega) (by omega) (by omega)) ?_
        rintro _ _ ⟨σ21, α22, rfl, hI23, hG24, v17, rfl, hv17, hx18, hx19, hx20⟩
        have hF25 : qFr [(42, 1)] [43] σ α σ21 α22 := qFr_t hF5 hG24 (by decide) (by decide)
        show qr_W (qe L xs vb) (d + 15) qx_e148 _ (48, _, [.int (qz v17)], qw σ21 α22 κ ρ, 0, 0)
        refine qr_retI rfl rfl (by decide) (by decide) ?_
        exact ⟨_, _, rfl, hI23, hF25, v17, rfl, hv17, (Or.inr ⟨by omega, by rw [← hv14]; exact hx18, by rw [← hv14]; have hw := hx19; omega, by rw [← hv14]; have hw := hx20; rw [show σ2 42 1 = 0 by omega] at hw; exact hw⟩)⟩
      · skip
        refine qr_iconst 28 rfl rfl ?_
        refine qr_retI rfl rfl (by decide) (by decide) ?_
        exact ⟨_, _, rfl, hI3, hF5, 0, rfl, (by decide), (Or.inl ⟨by omega, by omega, by omega⟩)⟩

set_option maxHeartbeats 4000000 in
set_option maxRecDepth 20000 in
/-- OneRoofModel.begins -/
theorem sf_257_86e {L : Nat} {xs : Nat → Int} {vb : Bool} {d : Nat} {σ α : Nat → Nat → Int} {κ : Nat → Option Nat} {ρ : Nat} {x1 : Int} (hI : qI σ α κ ρ) (r1 : (-2147483648) ≤ x1 ∧ x1 ≤ 2147483647) (p0 : 0 ≤ σ 86 56 ∧ σ 86 56 ≤ 23) : qm_T (qe L xs vb) (d + 1) 257 [.ref 86, .int (qz x1)] (qw σ α κ ρ) (fun r w' => ∃ σ' α', w' = qw σ' α' κ ρ ∧ qI σ' α' κ ρ ∧ qFr [(86, 56)] [120] σ α σ' α' ∧ σ' 86 56 = σ 86 56 + 1 ∧ r = none ∧ α' 120 = qzu (α 120) (σ 86 56 : Int).toNat (x1)) := by
  refine qr_start (d := d + 0) qv_e257 (Nat.le_of_ble_eq_true rfl) ?_
  show qr_W (qe L xs vb) (d + 0) qx_e257 _ (0, [(0, .ref 86), (1, .int (qz x1))], [], _, 0, 0)
  have hF0 := qFr_rf [(86, 56)] [120] σ α
  have hz86_56 : (-2147483648) ≤ σ 86 56 ∧ σ 86 56 ≤ 2147483647 := hI.1 86 56
  refine qr_aload_n 1 rfl rfl rfl ?_
  refine qr_get 4 rfl rfl rfl (by decide) rfl ?_
  refine qr_bipush 6 rfl (by decide) rfl ?_
  refine qr_icmp_ge 19 9 rfl rfl rfl hz86_56 (by decide) (fun h => False.elim (by omega)) (fun h1 => ?_)
  refine qr_aload_n 10 rfl rfl rfl ?_
  refine qr_get 13 rfl rfl rfl (by decide) rfl ?_
  refine qr_aload_n 14 rfl rfl rfl ?_
  refine qr_get 17 rfl rfl rfl (by decide) rfl ?_
  refine qr_iload_n 18 rfl rfl rfl ?_
  refine qr_iastore 19 rfl (by decide) rfl (by omega) (by decide) rfl ?_
  refine qy_wA (qw_r α 120 (qzu (α 120) ((σ 86 56) : Int).toNat x1)) rfl (fun α2 e3 => ?_)
  have hI4 : qI σ α2 κ ρ := by rw [e3]; exact qI_r hI 120 _ rfl (show (-2147483648) ≤ x1 ∧ x1 ≤ 2147483647 by omega)
  have hF5 : qFr [(86, 56)] [120] σ α σ α2 := by rw [e3]; exact qFr_r hF0 120 _ (by decide)
  refine qr_aload_n 20 rfl rfl rfl ?_
  refine qr_dup 21 rfl rfl rfl ?_
  refine qr_get 24 rfl rfl rfl (by decide) rfl ?_
  refine qr_iconst 25 rfl rfl ?_
  refine qr_iadd 26 rfl rfl ?_
  refine qr_put 29 rfl (by decide) rfl (Nat.le_of_ble_eq_true rfl) (Nat.le_of_ble_eq_true rfl) (Or.inl rfl) (qr_fitI rfl _) rfl ?_
  refine qy_wS (qw_s σ 86 56 ((σ 86 56) + 1)) rfl (fun σ6 e7 => ?_)
  have hI8 : qI σ6 α2 κ ρ := by rw [e7]; exact qI_s hI4 86 56 rfl (show (-2147483648) ≤ ((σ 86 56) + 1) ∧ ((σ 86 56) + 1) ≤ 2147483647 by omega)
  have hF9 : qFr [(86, 56)] [120] σ α σ6 α2 := by rw [e7]; exact qFr_s hF5 86 56 _ (by decide)
  refine qr_retV rfl rfl (by decide) (by decide) ?_
  exact ⟨_, _, rfl, hI8, hF9, (by have hw : σ6 86 56 = ((σ 86 56) + 1) := (congrFun (congrFun e7 86) 56).trans rfl; omega), rfl, ((congrFun e3 120).trans (qw_r_eq.trans (congrArg (fun f => qzu f ((σ 86 56) : Int).toNat x1) rfl)))⟩

set_option maxHeartbeats 4000000 in
set_option maxRecDepth 20000 in
/-- OneRoofModel.holdsAs -/
theorem sf_256_86e0_0 {L : Nat} {xs : Nat → Int} {vb : Bool} {d : Nat} {σ α : Nat → Nat → Int} {κ : Nat → Option Nat} {ρ : Nat} {x2 : Int} (hI : qI σ α κ ρ) (r2 : (-2147483648) ≤ x2 ∧ x2 ≤ 2147483647) (p0 : 0 ≤ σ 86 56 ∧ σ 86 56 ≤ 23) (p1 : σ 86 57 = 0) : qm_T (qe L xs vb) (d + 2) 256 [.ref 86, .int (qz 0), .int (qz x2)] (qw σ α κ ρ) (fun r w' => ∃ σ' α', w' = qw σ' α' κ ρ ∧ qI σ' α' κ ρ ∧ qFr [(86, 56)] [120] σ α σ' α' ∧ σ' 86 56 = σ 86 56 + 1 ∧ ∃ v : Int, r = some (.int (qz v)) ∧ ((-2147483648) ≤ v ∧ v ≤ 2147483647) ∧ v = qac_a x2 (σ 86 58) ∧ α' 120 = qac_t [1] (α 120) (σ 86 56)) := by
  refine qr_start (d := d + 1) qv_e256 (Nat.le_of_ble_eq_true rfl) ?_
  show qr_W (qe L xs vb) (d + 1) qx_e256 _ (0, [(0, .ref 86), (1, .int (qz 0)), (2, .int (qz x2))], [], _, 0, 0)
  have hF0 := qFr_rf [(86, 56)] [120] σ α
  have hz86_56 : (-2147483648) ≤ σ 86 56 ∧ σ 86 56 ≤ 2147483647 := hI.1 86 56
  have hz86_57 : (-2147483648) ≤ σ 86 57 ∧ σ 86 57 ≤ 2147483647 := hI.1 86 57
  have hz86_58 : (-2147483648) ≤ σ 86 58 ∧ σ 86 58 ≤ 2147483647 := hI.1 86 58
  refine qr_iload_n 1 rfl rfl rfl ?_
  refine qr_iconst 2 rfl rfl ?_
  refine qr_icmp_ne 20 5 rfl rfl rfl (by decide) (by decide) (fun h1 => ?_) (fun h => False.elim (by omega))
  refine qr_iload_n 21 rfl rfl rfl ?_
  refine qr_iconst 22 rfl rfl ?_
  refine qr_icmp_ne 40 25 rfl rfl rfl (by decide) (by decide) (fun h2 => ?_) (fun h => False.elim (by omega))
  refine qr_iload_n 41 rfl rfl rfl ?_
  refine qr_iconst 42 rfl rfl ?_
  refine qr_icmp_ne 70 45 rfl rfl rfl (by decide) (by decide) (fun h3 => ?_) (fun h => False.elim (by omega))
  refine qr_aload_n 71 rfl rfl rfl ?_
  refine qr_iconst 72 rfl rfl ?_
  have hs4 : (-2147483648) ≤ σ 86 56 ∧ σ 86 56 ≤ 2147483647 := hI.1 86 56
  refine qr_callN 75 rfl rfl rfl (sf_257_86e (d := d + 0) hI (by decide) (by omega)) ?_
  rintro _ _ ⟨σ7, α8, rfl, hI9, hG10, hw6, rfl, hx5⟩
  have hF11 : qFr [(86, 56)] [120] σ α σ7 α8 := qFr_t hF0 hG10 (by decide) (by decide)
  have hs12 : (-2147483648) ≤ σ7 86 56 ∧ σ7 86 56 ≤ 2147483647 := hI9.1 86 56
  show qr_W (qe L xs vb) (d + 1) qx_e256 _ (75, _, [], qw σ7 α8 κ ρ, 0, 0)
  refine qr_iload_n 76 rfl rfl rfl ?_
  refine qr_aload_n 77 rfl rfl rfl ?_
  refine qr_get 80 rfl rfl rfl (by decide) rfl ?_
  refine qy_v (σ 86 58) ((hG10.1 86 58 (by decide)).trans rfl) ?_
  refine qr_iadd 81 rfl rfl ?_
  refine qy_canE (fun v13 hv13 hev13 => ?_)
  refine qr_retI rfl rfl (by decide) (by decide) ?_
  exact ⟨_, _, rfl, hI9, hF11, (by have hw : σ7 86 56 = (σ7 86 56) := rfl; omega), v13, rfl, hv13, (qac_v hev13 (by omega)), ((hx5.trans (congrArg (fun f => qzu (f) (σ 86 56 : Int).toNat (1)) rfl)))⟩

set_option maxHeartbeats 4000000 in
set_option maxRecDepth 20000 in
/-- OneRoofModel.holdsAs -/
theorem sf_256_86e0_1 {L : Nat} {xs : Nat → Int} {vb : Bool} {d : Nat} {σ α : Nat → Nat → Int} {κ : Nat → Option Nat} {ρ : Nat} {x2 : Int} (hI : qI σ α κ ρ) (r2 : (-2147483648) ≤ x2 ∧ x2 ≤ 2147483647) (p0 : 0 ≤ σ 86 56 ∧ σ 86 56 ≤ 23) (p1 : σ 86 57 = 1) : qm_T (qe L xs vb) (d + 2) 256 [.ref 86, .int (qz 0), .int (qz x2)] (qw σ α κ ρ) (fun r w' => ∃ σ' α', w' = qw σ' α' κ ρ ∧ qI σ' α' κ ρ ∧ qFr [(86, 56)] [120] σ α σ' α' ∧ σ' 86 56 = σ 86 56 + 1 ∧ ∃ v : Int, r = some (.int (qz v)) ∧ ((-2147483648) ≤ v ∧ v ≤ 2147483647) ∧ v = qac_a x2 (σ 86 58) ∧ α' 120 = qac_t [1] (α 120) (σ 86 56)) := by
  refine qr_start (d := d + 1) qv_e256 (Nat.le_of_ble_eq_true rfl) ?_
  show qr_W (qe L xs vb) (d + 1) qx_e256 _ (0, [(0, .ref 86), (1, .int (qz 0)), (2, .int (qz x2))], [], _, 0, 0)
  have hF0 := qFr_rf [(86, 56)] [120] σ α
  have hz86_56 : (-2147483648) ≤ σ 86 56 ∧ σ 86 56 ≤ 2147483647 := hI.1 86 56
  have hz86_57 : (-2147483648) ≤ σ 86 57 ∧ σ 86 57 ≤ 2147483647 := hI.1 86 57
  have hz86_58 : (-2147483648) ≤ σ 86 58 ∧ σ 86 58 ≤ 2147483647 := hI.1 86 58
  refine qr_iload_n 1 rfl rfl rfl ?_
  refine qr_iconst 2 rfl rfl ?_
  refine qr_icmp_ne 20 5 rfl rfl rfl (by decide) (by decide) (fun h1 => ?_) (fun h => False.elim (by omega))
  refine qr_iload_n 21 rfl rfl rfl ?_
  refine qr_iconst 22 rfl rfl ?_
  refine qr_icmp_ne 40 25 rfl rfl rfl (by decide) (by decide) (fun h2 => ?_) (fun h => False.elim (by omega))
  refine qr_iload_n 41 rfl rfl rfl ?_
  refine qr_iconst 42 rfl rfl ?_
  refine qr_icmp_ne 70 45 rfl rfl rfl (by decide) (by decide) (fun h3 => ?_) (fun h => False.elim (by omega))
  refine qr_aload_n 71 rfl rfl rfl ?_
  refine qr_iconst 72 rfl rfl ?_
  have hs4 : (-2147483648) ≤ σ 86 56 ∧ σ 86 56 ≤ 2147483647 := hI.1 86 56
  refine qr_callN 75 rfl rfl rfl (sf_257_86e (d := d + 0) hI (by decide) (by omega)) ?_
  rintro _ _ ⟨σ7, α8, rfl, hI9, hG10, hw6, rfl, hx5⟩
  have hF11 : qFr [(86, 56)] [120] σ α σ7 α8 := qFr_t hF0 hG10 (by decide) (by decide)
  have hs12 : (-2147483648) ≤ σ7 86 56 ∧ σ7 86 56 ≤ 2147483647 := hI9.1 86 56
  show qr_W (qe L xs vb) (d + 1) qx_e256 _ (75, _, [], qw σ7 α8 κ ρ, 0, 0)
  refine qr_iload_n 76 rfl rfl rfl ?_
  refine qr_aload_n 77 rfl rfl rfl ?_
  refine qr_get 80 rfl rfl rfl (by decide) rfl ?_
  refine qy_v (σ 86 58) ((hG10.1 86 58 (by decide)).trans rfl) ?_
  refine qr_iadd 81 rfl rfl ?_
  refine qy_canE (fun v13 hv13 hev13 => ?_)
  refine qr_retI rfl rfl (by decide) (by decide) ?_
  exact ⟨_, _, rfl, hI9, hF11, (by have hw : σ7 86 56 = (σ7 86 56) := rfl; omega), v13, rfl, hv13, (qac_v hev13 (by omega)), ((hx5.trans (congrArg (fun f => qzu (f) (σ 86 56 : Int).toNat (1)) rfl)))⟩

set_option maxHeartbeats 4000000 in
set_option maxRecDepth 20000 in
/-- OneRoofModel.holdsAs -/
theorem sf_256_86e1_1 {L : Nat} {xs : Nat → Int} {vb : Bool} {d : Nat} {σ α : Nat → Nat → Int} {κ : Nat → Option Nat} {ρ : Nat} {x2 : Int} (hI : qI σ α κ ρ) (r2 : (-2147483648) ≤ x2 ∧ x2 ≤ 2147483647) (p0 : 0 ≤ σ 86 56 ∧ σ 86 56 ≤ 22) (p1 : σ 86 57 = 1) : qm_T (qe L xs vb) (d + 3) 256 [.ref 86, .int (qz 1), .int (qz x2)] (qw σ α κ ρ) (fun r w' => ∃ σ' α', w' = qw σ' α' κ ρ ∧ qI σ' α' κ ρ ∧ qFr [(86, 56)] [120] σ α σ' α' ∧ σ' 86 56 = σ 86 56 + 2 ∧ ∃ v : Int, r = some (.int (qz v)) ∧ ((-2147483648) ≤ v ∧ v ≤ 2147483647) ∧ v = qac_a (qac_a x2 (σ 86 58)) 3 ∧ α' 120 = qac_t [20, 1] (α 120) (σ 86 56)) := by
  refine qr_start (d := d + 2) qv_e256 (Nat.le_of_ble_eq_true rfl) ?_
  show qr_W (qe L xs vb) (d + 2) qx_e256 _ (0, [(0, .ref 86), (1, .int (qz 1)), (2, .int (qz x2))], [], _, 0, 0)
  have hF0 := qFr_rf [(86, 56)] [120] σ α
  have hz86_56 : (-2147483648) ≤ σ 86 56 ∧ σ 86 56 ≤ 2147483647 := hI.1 86 56
  have hz86_57 : (-2147483648) ≤ σ 86 57 ∧ σ 86 57 ≤ 2147483647 := hI.1 86 57
  have hz86_58 : (-2147483648) ≤ σ 86 58 ∧ σ 86 58 ≤ 2147483647 := hI.1 86 58
  refine qr_iload_n 1 rfl rfl rfl ?_
  refine qr_iconst 2 rfl rfl ?_
  refine qr_icmp_ne 20 5 rfl rfl rfl (by decide) (by decide) (fun h1 => ?_) (fun h => False.elim (by omega))
  refine qr_iload_n 21 rfl rfl rfl ?_
  refine qr_iconst 22 rfl rfl ?_
  refine qr_icmp_ne 40 25 rfl rfl rfl (by decide) (by decide) (fun h => False.elim (by omega)) (fun h2 => ?_)
  refine qr_aload_n 26 rfl rfl rfl ?_
  refine qr_bipush 28 rfl (by decide) rfl ?_
  have hs3 : (-2147483648) ≤ σ 86 56 ∧ σ 86 56 ≤ 2147483647 := hI.1 86 56
  refine qr_callN 31 rfl rfl rfl (sf_257_86e (d := d + 1) hI (by decide) (by omega)) ?_
  rintro _ _ ⟨σ6, α7, rfl, hI8, hG9, hw5, rfl, hx4⟩
  have hF10 : qFr [(86, 56)] [120] σ α σ6 α7 := qFr_t hF0 hG9 (by decide) (by decide)
  have hs11 : (-2147483648) ≤ σ6 86 56 ∧ σ6 86 56 ≤ 2147483647 := hI8.1 86 56
  show qr_W (qe L xs vb) (d + 2) qx_e256 _ (31, _, [], qw σ6 α7 κ ρ, 0, 0)
  refine qr_aload_n 32 rfl rfl rfl ?_
  refine qr_iconst 33 rfl rfl ?_
  refine qr_iload_n 34 rfl rfl rfl ?_
  have hr12 : σ6 86 56 = (σ6 86 56) := rfl
  have hs13 : (-2147483648) ≤ σ6 86 56 ∧ σ6 86 56 ≤ 2147483647 := hI8.1 86 56
  have hs14 : (-2147483648) ≤ σ6 86 57 ∧ σ6 86 57 ≤ 2147483647 := hI8.1 86 57
  have hs15 : σ6 86 57 = (σ 86 57) := (hG9.1 86 57 (by decide)).trans rfl
  refine qr_callN 37 rfl rfl rfl (sf_256_86e0_1 (d := d + 0) hI8 r2 (by omega) (by omega)) ?_
  rintro _ _ ⟨σ20, α21, rfl, hI22, hG23, hw19, v16, rfl, hv16, hx17, hx18⟩
  have hF24 : qFr [(86, 56)] [120] σ α σ20 α21 := qFr_t hF10 hG23 (by decide) (by decide)
  have hs25 : (-2147483648) ≤ σ20 86 56 ∧ σ20 86 56 ≤ 2147483647 := hI22.1 86 56
  show qr_W (qe L xs vb) (d + 2) qx_e256 _ (37, _, [.int (qz v16)], qw σ20 α21 κ ρ, 0, 0)
  rw [hF10.1 86 58 (by decide)] at hx17
  refine qr_iconst 38 rfl rfl ?_
  refine qr_iadd 39 rfl rfl ?_
  refine qy_canE (fun v26 hv26 hev26 => ?_)
  refine qr_retI rfl rfl (by decide) (by decide) ?_
  exact ⟨_, _, rfl, hI22, hF24, (by have hw : σ20 86 56 = (σ20 86 56) := rfl; omega), v26, rfl, hv26, ((qac_v hev26 (by omega)).trans (by rw [hx17]; rfl)), (by rw [hx18, show α7 120 = qzu (α 120) (σ 86 56 : Int).toNat 20 from (hx4.trans (congrArg (fun f => qzu (f) (σ 86 56 : Int).toNat (20)) rfl)), show σ6 86 56 = σ 86 56 + 1 by omega]; rfl)⟩

set_option maxHeartbeats 4000000 in
set_option maxRecDepth 20000 in
/-- OneRoofModel.holdsAs -/
theorem sf_256_86e0_2 {L : Nat} {xs : Nat → Int} {vb : Bool} {d : Nat} {σ α : Nat → Nat → Int} {κ : Nat → Option Nat} {ρ : Nat} {x2 : Int} (hI : qI σ α κ ρ) (r2 : (-2147483648) ≤ x2 ∧ x2 ≤ 2147483647) (p0 : 0 ≤ σ 86 56 ∧ σ 86 56 ≤ 23) (p1 : σ 86 57 = 2) : qm_T (qe L xs vb) (d + 2) 256 [.ref 86, .int (qz 0), .int (qz x2)] (qw σ α κ ρ) (fun r w' => ∃ σ' α', w' = qw σ' α' κ ρ ∧ qI σ' α' κ ρ ∧ qFr [(86, 56)] [120] σ α σ' α' ∧ σ' 86 56 = σ 86 56 + 1 ∧ ∃ v : Int, r = some (.int (qz v)) ∧ ((-2147483648) ≤ v ∧ v ≤ 2147483647) ∧ v = qac_a x2 (σ 86 58) ∧ α' 120 = qac_t [1] (α 120) (σ 86 56)) := by
  refine qr_start (d := d + 1) qv_e256 (Nat.le_of_ble_eq_true rfl) ?_
  show qr_W (qe L xs vb) (d + 1) qx_e256 _ (0, [(0, .ref 86), (1, .int (qz 0)), (2, .int (qz x2))], [], _, 0, 0)
  have hF0 := qFr_rf [(86, 56)] [120] σ α
  have hz86_56 : (-2147483648) ≤ σ 86 56 ∧ σ 86 56 ≤ 2147483647 := hI.1 86 56
  have hz86_57 : (-2147483648) ≤ σ 86 57 ∧ σ 86 57 ≤ 2147483647 := hI.1 86 57
  have hz86_58 : (-2147483648) ≤ σ 86 58 ∧ σ 86 58 ≤ 2147483647 := hI.1 86 58
  refine qr_iload_n 1 rfl rfl rfl ?_
  refine qr_iconst 2 rfl rfl ?_
  refine qr_icmp_ne 20 5 rfl rfl rfl (by decide) (by decide) (fun h1 => ?_) (fun h => False.elim (by omega))
  refine qr_iload_n 21 rfl rfl rfl ?_
  refine qr_iconst 22 rfl rfl ?_
  refine qr_icmp_ne 40 25 rfl rfl rfl (by decide) (by decide) (fun h2 => ?_) (fun h => False.elim (by omega))
  refine qr_iload_n 41 rfl rfl rfl ?_
  refine qr_iconst 42 rfl rfl ?_
  refine qr_icmp_ne 70 45 rfl rfl rfl (by decide) (by decide) (fun h3 => ?_) (fun h => False.elim (by omega))
  refine qr_aload_n 71 rfl rfl rfl ?_
  refine qr_iconst 72 rfl rfl ?_
  have hs4 : (-2147483648) ≤ σ 86 56 ∧ σ 86 56 ≤ 2147483647 := hI.1 86 56
  refine qr_callN 75 rfl rfl rfl (sf_257_86e (d := d + 0) hI (by decide) (by omega)) ?_
  rintro _ _ ⟨σ7, α8, rfl, hI9, hG10, hw6, rfl, hx5⟩
  have hF11 : qFr [(86, 56)] [120] σ α σ7 α8 := qFr_t hF0 hG10 (by decide) (by decide)
  have hs12 : (-2147483648) ≤ σ7 86 56 ∧ σ7 86 56 ≤ 2147483647 := hI9.1 86 56
  show qr_W (qe L xs vb) (d + 1) qx_e256 _ (75, _, [], qw σ7 α8 κ ρ, 0, 0)
  refine qr_iload_n 76 rfl rfl rfl ?_
  refine qr_aload_n 77 rfl rfl rfl ?_
  refine qr_get 80 rfl rfl rfl (by decide) rfl ?_
  refine qy_v (σ 86 58) ((hG10.1 86 58 (by decide)).trans rfl) ?_
  refine qr_iadd 81 rfl rfl ?_
  refine qy_canE (fun v13 hv13 hev13 => ?_)
  refine qr_retI rfl rfl (by decide) (by decide) ?_
  exact ⟨_, _, rfl, hI9, hF11, (by have hw : σ7 86 56 = (σ7 86 56) := rfl; omega), v13, rfl, hv13, (qac_v hev13 (by omega)), ((hx5.trans (congrArg (fun f => qzu (f) (σ 86 56 : Int).toNat (1)) rfl)))⟩

set_option maxHeartbeats 4000000 in
set_option maxRecDepth 20000 in
/-- OneRoofModel.holdsAs -/
theorem sf_256_86e1_2 {L : Nat} {xs : Nat → Int} {vb : Bool} {d : Nat} {σ α : Nat → Nat → Int} {κ : Nat → Option Nat} {ρ : Nat} {x2 : Int} (hI : qI σ α κ ρ) (r2 : (-2147483648) ≤ x2 ∧ x2 ≤ 2147483647) (p0 : 0 ≤ σ 86 56 ∧ σ 86 56 ≤ 22) (p1 : σ 86 57 = 2) : qm_T (qe L xs vb) (d + 3) 256 [.ref 86, .int (qz 1), .int (qz x2)] (qw σ α κ ρ) (fun r w' => ∃ σ' α', w' = qw σ' α' κ ρ ∧ qI σ' α' κ ρ ∧ qFr [(86, 56)] [120] σ α σ' α' ∧ σ' 86 56 = σ 86 56 + 2 ∧ ∃ v : Int, r = some (.int (qz v)) ∧ ((-2147483648) ≤ v ∧ v ≤ 2147483647) ∧ v = qac_a (qac_a x2 (σ 86 58)) 3 ∧ α' 120 = qac_t [20, 1] (α 120) (σ 86 56)) := by
  refine qr_start (d := d + 2) qv_e256 (Nat.le_of_ble_eq_true rfl) ?_
  show qr_W (qe L xs vb) (d + 2) qx_e256 _ (0, [(0, .ref 86), (1, .int (qz 1)), (2, .int (qz x2))], [], _, 0, 0)
  have hF0 := qFr_rf [(86, 56)] [120] σ α
  have hz86_56 : (-2147483648) ≤ σ 86 56 ∧ σ 86 56 ≤ 2147483647 := hI.1 86 56
  have hz86_57 : (-2147483648) ≤ σ 86 57 ∧ σ 86 57 ≤ 2147483647 := hI.1 86 57
  have hz86_58 : (-2147483648) ≤ σ 86 58 ∧ σ 86 58 ≤ 2147483647 := hI.1 86 58
  refine qr_iload_n 1 rfl rfl rfl ?_
  refine qr_iconst 2 rfl rfl ?_
  refine qr_icmp_ne 20 5 rfl rfl rfl (by decide) (by decide) (fun h1 => ?_) (fun h => False.elim (by omega))
  refine qr_iload_n 21 rfl rfl rfl ?_
  refine qr_iconst 22 rfl rfl ?_
  refine qr_icmp_ne 40 25 rfl rfl rfl (by decide) (by decide) (fun h => False.elim (by omega)) (fun h2 => ?_)
  refine qr_aload_n 26 rfl rfl rfl ?_
  refine qr_bipush 28 rfl (by decide) rfl ?_
  have hs3 : (-2147483648) ≤ σ 86 56 ∧ σ 86 56 ≤ 2147483647 := hI.1 86 56
  refine qr_callN 31 rfl rfl rfl (sf_257_86e (d := d + 1) hI (by decide) (by omega)) ?_
  rintro _ _ ⟨σ6, α7, rfl, hI8, hG9, hw5, rfl, hx4⟩
  have hF10 : qFr [(86, 56)] [120] σ α σ6 α7 := qFr_t hF0 hG9 (by decide) (by decide)
  have hs11 : (-2147483648) ≤ σ6 86 56 ∧ σ6 86 56 ≤ 2147483647 := hI8.1 86 56
  show qr_W (qe L xs vb) (d + 2) qx_e256 _ (31, _, [], qw σ6 α7 κ ρ, 0, 0)
  refine qr_aload_n 32 rfl rfl rfl ?_
  refine qr_iconst 33 rfl rfl ?_
  refine qr_iload_n 34 rfl rfl rfl ?_
  have hr12 : σ6 86 56 = (σ6 86 56) := rfl
  have hs13 : (-2147483648) ≤ σ6 86 56 ∧ σ6 86 56 ≤ 2147483647 := hI8.1 86 56
  have hs14 : (-2147483648) ≤ σ6 86 57 ∧ σ6 86 57 ≤ 2147483647 := hI8.1 86 57
  have hs15 : σ6 86 57 = (σ 86 57) := (hG9.1 86 57 (by decide)).trans rfl
  refine qr_callN 37 rfl rfl rfl (sf_256_86e0_2 (d := d + 0) hI8 r2 (by omega) (by omega)) ?_
  rintro _ _ ⟨σ20, α21, rfl, hI22, hG23, hw19, v16, rfl, hv16, hx17, hx18⟩
  have hF24 : qFr [(86, 56)] [120] σ α σ20 α21 := qFr_t hF10 hG23 (by decide) (by decide)
  have hs25 : (-2147483648) ≤ σ20 86 56 ∧ σ20 86 56 ≤ 2147483647 := hI22.1 86 56
  show qr_W (qe L xs vb) (d + 2) qx_e256 _ (37, _, [.int (qz v16)], qw σ20 α21 κ ρ, 0, 0)
  rw [hF10.1 86 58 (by decide)] at hx17
  refine qr_iconst 38 rfl rfl ?_
  refine qr_iadd 39 rfl rfl ?_
  refine qy_canE (fun v26 hv26 hev26 => ?_)
  refine qr_retI rfl rfl (by decide) (by decide) ?_
  exact ⟨_, _, rfl, hI22, hF24, (by have hw : σ20 86 56 = (σ20 86 56) := rfl; omega), v26, rfl, hv26, ((qac_v hev26 (by omega)).trans (by rw [hx17]; rfl)), (by rw [hx18, show α7 120 = qzu (α 120) (σ 86 56 : Int).toNat 20 from (hx4.trans (congrArg (fun f => qzu (f) (σ 86 56 : Int).toNat (20)) rfl)), show σ6 86 56 = σ 86 56 + 1 by omega]; rfl)⟩

set_option maxHeartbeats 4000000 in
set_option maxRecDepth 20000 in
/-- OneRoofModel.holdsAs -/
theorem sf_256_86e2_2 {L : Nat} {xs : Nat → Int} {vb : Bool} {d : Nat} {σ α : Nat → Nat → Int} {κ : Nat → Option Nat} {ρ : Nat} {x2 : Int} (hI : qI σ α κ ρ) (r2 : (-2147483648) ≤ x2 ∧ x2 ≤ 2147483647) (p0 : 0 ≤ σ 86 56 ∧ σ 86 56 ≤ 21) (p1 : σ 86 57 = 2) : qm_T (qe L xs vb) (d + 4) 256 [.ref 86, .int (qz 2), .int (qz x2)] (qw σ α κ ρ) (fun r w' => ∃ σ' α', w' = qw σ' α' κ ρ ∧ qI σ' α' κ ρ ∧ qFr [(86, 56)] [120] σ α σ' α' ∧ σ' 86 56 = σ 86 56 + 3 ∧ ∃ v : Int, r = some (.int (qz v)) ∧ ((-2147483648) ≤ v ∧ v ≤ 2147483647) ∧ v = qac_a (qac_a (qac_a x2 1) (σ 86 58)) 3 ∧ α' 120 = qac_t [31, 20, 1] (α 120) (σ 86 56)) := by
  refine qr_start (d := d + 3) qv_e256 (Nat.le_of_ble_eq_true rfl) ?_
  show qr_W (qe L xs vb) (d + 3) qx_e256 _ (0, [(0, .ref 86), (1, .int (qz 2)), (2, .int (qz x2))], [], _, 0, 0)
  have hF0 := qFr_rf [(86, 56)] [120] σ α
  have hz86_56 : (-2147483648) ≤ σ 86 56 ∧ σ 86 56 ≤ 2147483647 := hI.1 86 56
  have hz86_57 : (-2147483648) ≤ σ 86 57 ∧ σ 86 57 ≤ 2147483647 := hI.1 86 57
  have hz86_58 : (-2147483648) ≤ σ 86 58 ∧ σ 86 58 ≤ 2147483647 := hI.1 86 58
  refine qr_iload_n 1 rfl rfl rfl ?_
  refine qr_iconst 2 rfl rfl ?_
  refine qr_icmp_ne 20 5 rfl rfl rfl (by decide) (by decide) (fun h => False.elim (by omega)) (fun h1 => ?_)
  refine qr_aload_n 6 rfl rfl rfl ?_
  refine qr_bipush 8 rfl (by decide) rfl ?_
  have hs2 : (-2147483648) ≤ σ 86 56 ∧ σ 86 56 ≤ 2147483647 := hI.1 86 56
  refine qr_callN 11 rfl rfl rfl (sf_257_86e (d := d + 2) hI (by decide) (by omega)) ?_
  rintro _ _ ⟨σ5, α6, rfl, hI7, hG8, hw4, rfl, hx3⟩
  have hF9 : qFr [(86, 56)] [120] σ α σ5 α6 := qFr_t hF0 hG8 (by decide) (by decide)
  have hs10 : (-2147483648) ≤ σ5 86 56 ∧ σ5 86 56 ≤ 2147483647 := hI7.1 86 56
  show qr_W (qe L xs vb) (d + 3) qx_e256 _ (11, _, [], qw σ5 α6 κ ρ, 0, 0)
  refine qr_aload_n 12 rfl rfl rfl ?_
  refine qr_iconst 13 rfl rfl ?_
  refine qr_iload_n 14 rfl rfl rfl ?_
  refine qr_iconst 15 rfl rfl ?_
  refine qr_iadd 16 rfl rfl ?_
  refine qy_canE (fun v11 hv11 hev11 => ?_)
  have hr12 : σ5 86 56 = (σ5 86 56) := rfl
  have hs13 : (-2147483648) ≤ σ5 86 56 ∧ σ5 86 56 ≤ 2147483647 := hI7.1 86 56
  have hs14 : (-2147483648) ≤ σ5 86 57 ∧ σ5 86 57 ≤ 2147483647 := hI7.1 86 57
  have hs15 : σ5 86 57 = (σ 86 57) := (hG8.1 86 57 (by decide)).trans rfl
  refine qr_callN 19 rfl rfl rfl (sf_256_86e1_2 (d := d + 0) hI7 hv11 (by omega) (by omega)) ?_
  rintro _ _ ⟨σ20, α21, rfl, hI22, hG23, hw19, v16, rfl, hv16, hx17, hx18⟩
  have hF24 : qFr [(86, 56)] [120] σ α σ20 α21 := qFr_t hF9 hG23 (by decide) (by decide)
  have hs25 : (-2147483648) ≤ σ20 86 56 ∧ σ20 86 56 ≤ 2147483647 := hI22.1 86 56
  show qr_W (qe L xs vb) (d + 3) qx_e256 _ (19, _, [.int (qz v16)], qw σ20 α21 κ ρ, 0, 0)
  rw [hF9.1 86 58 (by decide)] at hx17
  refine qr_retI rfl rfl (by decide) (by decide) ?_
  exact ⟨_, _, rfl, hI22, hF24, (by have hw : σ20 86 56 = (σ20 86 56) := rfl; omega), v16, rfl, hv16, (hx17.trans (by rw [show v11 = qac_a _ 1 from qac_v hev11 (by omega)])), (by rw [hx18, show α6 120 = qzu (α 120) (σ 86 56 : Int).toNat 31 from (hx3.trans (congrArg (fun f => qzu (f) (σ 86 56 : Int).toNat (31)) rfl)), show σ5 86 56 = σ 86 56 + 1 by omega]; rfl)⟩

set_option maxHeartbeats 4000000 in
set_option maxRecDepth 20000 in
/-- OneRoofModel.holdsAs -/
theorem sf_256_86e3_3 {L : Nat} {xs : Nat → Int} {vb : Bool} {d : Nat} {σ α : Nat → Nat → Int} {κ : Nat → Option Nat} {ρ : Nat} {x2 : Int} (hI : qI σ α κ ρ) (r2 : (-2147483648) ≤ x2 ∧ x2 ≤ 2147483647) (p0 : 0 ≤ σ 86 56 ∧ σ 86 56 ≤ 23) (p1 : σ 86 57 = 3) : qm_T (qe L xs vb) (d + 2) 256 [.ref 86, .int (qz 3), .int (qz x2)] (qw σ α κ ρ) (fun r w' => ∃ σ' α', w' = qw σ' α' κ ρ ∧ qI σ' α' κ ρ ∧ qFr [(86, 56)] [120] σ α σ' α' ∧ σ' 86 56 = σ 86 56 + 1 ∧ ∃ v : Int, r = some (.int (qz v)) ∧ ((-2147483648) ≤ v ∧ v ≤ 2147483647) ∧ v = qac_a x2 (σ 86 58) ∧ α' 120 = qac_t [1] (α 120) (σ 86 56)) := by
  refine qr_start (d := d + 1) qv_e256 (Nat.le_of_ble_eq_true rfl) ?_
  show qr_W (qe L xs vb) (d + 1) qx_e256 _ (0, [(0, .ref 86), (1, .int (qz 3)), (2, .int (qz x2))], [], _, 0, 0)
  have hF0 := qFr_rf [(86, 56)] [120] σ α
  have hz86_56 : (-2147483648) ≤ σ 86 56 ∧ σ 86 56 ≤ 2147483647 := hI.1 86 56
  have hz86_57 : (-2147483648) ≤ σ 86 57 ∧ σ 86 57 ≤ 2147483647 := hI.1 86 57
  have hz86_58 : (-2147483648) ≤ σ 86 58 ∧ σ 86 58 ≤ 2147483647 := hI.1 86 58
  refine qr_iload_n 1 rfl rfl rfl ?_
  refine qr_iconst 2 rfl rfl ?_
  refine qr_icmp_ne 20 5 rfl rfl rfl (by decide) (by decide) (fun h1 => ?_) (fun h => False.elim (by omega))
  refine qr_iload_n 21 rfl rfl rfl ?_
  refine qr_iconst 22 rfl rfl ?_
  refine qr_icmp_ne 40 25 rfl rfl rfl (by decide) (by decide) (fun h2 => ?_) (fun h => False.elim (by omega))
  refine qr_iload_n 41 rfl rfl rfl ?_
  refine qr_iconst 42 rfl rfl ?_
  refine qr_icmp_ne 70 45 rfl rfl rfl (by decide) (by decide) (fun h3 => ?_) (fun h => False.elim (by omega))
  refine qr_aload_n 71 rfl rfl rfl ?_
  refine qr_iconst 72 rfl rfl ?_
  have hs4 : (-2147483648) ≤ σ 86 56 ∧ σ 86 56 ≤ 2147483647 := hI.1 86 56
  refine qr_callN 75 rfl rfl rfl (sf_257_86e (d := d + 0) hI (by decide) (by omega)) ?_
  rintro _ _ ⟨σ7, α8, rfl, hI9, hG10, hw6, rfl, hx5⟩
  have hF11 : qFr [(86, 56)] [120] σ α σ7 α8 := qFr_t hF0 hG10 (by decide) (by decide)
  have hs12 : (-2147483648) ≤ σ7 86 56 ∧ σ7 86 56 ≤ 2147483647 := hI9.1 86 56
  show qr_W (qe L xs vb) (d + 1) qx_e256 _ (75, _, [], qw σ7 α8 κ ρ, 0, 0)
  refine qr_iload_n 76 rfl rfl rfl ?_
  refine qr_aload_n 77 rfl rfl rfl ?_
  refine qr_get 80 rfl rfl rfl (by decide) rfl ?_
  refine qy_v (σ 86 58) ((hG10.1 86 58 (by decide)).trans rfl) ?_
  refine qr_iadd 81 rfl rfl ?_
  refine qy_canE (fun v13 hv13 hev13 => ?_)
  refine qr_retI rfl rfl (by decide) (by decide) ?_
  exact ⟨_, _, rfl, hI9, hF11, (by have hw : σ7 86 56 = (σ7 86 56) := rfl; omega), v13, rfl, hv13, (qac_v hev13 (by omega)), ((hx5.trans (congrArg (fun f => qzu (f) (σ 86 56 : Int).toNat (1)) rfl)))⟩

set_option maxHeartbeats 4000000 in
set_option maxRecDepth 20000 in
/-- OneRoofModel.holdsAs -/
theorem sf_256_86e4_4 {L : Nat} {xs : Nat → Int} {vb : Bool} {d : Nat} {σ α : Nat → Nat → Int} {κ : Nat → Option Nat} {ρ : Nat} {x2 : Int} (hI : qI σ α κ ρ) (r2 : (-2147483648) ≤ x2 ∧ x2 ≤ 2147483647) (p0 : 0 ≤ σ 86 56 ∧ σ 86 56 ≤ 23) (p1 : σ 86 57 = 4) : qm_T (qe L xs vb) (d + 2) 256 [.ref 86, .int (qz 4), .int (qz x2)] (qw σ α κ ρ) (fun r w' => ∃ σ' α', w' = qw σ' α' κ ρ ∧ qI σ' α' κ ρ ∧ qFr [(86, 56)] [120] σ α σ' α' ∧ σ' 86 56 = σ 86 56 + 1 ∧ ∃ v : Int, r = some (.int (qz v)) ∧ ((-2147483648) ≤ v ∧ v ≤ 2147483647) ∧ v = qac_a x2 (σ 86 58) ∧ α' 120 = qac_t [1] (α 120) (σ 86 56)) := by
  refine qr_start (d := d + 1) qv_e256 (Nat.le_of_ble_eq_true rfl) ?_
  show qr_W (qe L xs vb) (d + 1) qx_e256 _ (0, [(0, .ref 86), (1, .int (qz 4)), (2, .int (qz x2))], [], _, 0, 0)
  have hF0 := qFr_rf [(86, 56)] [120] σ α
  have hz86_56 : (-2147483648) ≤ σ 86 56 ∧ σ 86 56 ≤ 2147483647 := hI.1 86 56
  have hz86_57 : (-2147483648) ≤ σ 86 57 ∧ σ 86 57 ≤ 2147483647 := hI.1 86 57
  have hz86_58 : (-2147483648) ≤ σ 86 58 ∧ σ 86 58 ≤ 2147483647 := hI.1 86 58
  refine qr_iload_n 1 rfl rfl rfl ?_
  refine qr_iconst 2 rfl rfl ?_
  refine qr_icmp_ne 20 5 rfl rfl rfl (by decide) (by decide) (fun h1 => ?_) (fun h => False.elim (by omega))
  refine qr_iload_n 21 rfl rfl rfl ?_
  refine qr_iconst 22 rfl rfl ?_
  refine qr_icmp_ne 40 25 rfl rfl rfl (by decide) (by decide) (fun h2 => ?_) (fun h => False.elim (by omega))
  refine qr_iload_n 41 rfl rfl rfl ?_
  refine qr_iconst 42 rfl rfl ?_
  refine qr_icmp_ne 70 45 rfl rfl rfl (by decide) (by decide) (fun h3 => ?_) (fun h => False.elim (by omega))
  refine qr_aload_n 71 rfl rfl rfl ?_
  refine qr_iconst 72 rfl rfl ?_
  have hs4 : (-2147483648) ≤ σ 86 56 ∧ σ 86 56 ≤ 2147483647 := hI.1 86 56
  refine qr_callN 75 rfl rfl rfl (sf_257_86e (d := d + 0) hI (by decide) (by omega)) ?_
  rintro _ _ ⟨σ7, α8, rfl, hI9, hG10, hw6, rfl, hx5⟩
  have hF11 : qFr [(86, 56)] [120] σ α σ7 α8 := qFr_t hF0 hG10 (by decide) (by decide)
  have hs12 : (-2147483648) ≤ σ7 86 56 ∧ σ7 86 56 ≤ 2147483647 := hI9.1 86 56
  show qr_W (qe L xs vb) (d + 1) qx_e256 _ (75, _, [], qw σ7 α8 κ ρ, 0, 0)
  refine qr_iload_n 76 rfl rfl rfl ?_
  refine qr_aload_n 77 rfl rfl rfl ?_
  refine qr_get 80 rfl rfl rfl (by decide) rfl ?_
  refine qy_v (σ 86 58) ((hG10.1 86 58 (by decide)).trans rfl) ?_
  refine qr_iadd 81 rfl rfl ?_
  refine qy_canE (fun v13 hv13 hev13 => ?_)
  refine qr_retI rfl rfl (by decide) (by decide) ?_
  exact ⟨_, _, rfl, hI9, hF11, (by have hw : σ7 86 56 = (σ7 86 56) := rfl; omega), v13, rfl, hv13, (qac_v hev13 (by omega)), ((hx5.trans (congrArg (fun f => qzu (f) (σ 86 56 : Int).toNat (1)) rfl)))⟩

set_option maxHeartbeats 4000000 in
set_option maxRecDepth 20000 in
/-- OneRoofModel.holdsAs -/
theorem sf_256_86e4_5 {L : Nat} {xs : Nat → Int} {vb : Bool} {d : Nat} {σ α : Nat → Nat → Int} {κ : Nat → Option Nat} {ρ : Nat} {x2 : Int} (hI : qI σ α κ ρ) (r2 : (-2147483648) ≤ x2 ∧ x2 ≤ 2147483647) (p0 : 0 ≤ σ 86 56 ∧ σ 86 56 ≤ 23) (p1 : σ 86 57 = 5) : qm_T (qe L xs vb) (d + 2) 256 [.ref 86, .int (qz 4), .int (qz x2)] (qw σ α κ ρ) (fun r w' => ∃ σ' α', w' = qw σ' α' κ ρ ∧ qI σ' α' κ ρ ∧ qFr [(86, 56)] [120] σ α σ' α' ∧ σ' 86 56 = σ 86 56 + 1 ∧ ∃ v : Int, r = some (.int (qz v)) ∧ ((-2147483648) ≤ v ∧ v ≤ 2147483647) ∧ v = qac_a x2 (σ 86 58) ∧ α' 120 = qac_t [1] (α 120) (σ 86 56)) := by
  refine qr_start (d := d + 1) qv_e256 (Nat.le_of_ble_eq_true rfl) ?_
  show qr_W (qe L xs vb) (d + 1) qx_e256 _ (0, [(0, .ref 86), (1, .int (qz 4)), (2, .int (qz x2))], [], _, 0, 0)
  have hF0 := qFr_rf [(86, 56)] [120] σ α
  have hz86_56 : (-2147483648) ≤ σ 86 56 ∧ σ 86 56 ≤ 2147483647 := hI.1 86 56
  have hz86_57 : (-2147483648) ≤ σ 86 57 ∧ σ 86 57 ≤ 2147483647 := hI.1 86 57
  have hz86_58 : (-2147483648) ≤ σ 86 58 ∧ σ 86 58 ≤ 2147483647 := hI.1 86 58
  refine qr_iload_n 1 rfl rfl rfl ?_
  refine qr_iconst 2 rfl rfl ?_
  refine qr_icmp_ne 20 5 rfl rfl rfl (by decide) (by decide) (fun h1 => ?_) (fun h => False.elim (by omega))
  refine qr_iload_n 21 rfl rfl rfl ?_
  refine qr_iconst 22 rfl rfl ?_
  refine qr_icmp_ne 40 25 rfl rfl rfl (by decide) (by decide) (fun h2 => ?_) (fun h => False.elim (by omega))
  refine qr_iload_n 41 rfl rfl rfl ?_
  refine qr_iconst 42 rfl rfl ?_
  refine qr_icmp_ne 70 45 rfl rfl rfl (by decide) (by decide) (fun h3 => ?_) (fun h => False.elim (by omega))
  refine qr_aload_n 71 rfl rfl rfl ?_
  refine qr_iconst 72 rfl rfl ?_
  have hs4 : (-2147483648) ≤ σ 86 56 ∧ σ 86 56 ≤ 2147483647 := hI.1 86 56
  refine qr_callN 75 rfl rfl rfl (sf_257_86e (d := d + 0) hI (by decide) (by omega)) ?_
  rintro _ _ ⟨σ7, α8, rfl, hI9, hG10, hw6, rfl, hx5⟩
  have hF11 : qFr [(86, 56)] [120] σ α σ7 α8 := qFr_t hF0 hG10 (by decide) (by decide)
  have hs12 : (-2147483648) ≤ σ7 86 56 ∧ σ7 86 56 ≤ 2147483647 := hI9.1 86 56
  show qr_W (qe L xs vb) (d + 1) qx_e256 _ (75, _, [], qw σ7 α8 κ ρ, 0, 0)
  refine qr_iload_n 76 rfl rfl rfl ?_
  refine qr_aload_n 77 rfl rfl rfl ?_
  refine qr_get 80 rfl rfl rfl (by decide) rfl ?_
  refine qy_v (σ 86 58) ((hG10.1 86 58 (by decide)).trans rfl) ?_
  refine qr_iadd 81 rfl rfl ?_
  refine qy_canE (fun v13 hv13 hev13 => ?_)
  refine qr_retI rfl rfl (by decide) (by decide) ?_
  exact ⟨_, _, rfl, hI9, hF11, (by have hw : σ7 86 56 = (σ7 86 56) := rfl; omega), v13, rfl, hv13, (qac_v hev13 (by omega)), ((hx5.trans (congrArg (fun f => qzu (f) (σ 86 56 : Int).toNat (1)) rfl)))⟩

set_option maxHeartbeats 4000000 in
set_option maxRecDepth 20000 in
/-- OneRoofModel.endsAs -/
theorem sf_258_86e5_5 {L : Nat} {xs : Nat → Int} {vb : Bool} {d : Nat} {σ α : Nat → Nat → Int} {κ : Nat → Option Nat} {ρ : Nat} {x2 : Int} (hI : qI σ α κ ρ) (r2 : (-2147483648) ≤ x2 ∧ x2 ≤ 2147483647) (p0 : 0 ≤ σ 86 56 ∧ σ 86 56 ≤ 23) (p1 : σ 86 57 = 5) : qm_T (qe L xs vb) (d + 2) 258 [.ref 86, .int (qz 5), .int (qz x2)] (qw σ α κ ρ) (fun r w' => ∃ σ' α', w' = qw σ' α' κ ρ ∧ qI σ' α' κ ρ ∧ qFr [(86, 56)] [120] σ α σ' α' ∧ σ' 86 56 = σ 86 56 + 1 ∧ ∃ v : Int, r = some (.int (qz v)) ∧ ((-2147483648) ≤ v ∧ v ≤ 2147483647) ∧ v = qac_x x2 (σ 86 58) ∧ α' 120 = qac_t [11] (α 120) (σ 86 56)) := by
  refine qr_start (d := d + 1) qv_e258 (Nat.le_of_ble_eq_true rfl) ?_
  show qr_W (qe L xs vb) (d + 1) qx_e258 _ (0, [(0, .ref 86), (1, .int (qz 5)), (2, .int (qz x2))], [], _, 0, 0)
  have hF0 := qFr_rf [(86, 56)] [120] σ α
  have hz86_56 : (-2147483648) ≤ σ 86 56 ∧ σ 86 56 ≤ 2147483647 := hI.1 86 56
  have hz86_57 : (-2147483648) ≤ σ 86 57 ∧ σ 86 57 ≤ 2147483647 := hI.1 86 57
  have hz86_58 : (-2147483648) ≤ σ 86 58 ∧ σ 86 58 ≤ 2147483647 := hI.1 86 58
  refine qr_iload_n 1 rfl rfl rfl ?_
  refine qr_iconst 2 rfl rfl ?_
  refine qr_icmp_ne 20 5 rfl rfl rfl (by decide) (by decide) (fun h1 => ?_) (fun h => False.elim (by omega))
  refine qr_iload_n 21 rfl rfl rfl ?_
  refine qr_bipush 23 rfl (by decide) rfl ?_
  refine qr_icmp_ne 51 26 rfl rfl rfl (by decide) (by decide) (fun h2 => ?_) (fun h => False.elim (by omega))
  refine qr_aload_n 52 rfl rfl rfl ?_
  refine qr_bipush 54 rfl (by decide) rfl ?_
  have hs3 : (-2147483648) ≤ σ 86 56 ∧ σ 86 56 ≤ 2147483647 := hI.1 86 56
  refine qr_callN 57 rfl rfl rfl (sf_257_86e (d := d + 0) hI (by decide) (by omega)) ?_
  rintro _ _ ⟨σ6, α7, rfl, hI8, hG9, hw5, rfl, hx4⟩
  have hF10 : qFr [(86, 56)] [120] σ α σ6 α7 := qFr_t hF0 hG9 (by decide) (by decide)
  have hs11 : (-2147483648) ≤ σ6 86 56 ∧ σ6 86 56 ≤ 2147483647 := hI8.1 86 56
  show qr_W (qe L xs vb) (d + 1) qx_e258 _ (57, _, [], qw σ6 α7 κ ρ, 0, 0)
  refine qr_iload_n 58 rfl rfl rfl ?_
  refine qr_aload_n 59 rfl rfl rfl ?_
  refine qr_get 62 rfl rfl rfl (by decide) rfl ?_
  refine qy_v (σ 86 58) ((hG9.1 86 58 (by decide)).trans rfl) ?_
  refine qr_ixor 63 rfl rfl ?_
  refine qy_canE (fun v12 hv12 hev12 => ?_)
  refine qr_retI rfl rfl (by decide) (by decide) ?_
  exact ⟨_, _, rfl, hI8, hF10, (by have hw : σ6 86 56 = (σ6 86 56) := rfl; omega), v12, rfl, hv12, (qac_v hev12 (by omega)), ((hx4.trans (congrArg (fun f => qzu (f) (σ 86 56 : Int).toNat (11)) rfl)))⟩

set_option maxHeartbeats 4000000 in
set_option maxRecDepth 20000 in
/-- OneRoofModel.holdsAs -/
theorem sf_256_86e5_5 {L : Nat} {xs : Nat → Int} {vb : Bool} {d : Nat} {σ α : Nat → Nat → Int} {κ : Nat → Option Nat} {ρ : Nat} {x2 : Int} (hI : qI σ α κ ρ) (r2 : (-2147483648) ≤ x2 ∧ x2 ≤ 2147483647) (p0 : 0 ≤ σ 86 56 ∧ σ 86 56 ≤ 21) (p1 : σ 86 57 = 5) : qm_T (qe L xs vb) (d + 3) 256 [.ref 86, .int (qz 5), .int (qz x2)] (qw σ α κ ρ) (fun r w' => ∃ σ' α', w' = qw σ' α' κ ρ ∧ qI σ' α' κ ρ ∧ qFr [(86, 56)] [120] σ α σ' α' ∧ σ' 86 56 = σ 86 56 + 3 ∧ ∃ v : Int, r = some (.int (qz v)) ∧ ((-2147483648) ≤ v ∧ v ≤ 2147483647) ∧ v = qac_s (qac_a x2 (σ 86 58)) (qac_x 2 (σ 86 58)) ∧ α' 120 = qac_t [60, 1, 11] (α 120) (σ 86 56)) := by
  refine qr_start (d := d + 2) qv_e256 (Nat.le_of_ble_eq_true rfl) ?_
  show qr_W (qe L xs vb) (d + 2) qx_e256 _ (0, [(0, .ref 86), (1, .int (qz 5)), (2, .int (qz x2))], [], _, 0, 0)
  have hF0 := qFr_rf [(86, 56)] [120] σ α
  have hz86_56 : (-2147483648) ≤ σ 86 56 ∧ σ 86 56 ≤ 2147483647 := hI.1 86 56
  have hz86_57 : (-2147483648) ≤ σ 86 57 ∧ σ 86 57 ≤ 2147483647 := hI.1 86 57
  have hz86_58 : (-2147483648) ≤ σ 86 58 ∧ σ 86 58 ≤ 2147483647 := hI.1 86 58
  refine qr_iload_n 1 rfl rfl rfl ?_
  refine qr_iconst 2 rfl rfl ?_
  refine qr_icmp_ne 20 5 rfl rfl rfl (by decide) (by decide) (fun h1 => ?_) (fun h => False.elim (by omega))
  refine qr_iload_n 21 rfl rfl rfl ?_
  refine qr_iconst 22 rfl rfl ?_
  refine qr_icmp_ne 40 25 rfl rfl rfl (by decide) (by decide) (fun h2 => ?_) (fun h => False.elim (by omega))
  refine qr_iload_n 41 rfl rfl rfl ?_
  refine qr_iconst 42 rfl rfl ?_
  refine qr_icmp_ne 70 45 rfl rfl rfl (by decide) (by decide) (fun h => False.elim (by omega)) (fun h3 => ?_)
  refine qr_aload_n 46 rfl rfl rfl ?_
  refine qr_bipush 48 rfl (by decide) rfl ?_
  have hs4 : (-2147483648) ≤ σ 86 56 ∧ σ 86 56 ≤ 2147483647 := hI.1 86 56
  refine qr_callN 51 rfl rfl rfl (sf_257_86e (d := d + 1) hI (by decide) (by omega)) ?_
  rintro _ _ ⟨σ7, α8, rfl, hI9, hG10, hw6, rfl, hx5⟩
  have hF11 : qFr [(86, 56)] [120] σ α σ7 α8 := qFr_t hF0 hG10 (by decide) (by decide)
  have hs12 : (-2147483648) ≤ σ7 86 56 ∧ σ7 86 56 ≤ 2147483647 := hI9.1 86 56
  show qr_W (qe L xs vb) (d + 2) qx_e256 _ (51, _, [], qw σ7 α8 κ ρ, 0, 0)
  refine qr_aload_n 52 rfl rfl rfl ?_
  refine qr_iconst 53 rfl rfl ?_
  refine qr_iload_n 54 rfl rfl rfl ?_
  have hr13 : σ7 86 56 = (σ7 86 56) := rfl
  have hs14 : (-2147483648) ≤ σ7 86 56 ∧ σ7 86 56 ≤ 2147483647 := hI9.1 86 56
  have hs15 : (-2147483648) ≤ σ7 86 57 ∧ σ7 86 57 ≤ 2147483647 := hI9.1 86 57
  have hs16 : σ7 86 57 = (σ 86 57) := (hG10.1 86 57 (by decide)).trans rfl
  refine qr_callN 57 rfl rfl rfl (sf_256_86e4_5 (d := d + 0) hI9 r2 (by omega) (by omega)) ?_
  rintro _ _ ⟨σ21, α22, rfl, hI23, hG24, hw20, v17, rfl, hv17, hx18, hx19⟩
  have hF25 : qFr [(86, 56)] [120] σ α σ21 α22 := qFr_t hF11 hG24 (by decide) (by decide)
  have hs26 : (-2147483648) ≤ σ21 86 56 ∧ σ21 86 56 ≤ 2147483647 := hI23.1 86 56
  show qr_W (qe L xs vb) (d + 2) qx_e256 _ (57, _, [.int (qz v17)], qw σ21 α22 κ ρ, 0, 0)
  rw [hF11.1 86 58 (by decide)] at hx18
  refine qr_istore_n _ 58 rfl (by decide) rfl rfl ?_
  refine qr_iload_n 59 rfl rfl rfl ?_
  refine qr_aload_n 60 rfl rfl rfl ?_
  refine qr_aload_n 61 rfl rfl rfl ?_
  refine qr_get 64 rfl rfl rfl (by decide) rfl ?_
  refine qy_v (σ 86 57) ((hG24.1 86 57 (by decide)).trans ((hG10.1 86 57 (by decide)).trans rfl)) ?_
  refine qr_iconst 65 rfl rfl ?_
  have hr27 : σ21 86 56 = (σ21 86 56) := rfl
  have hc28 : (σ 86 57) = 5 := by omega
  rw [hc28]
  have hs29 : (-2147483648) ≤ σ21 86 56 ∧ σ21 86 56 ≤ 2147483647 := hI23.1 86 56
  have hs30 : (-2147483648) ≤ σ21 86 57 ∧ σ21 86 57 ≤ 2147483647 := hI23.1 86 57
  have hs31 : σ21 86 57 = (σ 86 57) := (hG24.1 86 57 (by decide)).trans ((hG10.1 86 57 (by decide)).trans rfl)
  refine qr_callN 68 rfl rfl rfl (sf_258_86e5_5 (d := d + 0) hI23 (by decide) (by omega) (by omega)) ?_
  rintro _ _ ⟨σ36, α37, rfl, hI38, hG39, hw35, v32, rfl, hv32, hx33, hx34⟩
  have hF40 : qFr [(86, 56)] [120] σ α σ36 α37 := qFr_t hF25 hG39 (by decide) (by decide)
  have hs41 : (-2147483648) ≤ σ36 86 56 ∧ σ36 86 56 ≤ 2147483647 := hI38.1 86 56
  show qr_W (qe L xs vb) (d + 2) qx_e256 _ (68, _, [.int (qz v32), .int (qz v17)], qw σ36 α37 κ ρ, 0, 0)
  rw [hF25.1 86 58 (by decide)] at hx33
  refine qr_isub 69 rfl rfl ?_
  refine qy_canE (fun v42 hv42 hev42 => ?_)
  refine qr_retI rfl rfl (by decide) (by decide) ?_
  exact ⟨_, _, rfl, hI38, hF40, (by have hw : σ36 86 56 = (σ36 86 56) := rfl; omega), v42, rfl, hv42, ((qac_v hev42 (by omega)).trans (by rw [hx18, hx33]; rfl)), (by rw [hx34, hx19, show α8 120 = qzu (α 120) (σ 86 56 : Int).toNat 60 from (hx5.trans (congrArg (fun f => qzu (f) (σ 86 56 : Int).toNat (60)) rfl)), show σ7 86 56 = σ 86 56 + 1 by omega, show σ21 86 56 = σ 86 56 + 1 + 1 by omega]; exact (qac_t_app [1] [11] (qzu (α 120) (σ 86 56 : Int).toNat 60) (σ 86 56 + 1)).symm)⟩

set_option maxHeartbeats 4000000 in
set_option maxRecDepth 20000 in
/-- OneRoofModel.holdsAs -/
theorem sf_256_86e6_6 {L : Nat} {xs : Nat → Int} {vb : Bool} {d : Nat} {σ α : Nat → Nat → Int} {κ : Nat → Option Nat} {ρ : Nat} {x2 : Int} (hI : qI σ α κ ρ) (r2 : (-2147483648) ≤ x2 ∧ x2 ≤ 2147483647) (p0 : 0 ≤ σ 86 56 ∧ σ 86 56 ≤ 23) (p1 : σ 86 57 = 6) : qm_T (qe L xs vb) (d + 2) 256 [.ref 86, .int (qz 6), .int (qz x2)] (qw σ α κ ρ) (fun r w' => ∃ σ' α', w' = qw σ' α' κ ρ ∧ qI σ' α' κ ρ ∧ qFr [(86, 56)] [120] σ α σ' α' ∧ σ' 86 56 = σ 86 56 + 1 ∧ ∃ v : Int, r = some (.int (qz v)) ∧ ((-2147483648) ≤ v ∧ v ≤ 2147483647) ∧ v = qac_a x2 (σ 86 58) ∧ α' 120 = qac_t [1] (α 120) (σ 86 56)) := by
  refine qr_start (d := d + 1) qv_e256 (Nat.le_of_ble_eq_true rfl) ?_
  show qr_W (qe L xs vb) (d + 1) qx_e256 _ (0, [(0, .ref 86), (1, .int (qz 6)), (2, .int (qz x2))], [], _, 0, 0)
  have hF0 := qFr_rf [(86, 56)] [120] σ α
  have hz86_56 : (-2147483648) ≤ σ 86 56 ∧ σ 86 56 ≤ 2147483647 := hI.1 86 56
  have hz86_57 : (-2147483648) ≤ σ 86 57 ∧ σ 86 57 ≤ 2147483647 := hI.1 86 57
  have hz86_58 : (-2147483648) ≤ σ 86 58 ∧ σ 86 58 ≤ 2147483647 := hI.1 86 58
  refine qr_iload_n 1 rfl rfl rfl ?_
  refine qr_iconst 2 rfl rfl ?_
  refine qr_icmp_ne 20 5 rfl rfl rfl (by decide) (by decide) (fun h1 => ?_) (fun h => False.elim (by omega))
  refine qr_iload_n 21 rfl rfl rfl ?_
  refine qr_iconst 22 rfl rfl ?_
  refine qr_icmp_ne 40 25 rfl rfl rfl (by decide) (by decide) (fun h2 => ?_) (fun h => False.elim (by omega))
  refine qr_iload_n 41 rfl rfl rfl ?_
  refine qr_iconst 42 rfl rfl ?_
  refine qr_icmp_ne 70 45 rfl rfl rfl (by decide) (by decide) (fun h3 => ?_) (fun h => False.elim (by omega))
  refine qr_aload_n 71 rfl rfl rfl ?_
  refine qr_iconst 72 rfl rfl ?_
  have hs4 : (-2147483648) ≤ σ 86 56 ∧ σ 86 56 ≤ 2147483647 := hI.1 86 56
  refine qr_callN 75 rfl rfl rfl (sf_257_86e (d := d + 0) hI (by decide) (by omega)) ?_
  rintro _ _ ⟨σ7, α8, rfl, hI9, hG10, hw6, rfl, hx5⟩
  have hF11 : qFr [(86, 56)] [120] σ α σ7 α8 := qFr_t hF0 hG10 (by decide) (by decide)
  have hs12 : (-2147483648) ≤ σ7 86 56 ∧ σ7 86 56 ≤ 2147483647 := hI9.1 86 56
  show qr_W (qe L xs vb) (d + 1) qx_e256 _ (75, _, [], qw σ7 α8 κ ρ, 0, 0)
  refine qr_iload_n 76 rfl rfl rfl ?_
  refine qr_aload_n 77 rfl rfl rfl ?_
  refine qr_get 80 rfl rfl rfl (by decide) rfl ?_
  refine qy_v (σ 86 58) ((hG10.1 86 58 (by decide)).trans rfl) ?_
  refine qr_iadd 81 rfl rfl ?_
  refine qy_canE (fun v13 hv13 hev13 => ?_)
  refine qr_retI rfl rfl (by decide) (by decide) ?_
  exact ⟨_, _, rfl, hI9, hF11, (by have hw : σ7 86 56 = (σ7 86 56) := rfl; omega), v13, rfl, hv13, (qac_v hev13 (by omega)), ((hx5.trans (congrArg (fun f => qzu (f) (σ 86 56 : Int).toNat (1)) rfl)))⟩

set_option maxHeartbeats 4000000 in
set_option maxRecDepth 20000 in
/-- OneRoofModel.holdsAs -/
theorem sf_256_86ex {L : Nat} {xs : Nat → Int} {vb : Bool} {d : Nat} {σ α : Nat → Nat → Int} {κ : Nat → Option Nat} {ρ : Nat} {x1 : Int} {x2 : Int} (hI : qI σ α κ ρ) (r1 : (-2147483648) ≤ x1 ∧ x1 ≤ 2147483647) (r2 : (-2147483648) ≤ x2 ∧ x2 ≤ 2147483647) (p0 : 0 ≤ x1 ∧ x1 ≤ 6) (p1 : x1 = σ 86 57) (p2 : 0 ≤ σ 86 56 ∧ σ 86 56 ≤ 16) : qm_T (qe L xs vb) (d + 4) 256 [.ref 86, .int (qz x1), .int (qz x2)] (qw σ α κ ρ) (fun r w' => ∃ σ' α', w' = qw σ' α' κ ρ ∧ qI σ' α' κ ρ ∧ qFr [(86, 56)] [120] σ α σ' α' ∧ ∃ v : Int, r = some (.int (qz v)) ∧ ((-2147483648) ≤ v ∧ v ≤ 2147483647) ∧ v = qAE x1 0 x2 (σ 86 58) ∧ σ' 86 56 = σ 86 56 + ((qAT x1 0).length : Int) ∧ α' 120 = qac_t (qAT x1 0) (α 120) (σ 86 56)) := by
  have h1 : x1 = 0 ∨ x1 = 1 ∨ x1 = 2 ∨ x1 = 3 ∨ x1 = 4 ∨ x1 = 5 ∨ x1 = 6 := by omega
  rcases h1 with rfl | rfl | rfl | rfl | rfl | rfl | rfl
  · refine qr_mono (sf_256_86e0_0 (d := d + 2) hI (by omega) (by omega) p1.symm) ?_
    rintro r w' ⟨σ2, α2, h2, h3, h4, hw, v, h5, h6, h7, h8⟩
    exact ⟨σ2, α2, h2, h3, h4, v, h5, h6, h7, hw, h8⟩
  · refine qr_mono (sf_256_86e1_1 (d := d + 1) hI (by omega) (by omega) p1.symm) ?_
    rintro r w' ⟨σ2, α2, h2, h3, h4, hw, v, h5, h6, h7, h8⟩
    exact ⟨σ2, α2, h2, h3, h4, v, h5, h6, h7, hw, h8⟩
  · refine qr_mono (sf_256_86e2_2 (d := d + 0) hI (by omega) (by omega) p1.symm) ?_
    rintro r w' ⟨σ2, α2, h2, h3, h4, hw, v, h5, h6, h7, h8⟩
    exact ⟨σ2, α2, h2, h3, h4, v, h5, h6, h7, hw, h8⟩
  · refine qr_mono (sf_256_86e3_3 (d := d + 2) hI (by omega) (by omega) p1.symm) ?_
    rintro r w' ⟨σ2, α2, h2, h3, h4, hw, v, h5, h6, h7, h8⟩
    exact ⟨σ2, α2, h2, h3, h4, v, h5, h6, h7, hw, h8⟩
  · refine qr_mono (sf_256_86e4_4 (d := d + 2) hI (by omega) (by omega) p1.symm) ?_
    rintro r w' ⟨σ2, α2, h2, h3, h4, hw, v, h5, h6, h7, h8⟩
    exact ⟨σ2, α2, h2, h3, h4, v, h5, h6, h7, hw, h8⟩
  · refine qr_mono (sf_256_86e5_5 (d := d + 1) hI (by omega) (by omega) p1.symm) ?_
    rintro r w' ⟨σ2, α2, h2, h3, h4, hw, v, h5, h6, h7, h8⟩
    exact ⟨σ2, α2, h2, h3, h4, v, h5, h6, h7, hw, h8⟩
  · refine qr_mono (sf_256_86e6_6 (d := d + 2) hI (by omega) (by omega) p1.symm) ?_
    rintro r w' ⟨σ2, α2, h2, h3, h4, hw, v, h5, h6, h7, h8⟩
    exact ⟨σ2, α2, h2, h3, h4, v, h5, h6, h7, hw, h8⟩

set_option maxHeartbeats 4000000 in
set_option maxRecDepth 20000 in
/-- OneRoofModel.coversAs -/
theorem sf_259_86e0_0 {L : Nat} {xs : Nat → Int} {vb : Bool} {d : Nat} {σ α : Nat → Nat → Int} {κ : Nat → Option Nat} {ρ : Nat} {x2 : Int} (hI : qI σ α κ ρ) (r2 : (-2147483648) ≤ x2 ∧ x2 ≤ 2147483647) (p0 : 0 ≤ σ 86 56 ∧ σ 86 56 ≤ 22) (p1 : σ 86 57 = 0) : qm_T (qe L xs vb) (d + 3) 259 [.ref 86, .int (qz 0), .int (qz x2)] (qw σ α κ ρ) (fun r w' => ∃ σ' α', w' = qw σ' α' κ ρ ∧ qI σ' α' κ ρ ∧ qFr [(86, 56)] [120] σ α σ' α' ∧ σ' 86 56 = σ 86 56 + 2 ∧ ∃ v : Int, r = some (.int (qz v)) ∧ ((-2147483648) ≤ v ∧ v ≤ 2147483647) ∧ v = qac_m (qac_a x2 (σ 86 58)) 2 ∧ α' 120 = qac_t [10, 1] (α 120) (σ 86 56)) := by
  refine qr_start (d := d + 2) qv_e259 (Nat.le_of_ble_eq_true rfl) ?_
  show qr_W (qe L xs vb) (d + 2) qx_e259 _ (0, [(0, .ref 86), (1, .int (qz 0)), (2, .int (qz x2))], [], _, 0, 0)
  have hF0 := qFr_rf [(86, 56)] [120] σ α
  have hz86_56 : (-2147483648) ≤ σ 86 56 ∧ σ 86 56 ≤ 2147483647 := hI.1 86 56
  have hz86_57 : (-2147483648) ≤ σ 86 57 ∧ σ 86 57 ≤ 2147483647 := hI.1 86 57
  have hz86_58 : (-2147483648) ≤ σ 86 58 ∧ σ 86 58 ≤ 2147483647 := hI.1 86 58
  refine qr_iload_n 1 rfl rfl rfl ?_
  refine qr_iconst 2 rfl rfl ?_
  refine qr_icmp_ne 19 5 rfl rfl rfl (by decide) (by decide) (fun h1 => ?_) (fun h => False.elim (by omega))
  refine qr_iload_n 20 rfl rfl rfl ?_
  refine qr_bipush 22 rfl (by decide) rfl ?_
  refine qr_icmp_ne 40 25 rfl rfl rfl (by decide) (by decide) (fun h2 => ?_) (fun h => False.elim (by omega))
  refine qr_aload_n 41 rfl rfl rfl ?_
  refine qr_bipush 43 rfl (by decide) rfl ?_
  have hs3 : (-2147483648) ≤ σ 86 56 ∧ σ 86 56 ≤ 2147483647 := hI.1 86 56
  refine qr_callN 46 rfl rfl rfl (sf_257_86e (d := d + 1) hI (by decide) (by omega)) ?_
  rintro _ _ ⟨σ6, α7, rfl, hI8, hG9, hw5, rfl, hx4⟩
  have hF10 : qFr [(86, 56)] [120] σ α σ6 α7 := qFr_t hF0 hG9 (by decide) (by decide)
  have hs11 : (-2147483648) ≤ σ6 86 56 ∧ σ6 86 56 ≤ 2147483647 := hI8.1 86 56
  show qr_W (qe L xs vb) (d + 2) qx_e259 _ (46, _, [], qw σ6 α7 κ ρ, 0, 0)
  refine qr_aload_n 47 rfl rfl rfl ?_
  refine qr_aload_n 48 rfl rfl rfl ?_
  refine qr_get 51 rfl rfl rfl (by decide) rfl ?_
  refine qy_v (σ 86 57) ((hG9.1 86 57 (by decide)).trans rfl) ?_
  refine qr_iload_n 52 rfl rfl rfl ?_
  have hr12 : σ6 86 56 = (σ6 86 56) := rfl
  have hc13 : (σ 86 57) = 0 := by omega
  rw [hc13]
  have hs14 : (-2147483648) ≤ σ6 86 56 ∧ σ6 86 56 ≤ 2147483647 := hI8.1 86 56
  have hs15 : (-2147483648) ≤ σ6 86 57 ∧ σ6 86 57 ≤ 2147483647 := hI8.1 86 57
  have hs16 : σ6 86 57 = (σ 86 57) := (hG9.1 86 57 (by decide)).trans rfl
  refine qr_callN 55 rfl rfl rfl (sf_256_86e0_0 (d := d + 0) hI8 r2 (by omega) (by omega)) ?_
  rintro _ _ ⟨σ21, α22, rfl, hI23, hG24, hw20, v17, rfl, hv17, hx18, hx19⟩
  have hF25 : qFr [(86, 56)] [120] σ α σ21 α22 := qFr_t hF10 hG24 (by decide) (by decide)
  have hs26 : (-2147483648) ≤ σ21 86 56 ∧ σ21 86 56 ≤ 2147483647 := hI23.1 86 56
  show qr_W (qe L xs vb) (d + 2) qx_e259 _ (55, _, [.int (qz v17)], qw σ21 α22 κ ρ, 0, 0)
  rw [hF10.1 86 58 (by decide)] at hx18
  refine qr_iconst 56 rfl rfl ?_
  refine qr_imul 57 rfl rfl ?_
  refine qy_canE (fun v27 hv27 hev27 => ?_)
  refine qr_retI rfl rfl (by decide) (by decide) ?_
  exact ⟨_, _, rfl, hI23, hF25, (by have hw : σ21 86 56 = (σ21 86 56) := rfl; omega), v27, rfl, hv27, ((qac_v hev27 (by omega)).trans (by rw [hx18]; rfl)), (by rw [hx19, show α7 120 = qzu (α 120) (σ 86 56 : Int).toNat 10 from (hx4.trans (congrArg (fun f => qzu (f) (σ 86 56 : Int).toNat (10)) rfl)), show σ6 86 56 = σ 86 56 + 1 by omega]; rfl)⟩
end
