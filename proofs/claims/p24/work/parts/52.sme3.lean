section
set_option maxHeartbeats 4000000 in
set_option maxRecDepth 20000 in
/-- OneRoofModel.begins -/
theorem sf_257_86 {L : Nat} {xs : Nat → Int} {vb : Bool} {d : Nat} {σ α : Nat → Nat → Int} {κ : Nat → Option Nat} {ρ : Nat} {x1 : Int} (hI : qI σ α κ ρ) (r1 : (-2147483648) ≤ x1 ∧ x1 ≤ 2147483647) (p0 : 0 ≤ σ 86 56 ∧ σ 86 56 ≤ 1000) : qm_T (qe L xs vb) (d + 1) 257 [.ref 86, .int (qz x1)] (qw σ α κ ρ) (fun r w' => ∃ σ' α', w' = qw σ' α' κ ρ ∧ qI σ' α' κ ρ ∧ qFr [(86, 56)] [120] σ α σ' α' ∧ σ' 86 56 = σ 86 56 + 1 ∧ r = none) := by
  refine qr_start (d := d + 0) qv_e257 (Nat.le_of_ble_eq_true rfl) ?_
  show qr_W (qe L xs vb) (d + 0) qx_e257 _ (0, [(0, .ref 86), (1, .int (qz x1))], [], _, 0, 0)
  have hF0 := qFr_rf [(86, 56)] [120] σ α
  have hz86_56 : (-2147483648) ≤ σ 86 56 ∧ σ 86 56 ≤ 2147483647 := hI.1 86 56
  have hz86_6 : 0 ≤ σ 86 6 ∧ σ 86 6 ≤ 32 := hI.1 86 6
  refine qr_aload_n 1 rfl rfl rfl ?_
  refine qr_get 4 rfl rfl rfl (by decide) rfl ?_
  refine qr_bipush 6 rfl (by decide) rfl ?_
  have hJ10 : ∀ (ls : qm_L) (α7 : Nat → Nat → Int), qm_get ls 0 = some (.ref 86) → qI σ α7 κ ρ → qFr [(86, 56)] [120] σ α σ α7 → qr_W (qe L xs vb) (d + 0) qx_e257 (fun r w' => ∃ σ' α', w' = qw σ' α' κ ρ ∧ qI σ' α' κ ρ ∧ qFr [(86, 56)] [120] σ α σ' α' ∧ σ' 86 56 = σ 86 56 + 1 ∧ r = none) (19, ls, [], qw σ α7 κ ρ, 0, 0) := by
    intro ls α7 g5 hI8 hF9
    refine qr_aload_n 20 rfl g5 rfl ?_
    refine qr_dup 21 rfl rfl rfl ?_
    refine qr_get 24 rfl rfl rfl (by decide) rfl ?_
    refine qr_iconst 25 rfl rfl ?_
    refine qr_iadd 26 rfl rfl ?_
    refine qr_put 29 rfl (by decide) rfl (Nat.le_of_ble_eq_true rfl) (Nat.le_of_ble_eq_true rfl) (Or.inl rfl) (qr_fitI rfl _) rfl ?_
    refine qy_wS (qw_s σ 86 56 ((σ 86 56) + 1)) rfl (fun σ11 e12 => ?_)
    have hI13 : qI σ11 α7 κ ρ := by rw [e12]; exact qI_s hI8 86 56 rfl (show (-2147483648) ≤ ((σ 86 56) + 1) ∧ ((σ 86 56) + 1) ≤ 2147483647 by omega)
    have hF14 : qFr [(86, 56)] [120] σ α σ11 α7 := by rw [e12]; exact qFr_s hF9 86 56 _ (by decide)
    refine qr_retV rfl rfl (by decide) (by decide) ?_
    exact ⟨_, _, rfl, hI13, hF14, (by have hw : σ11 86 56 = ((σ 86 56) + 1) := (congrFun (congrFun e12 86) 56).trans rfl; omega), rfl⟩
  refine qr_icmp_ge 19 9 rfl rfl rfl hz86_56 (by decide) (fun h15 => ?_) (fun h15 => ?_)
  · skip
    exact hJ10 _ α rfl hI hF0
  · skip
    refine qr_aload_n 10 rfl rfl rfl ?_
    refine qr_get 13 rfl rfl rfl (by decide) rfl ?_
    refine qr_aload_n 14 rfl rfl rfl ?_
    refine qr_get 17 rfl rfl rfl (by decide) rfl ?_
    refine qr_iload_n 18 rfl rfl rfl ?_
    refine qr_iastore 19 rfl (by decide) rfl (by omega) (by decide) rfl ?_
    refine qy_wA (qw_r α 120 (qzu (α 120) ((σ 86 56) : Int).toNat x1)) rfl (fun α16 e17 => ?_)
    have hI18 : qI σ α16 κ ρ := by rw [e17]; exact qI_r hI 120 _ rfl (show (-2147483648) ≤ x1 ∧ x1 ≤ 2147483647 by omega)
    have hF19 : qFr [(86, 56)] [120] σ α σ α16 := by rw [e17]; exact qFr_r hF0 120 _ (by decide)
    exact hJ10 _ α16 rfl hI18 hF19

set_option maxHeartbeats 4000000 in
set_option maxRecDepth 20000 in
/-- OneRoofModel.holdsAs -/
theorem sf_256_86km_m {L : Nat} {xs : Nat → Int} {vb : Bool} {d : Nat} {σ α : Nat → Nat → Int} {κ : Nat → Option Nat} {ρ : Nat} {x1 : Int} {x2 : Int} (hI : qI σ α κ ρ) (r1 : (-2147483648) ≤ x1 ∧ x1 ≤ (-1)) (r2 : (-2147483648) ≤ x2 ∧ x2 ≤ 2147483647) (p0 : 0 ≤ σ 86 56 ∧ σ 86 56 ≤ 380) (p1 : σ 86 57 < 0) : qm_T (qe L xs vb) (d + 2) 256 [.ref 86, .int (qz x1), .int (qz x2)] (qw σ α κ ρ) (fun r w' => ∃ σ' α', w' = qw σ' α' κ ρ ∧ qI σ' α' κ ρ ∧ qFr [(86, 56)] [120] σ α σ' α' ∧ ∃ v : Int, r = some (.int (qz v)) ∧ ((-2147483648) ≤ v ∧ v ≤ 2147483647) ∧ σ' 86 56 = σ 86 56 + 1) := by
  refine qr_start (d := d + 1) qv_e256 (Nat.le_of_ble_eq_true rfl) ?_
  show qr_W (qe L xs vb) (d + 1) qx_e256 _ (0, [(0, .ref 86), (1, .int (qz x1)), (2, .int (qz x2))], [], _, 0, 0)
  have hF0 := qFr_rf [(86, 56)] [120] σ α
  have hz86_56 : (-2147483648) ≤ σ 86 56 ∧ σ 86 56 ≤ 2147483647 := hI.1 86 56
  have hz86_57 : (-2147483648) ≤ σ 86 57 ∧ σ 86 57 ≤ 2147483647 := hI.1 86 57
  have hz86_6 : 0 ≤ σ 86 6 ∧ σ 86 6 ≤ 32 := hI.1 86 6
  refine qr_iload_n 1 rfl rfl rfl ?_
  refine qr_iconst 2 rfl rfl ?_
  refine qr_icmp_ne 20 5 rfl rfl rfl (qrg r1 (by decide) (by decide)) (by decide) (fun h1 => ?_) (fun h => False.elim (by omega))
  refine qr_iload_n 21 rfl rfl rfl ?_
  refine qr_iconst 22 rfl rfl ?_
  refine qr_icmp_ne 40 25 rfl rfl rfl (qrg r1 (by decide) (by decide)) (by decide) (fun h2 => ?_) (fun h => False.elim (by omega))
  refine qr_iload_n 41 rfl rfl rfl ?_
  refine qr_iconst 42 rfl rfl ?_
  refine qr_icmp_ne 70 45 rfl rfl rfl (qrg r1 (by decide) (by decide)) (by decide) (fun h3 => ?_) (fun h => False.elim (by omega))
  refine qr_aload_n 71 rfl rfl rfl ?_
  refine qr_iconst 72 rfl rfl ?_
  have hs4 : (-2147483648) ≤ σ 86 56 ∧ σ 86 56 ≤ 2147483647 := hI.1 86 56
  refine qr_callN 75 rfl rfl rfl (sf_257_86 (d := d + 0) hI (by decide) (by omega)) ?_
  rintro _ _ ⟨σ6, α7, rfl, hI8, hG9, hw5, rfl⟩
  have hF10 : qFr [(86, 56)] [120] σ α σ6 α7 := qFr_t hF0 hG9 (by decide) (by decide)
  have hs11 : (-2147483648) ≤ σ6 86 56 ∧ σ6 86 56 ≤ 2147483647 := hI8.1 86 56
  show qr_W (qe L xs vb) (d + 1) qx_e256 _ (75, _, [], qw σ6 α7 κ ρ, 0, 0)
  refine qr_iload_n 76 rfl rfl rfl ?_
  refine qr_aload_n 77 rfl rfl rfl ?_
  refine qr_get 80 rfl rfl rfl (by decide) rfl ?_
  have hs12 : (-2147483648) ≤ σ6 86 58 ∧ σ6 86 58 ≤ 2147483647 := hI8.1 86 58
  refine qr_iadd 81 rfl rfl ?_
  refine qy_can (fun v13 hv13 => ?_)
  refine qr_retI rfl rfl (by decide) (by decide) ?_
  have hw14 : σ6 86 56 = (σ6 86 56) := rfl
  exact ⟨_, _, rfl, hI8, hF10, v13, rfl, hv13, by omega⟩

set_option maxHeartbeats 4000000 in
set_option maxRecDepth 20000 in
/-- OneRoofModel.holdsAs -/
theorem sf_256_86k0_0 {L : Nat} {xs : Nat → Int} {vb : Bool} {d : Nat} {σ α : Nat → Nat → Int} {κ : Nat → Option Nat} {ρ : Nat} {x2 : Int} (hI : qI σ α κ ρ) (r2 : (-2147483648) ≤ x2 ∧ x2 ≤ 2147483647) (p0 : 0 ≤ σ 86 56 ∧ σ 86 56 ≤ 380) (p1 : σ 86 57 = 0) : qm_T (qe L xs vb) (d + 2) 256 [.ref 86, .int (qz 0), .int (qz x2)] (qw σ α κ ρ) (fun r w' => ∃ σ' α', w' = qw σ' α' κ ρ ∧ qI σ' α' κ ρ ∧ qFr [(86, 56)] [120] σ α σ' α' ∧ ∃ v : Int, r = some (.int (qz v)) ∧ ((-2147483648) ≤ v ∧ v ≤ 2147483647) ∧ σ' 86 56 = σ 86 56 + 1) := by
  refine qr_start (d := d + 1) qv_e256 (Nat.le_of_ble_eq_true rfl) ?_
  show qr_W (qe L xs vb) (d + 1) qx_e256 _ (0, [(0, .ref 86), (1, .int (qz 0)), (2, .int (qz x2))], [], _, 0, 0)
  have hF0 := qFr_rf [(86, 56)] [120] σ α
  have hz86_56 : (-2147483648) ≤ σ 86 56 ∧ σ 86 56 ≤ 2147483647 := hI.1 86 56
  have hz86_57 : (-2147483648) ≤ σ 86 57 ∧ σ 86 57 ≤ 2147483647 := hI.1 86 57
  have hz86_6 : 0 ≤ σ 86 6 ∧ σ 86 6 ≤ 32 := hI.1 86 6
  refine qr_iload_n 1 rfl rfl rfl ?_
  refine qr_iconst 2 rfl rfl ?_
  refine qr_icmp_ne 20 5 rfl rfl rfl (by decide) (by decide) (fun h1 => ?_) (fun h => False.elim (by omega))
  refine qr_iload_n 21 rfl rfl rfl ?_
  refine qr_iconst 22 rfl rfl ?_
  refine qr_icmp_ne 40 25 rfl rfl rfl (by decide) (by decide) (fun h2 => ?_) (fun h => False.elim (by omega))
  refine qr_iload_n 41 rfl rfl rfl ?_
  refine qr_iconst 42 rfl rfl ?_
  refine qr_icmp_ne 70 45 rfl rfl rfl (by decide) (by decide) (fun h3 => ?_) (fun h => False.elim (by omega))
  refine qr_aload_n 71 rfl rfl rfl ?_
  refine qr_iconst 72 rfl rfl ?_
  have hs4 : (-2147483648) ≤ σ 86 56 ∧ σ 86 56 ≤ 2147483647 := hI.1 86 56
  refine qr_callN 75 rfl rfl rfl (sf_257_86 (d := d + 0) hI (by decide) (by omega)) ?_
  rintro _ _ ⟨σ6, α7, rfl, hI8, hG9, hw5, rfl⟩
  have hF10 : qFr [(86, 56)] [120] σ α σ6 α7 := qFr_t hF0 hG9 (by decide) (by decide)
  have hs11 : (-2147483648) ≤ σ6 86 56 ∧ σ6 86 56 ≤ 2147483647 := hI8.1 86 56
  show qr_W (qe L xs vb) (d + 1) qx_e256 _ (75, _, [], qw σ6 α7 κ ρ, 0, 0)
  refine qr_iload_n 76 rfl rfl rfl ?_
  refine qr_aload_n 77 rfl rfl rfl ?_
  refine qr_get 80 rfl rfl rfl (by decide) rfl ?_
  have hs12 : (-2147483648) ≤ σ6 86 58 ∧ σ6 86 58 ≤ 2147483647 := hI8.1 86 58
  refine qr_iadd 81 rfl rfl ?_
  refine qy_can (fun v13 hv13 => ?_)
  refine qr_retI rfl rfl (by decide) (by decide) ?_
  have hw14 : σ6 86 56 = (σ6 86 56) := rfl
  exact ⟨_, _, rfl, hI8, hF10, v13, rfl, hv13, by omega⟩

set_option maxHeartbeats 4000000 in
set_option maxRecDepth 20000 in
/-- OneRoofModel.holdsAs -/
theorem sf_256_86k0_1 {L : Nat} {xs : Nat → Int} {vb : Bool} {d : Nat} {σ α : Nat → Nat → Int} {κ : Nat → Option Nat} {ρ : Nat} {x2 : Int} (hI : qI σ α κ ρ) (r2 : (-2147483648) ≤ x2 ∧ x2 ≤ 2147483647) (p0 : 0 ≤ σ 86 56 ∧ σ 86 56 ≤ 380) (p1 : σ 86 57 = 1) : qm_T (qe L xs vb) (d + 2) 256 [.ref 86, .int (qz 0), .int (qz x2)] (qw σ α κ ρ) (fun r w' => ∃ σ' α', w' = qw σ' α' κ ρ ∧ qI σ' α' κ ρ ∧ qFr [(86, 56)] [120] σ α σ' α' ∧ ∃ v : Int, r = some (.int (qz v)) ∧ ((-2147483648) ≤ v ∧ v ≤ 2147483647) ∧ σ' 86 56 = σ 86 56 + 1) := by
  refine qr_start (d := d + 1) qv_e256 (Nat.le_of_ble_eq_true rfl) ?_
  show qr_W (qe L xs vb) (d + 1) qx_e256 _ (0, [(0, .ref 86), (1, .int (qz 0)), (2, .int (qz x2))], [], _, 0, 0)
  have hF0 := qFr_rf [(86, 56)] [120] σ α
  have hz86_56 : (-2147483648) ≤ σ 86 56 ∧ σ 86 56 ≤ 2147483647 := hI.1 86 56
  have hz86_57 : (-2147483648) ≤ σ 86 57 ∧ σ 86 57 ≤ 2147483647 := hI.1 86 57
  have hz86_6 : 0 ≤ σ 86 6 ∧ σ 86 6 ≤ 32 := hI.1 86 6
  refine qr_iload_n 1 rfl rfl rfl ?_
  refine qr_iconst 2 rfl rfl ?_
  refine qr_icmp_ne 20 5 rfl rfl rfl (by decide) (by decide) (fun h1 => ?_) (fun h => False.elim (by omega))
  refine qr_iload_n 21 rfl rfl rfl ?_
  refine qr_iconst 22 rfl rfl ?_
  refine qr_icmp_ne 40 25 rfl rfl rfl (by decide) (by decide) (fun h2 => ?_) (fun h => False.elim (by omega))
  refine qr_iload_n 41 rfl rfl rfl ?_
  refine qr_iconst 42 rfl rfl ?_
  refine qr_icmp_ne 70 45 rfl rfl rfl (by decide) (by decide) (fun h3 => ?_) (fun h => False.elim (by omega))
  refine qr_aload_n 71 rfl rfl rfl ?_
  refine qr_iconst 72 rfl rfl ?_
  have hs4 : (-2147483648) ≤ σ 86 56 ∧ σ 86 56 ≤ 2147483647 := hI.1 86 56
  refine qr_callN 75 rfl rfl rfl (sf_257_86 (d := d + 0) hI (by decide) (by omega)) ?_
  rintro _ _ ⟨σ6, α7, rfl, hI8, hG9, hw5, rfl⟩
  have hF10 : qFr [(86, 56)] [120] σ α σ6 α7 := qFr_t hF0 hG9 (by decide) (by decide)
  have hs11 : (-2147483648) ≤ σ6 86 56 ∧ σ6 86 56 ≤ 2147483647 := hI8.1 86 56
  show qr_W (qe L xs vb) (d + 1) qx_e256 _ (75, _, [], qw σ6 α7 κ ρ, 0, 0)
  refine qr_iload_n 76 rfl rfl rfl ?_
  refine qr_aload_n 77 rfl rfl rfl ?_
  refine qr_get 80 rfl rfl rfl (by decide) rfl ?_
  have hs12 : (-2147483648) ≤ σ6 86 58 ∧ σ6 86 58 ≤ 2147483647 := hI8.1 86 58
  refine qr_iadd 81 rfl rfl ?_
  refine qy_can (fun v13 hv13 => ?_)
  refine qr_retI rfl rfl (by decide) (by decide) ?_
  have hw14 : σ6 86 56 = (σ6 86 56) := rfl
  exact ⟨_, _, rfl, hI8, hF10, v13, rfl, hv13, by omega⟩

set_option maxHeartbeats 4000000 in
set_option maxRecDepth 20000 in
/-- OneRoofModel.holdsAs -/
theorem sf_256_86k1_1 {L : Nat} {xs : Nat → Int} {vb : Bool} {d : Nat} {σ α : Nat → Nat → Int} {κ : Nat → Option Nat} {ρ : Nat} {x2 : Int} (hI : qI σ α κ ρ) (r2 : (-2147483648) ≤ x2 ∧ x2 ≤ 2147483647) (p0 : 0 ≤ σ 86 56 ∧ σ 86 56 ≤ 360) (p1 : σ 86 57 = 1) : qm_T (qe L xs vb) (d + 3) 256 [.ref 86, .int (qz 1), .int (qz x2)] (qw σ α κ ρ) (fun r w' => ∃ σ' α', w' = qw σ' α' κ ρ ∧ qI σ' α' κ ρ ∧ qFr [(86, 56)] [120] σ α σ' α' ∧ ∃ v : Int, r = some (.int (qz v)) ∧ ((-2147483648) ≤ v ∧ v ≤ 2147483647) ∧ σ' 86 56 = σ 86 56 + 2) := by
  refine qr_start (d := d + 2) qv_e256 (Nat.le_of_ble_eq_true rfl) ?_
  show qr_W (qe L xs vb) (d + 2) qx_e256 _ (0, [(0, .ref 86), (1, .int (qz 1)), (2, .int (qz x2))], [], _, 0, 0)
  have hF0 := qFr_rf [(86, 56)] [120] σ α
  have hz86_56 : (-2147483648) ≤ σ 86 56 ∧ σ 86 56 ≤ 2147483647 := hI.1 86 56
  have hz86_57 : (-2147483648) ≤ σ 86 57 ∧ σ 86 57 ≤ 2147483647 := hI.1 86 57
  have hz86_6 : 0 ≤ σ 86 6 ∧ σ 86 6 ≤ 32 := hI.1 86 6
  refine qr_iload_n 1 rfl rfl rfl ?_
  refine qr_iconst 2 rfl rfl ?_
  refine qr_icmp_ne 20 5 rfl rfl rfl (by decide) (by decide) (fun h1 => ?_) (fun h => False.elim (by omega))
  refine qr_iload_n 21 rfl rfl rfl ?_
  refine qr_iconst 22 rfl rfl ?_
  refine qr_icmp_ne 40 25 rfl rfl rfl (by decide) (by decide) (fun h => False.elim (by omega)) (fun h2 => ?_)
  refine qr_aload_n 26 rfl rfl rfl ?_
  refine qr_bipush 28 rfl (by decide) rfl ?_
  have hs3 : (-2147483648) ≤ σ 86 56 ∧ σ 86 56 ≤ 2147483647 := hI.1 86 56
  refine qr_callN 31 rfl rfl rfl (sf_257_86 (d := d + 1) hI (by decide) (by omega)) ?_
  rintro _ _ ⟨σ5, α6, rfl, hI7, hG8, hw4, rfl⟩
  have hF9 : qFr [(86, 56)] [120] σ α σ5 α6 := qFr_t hF0 hG8 (by decide) (by decide)
  have hs10 : (-2147483648) ≤ σ5 86 56 ∧ σ5 86 56 ≤ 2147483647 := hI7.1 86 56
  show qr_W (qe L xs vb) (d + 2) qx_e256 _ (31, _, [], qw σ5 α6 κ ρ, 0, 0)
  refine qr_aload_n 32 rfl rfl rfl ?_
  refine qr_iconst 33 rfl rfl ?_
  refine qr_iload_n 34 rfl rfl rfl ?_
  have hs11 : (-2147483648) ≤ σ5 86 56 ∧ σ5 86 56 ≤ 2147483647 := hI7.1 86 56
  have hs12 : (-2147483648) ≤ σ5 86 57 ∧ σ5 86 57 ≤ 2147483647 := hI7.1 86 57
  have hs13 : σ5 86 57 = (σ 86 57) := (hG8.1 86 57 (by decide)).trans rfl
  refine qr_callN 37 rfl rfl rfl (sf_256_86k0_1 (d := d + 0) hI7 r2 (by omega) (by omega)) ?_
  have hs16 : (-2147483648) ≤ σ5 86 56 ∧ σ5 86 56 ≤ 2147483647 := hI7.1 86 56
  rintro _ _ ⟨σ17, α18, rfl, hI19, hG20, v14, rfl, hv14, hp15⟩
  have hF21 : qFr [(86, 56)] [120] σ α σ17 α18 := qFr_t hF9 hG20 (by decide) (by decide)
  have hs22 : (-2147483648) ≤ σ17 86 56 ∧ σ17 86 56 ≤ 2147483647 := hI19.1 86 56
  show qr_W (qe L xs vb) (d + 2) qx_e256 _ (37, _, [.int (qz v14)], qw σ17 α18 κ ρ, 0, 0)
  refine qr_iconst 38 rfl rfl ?_
  refine qr_iadd 39 rfl rfl ?_
  refine qy_can (fun v23 hv23 => ?_)
  refine qr_retI rfl rfl (by decide) (by decide) ?_
  have hw24 : σ17 86 56 = (σ17 86 56) := rfl
  exact ⟨_, _, rfl, hI19, hF21, v23, rfl, hv23, by omega⟩

set_option maxHeartbeats 4000000 in
set_option maxRecDepth 20000 in
/-- OneRoofModel.holdsAs -/
theorem sf_256_86k0_2 {L : Nat} {xs : Nat → Int} {vb : Bool} {d : Nat} {σ α : Nat → Nat → Int} {κ : Nat → Option Nat} {ρ : Nat} {x2 : Int} (hI : qI σ α κ ρ) (r2 : (-2147483648) ≤ x2 ∧ x2 ≤ 2147483647) (p0 : 0 ≤ σ 86 56 ∧ σ 86 56 ≤ 380) (p1 : σ 86 57 = 2) : qm_T (qe L xs vb) (d + 2) 256 [.ref 86, .int (qz 0), .int (qz x2)] (qw σ α κ ρ) (fun r w' => ∃ σ' α', w' = qw σ' α' κ ρ ∧ qI σ' α' κ ρ ∧ qFr [(86, 56)] [120] σ α σ' α' ∧ ∃ v : Int, r = some (.int (qz v)) ∧ ((-2147483648) ≤ v ∧ v ≤ 2147483647) ∧ σ' 86 56 = σ 86 56 + 1) := by
  refine qr_start (d := d + 1) qv_e256 (Nat.le_of_ble_eq_true rfl) ?_
  show qr_W (qe L xs vb) (d + 1) qx_e256 _ (0, [(0, .ref 86), (1, .int (qz 0)), (2, .int (qz x2))], [], _, 0, 0)
  have hF0 := qFr_rf [(86, 56)] [120] σ α
  have hz86_56 : (-2147483648) ≤ σ 86 56 ∧ σ 86 56 ≤ 2147483647 := hI.1 86 56
  have hz86_57 : (-2147483648) ≤ σ 86 57 ∧ σ 86 57 ≤ 2147483647 := hI.1 86 57
  have hz86_6 : 0 ≤ σ 86 6 ∧ σ 86 6 ≤ 32 := hI.1 86 6
  refine qr_iload_n 1 rfl rfl rfl ?_
  refine qr_iconst 2 rfl rfl ?_
  refine qr_icmp_ne 20 5 rfl rfl rfl (by decide) (by decide) (fun h1 => ?_) (fun h => False.elim (by omega))
  refine qr_iload_n 21 rfl rfl rfl ?_
  refine qr_iconst 22 rfl rfl ?_
  refine qr_icmp_ne 40 25 rfl rfl rfl (by decide) (by decide) (fun h2 => ?_) (fun h => False.elim (by omega))
  refine qr_iload_n 41 rfl rfl rfl ?_
  refine qr_iconst 42 rfl rfl ?_
  refine qr_icmp_ne 70 45 rfl rfl rfl (by decide) (by decide) (fun h3 => ?_) (fun h => False.elim (by omega))
  refine qr_aload_n 71 rfl rfl rfl ?_
  refine qr_iconst 72 rfl rfl ?_
  have hs4 : (-2147483648) ≤ σ 86 56 ∧ σ 86 56 ≤ 2147483647 := hI.1 86 56
  refine qr_callN 75 rfl rfl rfl (sf_257_86 (d := d + 0) hI (by decide) (by omega)) ?_
  rintro _ _ ⟨σ6, α7, rfl, hI8, hG9, hw5, rfl⟩
  have hF10 : qFr [(86, 56)] [120] σ α σ6 α7 := qFr_t hF0 hG9 (by decide) (by decide)
  have hs11 : (-2147483648) ≤ σ6 86 56 ∧ σ6 86 56 ≤ 2147483647 := hI8.1 86 56
  show qr_W (qe L xs vb) (d + 1) qx_e256 _ (75, _, [], qw σ6 α7 κ ρ, 0, 0)
  refine qr_iload_n 76 rfl rfl rfl ?_
  refine qr_aload_n 77 rfl rfl rfl ?_
  refine qr_get 80 rfl rfl rfl (by decide) rfl ?_
  have hs12 : (-2147483648) ≤ σ6 86 58 ∧ σ6 86 58 ≤ 2147483647 := hI8.1 86 58
  refine qr_iadd 81 rfl rfl ?_
  refine qy_can (fun v13 hv13 => ?_)
  refine qr_retI rfl rfl (by decide) (by decide) ?_
  have hw14 : σ6 86 56 = (σ6 86 56) := rfl
  exact ⟨_, _, rfl, hI8, hF10, v13, rfl, hv13, by omega⟩

set_option maxHeartbeats 4000000 in
set_option maxRecDepth 20000 in
/-- OneRoofModel.holdsAs -/
theorem sf_256_86k1_2 {L : Nat} {xs : Nat → Int} {vb : Bool} {d : Nat} {σ α : Nat → Nat → Int} {κ : Nat → Option Nat} {ρ : Nat} {x2 : Int} (hI : qI σ α κ ρ) (r2 : (-2147483648) ≤ x2 ∧ x2 ≤ 2147483647) (p0 : 0 ≤ σ 86 56 ∧ σ 86 56 ≤ 360) (p1 : σ 86 57 = 2) : qm_T (qe L xs vb) (d + 3) 256 [.ref 86, .int (qz 1), .int (qz x2)] (qw σ α κ ρ) (fun r w' => ∃ σ' α', w' = qw σ' α' κ ρ ∧ qI σ' α' κ ρ ∧ qFr [(86, 56)] [120] σ α σ' α' ∧ ∃ v : Int, r = some (.int (qz v)) ∧ ((-2147483648) ≤ v ∧ v ≤ 2147483647) ∧ σ' 86 56 = σ 86 56 + 2) := by
  refine qr_start (d := d + 2) qv_e256 (Nat.le_of_ble_eq_true rfl) ?_
  show qr_W (qe L xs vb) (d + 2) qx_e256 _ (0, [(0, .ref 86), (1, .int (qz 1)), (2, .int (qz x2))], [], _, 0, 0)
  have hF0 := qFr_rf [(86, 56)] [120] σ α
  have hz86_56 : (-2147483648) ≤ σ 86 56 ∧ σ 86 56 ≤ 2147483647 := hI.1 86 56
  have hz86_57 : (-2147483648) ≤ σ 86 57 ∧ σ 86 57 ≤ 2147483647 := hI.1 86 57
  have hz86_6 : 0 ≤ σ 86 6 ∧ σ 86 6 ≤ 32 := hI.1 86 6
  refine qr_iload_n 1 rfl rfl rfl ?_
  refine qr_iconst 2 rfl rfl ?_
  refine qr_icmp_ne 20 5 rfl rfl rfl (by decide) (by decide) (fun h1 => ?_) (fun h => False.elim (by omega))
  refine qr_iload_n 21 rfl rfl rfl ?_
  refine qr_iconst 22 rfl rfl ?_
  refine qr_icmp_ne 40 25 rfl rfl rfl (by decide) (by decide) (fun h => False.elim (by omega)) (fun h2 => ?_)
  refine qr_aload_n 26 rfl rfl rfl ?_
  refine qr_bipush 28 rfl (by decide) rfl ?_
  have hs3 : (-2147483648) ≤ σ 86 56 ∧ σ 86 56 ≤ 2147483647 := hI.1 86 56
  refine qr_callN 31 rfl rfl rfl (sf_257_86 (d := d + 1) hI (by decide) (by omega)) ?_
  rintro _ _ ⟨σ5, α6, rfl, hI7, hG8, hw4, rfl⟩
  have hF9 : qFr [(86, 56)] [120] σ α σ5 α6 := qFr_t hF0 hG8 (by decide) (by decide)
  have hs10 : (-2147483648) ≤ σ5 86 56 ∧ σ5 86 56 ≤ 2147483647 := hI7.1 86 56
  show qr_W (qe L xs vb) (d + 2) qx_e256 _ (31, _, [], qw σ5 α6 κ ρ, 0, 0)
  refine qr_aload_n 32 rfl rfl rfl ?_
  refine qr_iconst 33 rfl rfl ?_
  refine qr_iload_n 34 rfl rfl rfl ?_
  have hs11 : (-2147483648) ≤ σ5 86 56 ∧ σ5 86 56 ≤ 2147483647 := hI7.1 86 56
  have hs12 : (-2147483648) ≤ σ5 86 57 ∧ σ5 86 57 ≤ 2147483647 := hI7.1 86 57
  have hs13 : σ5 86 57 = (σ 86 57) := (hG8.1 86 57 (by decide)).trans rfl
  refine qr_callN 37 rfl rfl rfl (sf_256_86k0_2 (d := d + 0) hI7 r2 (by omega) (by omega)) ?_
  have hs16 : (-2147483648) ≤ σ5 86 56 ∧ σ5 86 56 ≤ 2147483647 := hI7.1 86 56
  rintro _ _ ⟨σ17, α18, rfl, hI19, hG20, v14, rfl, hv14, hp15⟩
  have hF21 : qFr [(86, 56)] [120] σ α σ17 α18 := qFr_t hF9 hG20 (by decide) (by decide)
  have hs22 : (-2147483648) ≤ σ17 86 56 ∧ σ17 86 56 ≤ 2147483647 := hI19.1 86 56
  show qr_W (qe L xs vb) (d + 2) qx_e256 _ (37, _, [.int (qz v14)], qw σ17 α18 κ ρ, 0, 0)
  refine qr_iconst 38 rfl rfl ?_
  refine qr_iadd 39 rfl rfl ?_
  refine qy_can (fun v23 hv23 => ?_)
  refine qr_retI rfl rfl (by decide) (by decide) ?_
  have hw24 : σ17 86 56 = (σ17 86 56) := rfl
  exact ⟨_, _, rfl, hI19, hF21, v23, rfl, hv23, by omega⟩

set_option maxHeartbeats 4000000 in
set_option maxRecDepth 20000 in
/-- OneRoofModel.holdsAs -/
theorem sf_256_86k2_2 {L : Nat} {xs : Nat → Int} {vb : Bool} {d : Nat} {σ α : Nat → Nat → Int} {κ : Nat → Option Nat} {ρ : Nat} {x2 : Int} (hI : qI σ α κ ρ) (r2 : (-2147483648) ≤ x2 ∧ x2 ≤ 2147483647) (p0 : 0 ≤ σ 86 56 ∧ σ 86 56 ≤ 340) (p1 : σ 86 57 = 2) : qm_T (qe L xs vb) (d + 4) 256 [.ref 86, .int (qz 2), .int (qz x2)] (qw σ α κ ρ) (fun r w' => ∃ σ' α', w' = qw σ' α' κ ρ ∧ qI σ' α' κ ρ ∧ qFr [(86, 56)] [120] σ α σ' α' ∧ ∃ v : Int, r = some (.int (qz v)) ∧ ((-2147483648) ≤ v ∧ v ≤ 2147483647) ∧ σ' 86 56 = σ 86 56 + 3) := by
  refine qr_start (d := d + 3) qv_e256 (Nat.le_of_ble_eq_true rfl) ?_
  show qr_W (qe L xs vb) (d + 3) qx_e256 _ (0, [(0, .ref 86), (1, .int (qz 2)), (2, .int (qz x2))], [], _, 0, 0)
  have hF0 := qFr_rf [(86, 56)] [120] σ α
  have hz86_56 : (-2147483648) ≤ σ 86 56 ∧ σ 86 56 ≤ 2147483647 := hI.1 86 56
  have hz86_57 : (-2147483648) ≤ σ 86 57 ∧ σ 86 57 ≤ 2147483647 := hI.1 86 57
  have hz86_6 : 0 ≤ σ 86 6 ∧ σ 86 6 ≤ 32 := hI.1 86 6
  refine qr_iload_n 1 rfl rfl rfl ?_
  refine qr_iconst 2 rfl rfl ?_
  refine qr_icmp_ne 20 5 rfl rfl rfl (by decide) (by decide) (fun h => False.elim (by omega)) (fun h1 => ?_)
  refine qr_aload_n 6 rfl rfl rfl ?_
  refine qr_bipush 8 rfl (by decide) rfl ?_
  have hs2 : (-2147483648) ≤ σ 86 56 ∧ σ 86 56 ≤ 2147483647 := hI.1 86 56
  refine qr_callN 11 rfl rfl rfl (sf_257_86 (d := d + 2) hI (by decide) (by omega)) ?_
  rintro _ _ ⟨σ4, α5, rfl, hI6, hG7, hw3, rfl⟩
  have hF8 : qFr [(86, 56)] [120] σ α σ4 α5 := qFr_t hF0 hG7 (by decide) (by decide)
  have hs9 : (-2147483648) ≤ σ4 86 56 ∧ σ4 86 56 ≤ 2147483647 := hI6.1 86 56
  show qr_W (qe L xs vb) (d + 3) qx_e256 _ (11, _, [], qw σ4 α5 κ ρ, 0, 0)
  refine qr_aload_n 12 rfl rfl rfl ?_
  refine qr_iconst 13 rfl rfl ?_
  refine qr_iload_n 14 rfl rfl rfl ?_
  refine qr_iconst 15 rfl rfl ?_
  refine qr_iadd 16 rfl rfl ?_
  refine qy_can (fun v10 hv10 => ?_)
  have hs11 : (-2147483648) ≤ σ4 86 56 ∧ σ4 86 56 ≤ 2147483647 := hI6.1 86 56
  have hs12 : (-2147483648) ≤ σ4 86 57 ∧ σ4 86 57 ≤ 2147483647 := hI6.1 86 57
  have hs13 : σ4 86 57 = (σ 86 57) := (hG7.1 86 57 (by decide)).trans rfl
  refine qr_callN 19 rfl rfl rfl (sf_256_86k1_2 (d := d + 0) hI6 hv10 (by omega) (by omega)) ?_
  have hs16 : (-2147483648) ≤ σ4 86 56 ∧ σ4 86 56 ≤ 2147483647 := hI6.1 86 56
  rintro _ _ ⟨σ17, α18, rfl, hI19, hG20, v14, rfl, hv14, hp15⟩
  have hF21 : qFr [(86, 56)] [120] σ α σ17 α18 := qFr_t hF8 hG20 (by decide) (by decide)
  have hs22 : (-2147483648) ≤ σ17 86 56 ∧ σ17 86 56 ≤ 2147483647 := hI19.1 86 56
  show qr_W (qe L xs vb) (d + 3) qx_e256 _ (19, _, [.int (qz v14)], qw σ17 α18 κ ρ, 0, 0)
  refine qr_retI rfl rfl (by decide) (by decide) ?_
  have hw23 : σ17 86 56 = (σ17 86 56) := rfl
  exact ⟨_, _, rfl, hI19, hF21, v14, rfl, hv14, by omega⟩

set_option maxHeartbeats 4000000 in
set_option maxRecDepth 20000 in
/-- OneRoofModel.holdsAs -/
theorem sf_256_86k3_3 {L : Nat} {xs : Nat → Int} {vb : Bool} {d : Nat} {σ α : Nat → Nat → Int} {κ : Nat → Option Nat} {ρ : Nat} {x2 : Int} (hI : qI σ α κ ρ) (r2 : (-2147483648) ≤ x2 ∧ x2 ≤ 2147483647) (p0 : 0 ≤ σ 86 56 ∧ σ 86 56 ≤ 380) (p1 : σ 86 57 = 3) : qm_T (qe L xs vb) (d + 2) 256 [.ref 86, .int (qz 3), .int (qz x2)] (qw σ α κ ρ) (fun r w' => ∃ σ' α', w' = qw σ' α' κ ρ ∧ qI σ' α' κ ρ ∧ qFr [(86, 56)] [120] σ α σ' α' ∧ ∃ v : Int, r = some (.int (qz v)) ∧ ((-2147483648) ≤ v ∧ v ≤ 2147483647) ∧ σ' 86 56 = σ 86 56 + 1) := by
  refine qr_start (d := d + 1) qv_e256 (Nat.le_of_ble_eq_true rfl) ?_
  show qr_W (qe L xs vb) (d + 1) qx_e256 _ (0, [(0, .ref 86), (1, .int (qz 3)), (2, .int (qz x2))], [], _, 0, 0)
  have hF0 := qFr_rf [(86, 56)] [120] σ α
  have hz86_56 : (-2147483648) ≤ σ 86 56 ∧ σ 86 56 ≤ 2147483647 := hI.1 86 56
  have hz86_57 : (-2147483648) ≤ σ 86 57 ∧ σ 86 57 ≤ 2147483647 := hI.1 86 57
  have hz86_6 : 0 ≤ σ 86 6 ∧ σ 86 6 ≤ 32 := hI.1 86 6
  refine qr_iload_n 1 rfl rfl rfl ?_
  refine qr_iconst 2 rfl rfl ?_
  refine qr_icmp_ne 20 5 rfl rfl rfl (by decide) (by decide) (fun h1 => ?_) (fun h => False.elim (by omega))
  refine qr_iload_n 21 rfl rfl rfl ?_
  refine qr_iconst 22 rfl rfl ?_
  refine qr_icmp_ne 40 25 rfl rfl rfl (by decide) (by decide) (fun h2 => ?_) (fun h => False.elim (by omega))
  refine qr_iload_n 41 rfl rfl rfl ?_
  refine qr_iconst 42 rfl rfl ?_
  refine qr_icmp_ne 70 45 rfl rfl rfl (by decide) (by decide) (fun h3 => ?_) (fun h => False.elim (by omega))
  refine qr_aload_n 71 rfl rfl rfl ?_
  refine qr_iconst 72 rfl rfl ?_
  have hs4 : (-2147483648) ≤ σ 86 56 ∧ σ 86 56 ≤ 2147483647 := hI.1 86 56
  refine qr_callN 75 rfl rfl rfl (sf_257_86 (d := d + 0) hI (by decide) (by omega)) ?_
  rintro _ _ ⟨σ6, α7, rfl, hI8, hG9, hw5, rfl⟩
  have hF10 : qFr [(86, 56)] [120] σ α σ6 α7 := qFr_t hF0 hG9 (by decide) (by decide)
  have hs11 : (-2147483648) ≤ σ6 86 56 ∧ σ6 86 56 ≤ 2147483647 := hI8.1 86 56
  show qr_W (qe L xs vb) (d + 1) qx_e256 _ (75, _, [], qw σ6 α7 κ ρ, 0, 0)
  refine qr_iload_n 76 rfl rfl rfl ?_
  refine qr_aload_n 77 rfl rfl rfl ?_
  refine qr_get 80 rfl rfl rfl (by decide) rfl ?_
  have hs12 : (-2147483648) ≤ σ6 86 58 ∧ σ6 86 58 ≤ 2147483647 := hI8.1 86 58
  refine qr_iadd 81 rfl rfl ?_
  refine qy_can (fun v13 hv13 => ?_)
  refine qr_retI rfl rfl (by decide) (by decide) ?_
  have hw14 : σ6 86 56 = (σ6 86 56) := rfl
  exact ⟨_, _, rfl, hI8, hF10, v13, rfl, hv13, by omega⟩

set_option maxHeartbeats 4000000 in
set_option maxRecDepth 20000 in
/-- OneRoofModel.holdsAs -/
theorem sf_256_86k4_4 {L : Nat} {xs : Nat → Int} {vb : Bool} {d : Nat} {σ α : Nat → Nat → Int} {κ : Nat → Option Nat} {ρ : Nat} {x2 : Int} (hI : qI σ α κ ρ) (r2 : (-2147483648) ≤ x2 ∧ x2 ≤ 2147483647) (p0 : 0 ≤ σ 86 56 ∧ σ 86 56 ≤ 380) (p1 : σ 86 57 = 4) : qm_T (qe L xs vb) (d + 2) 256 [.ref 86, .int (qz 4), .int (qz x2)] (qw σ α κ ρ) (fun r w' => ∃ σ' α', w' = qw σ' α' κ ρ ∧ qI σ' α' κ ρ ∧ qFr [(86, 56)] [120] σ α σ' α' ∧ ∃ v : Int, r = some (.int (qz v)) ∧ ((-2147483648) ≤ v ∧ v ≤ 2147483647) ∧ σ' 86 56 = σ 86 56 + 1) := by
  refine qr_start (d := d + 1) qv_e256 (Nat.le_of_ble_eq_true rfl) ?_
  show qr_W (qe L xs vb) (d + 1) qx_e256 _ (0, [(0, .ref 86), (1, .int (qz 4)), (2, .int (qz x2))], [], _, 0, 0)
  have hF0 := qFr_rf [(86, 56)] [120] σ α
  have hz86_56 : (-2147483648) ≤ σ 86 56 ∧ σ 86 56 ≤ 2147483647 := hI.1 86 56
  have hz86_57 : (-2147483648) ≤ σ 86 57 ∧ σ 86 57 ≤ 2147483647 := hI.1 86 57
  have hz86_6 : 0 ≤ σ 86 6 ∧ σ 86 6 ≤ 32 := hI.1 86 6
  refine qr_iload_n 1 rfl rfl rfl ?_
  refine qr_iconst 2 rfl rfl ?_
  refine qr_icmp_ne 20 5 rfl rfl rfl (by decide) (by decide) (fun h1 => ?_) (fun h => False.elim (by omega))
  refine qr_iload_n 21 rfl rfl rfl ?_
  refine qr_iconst 22 rfl rfl ?_
  refine qr_icmp_ne 40 25 rfl rfl rfl (by decide) (by decide) (fun h2 => ?_) (fun h => False.elim (by omega))
  refine qr_iload_n 41 rfl rfl rfl ?_
  refine qr_iconst 42 rfl rfl ?_
  refine qr_icmp_ne 70 45 rfl rfl rfl (by decide) (by decide) (fun h3 => ?_) (fun h => False.elim (by omega))
  refine qr_aload_n 71 rfl rfl rfl ?_
  refine qr_iconst 72 rfl rfl ?_
  have hs4 : (-2147483648) ≤ σ 86 56 ∧ σ 86 56 ≤ 2147483647 := hI.1 86 56
  refine qr_callN 75 rfl rfl rfl (sf_257_86 (d := d + 0) hI (by decide) (by omega)) ?_
  rintro _ _ ⟨σ6, α7, rfl, hI8, hG9, hw5, rfl⟩
  have hF10 : qFr [(86, 56)] [120] σ α σ6 α7 := qFr_t hF0 hG9 (by decide) (by decide)
  have hs11 : (-2147483648) ≤ σ6 86 56 ∧ σ6 86 56 ≤ 2147483647 := hI8.1 86 56
  show qr_W (qe L xs vb) (d + 1) qx_e256 _ (75, _, [], qw σ6 α7 κ ρ, 0, 0)
  refine qr_iload_n 76 rfl rfl rfl ?_
  refine qr_aload_n 77 rfl rfl rfl ?_
  refine qr_get 80 rfl rfl rfl (by decide) rfl ?_
  have hs12 : (-2147483648) ≤ σ6 86 58 ∧ σ6 86 58 ≤ 2147483647 := hI8.1 86 58
  refine qr_iadd 81 rfl rfl ?_
  refine qy_can (fun v13 hv13 => ?_)
  refine qr_retI rfl rfl (by decide) (by decide) ?_
  have hw14 : σ6 86 56 = (σ6 86 56) := rfl
  exact ⟨_, _, rfl, hI8, hF10, v13, rfl, hv13, by omega⟩

set_option maxHeartbeats 4000000 in
set_option maxRecDepth 20000 in
/-- OneRoofModel.holdsAs -/
theorem sf_256_86k4_5 {L : Nat} {xs : Nat → Int} {vb : Bool} {d : Nat} {σ α : Nat → Nat → Int} {κ : Nat → Option Nat} {ρ : Nat} {x2 : Int} (hI : qI σ α κ ρ) (r2 : (-2147483648) ≤ x2 ∧ x2 ≤ 2147483647) (p0 : 0 ≤ σ 86 56 ∧ σ 86 56 ≤ 380) (p1 : σ 86 57 = 5) : qm_T (qe L xs vb) (d + 2) 256 [.ref 86, .int (qz 4), .int (qz x2)] (qw σ α κ ρ) (fun r w' => ∃ σ' α', w' = qw σ' α' κ ρ ∧ qI σ' α' κ ρ ∧ qFr [(86, 56)] [120] σ α σ' α' ∧ ∃ v : Int, r = some (.int (qz v)) ∧ ((-2147483648) ≤ v ∧ v ≤ 2147483647) ∧ σ' 86 56 = σ 86 56 + 1) := by
  refine qr_start (d := d + 1) qv_e256 (Nat.le_of_ble_eq_true rfl) ?_
  show qr_W (qe L xs vb) (d + 1) qx_e256 _ (0, [(0, .ref 86), (1, .int (qz 4)), (2, .int (qz x2))], [], _, 0, 0)
  have hF0 := qFr_rf [(86, 56)] [120] σ α
  have hz86_56 : (-2147483648) ≤ σ 86 56 ∧ σ 86 56 ≤ 2147483647 := hI.1 86 56
  have hz86_57 : (-2147483648) ≤ σ 86 57 ∧ σ 86 57 ≤ 2147483647 := hI.1 86 57
  have hz86_6 : 0 ≤ σ 86 6 ∧ σ 86 6 ≤ 32 := hI.1 86 6
  refine qr_iload_n 1 rfl rfl rfl ?_
  refine qr_iconst 2 rfl rfl ?_
  refine qr_icmp_ne 20 5 rfl rfl rfl (by decide) (by decide) (fun h1 => ?_) (fun h => False.elim (by omega))
  refine qr_iload_n 21 rfl rfl rfl ?_
  refine qr_iconst 22 rfl rfl ?_
  refine qr_icmp_ne 40 25 rfl rfl rfl (by decide) (by decide) (fun h2 => ?_) (fun h => False.elim (by omega))
  refine qr_iload_n 41 rfl rfl rfl ?_
  refine qr_iconst 42 rfl rfl ?_
  refine qr_icmp_ne 70 45 rfl rfl rfl (by decide) (by decide) (fun h3 => ?_) (fun h => False.elim (by omega))
  refine qr_aload_n 71 rfl rfl rfl ?_
  refine qr_iconst 72 rfl rfl ?_
  have hs4 : (-2147483648) ≤ σ 86 56 ∧ σ 86 56 ≤ 2147483647 := hI.1 86 56
  refine qr_callN 75 rfl rfl rfl (sf_257_86 (d := d + 0) hI (by decide) (by omega)) ?_
  rintro _ _ ⟨σ6, α7, rfl, hI8, hG9, hw5, rfl⟩
  have hF10 : qFr [(86, 56)] [120] σ α σ6 α7 := qFr_t hF0 hG9 (by decide) (by decide)
  have hs11 : (-2147483648) ≤ σ6 86 56 ∧ σ6 86 56 ≤ 2147483647 := hI8.1 86 56
  show qr_W (qe L xs vb) (d + 1) qx_e256 _ (75, _, [], qw σ6 α7 κ ρ, 0, 0)
  refine qr_iload_n 76 rfl rfl rfl ?_
  refine qr_aload_n 77 rfl rfl rfl ?_
  refine qr_get 80 rfl rfl rfl (by decide) rfl ?_
  have hs12 : (-2147483648) ≤ σ6 86 58 ∧ σ6 86 58 ≤ 2147483647 := hI8.1 86 58
  refine qr_iadd 81 rfl rfl ?_
  refine qy_can (fun v13 hv13 => ?_)
  refine qr_retI rfl rfl (by decide) (by decide) ?_
  have hw14 : σ6 86 56 = (σ6 86 56) := rfl
  exact ⟨_, _, rfl, hI8, hF10, v13, rfl, hv13, by omega⟩

set_option maxHeartbeats 4000000 in
set_option maxRecDepth 20000 in
/-- OneRoofModel.endsAs -/
theorem sf_258_86k5_5 {L : Nat} {xs : Nat → Int} {vb : Bool} {d : Nat} {σ α : Nat → Nat → Int} {κ : Nat → Option Nat} {ρ : Nat} {x2 : Int} (hI : qI σ α κ ρ) (r2 : (-2147483648) ≤ x2 ∧ x2 ≤ 2147483647) (p0 : 0 ≤ σ 86 56 ∧ σ 86 56 ≤ 380) (p1 : σ 86 57 = 5) : qm_T (qe L xs vb) (d + 2) 258 [.ref 86, .int (qz 5), .int (qz x2)] (qw σ α κ ρ) (fun r w' => ∃ σ' α', w' = qw σ' α' κ ρ ∧ qI σ' α' κ ρ ∧ qFr [(86, 56)] [120] σ α σ' α' ∧ ∃ v : Int, r = some (.int (qz v)) ∧ ((-2147483648) ≤ v ∧ v ≤ 2147483647) ∧ σ' 86 56 = σ 86 56 + 1) := by
  refine qr_start (d := d + 1) qv_e258 (Nat.le_of_ble_eq_true rfl) ?_
  show qr_W (qe L xs vb) (d + 1) qx_e258 _ (0, [(0, .ref 86), (1, .int (qz 5)), (2, .int (qz x2))], [], _, 0, 0)
  have hF0 := qFr_rf [(86, 56)] [120] σ α
  have hz86_56 : (-2147483648) ≤ σ 86 56 ∧ σ 86 56 ≤ 2147483647 := hI.1 86 56
  have hz86_57 : (-2147483648) ≤ σ 86 57 ∧ σ 86 57 ≤ 2147483647 := hI.1 86 57
  have hz86_6 : 0 ≤ σ 86 6 ∧ σ 86 6 ≤ 32 := hI.1 86 6
  refine qr_iload_n 1 rfl rfl rfl ?_
  refine qr_iconst 2 rfl rfl ?_
  refine qr_icmp_ne 20 5 rfl rfl rfl (by decide) (by decide) (fun h1 => ?_) (fun h => False.elim (by omega))
  refine qr_iload_n 21 rfl rfl rfl ?_
  refine qr_bipush 23 rfl (by decide) rfl ?_
  refine qr_icmp_ne 51 26 rfl rfl rfl (by decide) (by decide) (fun h2 => ?_) (fun h => False.elim (by omega))
  refine qr_aload_n 52 rfl rfl rfl ?_
  refine qr_bipush 54 rfl (by decide) rfl ?_
  have hs3 : (-2147483648) ≤ σ 86 56 ∧ σ 86 56 ≤ 2147483647 := hI.1 86 56
  refine qr_callN 57 rfl rfl rfl (sf_257_86 (d := d + 0) hI (by decide) (by omega)) ?_
  rintro _ _ ⟨σ5, α6, rfl, hI7, hG8, hw4, rfl⟩
  have hF9 : qFr [(86, 56)] [120] σ α σ5 α6 := qFr_t hF0 hG8 (by decide) (by decide)
  have hs10 : (-2147483648) ≤ σ5 86 56 ∧ σ5 86 56 ≤ 2147483647 := hI7.1 86 56
  show qr_W (qe L xs vb) (d + 1) qx_e258 _ (57, _, [], qw σ5 α6 κ ρ, 0, 0)
  refine qr_iload_n 58 rfl rfl rfl ?_
  refine qr_aload_n 59 rfl rfl rfl ?_
  refine qr_get 62 rfl rfl rfl (by decide) rfl ?_
  have hs11 : (-2147483648) ≤ σ5 86 58 ∧ σ5 86 58 ≤ 2147483647 := hI7.1 86 58
  refine qr_ixor 63 rfl rfl ?_
  refine qy_can (fun v12 hv12 => ?_)
  refine qr_retI rfl rfl (by decide) (by decide) ?_
  have hw13 : σ5 86 56 = (σ5 86 56) := rfl
  exact ⟨_, _, rfl, hI7, hF9, v12, rfl, hv12, by omega⟩

set_option maxHeartbeats 4000000 in
set_option maxRecDepth 20000 in
/-- OneRoofModel.holdsAs -/
theorem sf_256_86k5_5 {L : Nat} {xs : Nat → Int} {vb : Bool} {d : Nat} {σ α : Nat → Nat → Int} {κ : Nat → Option Nat} {ρ : Nat} {x2 : Int} (hI : qI σ α κ ρ) (r2 : (-2147483648) ≤ x2 ∧ x2 ≤ 2147483647) (p0 : 0 ≤ σ 86 56 ∧ σ 86 56 ≤ 360) (p1 : σ 86 57 = 5) : qm_T (qe L xs vb) (d + 3) 256 [.ref 86, .int (qz 5), .int (qz x2)] (qw σ α κ ρ) (fun r w' => ∃ σ' α', w' = qw σ' α' κ ρ ∧ qI σ' α' κ ρ ∧ qFr [(86, 56)] [120] σ α σ' α' ∧ ∃ v : Int, r = some (.int (qz v)) ∧ ((-2147483648) ≤ v ∧ v ≤ 2147483647) ∧ σ' 86 56 = σ 86 56 + 3) := by
  refine qr_start (d := d + 2) qv_e256 (Nat.le_of_ble_eq_true rfl) ?_
  show qr_W (qe L xs vb) (d + 2) qx_e256 _ (0, [(0, .ref 86), (1, .int (qz 5)), (2, .int (qz x2))], [], _, 0, 0)
  have hF0 := qFr_rf [(86, 56)] [120] σ α
  have hz86_56 : (-2147483648) ≤ σ 86 56 ∧ σ 86 56 ≤ 2147483647 := hI.1 86 56
  have hz86_57 : (-2147483648) ≤ σ 86 57 ∧ σ 86 57 ≤ 2147483647 := hI.1 86 57
  have hz86_6 : 0 ≤ σ 86 6 ∧ σ 86 6 ≤ 32 := hI.1 86 6
  refine qr_iload_n 1 rfl rfl rfl ?_
  refine qr_iconst 2 rfl rfl ?_
  refine qr_icmp_ne 20 5 rfl rfl rfl (by decide) (by decide) (fun h1 => ?_) (fun h => False.elim (by omega))
  refine qr_iload_n 21 rfl rfl rfl ?_
  refine qr_iconst 22 rfl rfl ?_
  refine qr_icmp_ne 40 25 rfl rfl rfl (by decide) (by decide) (fun h2 => ?_) (fun h => False.elim (by omega))
  refine qr_iload_n 41 rfl rfl rfl ?_
  refine qr_iconst 42 rfl rfl ?_
  refine qr_icmp_ne 70 45 rfl rfl rfl (by decide) (by decide) (fun h => False.elim (by omega)) (fun h3 => ?_)
  refine qr_aload_n 46 rfl rfl rfl ?_
  refine qr_bipush 48 rfl (by decide) rfl ?_
  have hs4 : (-2147483648) ≤ σ 86 56 ∧ σ 86 56 ≤ 2147483647 := hI.1 86 56
  refine qr_callN 51 rfl rfl rfl (sf_257_86 (d := d + 1) hI (by decide) (by omega)) ?_
  rintro _ _ ⟨σ6, α7, rfl, hI8, hG9, hw5, rfl⟩
  have hF10 : qFr [(86, 56)] [120] σ α σ6 α7 := qFr_t hF0 hG9 (by decide) (by decide)
  have hs11 : (-2147483648) ≤ σ6 86 56 ∧ σ6 86 56 ≤ 2147483647 := hI8.1 86 56
  show qr_W (qe L xs vb) (d + 2) qx_e256 _ (51, _, [], qw σ6 α7 κ ρ, 0, 0)
  refine qr_aload_n 52 rfl rfl rfl ?_
  refine qr_iconst 53 rfl rfl ?_
  refine qr_iload_n 54 rfl rfl rfl ?_
  have hs12 : (-2147483648) ≤ σ6 86 56 ∧ σ6 86 56 ≤ 2147483647 := hI8.1 86 56
  have hs13 : (-2147483648) ≤ σ6 86 57 ∧ σ6 86 57 ≤ 2147483647 := hI8.1 86 57
  have hs14 : σ6 86 57 = (σ 86 57) := (hG9.1 86 57 (by decide)).trans rfl
  refine qr_callN 57 rfl rfl rfl (sf_256_86k4_5 (d := d + 0) hI8 r2 (by omega) (by omega)) ?_
  have hs17 : (-2147483648) ≤ σ6 86 56 ∧ σ6 86 56 ≤ 2147483647 := hI8.1 86 56
  rintro _ _ ⟨σ18, α19, rfl, hI20, hG21, v15, rfl, hv15, hp16⟩
  have hF22 : qFr [(86, 56)] [120] σ α σ18 α19 := qFr_t hF10 hG21 (by decide) (by decide)
  have hs23 : (-2147483648) ≤ σ18 86 56 ∧ σ18 86 56 ≤ 2147483647 := hI20.1 86 56
  show qr_W (qe L xs vb) (d + 2) qx_e256 _ (57, _, [.int (qz v15)], qw σ18 α19 κ ρ, 0, 0)
  refine qr_istore_n _ 58 rfl (by decide) rfl rfl ?_
  refine qr_iload_n 59 rfl rfl rfl ?_
  refine qr_aload_n 60 rfl rfl rfl ?_
  refine qr_aload_n 61 rfl rfl rfl ?_
  refine qr_get 64 rfl rfl rfl (by decide) rfl ?_
  refine qy_v (σ 86 57) ((hG21.1 86 57 (by decide)).trans ((hG9.1 86 57 (by decide)).trans rfl)) ?_
  refine qr_iconst 65 rfl rfl ?_
  have hc24 : (σ 86 57) = 5 := by omega
  rw [hc24]
  have hs25 : (-2147483648) ≤ σ18 86 56 ∧ σ18 86 56 ≤ 2147483647 := hI20.1 86 56
  have hs26 : (-2147483648) ≤ σ18 86 57 ∧ σ18 86 57 ≤ 2147483647 := hI20.1 86 57
  have hs27 : σ18 86 57 = (σ 86 57) := (hG21.1 86 57 (by decide)).trans ((hG9.1 86 57 (by decide)).trans rfl)
  refine qr_callN 68 rfl rfl rfl (sf_258_86k5_5 (d := d + 0) hI20 (by decide) (by omega) (by omega)) ?_
  have hs30 : (-2147483648) ≤ σ18 86 56 ∧ σ18 86 56 ≤ 2147483647 := hI20.1 86 56
  rintro _ _ ⟨σ31, α32, rfl, hI33, hG34, v28, rfl, hv28, hp29⟩
  have hF35 : qFr [(86, 56)] [120] σ α σ31 α32 := qFr_t hF22 hG34 (by decide) (by decide)
  have hs36 : (-2147483648) ≤ σ31 86 56 ∧ σ31 86 56 ≤ 2147483647 := hI33.1 86 56
  show qr_W (qe L xs vb) (d + 2) qx_e256 _ (68, _, [.int (qz v28), .int (qz v15)], qw σ31 α32 κ ρ, 0, 0)
  refine qr_isub 69 rfl rfl ?_
  refine qy_can (fun v37 hv37 => ?_)
  refine qr_retI rfl rfl (by decide) (by decide) ?_
  have hw38 : σ31 86 56 = (σ31 86 56) := rfl
  exact ⟨_, _, rfl, hI33, hF35, v37, rfl, hv37, by omega⟩

set_option maxHeartbeats 4000000 in
set_option maxRecDepth 20000 in
/-- OneRoofModel.holdsAs -/
theorem sf_256_86k6_6 {L : Nat} {xs : Nat → Int} {vb : Bool} {d : Nat} {σ α : Nat → Nat → Int} {κ : Nat → Option Nat} {ρ : Nat} {x2 : Int} (hI : qI σ α κ ρ) (r2 : (-2147483648) ≤ x2 ∧ x2 ≤ 2147483647) (p0 : 0 ≤ σ 86 56 ∧ σ 86 56 ≤ 380) (p1 : σ 86 57 = 6) : qm_T (qe L xs vb) (d + 2) 256 [.ref 86, .int (qz 6), .int (qz x2)] (qw σ α κ ρ) (fun r w' => ∃ σ' α', w' = qw σ' α' κ ρ ∧ qI σ' α' κ ρ ∧ qFr [(86, 56)] [120] σ α σ' α' ∧ ∃ v : Int, r = some (.int (qz v)) ∧ ((-2147483648) ≤ v ∧ v ≤ 2147483647) ∧ σ' 86 56 = σ 86 56 + 1) := by
  refine qr_start (d := d + 1) qv_e256 (Nat.le_of_ble_eq_true rfl) ?_
  show qr_W (qe L xs vb) (d + 1) qx_e256 _ (0, [(0, .ref 86), (1, .int (qz 6)), (2, .int (qz x2))], [], _, 0, 0)
  have hF0 := qFr_rf [(86, 56)] [120] σ α
  have hz86_56 : (-2147483648) ≤ σ 86 56 ∧ σ 86 56 ≤ 2147483647 := hI.1 86 56
  have hz86_57 : (-2147483648) ≤ σ 86 57 ∧ σ 86 57 ≤ 2147483647 := hI.1 86 57
  have hz86_6 : 0 ≤ σ 86 6 ∧ σ 86 6 ≤ 32 := hI.1 86 6
  refine qr_iload_n 1 rfl rfl rfl ?_
  refine qr_iconst 2 rfl rfl ?_
  refine qr_icmp_ne 20 5 rfl rfl rfl (by decide) (by decide) (fun h1 => ?_) (fun h => False.elim (by omega))
  refine qr_iload_n 21 rfl rfl rfl ?_
  refine qr_iconst 22 rfl rfl ?_
  refine qr_icmp_ne 40 25 rfl rfl rfl (by decide) (by decide) (fun h2 => ?_) (fun h => False.elim (by omega))
  refine qr_iload_n 41 rfl rfl rfl ?_
  refine qr_iconst 42 rfl rfl ?_
  refine qr_icmp_ne 70 45 rfl rfl rfl (by decide) (by decide) (fun h3 => ?_) (fun h => False.elim (by omega))
  refine qr_aload_n 71 rfl rfl rfl ?_
  refine qr_iconst 72 rfl rfl ?_
  have hs4 : (-2147483648) ≤ σ 86 56 ∧ σ 86 56 ≤ 2147483647 := hI.1 86 56
  refine qr_callN 75 rfl rfl rfl (sf_257_86 (d := d + 0) hI (by decide) (by omega)) ?_
  rintro _ _ ⟨σ6, α7, rfl, hI8, hG9, hw5, rfl⟩
  have hF10 : qFr [(86, 56)] [120] σ α σ6 α7 := qFr_t hF0 hG9 (by decide) (by decide)
  have hs11 : (-2147483648) ≤ σ6 86 56 ∧ σ6 86 56 ≤ 2147483647 := hI8.1 86 56
  show qr_W (qe L xs vb) (d + 1) qx_e256 _ (75, _, [], qw σ6 α7 κ ρ, 0, 0)
  refine qr_iload_n 76 rfl rfl rfl ?_
  refine qr_aload_n 77 rfl rfl rfl ?_
  refine qr_get 80 rfl rfl rfl (by decide) rfl ?_
  have hs12 : (-2147483648) ≤ σ6 86 58 ∧ σ6 86 58 ≤ 2147483647 := hI8.1 86 58
  refine qr_iadd 81 rfl rfl ?_
  refine qy_can (fun v13 hv13 => ?_)
  refine qr_retI rfl rfl (by decide) (by decide) ?_
  have hw14 : σ6 86 56 = (σ6 86 56) := rfl
  exact ⟨_, _, rfl, hI8, hF10, v13, rfl, hv13, by omega⟩

set_option maxHeartbeats 4000000 in
set_option maxRecDepth 20000 in
/-- OneRoofModel.holdsAs -/
theorem sf_256_86kp_p {L : Nat} {xs : Nat → Int} {vb : Bool} {d : Nat} {σ α : Nat → Nat → Int} {κ : Nat → Option Nat} {ρ : Nat} {x1 : Int} {x2 : Int} (hI : qI σ α κ ρ) (r1 : 7 ≤ x1 ∧ x1 ≤ 2147483647) (r2 : (-2147483648) ≤ x2 ∧ x2 ≤ 2147483647) (p0 : 0 ≤ σ 86 56 ∧ σ 86 56 ≤ 380) (p1 : 6 < σ 86 57) : qm_T (qe L xs vb) (d + 2) 256 [.ref 86, .int (qz x1), .int (qz x2)] (qw σ α κ ρ) (fun r w' => ∃ σ' α', w' = qw σ' α' κ ρ ∧ qI σ' α' κ ρ ∧ qFr [(86, 56)] [120] σ α σ' α' ∧ ∃ v : Int, r = some (.int (qz v)) ∧ ((-2147483648) ≤ v ∧ v ≤ 2147483647) ∧ σ' 86 56 = σ 86 56 + 1) := by
  refine qr_start (d := d + 1) qv_e256 (Nat.le_of_ble_eq_true rfl) ?_
  show qr_W (qe L xs vb) (d + 1) qx_e256 _ (0, [(0, .ref 86), (1, .int (qz x1)), (2, .int (qz x2))], [], _, 0, 0)
  have hF0 := qFr_rf [(86, 56)] [120] σ α
  have hz86_56 : (-2147483648) ≤ σ 86 56 ∧ σ 86 56 ≤ 2147483647 := hI.1 86 56
  have hz86_57 : (-2147483648) ≤ σ 86 57 ∧ σ 86 57 ≤ 2147483647 := hI.1 86 57
  have hz86_6 : 0 ≤ σ 86 6 ∧ σ 86 6 ≤ 32 := hI.1 86 6
  refine qr_iload_n 1 rfl rfl rfl ?_
  refine qr_iconst 2 rfl rfl ?_
  refine qr_icmp_ne 20 5 rfl rfl rfl (qrg r1 (by decide) (by decide)) (by decide) (fun h1 => ?_) (fun h => False.elim (by omega))
  refine qr_iload_n 21 rfl rfl rfl ?_
  refine qr_iconst 22 rfl rfl ?_
  refine qr_icmp_ne 40 25 rfl rfl rfl (qrg r1 (by decide) (by decide)) (by decide) (fun h2 => ?_) (fun h => False.elim (by omega))
  refine qr_iload_n 41 rfl rfl rfl ?_
  refine qr_iconst 42 rfl rfl ?_
  refine qr_icmp_ne 70 45 rfl rfl rfl (qrg r1 (by decide) (by decide)) (by decide) (fun h3 => ?_) (fun h => False.elim (by omega))
  refine qr_aload_n 71 rfl rfl rfl ?_
  refine qr_iconst 72 rfl rfl ?_
  have hs4 : (-2147483648) ≤ σ 86 56 ∧ σ 86 56 ≤ 2147483647 := hI.1 86 56
  refine qr_callN 75 rfl rfl rfl (sf_257_86 (d := d + 0) hI (by decide) (by omega)) ?_
  rintro _ _ ⟨σ6, α7, rfl, hI8, hG9, hw5, rfl⟩
  have hF10 : qFr [(86, 56)] [120] σ α σ6 α7 := qFr_t hF0 hG9 (by decide) (by decide)
  have hs11 : (-2147483648) ≤ σ6 86 56 ∧ σ6 86 56 ≤ 2147483647 := hI8.1 86 56
  show qr_W (qe L xs vb) (d + 1) qx_e256 _ (75, _, [], qw σ6 α7 κ ρ, 0, 0)
  refine qr_iload_n 76 rfl rfl rfl ?_
  refine qr_aload_n 77 rfl rfl rfl ?_
  refine qr_get 80 rfl rfl rfl (by decide) rfl ?_
  have hs12 : (-2147483648) ≤ σ6 86 58 ∧ σ6 86 58 ≤ 2147483647 := hI8.1 86 58
  refine qr_iadd 81 rfl rfl ?_
  refine qy_can (fun v13 hv13 => ?_)
  refine qr_retI rfl rfl (by decide) (by decide) ?_
  have hw14 : σ6 86 56 = (σ6 86 56) := rfl
  exact ⟨_, _, rfl, hI8, hF10, v13, rfl, hv13, by omega⟩

set_option maxHeartbeats 4000000 in
set_option maxRecDepth 20000 in
/-- OneRoofModel.holdsAs -/
theorem sf_256_86any {L : Nat} {xs : Nat → Int} {vb : Bool} {d : Nat} {σ α : Nat → Nat → Int} {κ : Nat → Option Nat} {ρ : Nat} {x1 : Int} {x2 : Int} (hI : qI σ α κ ρ) (r1 : (-2147483648) ≤ x1 ∧ x1 ≤ 2147483647) (r2 : (-2147483648) ≤ x2 ∧ x2 ≤ 2147483647) (p0 : σ 86 56 = 0) (p1 : x1 = σ 86 57) : qm_T (qe L xs vb) (d + 4) 256 [.ref 86, .int (qz x1), .int (qz x2)] (qw σ α κ ρ) (fun r w' => ∃ σ' α', w' = qw σ' α' κ ρ ∧ qI σ' α' κ ρ ∧ qFr [(86, 56)] [120] σ α σ' α' ∧ ∃ v : Int, r = some (.int (qz v)) ∧ ((-2147483648) ≤ v ∧ v ≤ 2147483647)) := by
  have h1 : x1 < 0 ∨ x1 = 0 ∨ x1 = 1 ∨ x1 = 2 ∨ x1 = 3 ∨ x1 = 4 ∨ x1 = 5 ∨ x1 = 6 ∨ 6 < x1 := by omega
  rcases h1 with h1 | h1 | h1 | h1 | h1 | h1 | h1 | h1 | h1
  · skip
    refine qr_mono (sf_256_86km_m (d := d + 2) hI (by omega) (by omega) (by omega) (by omega)) ?_
    rintro r w2 ⟨σ2, α2, h2, h3, h4, v, h5, h6, h7⟩
    exact ⟨σ2, α2, h2, h3, h4, v, h5, h6⟩
  · rw [h1]
    refine qr_mono (sf_256_86k0_0 (d := d + 2) hI (by omega) (by omega) (by omega)) ?_
    rintro r w2 ⟨σ2, α2, h2, h3, h4, v, h5, h6, h7⟩
    exact ⟨σ2, α2, h2, h3, h4, v, h5, h6⟩
  · rw [h1]
    refine qr_mono (sf_256_86k1_1 (d := d + 1) hI (by omega) (by omega) (by omega)) ?_
    rintro r w2 ⟨σ2, α2, h2, h3, h4, v, h5, h6, h7⟩
    exact ⟨σ2, α2, h2, h3, h4, v, h5, h6⟩
  · rw [h1]
    refine qr_mono (sf_256_86k2_2 (d := d + 0) hI (by omega) (by omega) (by omega)) ?_
    rintro r w2 ⟨σ2, α2, h2, h3, h4, v, h5, h6, h7⟩
    exact ⟨σ2, α2, h2, h3, h4, v, h5, h6⟩
  · rw [h1]
    refine qr_mono (sf_256_86k3_3 (d := d + 2) hI (by omega) (by omega) (by omega)) ?_
    rintro r w2 ⟨σ2, α2, h2, h3, h4, v, h5, h6, h7⟩
    exact ⟨σ2, α2, h2, h3, h4, v, h5, h6⟩
  · rw [h1]
    refine qr_mono (sf_256_86k4_4 (d := d + 2) hI (by omega) (by omega) (by omega)) ?_
    rintro r w2 ⟨σ2, α2, h2, h3, h4, v, h5, h6, h7⟩
    exact ⟨σ2, α2, h2, h3, h4, v, h5, h6⟩
  · rw [h1]
    refine qr_mono (sf_256_86k5_5 (d := d + 1) hI (by omega) (by omega) (by omega)) ?_
    rintro r w2 ⟨σ2, α2, h2, h3, h4, v, h5, h6, h7⟩
    exact ⟨σ2, α2, h2, h3, h4, v, h5, h6⟩
  · rw [h1]
    refine qr_mono (sf_256_86k6_6 (d := d + 2) hI (by omega) (by omega) (by omega)) ?_
    rintro r w2 ⟨σ2, α2, h2, h3, h4, v, h5, h6, h7⟩
    exact ⟨σ2, α2, h2, h3, h4, v, h5, h6⟩
  · skip
    refine qr_mono (sf_256_86kp_p (d := d + 2) hI (by omega) (by omega) (by omega) (by omega)) ?_
    rintro r w2 ⟨σ2, α2, h2, h3, h4, v, h5, h6, h7⟩
    exact ⟨σ2, α2, h2, h3, h4, v, h5, h6⟩

set_option maxHeartbeats 4000000 in
set_option maxRecDepth 20000 in
/-- OneRoofModel.coversAs -/
theorem sf_259_86km_m {L : Nat} {xs : Nat → Int} {vb : Bool} {d : Nat} {σ α : Nat → Nat → Int} {κ : Nat → Option Nat} {ρ : Nat} {x1 : Int} {x2 : Int} (hI : qI σ α κ ρ) (r1 : (-2147483648) ≤ x1 ∧ x1 ≤ (-1)) (r2 : (-2147483648) ≤ x2 ∧ x2 ≤ 2147483647) (p0 : 0 ≤ σ 86 56 ∧ σ 86 56 ≤ 360) (p1 : σ 86 57 < 0) : qm_T (qe L xs vb) (d + 3) 259 [.ref 86, .int (qz x1), .int (qz x2)] (qw σ α κ ρ) (fun r w' => ∃ σ' α', w' = qw σ' α' κ ρ ∧ qI σ' α' κ ρ ∧ qFr [(86, 56)] [120] σ α σ' α' ∧ ∃ v : Int, r = some (.int (qz v)) ∧ ((-2147483648) ≤ v ∧ v ≤ 2147483647) ∧ σ' 86 56 = σ 86 56 + 2) := by
  refine qr_start (d := d + 2) qv_e259 (Nat.le_of_ble_eq_true rfl) ?_
  show qr_W (qe L xs vb) (d + 2) qx_e259 _ (0, [(0, .ref 86), (1, .int (qz x1)), (2, .int (qz x2))], [], _, 0, 0)
  have hF0 := qFr_rf [(86, 56)] [120] σ α
  have hz86_56 : (-2147483648) ≤ σ 86 56 ∧ σ 86 56 ≤ 2147483647 := hI.1 86 56
  have hz86_57 : (-2147483648) ≤ σ 86 57 ∧ σ 86 57 ≤ 2147483647 := hI.1 86 57
  have hz86_6 : 0 ≤ σ 86 6 ∧ σ 86 6 ≤ 32 := hI.1 86 6
  refine qr_iload_n 1 rfl rfl rfl ?_
  refine qr_iconst 2 rfl rfl ?_
  refine qr_icmp_ne 19 5 rfl rfl rfl (qrg r1 (by decide) (by decide)) (by decide) (fun h1 => ?_) (fun h => False.elim (by omega))
  refine qr_iload_n 20 rfl rfl rfl ?_
  refine qr_bipush 22 rfl (by decide) rfl ?_
  refine qr_icmp_ne 40 25 rfl rfl rfl (qrg r1 (by decide) (by decide)) (by decide) (fun h2 => ?_) (fun h => False.elim (by omega))
  refine qr_aload_n 41 rfl rfl rfl ?_
  refine qr_bipush 43 rfl (by decide) rfl ?_
  have hs3 : (-2147483648) ≤ σ 86 56 ∧ σ 86 56 ≤ 2147483647 := hI.1 86 56
  refine qr_callN 46 rfl rfl rfl (sf_257_86 (d := d + 1) hI (by decide) (by omega)) ?_
  rintro _ _ ⟨σ5, α6, rfl, hI7, hG8, hw4, rfl⟩
  have hF9 : qFr [(86, 56)] [120] σ α σ5 α6 := qFr_t hF0 hG8 (by decide) (by decide)
  have hs10 : (-2147483648) ≤ σ5 86 56 ∧ σ5 86 56 ≤ 2147483647 := hI7.1 86 56
  show qr_W (qe L xs vb) (d + 2) qx_e259 _ (46, _, [], qw σ5 α6 κ ρ, 0, 0)
  refine qr_aload_n 47 rfl rfl rfl ?_
  refine qr_aload_n 48 rfl rfl rfl ?_
  refine qr_get 51 rfl rfl rfl (by decide) rfl ?_
  refine qy_v (σ 86 57) ((hG8.1 86 57 (by decide)).trans rfl) ?_
  refine qr_iload_n 52 rfl rfl rfl ?_
  have hs11 : (-2147483648) ≤ σ5 86 56 ∧ σ5 86 56 ≤ 2147483647 := hI7.1 86 56
  have hs12 : (-2147483648) ≤ σ5 86 57 ∧ σ5 86 57 ≤ 2147483647 := hI7.1 86 57
  have hs13 : σ5 86 57 = (σ 86 57) := (hG8.1 86 57 (by decide)).trans rfl
  refine qr_callN 55 rfl rfl rfl (sf_256_86km_m (d := d + 0) hI7 (by omega) r2 (by omega) (by omega)) ?_
  have hs16 : (-2147483648) ≤ σ5 86 56 ∧ σ5 86 56 ≤ 2147483647 := hI7.1 86 56
  rintro _ _ ⟨σ17, α18, rfl, hI19, hG20, v14, rfl, hv14, hp15⟩
  have hF21 : qFr [(86, 56)] [120] σ α σ17 α18 := qFr_t hF9 hG20 (by decide) (by decide)
  have hs22 : (-2147483648) ≤ σ17 86 56 ∧ σ17 86 56 ≤ 2147483647 := hI19.1 86 56
  show qr_W (qe L xs vb) (d + 2) qx_e259 _ (55, _, [.int (qz v14)], qw σ17 α18 κ ρ, 0, 0)
  refine qr_iconst 56 rfl rfl ?_
  refine qr_imul 57 rfl rfl ?_
  refine qy_can (fun v23 hv23 => ?_)
  refine qr_retI rfl rfl (by decide) (by decide) ?_
  have hw24 : σ17 86 56 = (σ17 86 56) := rfl
  exact ⟨_, _, rfl, hI19, hF21, v23, rfl, hv23, by omega⟩

set_option maxHeartbeats 4000000 in
set_option maxRecDepth 20000 in
/-- OneRoofModel.coversAs -/
theorem sf_259_86k0_0 {L : Nat} {xs : Nat → Int} {vb : Bool} {d : Nat} {σ α : Nat → Nat → Int} {κ : Nat → Option Nat} {ρ : Nat} {x2 : Int} (hI : qI σ α κ ρ) (r2 : (-2147483648) ≤ x2 ∧ x2 ≤ 2147483647) (p0 : 0 ≤ σ 86 56 ∧ σ 86 56 ≤ 360) (p1 : σ 86 57 = 0) : qm_T (qe L xs vb) (d + 3) 259 [.ref 86, .int (qz 0), .int (qz x2)] (qw σ α κ ρ) (fun r w' => ∃ σ' α', w' = qw σ' α' κ ρ ∧ qI σ' α' κ ρ ∧ qFr [(86, 56)] [120] σ α σ' α' ∧ ∃ v : Int, r = some (.int (qz v)) ∧ ((-2147483648) ≤ v ∧ v ≤ 2147483647) ∧ σ' 86 56 = σ 86 56 + 2) := by
  refine qr_start (d := d + 2) qv_e259 (Nat.le_of_ble_eq_true rfl) ?_
  show qr_W (qe L xs vb) (d + 2) qx_e259 _ (0, [(0, .ref 86), (1, .int (qz 0)), (2, .int (qz x2))], [], _, 0, 0)
  have hF0 := qFr_rf [(86, 56)] [120] σ α
  have hz86_56 : (-2147483648) ≤ σ 86 56 ∧ σ 86 56 ≤ 2147483647 := hI.1 86 56
  have hz86_57 : (-2147483648) ≤ σ 86 57 ∧ σ 86 57 ≤ 2147483647 := hI.1 86 57
  have hz86_6 : 0 ≤ σ 86 6 ∧ σ 86 6 ≤ 32 := hI.1 86 6
  refine qr_iload_n 1 rfl rfl rfl ?_
  refine qr_iconst 2 rfl rfl ?_
  refine qr_icmp_ne 19 5 rfl rfl rfl (by decide) (by decide) (fun h1 => ?_) (fun h => False.elim (by omega))
  refine qr_iload_n 20 rfl rfl rfl ?_
  refine qr_bipush 22 rfl (by decide) rfl ?_
  refine qr_icmp_ne 40 25 rfl rfl rfl (by decide) (by decide) (fun h2 => ?_) (fun h => False.elim (by omega))
  refine qr_aload_n 41 rfl rfl rfl ?_
  refine qr_bipush 43 rfl (by decide) rfl ?_
  have hs3 : (-2147483648) ≤ σ 86 56 ∧ σ 86 56 ≤ 2147483647 := hI.1 86 56
  refine qr_callN 46 rfl rfl rfl (sf_257_86 (d := d + 1) hI (by decide) (by omega)) ?_
  rintro _ _ ⟨σ5, α6, rfl, hI7, hG8, hw4, rfl⟩
  have hF9 : qFr [(86, 56)] [120] σ α σ5 α6 := qFr_t hF0 hG8 (by decide) (by decide)
  have hs10 : (-2147483648) ≤ σ5 86 56 ∧ σ5 86 56 ≤ 2147483647 := hI7.1 86 56
  show qr_W (qe L xs vb) (d + 2) qx_e259 _ (46, _, [], qw σ5 α6 κ ρ, 0, 0)
  refine qr_aload_n 47 rfl rfl rfl ?_
  refine qr_aload_n 48 rfl rfl rfl ?_
  refine qr_get 51 rfl rfl rfl (by decide) rfl ?_
  refine qy_v (σ 86 57) ((hG8.1 86 57 (by decide)).trans rfl) ?_
  refine qr_iload_n 52 rfl rfl rfl ?_
  have hc11 : (σ 86 57) = 0 := by omega
  rw [hc11]
  have hs12 : (-2147483648) ≤ σ5 86 56 ∧ σ5 86 56 ≤ 2147483647 := hI7.1 86 56
  have hs13 : (-2147483648) ≤ σ5 86 57 ∧ σ5 86 57 ≤ 2147483647 := hI7.1 86 57
  have hs14 : σ5 86 57 = (σ 86 57) := (hG8.1 86 57 (by decide)).trans rfl
  refine qr_callN 55 rfl rfl rfl (sf_256_86k0_0 (d := d + 0) hI7 r2 (by omega) (by omega)) ?_
  have hs17 : (-2147483648) ≤ σ5 86 56 ∧ σ5 86 56 ≤ 2147483647 := hI7.1 86 56
  rintro _ _ ⟨σ18, α19, rfl, hI20, hG21, v15, rfl, hv15, hp16⟩
  have hF22 : qFr [(86, 56)] [120] σ α σ18 α19 := qFr_t hF9 hG21 (by decide) (by decide)
  have hs23 : (-2147483648) ≤ σ18 86 56 ∧ σ18 86 56 ≤ 2147483647 := hI20.1 86 56
  show qr_W (qe L xs vb) (d + 2) qx_e259 _ (55, _, [.int (qz v15)], qw σ18 α19 κ ρ, 0, 0)
  refine qr_iconst 56 rfl rfl ?_
  refine qr_imul 57 rfl rfl ?_
  refine qy_can (fun v24 hv24 => ?_)
  refine qr_retI rfl rfl (by decide) (by decide) ?_
  have hw25 : σ18 86 56 = (σ18 86 56) := rfl
  exact ⟨_, _, rfl, hI20, hF22, v24, rfl, hv24, by omega⟩

set_option maxHeartbeats 4000000 in
set_option maxRecDepth 20000 in
/-- OneRoofModel.coversAs -/
theorem sf_259_86k1_1 {L : Nat} {xs : Nat → Int} {vb : Bool} {d : Nat} {σ α : Nat → Nat → Int} {κ : Nat → Option Nat} {ρ : Nat} {x2 : Int} (hI : qI σ α κ ρ) (r2 : (-2147483648) ≤ x2 ∧ x2 ≤ 2147483647) (p0 : 0 ≤ σ 86 56 ∧ σ 86 56 ≤ 340) (p1 : σ 86 57 = 1) : qm_T (qe L xs vb) (d + 4) 259 [.ref 86, .int (qz 1), .int (qz x2)] (qw σ α κ ρ) (fun r w' => ∃ σ' α', w' = qw σ' α' κ ρ ∧ qI σ' α' κ ρ ∧ qFr [(86, 56)] [120] σ α σ' α' ∧ ∃ v : Int, r = some (.int (qz v)) ∧ ((-2147483648) ≤ v ∧ v ≤ 2147483647) ∧ σ' 86 56 = σ 86 56 + 3) := by
  refine qr_start (d := d + 3) qv_e259 (Nat.le_of_ble_eq_true rfl) ?_
  show qr_W (qe L xs vb) (d + 3) qx_e259 _ (0, [(0, .ref 86), (1, .int (qz 1)), (2, .int (qz x2))], [], _, 0, 0)
  have hF0 := qFr_rf [(86, 56)] [120] σ α
  have hz86_56 : (-2147483648) ≤ σ 86 56 ∧ σ 86 56 ≤ 2147483647 := hI.1 86 56
  have hz86_57 : (-2147483648) ≤ σ 86 57 ∧ σ 86 57 ≤ 2147483647 := hI.1 86 57
  have hz86_6 : 0 ≤ σ 86 6 ∧ σ 86 6 ≤ 32 := hI.1 86 6
  refine qr_iload_n 1 rfl rfl rfl ?_
  refine qr_iconst 2 rfl rfl ?_
  refine qr_icmp_ne 19 5 rfl rfl rfl (by decide) (by decide) (fun h1 => ?_) (fun h => False.elim (by omega))
  refine qr_iload_n 20 rfl rfl rfl ?_
  refine qr_bipush 22 rfl (by decide) rfl ?_
  refine qr_icmp_ne 40 25 rfl rfl rfl (by decide) (by decide) (fun h2 => ?_) (fun h => False.elim (by omega))
  refine qr_aload_n 41 rfl rfl rfl ?_
  refine qr_bipush 43 rfl (by decide) rfl ?_
  have hs3 : (-2147483648) ≤ σ 86 56 ∧ σ 86 56 ≤ 2147483647 := hI.1 86 56
  refine qr_callN 46 rfl rfl rfl (sf_257_86 (d := d + 2) hI (by decide) (by omega)) ?_
  rintro _ _ ⟨σ5, α6, rfl, hI7, hG8, hw4, rfl⟩
  have hF9 : qFr [(86, 56)] [120] σ α σ5 α6 := qFr_t hF0 hG8 (by decide) (by decide)
  have hs10 : (-2147483648) ≤ σ5 86 56 ∧ σ5 86 56 ≤ 2147483647 := hI7.1 86 56
  show qr_W (qe L xs vb) (d + 3) qx_e259 _ (46, _, [], qw σ5 α6 κ ρ, 0, 0)
  refine qr_aload_n 47 rfl rfl rfl ?_
  refine qr_aload_n 48 rfl rfl rfl ?_
  refine qr_get 51 rfl rfl rfl (by decide) rfl ?_
  refine qy_v (σ 86 57) ((hG8.1 86 57 (by decide)).trans rfl) ?_
  refine qr_iload_n 52 rfl rfl rfl ?_
  have hc11 : (σ 86 57) = 1 := by omega
  rw [hc11]
  have hs12 : (-2147483648) ≤ σ5 86 56 ∧ σ5 86 56 ≤ 2147483647 := hI7.1 86 56
  have hs13 : (-2147483648) ≤ σ5 86 57 ∧ σ5 86 57 ≤ 2147483647 := hI7.1 86 57
  have hs14 : σ5 86 57 = (σ 86 57) := (hG8.1 86 57 (by decide)).trans rfl
  refine qr_callN 55 rfl rfl rfl (sf_256_86k1_1 (d := d + 0) hI7 r2 (by omega) (by omega)) ?_
  have hs17 : (-2147483648) ≤ σ5 86 56 ∧ σ5 86 56 ≤ 2147483647 := hI7.1 86 56
  rintro _ _ ⟨σ18, α19, rfl, hI20, hG21, v15, rfl, hv15, hp16⟩
  have hF22 : qFr [(86, 56)] [120] σ α σ18 α19 := qFr_t hF9 hG21 (by decide) (by decide)
  have hs23 : (-2147483648) ≤ σ18 86 56 ∧ σ18 86 56 ≤ 2147483647 := hI20.1 86 56
  show qr_W (qe L xs vb) (d + 3) qx_e259 _ (55, _, [.int (qz v15)], qw σ18 α19 κ ρ, 0, 0)
  refine qr_iconst 56 rfl rfl ?_
  refine qr_imul 57 rfl rfl ?_
  refine qy_can (fun v24 hv24 => ?_)
  refine qr_retI rfl rfl (by decide) (by decide) ?_
  have hw25 : σ18 86 56 = (σ18 86 56) := rfl
  exact ⟨_, _, rfl, hI20, hF22, v24, rfl, hv24, by omega⟩

set_option maxHeartbeats 4000000 in
set_option maxRecDepth 20000 in
/-- OneRoofModel.coversAs -/
theorem sf_259_86k2_2 {L : Nat} {xs : Nat → Int} {vb : Bool} {d : Nat} {σ α : Nat → Nat → Int} {κ : Nat → Option Nat} {ρ : Nat} {x2 : Int} (hI : qI σ α κ ρ) (r2 : (-2147483648) ≤ x2 ∧ x2 ≤ 2147483647) (p0 : 0 ≤ σ 86 56 ∧ σ 86 56 ≤ 320) (p1 : σ 86 57 = 2) : qm_T (qe L xs vb) (d + 5) 259 [.ref 86, .int (qz 2), .int (qz x2)] (qw σ α κ ρ) (fun r w' => ∃ σ' α', w' = qw σ' α' κ ρ ∧ qI σ' α' κ ρ ∧ qFr [(86, 56)] [120] σ α σ' α' ∧ ∃ v : Int, r = some (.int (qz v)) ∧ ((-2147483648) ≤ v ∧ v ≤ 2147483647) ∧ σ' 86 56 = σ 86 56 + 4) := by
  refine qr_start (d := d + 4) qv_e259 (Nat.le_of_ble_eq_true rfl) ?_
  show qr_W (qe L xs vb) (d + 4) qx_e259 _ (0, [(0, .ref 86), (1, .int (qz 2)), (2, .int (qz x2))], [], _, 0, 0)
  have hF0 := qFr_rf [(86, 56)] [120] σ α
  have hz86_56 : (-2147483648) ≤ σ 86 56 ∧ σ 86 56 ≤ 2147483647 := hI.1 86 56
  have hz86_57 : (-2147483648) ≤ σ 86 57 ∧ σ 86 57 ≤ 2147483647 := hI.1 86 57
  have hz86_6 : 0 ≤ σ 86 6 ∧ σ 86 6 ≤ 32 := hI.1 86 6
  refine qr_iload_n 1 rfl rfl rfl ?_
  refine qr_iconst 2 rfl rfl ?_
  refine qr_icmp_ne 19 5 rfl rfl rfl (by decide) (by decide) (fun h1 => ?_) (fun h => False.elim (by omega))
  refine qr_iload_n 20 rfl rfl rfl ?_
  refine qr_bipush 22 rfl (by decide) rfl ?_
  refine qr_icmp_ne 40 25 rfl rfl rfl (by decide) (by decide) (fun h2 => ?_) (fun h => False.elim (by omega))
  refine qr_aload_n 41 rfl rfl rfl ?_
  refine qr_bipush 43 rfl (by decide) rfl ?_
  have hs3 : (-2147483648) ≤ σ 86 56 ∧ σ 86 56 ≤ 2147483647 := hI.1 86 56
  refine qr_callN 46 rfl rfl rfl (sf_257_86 (d := d + 3) hI (by decide) (by omega)) ?_
  rintro _ _ ⟨σ5, α6, rfl, hI7, hG8, hw4, rfl⟩
  have hF9 : qFr [(86, 56)] [120] σ α σ5 α6 := qFr_t hF0 hG8 (by decide) (by decide)
  have hs10 : (-2147483648) ≤ σ5 86 56 ∧ σ5 86 56 ≤ 2147483647 := hI7.1 86 56
  show qr_W (qe L xs vb) (d + 4) qx_e259 _ (46, _, [], qw σ5 α6 κ ρ, 0, 0)
  refine qr_aload_n 47 rfl rfl rfl ?_
  refine qr_aload_n 48 rfl rfl rfl ?_
  refine qr_get 51 rfl rfl rfl (by decide) rfl ?_
  refine qy_v (σ 86 57) ((hG8.1 86 57 (by decide)).trans rfl) ?_
  refine qr_iload_n 52 rfl rfl rfl ?_
  have hc11 : (σ 86 57) = 2 := by omega
  rw [hc11]
  have hs12 : (-2147483648) ≤ σ5 86 56 ∧ σ5 86 56 ≤ 2147483647 := hI7.1 86 56
  have hs13 : (-2147483648) ≤ σ5 86 57 ∧ σ5 86 57 ≤ 2147483647 := hI7.1 86 57
  have hs14 : σ5 86 57 = (σ 86 57) := (hG8.1 86 57 (by decide)).trans rfl
  refine qr_callN 55 rfl rfl rfl (sf_256_86k2_2 (d := d + 0) hI7 r2 (by omega) (by omega)) ?_
  have hs17 : (-2147483648) ≤ σ5 86 56 ∧ σ5 86 56 ≤ 2147483647 := hI7.1 86 56
  rintro _ _ ⟨σ18, α19, rfl, hI20, hG21, v15, rfl, hv15, hp16⟩
  have hF22 : qFr [(86, 56)] [120] σ α σ18 α19 := qFr_t hF9 hG21 (by decide) (by decide)
  have hs23 : (-2147483648) ≤ σ18 86 56 ∧ σ18 86 56 ≤ 2147483647 := hI20.1 86 56
  show qr_W (qe L xs vb) (d + 4) qx_e259 _ (55, _, [.int (qz v15)], qw σ18 α19 κ ρ, 0, 0)
  refine qr_iconst 56 rfl rfl ?_
  refine qr_imul 57 rfl rfl ?_
  refine qy_can (fun v24 hv24 => ?_)
  refine qr_retI rfl rfl (by decide) (by decide) ?_
  have hw25 : σ18 86 56 = (σ18 86 56) := rfl
  exact ⟨_, _, rfl, hI20, hF22, v24, rfl, hv24, by omega⟩

set_option maxHeartbeats 4000000 in
set_option maxRecDepth 20000 in
/-- OneRoofModel.coversAs -/
theorem sf_259_86k0_3 {L : Nat} {xs : Nat → Int} {vb : Bool} {d : Nat} {σ α : Nat → Nat → Int} {κ : Nat → Option Nat} {ρ : Nat} {x2 : Int} (hI : qI σ α κ ρ) (r2 : (-2147483648) ≤ x2 ∧ x2 ≤ 2147483647) (p0 : 0 ≤ σ 86 56 ∧ σ 86 56 ≤ 360) (p1 : σ 86 57 = 3) : qm_T (qe L xs vb) (d + 3) 259 [.ref 86, .int (qz 0), .int (qz x2)] (qw σ α κ ρ) (fun r w' => ∃ σ' α', w' = qw σ' α' κ ρ ∧ qI σ' α' κ ρ ∧ qFr [(86, 56)] [120] σ α σ' α' ∧ ∃ v : Int, r = some (.int (qz v)) ∧ ((-2147483648) ≤ v ∧ v ≤ 2147483647) ∧ σ' 86 56 = σ 86 56 + 2) := by
  refine qr_start (d := d + 2) qv_e259 (Nat.le_of_ble_eq_true rfl) ?_
  show qr_W (qe L xs vb) (d + 2) qx_e259 _ (0, [(0, .ref 86), (1, .int (qz 0)), (2, .int (qz x2))], [], _, 0, 0)
  have hF0 := qFr_rf [(86, 56)] [120] σ α
  have hz86_56 : (-2147483648) ≤ σ 86 56 ∧ σ 86 56 ≤ 2147483647 := hI.1 86 56
  have hz86_57 : (-2147483648) ≤ σ 86 57 ∧ σ 86 57 ≤ 2147483647 := hI.1 86 57
  have hz86_6 : 0 ≤ σ 86 6 ∧ σ 86 6 ≤ 32 := hI.1 86 6
  refine qr_iload_n 1 rfl rfl rfl ?_
  refine qr_iconst 2 rfl rfl ?_
  refine qr_icmp_ne 19 5 rfl rfl rfl (by decide) (by decide) (fun h1 => ?_) (fun h => False.elim (by omega))
  refine qr_iload_n 20 rfl rfl rfl ?_
  refine qr_bipush 22 rfl (by decide) rfl ?_
  refine qr_icmp_ne 40 25 rfl rfl rfl (by decide) (by decide) (fun h2 => ?_) (fun h => False.elim (by omega))
  refine qr_aload_n 41 rfl rfl rfl ?_
  refine qr_bipush 43 rfl (by decide) rfl ?_
  have hs3 : (-2147483648) ≤ σ 86 56 ∧ σ 86 56 ≤ 2147483647 := hI.1 86 56
  refine qr_callN 46 rfl rfl rfl (sf_257_86 (d := d + 1) hI (by decide) (by omega)) ?_
  rintro _ _ ⟨σ5, α6, rfl, hI7, hG8, hw4, rfl⟩
  have hF9 : qFr [(86, 56)] [120] σ α σ5 α6 := qFr_t hF0 hG8 (by decide) (by decide)
  have hs10 : (-2147483648) ≤ σ5 86 56 ∧ σ5 86 56 ≤ 2147483647 := hI7.1 86 56
  show qr_W (qe L xs vb) (d + 2) qx_e259 _ (46, _, [], qw σ5 α6 κ ρ, 0, 0)
  refine qr_aload_n 47 rfl rfl rfl ?_
  refine qr_aload_n 48 rfl rfl rfl ?_
  refine qr_get 51 rfl rfl rfl (by decide) rfl ?_
  refine qy_v (σ 86 57) ((hG8.1 86 57 (by decide)).trans rfl) ?_
  refine qr_iload_n 52 rfl rfl rfl ?_
  have hc11 : (σ 86 57) = 3 := by omega
  rw [hc11]
  have hs12 : (-2147483648) ≤ σ5 86 56 ∧ σ5 86 56 ≤ 2147483647 := hI7.1 86 56
  have hs13 : (-2147483648) ≤ σ5 86 57 ∧ σ5 86 57 ≤ 2147483647 := hI7.1 86 57
  have hs14 : σ5 86 57 = (σ 86 57) := (hG8.1 86 57 (by decide)).trans rfl
  refine qr_callN 55 rfl rfl rfl (sf_256_86k3_3 (d := d + 0) hI7 r2 (by omega) (by omega)) ?_
  have hs17 : (-2147483648) ≤ σ5 86 56 ∧ σ5 86 56 ≤ 2147483647 := hI7.1 86 56
  rintro _ _ ⟨σ18, α19, rfl, hI20, hG21, v15, rfl, hv15, hp16⟩
  have hF22 : qFr [(86, 56)] [120] σ α σ18 α19 := qFr_t hF9 hG21 (by decide) (by decide)
  have hs23 : (-2147483648) ≤ σ18 86 56 ∧ σ18 86 56 ≤ 2147483647 := hI20.1 86 56
  show qr_W (qe L xs vb) (d + 2) qx_e259 _ (55, _, [.int (qz v15)], qw σ18 α19 κ ρ, 0, 0)
  refine qr_iconst 56 rfl rfl ?_
  refine qr_imul 57 rfl rfl ?_
  refine qy_can (fun v24 hv24 => ?_)
  refine qr_retI rfl rfl (by decide) (by decide) ?_
  have hw25 : σ18 86 56 = (σ18 86 56) := rfl
  exact ⟨_, _, rfl, hI20, hF22, v24, rfl, hv24, by omega⟩

set_option maxHeartbeats 4000000 in
set_option maxRecDepth 20000 in
/-- OneRoofModel.coversAs -/
theorem sf_259_86k3_3 {L : Nat} {xs : Nat → Int} {vb : Bool} {d : Nat} {σ α : Nat → Nat → Int} {κ : Nat → Option Nat} {ρ : Nat} {x2 : Int} (hI : qI σ α κ ρ) (r2 : (-2147483648) ≤ x2 ∧ x2 ≤ 2147483647) (p0 : 0 ≤ σ 86 56 ∧ σ 86 56 ≤ 340) (p1 : σ 86 57 = 3) : qm_T (qe L xs vb) (d + 4) 259 [.ref 86, .int (qz 3), .int (qz x2)] (qw σ α κ ρ) (fun r w' => ∃ σ' α', w' = qw σ' α' κ ρ ∧ qI σ' α' κ ρ ∧ qFr [(86, 56)] [120] σ α σ' α' ∧ ∃ v : Int, r = some (.int (qz v)) ∧ ((-2147483648) ≤ v ∧ v ≤ 2147483647) ∧ σ' 86 56 = σ 86 56 + 3) := by
  refine qr_start (d := d + 3) qv_e259 (Nat.le_of_ble_eq_true rfl) ?_
  show qr_W (qe L xs vb) (d + 3) qx_e259 _ (0, [(0, .ref 86), (1, .int (qz 3)), (2, .int (qz x2))], [], _, 0, 0)
  have hF0 := qFr_rf [(86, 56)] [120] σ α
  have hz86_56 : (-2147483648) ≤ σ 86 56 ∧ σ 86 56 ≤ 2147483647 := hI.1 86 56
  have hz86_57 : (-2147483648) ≤ σ 86 57 ∧ σ 86 57 ≤ 2147483647 := hI.1 86 57
  have hz86_6 : 0 ≤ σ 86 6 ∧ σ 86 6 ≤ 32 := hI.1 86 6
  refine qr_iload_n 1 rfl rfl rfl ?_
  refine qr_iconst 2 rfl rfl ?_
  refine qr_icmp_ne 19 5 rfl rfl rfl (by decide) (by decide) (fun h => False.elim (by omega)) (fun h1 => ?_)
  refine qr_aload_n 6 rfl rfl rfl ?_
  refine qr_bipush 8 rfl (by decide) rfl ?_
  have hs2 : (-2147483648) ≤ σ 86 56 ∧ σ 86 56 ≤ 2147483647 := hI.1 86 56
  refine qr_callN 11 rfl rfl rfl (sf_257_86 (d := d + 2) hI (by decide) (by omega)) ?_
  rintro _ _ ⟨σ4, α5, rfl, hI6, hG7, hw3, rfl⟩
  have hF8 : qFr [(86, 56)] [120] σ α σ4 α5 := qFr_t hF0 hG7 (by decide) (by decide)
  have hs9 : (-2147483648) ≤ σ4 86 56 ∧ σ4 86 56 ≤ 2147483647 := hI6.1 86 56
  show qr_W (qe L xs vb) (d + 3) qx_e259 _ (11, _, [], qw σ4 α5 κ ρ, 0, 0)
  refine qr_aload_n 12 rfl rfl rfl ?_
  refine qr_iconst 13 rfl rfl ?_
  refine qr_iload_n 14 rfl rfl rfl ?_
  have hs10 : (-2147483648) ≤ σ4 86 56 ∧ σ4 86 56 ≤ 2147483647 := hI6.1 86 56
  have hs11 : (-2147483648) ≤ σ4 86 57 ∧ σ4 86 57 ≤ 2147483647 := hI6.1 86 57
  have hs12 : σ4 86 57 = (σ 86 57) := (hG7.1 86 57 (by decide)).trans rfl
  refine qr_callN 17 rfl rfl rfl (sf_259_86k0_3 (d := d + 0) hI6 r2 (by omega) (by omega)) ?_
  have hs15 : (-2147483648) ≤ σ4 86 56 ∧ σ4 86 56 ≤ 2147483647 := hI6.1 86 56
  rintro _ _ ⟨σ16, α17, rfl, hI18, hG19, v13, rfl, hv13, hp14⟩
  have hF20 : qFr [(86, 56)] [120] σ α σ16 α17 := qFr_t hF8 hG19 (by decide) (by decide)
  have hs21 : (-2147483648) ≤ σ16 86 56 ∧ σ16 86 56 ≤ 2147483647 := hI18.1 86 56
  show qr_W (qe L xs vb) (d + 3) qx_e259 _ (17, _, [.int (qz v13)], qw σ16 α17 κ ρ, 0, 0)
  refine qr_ineg 18 rfl rfl ?_
  refine qy_can (fun v22 hv22 => ?_)
  refine qr_retI rfl rfl (by decide) (by decide) ?_
  have hw23 : σ16 86 56 = (σ16 86 56) := rfl
  exact ⟨_, _, rfl, hI18, hF20, v22, rfl, hv22, by omega⟩

set_option maxHeartbeats 4000000 in
set_option maxRecDepth 20000 in
/-- OneRoofModel.coversAs -/
theorem sf_259_86k4_4 {L : Nat} {xs : Nat → Int} {vb : Bool} {d : Nat} {σ α : Nat → Nat → Int} {κ : Nat → Option Nat} {ρ : Nat} {x2 : Int} (hI : qI σ α κ ρ) (r2 : (-2147483648) ≤ x2 ∧ x2 ≤ 2147483647) (p0 : 0 ≤ σ 86 56 ∧ σ 86 56 ≤ 360) (p1 : σ 86 57 = 4) : qm_T (qe L xs vb) (d + 3) 259 [.ref 86, .int (qz 4), .int (qz x2)] (qw σ α κ ρ) (fun r w' => ∃ σ' α', w' = qw σ' α' κ ρ ∧ qI σ' α' κ ρ ∧ qFr [(86, 56)] [120] σ α σ' α' ∧ ∃ v : Int, r = some (.int (qz v)) ∧ ((-2147483648) ≤ v ∧ v ≤ 2147483647) ∧ σ' 86 56 = σ 86 56 + 2) := by
  refine qr_start (d := d + 2) qv_e259 (Nat.le_of_ble_eq_true rfl) ?_
  show qr_W (qe L xs vb) (d + 2) qx_e259 _ (0, [(0, .ref 86), (1, .int (qz 4)), (2, .int (qz x2))], [], _, 0, 0)
  have hF0 := qFr_rf [(86, 56)] [120] σ α
  have hz86_56 : (-2147483648) ≤ σ 86 56 ∧ σ 86 56 ≤ 2147483647 := hI.1 86 56
  have hz86_57 : (-2147483648) ≤ σ 86 57 ∧ σ 86 57 ≤ 2147483647 := hI.1 86 57
  have hz86_6 : 0 ≤ σ 86 6 ∧ σ 86 6 ≤ 32 := hI.1 86 6
  refine qr_iload_n 1 rfl rfl rfl ?_
  refine qr_iconst 2 rfl rfl ?_
  refine qr_icmp_ne 19 5 rfl rfl rfl (by decide) (by decide) (fun h1 => ?_) (fun h => False.elim (by omega))
  refine qr_iload_n 20 rfl rfl rfl ?_
  refine qr_bipush 22 rfl (by decide) rfl ?_
  refine qr_icmp_ne 40 25 rfl rfl rfl (by decide) (by decide) (fun h2 => ?_) (fun h => False.elim (by omega))
  refine qr_aload_n 41 rfl rfl rfl ?_
  refine qr_bipush 43 rfl (by decide) rfl ?_
  have hs3 : (-2147483648) ≤ σ 86 56 ∧ σ 86 56 ≤ 2147483647 := hI.1 86 56
  refine qr_callN 46 rfl rfl rfl (sf_257_86 (d := d + 1) hI (by decide) (by omega)) ?_
  rintro _ _ ⟨σ5, α6, rfl, hI7, hG8, hw4, rfl⟩
  have hF9 : qFr [(86, 56)] [120] σ α σ5 α6 := qFr_t hF0 hG8 (by decide) (by decide)
  have hs10 : (-2147483648) ≤ σ5 86 56 ∧ σ5 86 56 ≤ 2147483647 := hI7.1 86 56
  show qr_W (qe L xs vb) (d + 2) qx_e259 _ (46, _, [], qw σ5 α6 κ ρ, 0, 0)
  refine qr_aload_n 47 rfl rfl rfl ?_
  refine qr_aload_n 48 rfl rfl rfl ?_
  refine qr_get 51 rfl rfl rfl (by decide) rfl ?_
  refine qy_v (σ 86 57) ((hG8.1 86 57 (by decide)).trans rfl) ?_
  refine qr_iload_n 52 rfl rfl rfl ?_
  have hc11 : (σ 86 57) = 4 := by omega
  rw [hc11]
  have hs12 : (-2147483648) ≤ σ5 86 56 ∧ σ5 86 56 ≤ 2147483647 := hI7.1 86 56
  have hs13 : (-2147483648) ≤ σ5 86 57 ∧ σ5 86 57 ≤ 2147483647 := hI7.1 86 57
  have hs14 : σ5 86 57 = (σ 86 57) := (hG8.1 86 57 (by decide)).trans rfl
  refine qr_callN 55 rfl rfl rfl (sf_256_86k4_4 (d := d + 0) hI7 r2 (by omega) (by omega)) ?_
  have hs17 : (-2147483648) ≤ σ5 86 56 ∧ σ5 86 56 ≤ 2147483647 := hI7.1 86 56
  rintro _ _ ⟨σ18, α19, rfl, hI20, hG21, v15, rfl, hv15, hp16⟩
  have hF22 : qFr [(86, 56)] [120] σ α σ18 α19 := qFr_t hF9 hG21 (by decide) (by decide)
  have hs23 : (-2147483648) ≤ σ18 86 56 ∧ σ18 86 56 ≤ 2147483647 := hI20.1 86 56
  show qr_W (qe L xs vb) (d + 2) qx_e259 _ (55, _, [.int (qz v15)], qw σ18 α19 κ ρ, 0, 0)
  refine qr_iconst 56 rfl rfl ?_
  refine qr_imul 57 rfl rfl ?_
  refine qy_can (fun v24 hv24 => ?_)
  refine qr_retI rfl rfl (by decide) (by decide) ?_
  have hw25 : σ18 86 56 = (σ18 86 56) := rfl
  exact ⟨_, _, rfl, hI20, hF22, v24, rfl, hv24, by omega⟩

set_option maxHeartbeats 4000000 in
set_option maxRecDepth 20000 in
/-- OneRoofModel.coversAs -/
theorem sf_259_86k5_5 {L : Nat} {xs : Nat → Int} {vb : Bool} {d : Nat} {σ α : Nat → Nat → Int} {κ : Nat → Option Nat} {ρ : Nat} {x2 : Int} (hI : qI σ α κ ρ) (r2 : (-2147483648) ≤ x2 ∧ x2 ≤ 2147483647) (p0 : 0 ≤ σ 86 56 ∧ σ 86 56 ≤ 340) (p1 : σ 86 57 = 5) : qm_T (qe L xs vb) (d + 4) 259 [.ref 86, .int (qz 5), .int (qz x2)] (qw σ α κ ρ) (fun r w' => ∃ σ' α', w' = qw σ' α' κ ρ ∧ qI σ' α' κ ρ ∧ qFr [(86, 56)] [120] σ α σ' α' ∧ ∃ v : Int, r = some (.int (qz v)) ∧ ((-2147483648) ≤ v ∧ v ≤ 2147483647) ∧ σ' 86 56 = σ 86 56 + 4) := by
  refine qr_start (d := d + 3) qv_e259 (Nat.le_of_ble_eq_true rfl) ?_
  show qr_W (qe L xs vb) (d + 3) qx_e259 _ (0, [(0, .ref 86), (1, .int (qz 5)), (2, .int (qz x2))], [], _, 0, 0)
  have hF0 := qFr_rf [(86, 56)] [120] σ α
  have hz86_56 : (-2147483648) ≤ σ 86 56 ∧ σ 86 56 ≤ 2147483647 := hI.1 86 56
  have hz86_57 : (-2147483648) ≤ σ 86 57 ∧ σ 86 57 ≤ 2147483647 := hI.1 86 57
  have hz86_6 : 0 ≤ σ 86 6 ∧ σ 86 6 ≤ 32 := hI.1 86 6
  refine qr_iload_n 1 rfl rfl rfl ?_
  refine qr_iconst 2 rfl rfl ?_
  refine qr_icmp_ne 19 5 rfl rfl rfl (by decide) (by decide) (fun h1 => ?_) (fun h => False.elim (by omega))
  refine qr_iload_n 20 rfl rfl rfl ?_
  refine qr_bipush 22 rfl (by decide) rfl ?_
  refine qr_icmp_ne 40 25 rfl rfl rfl (by decide) (by decide) (fun h2 => ?_) (fun h => False.elim (by omega))
  refine qr_aload_n 41 rfl rfl rfl ?_
  refine qr_bipush 43 rfl (by decide) rfl ?_
  have hs3 : (-2147483648) ≤ σ 86 56 ∧ σ 86 56 ≤ 2147483647 := hI.1 86 56
  refine qr_callN 46 rfl rfl rfl (sf_257_86 (d := d + 2) hI (by decide) (by omega)) ?_
  rintro _ _ ⟨σ5, α6, rfl, hI7, hG8, hw4, rfl⟩
  have hF9 : qFr [(86, 56)] [120] σ α σ5 α6 := qFr_t hF0 hG8 (by decide) (by decide)
  have hs10 : (-2147483648) ≤ σ5 86 56 ∧ σ5 86 56 ≤ 2147483647 := hI7.1 86 56
  show qr_W (qe L xs vb) (d + 3) qx_e259 _ (46, _, [], qw σ5 α6 κ ρ, 0, 0)
  refine qr_aload_n 47 rfl rfl rfl ?_
  refine qr_aload_n 48 rfl rfl rfl ?_
  refine qr_get 51 rfl rfl rfl (by decide) rfl ?_
  refine qy_v (σ 86 57) ((hG8.1 86 57 (by decide)).trans rfl) ?_
  refine qr_iload_n 52 rfl rfl rfl ?_
  have hc11 : (σ 86 57) = 5 := by omega
  rw [hc11]
  have hs12 : (-2147483648) ≤ σ5 86 56 ∧ σ5 86 56 ≤ 2147483647 := hI7.1 86 56
  have hs13 : (-2147483648) ≤ σ5 86 57 ∧ σ5 86 57 ≤ 2147483647 := hI7.1 86 57
  have hs14 : σ5 86 57 = (σ 86 57) := (hG8.1 86 57 (by decide)).trans rfl
  refine qr_callN 55 rfl rfl rfl (sf_256_86k5_5 (d := d + 0) hI7 r2 (by omega) (by omega)) ?_
  have hs17 : (-2147483648) ≤ σ5 86 56 ∧ σ5 86 56 ≤ 2147483647 := hI7.1 86 56
  rintro _ _ ⟨σ18, α19, rfl, hI20, hG21, v15, rfl, hv15, hp16⟩
  have hF22 : qFr [(86, 56)] [120] σ α σ18 α19 := qFr_t hF9 hG21 (by decide) (by decide)
  have hs23 : (-2147483648) ≤ σ18 86 56 ∧ σ18 86 56 ≤ 2147483647 := hI20.1 86 56
  show qr_W (qe L xs vb) (d + 3) qx_e259 _ (55, _, [.int (qz v15)], qw σ18 α19 κ ρ, 0, 0)
  refine qr_iconst 56 rfl rfl ?_
  refine qr_imul 57 rfl rfl ?_
  refine qy_can (fun v24 hv24 => ?_)
  refine qr_retI rfl rfl (by decide) (by decide) ?_
  have hw25 : σ18 86 56 = (σ18 86 56) := rfl
  exact ⟨_, _, rfl, hI20, hF22, v24, rfl, hv24, by omega⟩

set_option maxHeartbeats 4000000 in
set_option maxRecDepth 20000 in
/-- OneRoofModel.coversAs -/
theorem sf_259_86k0_6 {L : Nat} {xs : Nat → Int} {vb : Bool} {d : Nat} {σ α : Nat → Nat → Int} {κ : Nat → Option Nat} {ρ : Nat} {x2 : Int} (hI : qI σ α κ ρ) (r2 : (-2147483648) ≤ x2 ∧ x2 ≤ 2147483647) (p0 : 0 ≤ σ 86 56 ∧ σ 86 56 ≤ 360) (p1 : σ 86 57 = 6) : qm_T (qe L xs vb) (d + 3) 259 [.ref 86, .int (qz 0), .int (qz x2)] (qw σ α κ ρ) (fun r w' => ∃ σ' α', w' = qw σ' α' κ ρ ∧ qI σ' α' κ ρ ∧ qFr [(86, 56)] [120] σ α σ' α' ∧ ∃ v : Int, r = some (.int (qz v)) ∧ ((-2147483648) ≤ v ∧ v ≤ 2147483647) ∧ σ' 86 56 = σ 86 56 + 2) := by
  refine qr_start (d := d + 2) qv_e259 (Nat.le_of_ble_eq_true rfl) ?_
  show qr_W (qe L xs vb) (d + 2) qx_e259 _ (0, [(0, .ref 86), (1, .int (qz 0)), (2, .int (qz x2))], [], _, 0, 0)
  have hF0 := qFr_rf [(86, 56)] [120] σ α
  have hz86_56 : (-2147483648) ≤ σ 86 56 ∧ σ 86 56 ≤ 2147483647 := hI.1 86 56
  have hz86_57 : (-2147483648) ≤ σ 86 57 ∧ σ 86 57 ≤ 2147483647 := hI.1 86 57
  have hz86_6 : 0 ≤ σ 86 6 ∧ σ 86 6 ≤ 32 := hI.1 86 6
  refine qr_iload_n 1 rfl rfl rfl ?_
  refine qr_iconst 2 rfl rfl ?_
  refine qr_icmp_ne 19 5 rfl rfl rfl (by decide) (by decide) (fun h1 => ?_) (fun h => False.elim (by omega))
  refine qr_iload_n 20 rfl rfl rfl ?_
  refine qr_bipush 22 rfl (by decide) rfl ?_
  refine qr_icmp_ne 40 25 rfl rfl rfl (by decide) (by decide) (fun h2 => ?_) (fun h => False.elim (by omega))
  refine qr_aload_n 41 rfl rfl rfl ?_
  refine qr_bipush 43 rfl (by decide) rfl ?_
  have hs3 : (-2147483648) ≤ σ 86 56 ∧ σ 86 56 ≤ 2147483647 := hI.1 86 56
  refine qr_callN 46 rfl rfl rfl (sf_257_86 (d := d + 1) hI (by decide) (by omega)) ?_
  rintro _ _ ⟨σ5, α6, rfl, hI7, hG8, hw4, rfl⟩
  have hF9 : qFr [(86, 56)] [120] σ α σ5 α6 := qFr_t hF0 hG8 (by decide) (by decide)
  have hs10 : (-2147483648) ≤ σ5 86 56 ∧ σ5 86 56 ≤ 2147483647 := hI7.1 86 56
  show qr_W (qe L xs vb) (d + 2) qx_e259 _ (46, _, [], qw σ5 α6 κ ρ, 0, 0)
  refine qr_aload_n 47 rfl rfl rfl ?_
  refine qr_aload_n 48 rfl rfl rfl ?_
  refine qr_get 51 rfl rfl rfl (by decide) rfl ?_
  refine qy_v (σ 86 57) ((hG8.1 86 57 (by decide)).trans rfl) ?_
  refine qr_iload_n 52 rfl rfl rfl ?_
  have hc11 : (σ 86 57) = 6 := by omega
  rw [hc11]
  have hs12 : (-2147483648) ≤ σ5 86 56 ∧ σ5 86 56 ≤ 2147483647 := hI7.1 86 56
  have hs13 : (-2147483648) ≤ σ5 86 57 ∧ σ5 86 57 ≤ 2147483647 := hI7.1 86 57
  have hs14 : σ5 86 57 = (σ 86 57) := (hG8.1 86 57 (by decide)).trans rfl
  refine qr_callN 55 rfl rfl rfl (sf_256_86k6_6 (d := d + 0) hI7 r2 (by omega) (by omega)) ?_
  have hs17 : (-2147483648) ≤ σ5 86 56 ∧ σ5 86 56 ≤ 2147483647 := hI7.1 86 56
  rintro _ _ ⟨σ18, α19, rfl, hI20, hG21, v15, rfl, hv15, hp16⟩
  have hF22 : qFr [(86, 56)] [120] σ α σ18 α19 := qFr_t hF9 hG21 (by decide) (by decide)
  have hs23 : (-2147483648) ≤ σ18 86 56 ∧ σ18 86 56 ≤ 2147483647 := hI20.1 86 56
  show qr_W (qe L xs vb) (d + 2) qx_e259 _ (55, _, [.int (qz v15)], qw σ18 α19 κ ρ, 0, 0)
  refine qr_iconst 56 rfl rfl ?_
  refine qr_imul 57 rfl rfl ?_
  refine qy_can (fun v24 hv24 => ?_)
  refine qr_retI rfl rfl (by decide) (by decide) ?_
  have hw25 : σ18 86 56 = (σ18 86 56) := rfl
  exact ⟨_, _, rfl, hI20, hF22, v24, rfl, hv24, by omega⟩

set_option maxHeartbeats 4000000 in
set_option maxRecDepth 20000 in
/-- OneRoofModel.coversAs -/
theorem sf_259_86k6_6 {L : Nat} {xs : Nat → Int} {vb : Bool} {d : Nat} {σ α : Nat → Nat → Int} {κ : Nat → Option Nat} {ρ : Nat} {x2 : Int} (hI : qI σ α κ ρ) (r2 : (-2147483648) ≤ x2 ∧ x2 ≤ 2147483647) (p0 : 0 ≤ σ 86 56 ∧ σ 86 56 ≤ 340) (p1 : σ 86 57 = 6) : qm_T (qe L xs vb) (d + 4) 259 [.ref 86, .int (qz 6), .int (qz x2)] (qw σ α κ ρ) (fun r w' => ∃ σ' α', w' = qw σ' α' κ ρ ∧ qI σ' α' κ ρ ∧ qFr [(86, 56)] [120] σ α σ' α' ∧ ∃ v : Int, r = some (.int (qz v)) ∧ ((-2147483648) ≤ v ∧ v ≤ 2147483647) ∧ σ' 86 56 = σ 86 56 + 3) := by
  refine qr_start (d := d + 3) qv_e259 (Nat.le_of_ble_eq_true rfl) ?_
  show qr_W (qe L xs vb) (d + 3) qx_e259 _ (0, [(0, .ref 86), (1, .int (qz 6)), (2, .int (qz x2))], [], _, 0, 0)
  have hF0 := qFr_rf [(86, 56)] [120] σ α
  have hz86_56 : (-2147483648) ≤ σ 86 56 ∧ σ 86 56 ≤ 2147483647 := hI.1 86 56
  have hz86_57 : (-2147483648) ≤ σ 86 57 ∧ σ 86 57 ≤ 2147483647 := hI.1 86 57
  have hz86_6 : 0 ≤ σ 86 6 ∧ σ 86 6 ≤ 32 := hI.1 86 6
  refine qr_iload_n 1 rfl rfl rfl ?_
  refine qr_iconst 2 rfl rfl ?_
  refine qr_icmp_ne 19 5 rfl rfl rfl (by decide) (by decide) (fun h1 => ?_) (fun h => False.elim (by omega))
  refine qr_iload_n 20 rfl rfl rfl ?_
  refine qr_bipush 22 rfl (by decide) rfl ?_
  refine qr_icmp_ne 40 25 rfl rfl rfl (by decide) (by decide) (fun h => False.elim (by omega)) (fun h2 => ?_)
  refine qr_aload_n 26 rfl rfl rfl ?_
  refine qr_bipush 28 rfl (by decide) rfl ?_
  have hs3 : (-2147483648) ≤ σ 86 56 ∧ σ 86 56 ≤ 2147483647 := hI.1 86 56
  refine qr_callN 31 rfl rfl rfl (sf_257_86 (d := d + 2) hI (by decide) (by omega)) ?_
  rintro _ _ ⟨σ5, α6, rfl, hI7, hG8, hw4, rfl⟩
  have hF9 : qFr [(86, 56)] [120] σ α σ5 α6 := qFr_t hF0 hG8 (by decide) (by decide)
  have hs10 : (-2147483648) ≤ σ5 86 56 ∧ σ5 86 56 ≤ 2147483647 := hI7.1 86 56
  show qr_W (qe L xs vb) (d + 3) qx_e259 _ (31, _, [], qw σ5 α6 κ ρ, 0, 0)
  refine qr_aload_n 32 rfl rfl rfl ?_
  refine qr_iconst 33 rfl rfl ?_
  refine qr_iload_n 34 rfl rfl rfl ?_
  have hs11 : (-2147483648) ≤ σ5 86 56 ∧ σ5 86 56 ≤ 2147483647 := hI7.1 86 56
  have hs12 : (-2147483648) ≤ σ5 86 57 ∧ σ5 86 57 ≤ 2147483647 := hI7.1 86 57
  have hs13 : σ5 86 57 = (σ 86 57) := (hG8.1 86 57 (by decide)).trans rfl
  refine qr_callN 37 rfl rfl rfl (sf_259_86k0_6 (d := d + 0) hI7 r2 (by omega) (by omega)) ?_
  have hs16 : (-2147483648) ≤ σ5 86 56 ∧ σ5 86 56 ≤ 2147483647 := hI7.1 86 56
  rintro _ _ ⟨σ17, α18, rfl, hI19, hG20, v14, rfl, hv14, hp15⟩
  have hF21 : qFr [(86, 56)] [120] σ α σ17 α18 := qFr_t hF9 hG20 (by decide) (by decide)
  have hs22 : (-2147483648) ≤ σ17 86 56 ∧ σ17 86 56 ≤ 2147483647 := hI19.1 86 56
  show qr_W (qe L xs vb) (d + 3) qx_e259 _ (37, _, [.int (qz v14)], qw σ17 α18 κ ρ, 0, 0)
  refine qr_iconst 38 rfl rfl ?_
  refine qr_imul 39 rfl rfl ?_
  refine qy_can (fun v23 hv23 => ?_)
  refine qr_retI rfl rfl (by decide) (by decide) ?_
  have hw24 : σ17 86 56 = (σ17 86 56) := rfl
  exact ⟨_, _, rfl, hI19, hF21, v23, rfl, hv23, by omega⟩

set_option maxHeartbeats 4000000 in
set_option maxRecDepth 20000 in
/-- OneRoofModel.coversAs -/
theorem sf_259_86kp_p {L : Nat} {xs : Nat → Int} {vb : Bool} {d : Nat} {σ α : Nat → Nat → Int} {κ : Nat → Option Nat} {ρ : Nat} {x1 : Int} {x2 : Int} (hI : qI σ α κ ρ) (r1 : 7 ≤ x1 ∧ x1 ≤ 2147483647) (r2 : (-2147483648) ≤ x2 ∧ x2 ≤ 2147483647) (p0 : 0 ≤ σ 86 56 ∧ σ 86 56 ≤ 360) (p1 : 6 < σ 86 57) : qm_T (qe L xs vb) (d + 3) 259 [.ref 86, .int (qz x1), .int (qz x2)] (qw σ α κ ρ) (fun r w' => ∃ σ' α', w' = qw σ' α' κ ρ ∧ qI σ' α' κ ρ ∧ qFr [(86, 56)] [120] σ α σ' α' ∧ ∃ v : Int, r = some (.int (qz v)) ∧ ((-2147483648) ≤ v ∧ v ≤ 2147483647) ∧ σ' 86 56 = σ 86 56 + 2) := by
  refine qr_start (d := d + 2) qv_e259 (Nat.le_of_ble_eq_true rfl) ?_
  show qr_W (qe L xs vb) (d + 2) qx_e259 _ (0, [(0, .ref 86), (1, .int (qz x1)), (2, .int (qz x2))], [], _, 0, 0)
  have hF0 := qFr_rf [(86, 56)] [120] σ α
  have hz86_56 : (-2147483648) ≤ σ 86 56 ∧ σ 86 56 ≤ 2147483647 := hI.1 86 56
  have hz86_57 : (-2147483648) ≤ σ 86 57 ∧ σ 86 57 ≤ 2147483647 := hI.1 86 57
  have hz86_6 : 0 ≤ σ 86 6 ∧ σ 86 6 ≤ 32 := hI.1 86 6
  refine qr_iload_n 1 rfl rfl rfl ?_
  refine qr_iconst 2 rfl rfl ?_
  refine qr_icmp_ne 19 5 rfl rfl rfl (qrg r1 (by decide) (by decide)) (by decide) (fun h1 => ?_) (fun h => False.elim (by omega))
  refine qr_iload_n 20 rfl rfl rfl ?_
  refine qr_bipush 22 rfl (by decide) rfl ?_
  refine qr_icmp_ne 40 25 rfl rfl rfl (qrg r1 (by decide) (by decide)) (by decide) (fun h2 => ?_) (fun h => False.elim (by omega))
  refine qr_aload_n 41 rfl rfl rfl ?_
  refine qr_bipush 43 rfl (by decide) rfl ?_
  have hs3 : (-2147483648) ≤ σ 86 56 ∧ σ 86 56 ≤ 2147483647 := hI.1 86 56
  refine qr_callN 46 rfl rfl rfl (sf_257_86 (d := d + 1) hI (by decide) (by omega)) ?_
  rintro _ _ ⟨σ5, α6, rfl, hI7, hG8, hw4, rfl⟩
  have hF9 : qFr [(86, 56)] [120] σ α σ5 α6 := qFr_t hF0 hG8 (by decide) (by decide)
  have hs10 : (-2147483648) ≤ σ5 86 56 ∧ σ5 86 56 ≤ 2147483647 := hI7.1 86 56
  show qr_W (qe L xs vb) (d + 2) qx_e259 _ (46, _, [], qw σ5 α6 κ ρ, 0, 0)
  refine qr_aload_n 47 rfl rfl rfl ?_
  refine qr_aload_n 48 rfl rfl rfl ?_
  refine qr_get 51 rfl rfl rfl (by decide) rfl ?_
  refine qy_v (σ 86 57) ((hG8.1 86 57 (by decide)).trans rfl) ?_
  refine qr_iload_n 52 rfl rfl rfl ?_
  have hs11 : (-2147483648) ≤ σ5 86 56 ∧ σ5 86 56 ≤ 2147483647 := hI7.1 86 56
  have hs12 : (-2147483648) ≤ σ5 86 57 ∧ σ5 86 57 ≤ 2147483647 := hI7.1 86 57
  have hs13 : σ5 86 57 = (σ 86 57) := (hG8.1 86 57 (by decide)).trans rfl
  refine qr_callN 55 rfl rfl rfl (sf_256_86kp_p (d := d + 0) hI7 (by omega) r2 (by omega) (by omega)) ?_
  have hs16 : (-2147483648) ≤ σ5 86 56 ∧ σ5 86 56 ≤ 2147483647 := hI7.1 86 56
  rintro _ _ ⟨σ17, α18, rfl, hI19, hG20, v14, rfl, hv14, hp15⟩
  have hF21 : qFr [(86, 56)] [120] σ α σ17 α18 := qFr_t hF9 hG20 (by decide) (by decide)
  have hs22 : (-2147483648) ≤ σ17 86 56 ∧ σ17 86 56 ≤ 2147483647 := hI19.1 86 56
  show qr_W (qe L xs vb) (d + 2) qx_e259 _ (55, _, [.int (qz v14)], qw σ17 α18 κ ρ, 0, 0)
  refine qr_iconst 56 rfl rfl ?_
  refine qr_imul 57 rfl rfl ?_
  refine qy_can (fun v23 hv23 => ?_)
  refine qr_retI rfl rfl (by decide) (by decide) ?_
  have hw24 : σ17 86 56 = (σ17 86 56) := rfl
  exact ⟨_, _, rfl, hI19, hF21, v23, rfl, hv23, by omega⟩

set_option maxHeartbeats 4000000 in
set_option maxRecDepth 20000 in
/-- OneRoofModel.coversAs -/
theorem sf_259_86any {L : Nat} {xs : Nat → Int} {vb : Bool} {d : Nat} {σ α : Nat → Nat → Int} {κ : Nat → Option Nat} {ρ : Nat} {x1 : Int} {x2 : Int} (hI : qI σ α κ ρ) (r1 : (-2147483648) ≤ x1 ∧ x1 ≤ 2147483647) (r2 : (-2147483648) ≤ x2 ∧ x2 ≤ 2147483647) (p0 : σ 86 56 = 0) (p1 : x1 = σ 86 57) : qm_T (qe L xs vb) (d + 5) 259 [.ref 86, .int (qz x1), .int (qz x2)] (qw σ α κ ρ) (fun r w' => ∃ σ' α', w' = qw σ' α' κ ρ ∧ qI σ' α' κ ρ ∧ qFr [(86, 56)] [120] σ α σ' α' ∧ ∃ v : Int, r = some (.int (qz v)) ∧ ((-2147483648) ≤ v ∧ v ≤ 2147483647)) := by
  have h1 : x1 < 0 ∨ x1 = 0 ∨ x1 = 1 ∨ x1 = 2 ∨ x1 = 3 ∨ x1 = 4 ∨ x1 = 5 ∨ x1 = 6 ∨ 6 < x1 := by omega
  rcases h1 with h1 | h1 | h1 | h1 | h1 | h1 | h1 | h1 | h1
  · skip
    refine qr_mono (sf_259_86km_m (d := d + 2) hI (by omega) (by omega) (by omega) (by omega)) ?_
    rintro r w2 ⟨σ2, α2, h2, h3, h4, v, h5, h6, h7⟩
    exact ⟨σ2, α2, h2, h3, h4, v, h5, h6⟩
  · rw [h1]
    refine qr_mono (sf_259_86k0_0 (d := d + 2) hI (by omega) (by omega) (by omega)) ?_
    rintro r w2 ⟨σ2, α2, h2, h3, h4, v, h5, h6, h7⟩
    exact ⟨σ2, α2, h2, h3, h4, v, h5, h6⟩
  · rw [h1]
    refine qr_mono (sf_259_86k1_1 (d := d + 1) hI (by omega) (by omega) (by omega)) ?_
    rintro r w2 ⟨σ2, α2, h2, h3, h4, v, h5, h6, h7⟩
    exact ⟨σ2, α2, h2, h3, h4, v, h5, h6⟩
  · rw [h1]
    refine qr_mono (sf_259_86k2_2 (d := d + 0) hI (by omega) (by omega) (by omega)) ?_
    rintro r w2 ⟨σ2, α2, h2, h3, h4, v, h5, h6, h7⟩
    exact ⟨σ2, α2, h2, h3, h4, v, h5, h6⟩
  · rw [h1]
    refine qr_mono (sf_259_86k3_3 (d := d + 1) hI (by omega) (by omega) (by omega)) ?_
    rintro r w2 ⟨σ2, α2, h2, h3, h4, v, h5, h6, h7⟩
    exact ⟨σ2, α2, h2, h3, h4, v, h5, h6⟩
  · rw [h1]
    refine qr_mono (sf_259_86k4_4 (d := d + 2) hI (by omega) (by omega) (by omega)) ?_
    rintro r w2 ⟨σ2, α2, h2, h3, h4, v, h5, h6, h7⟩
    exact ⟨σ2, α2, h2, h3, h4, v, h5, h6⟩
  · rw [h1]
    refine qr_mono (sf_259_86k5_5 (d := d + 1) hI (by omega) (by omega) (by omega)) ?_
    rintro r w2 ⟨σ2, α2, h2, h3, h4, v, h5, h6, h7⟩
    exact ⟨σ2, α2, h2, h3, h4, v, h5, h6⟩
  · rw [h1]
    refine qr_mono (sf_259_86k6_6 (d := d + 1) hI (by omega) (by omega) (by omega)) ?_
    rintro r w2 ⟨σ2, α2, h2, h3, h4, v, h5, h6, h7⟩
    exact ⟨σ2, α2, h2, h3, h4, v, h5, h6⟩
  · skip
    refine qr_mono (sf_259_86kp_p (d := d + 2) hI (by omega) (by omega) (by omega) (by omega)) ?_
    rintro r w2 ⟨σ2, α2, h2, h3, h4, v, h5, h6, h7⟩
    exact ⟨σ2, α2, h2, h3, h4, v, h5, h6⟩

set_option maxHeartbeats 4000000 in
set_option maxRecDepth 20000 in
/-- OneRoofModel.endsAs -/
theorem sf_258_86km_m {L : Nat} {xs : Nat → Int} {vb : Bool} {d : Nat} {σ α : Nat → Nat → Int} {κ : Nat → Option Nat} {ρ : Nat} {x1 : Int} {x2 : Int} (hI : qI σ α κ ρ) (r1 : (-2147483648) ≤ x1 ∧ x1 ≤ (-1)) (r2 : (-2147483648) ≤ x2 ∧ x2 ≤ 2147483647) (p0 : 0 ≤ σ 86 56 ∧ σ 86 56 ≤ 380) (p1 : σ 86 57 < 0) : qm_T (qe L xs vb) (d + 2) 258 [.ref 86, .int (qz x1), .int (qz x2)] (qw σ α κ ρ) (fun r w' => ∃ σ' α', w' = qw σ' α' κ ρ ∧ qI σ' α' κ ρ ∧ qFr [(86, 56)] [120] σ α σ' α' ∧ ∃ v : Int, r = some (.int (qz v)) ∧ ((-2147483648) ≤ v ∧ v ≤ 2147483647) ∧ σ' 86 56 = σ 86 56 + 1) := by
  refine qr_start (d := d + 1) qv_e258 (Nat.le_of_ble_eq_true rfl) ?_
  show qr_W (qe L xs vb) (d + 1) qx_e258 _ (0, [(0, .ref 86), (1, .int (qz x1)), (2, .int (qz x2))], [], _, 0, 0)
  have hF0 := qFr_rf [(86, 56)] [120] σ α
  have hz86_56 : (-2147483648) ≤ σ 86 56 ∧ σ 86 56 ≤ 2147483647 := hI.1 86 56
  have hz86_57 : (-2147483648) ≤ σ 86 57 ∧ σ 86 57 ≤ 2147483647 := hI.1 86 57
  have hz86_6 : 0 ≤ σ 86 6 ∧ σ 86 6 ≤ 32 := hI.1 86 6
  refine qr_iload_n 1 rfl rfl rfl ?_
  refine qr_iconst 2 rfl rfl ?_
  refine qr_icmp_ne 20 5 rfl rfl rfl (qrg r1 (by decide) (by decide)) (by decide) (fun h1 => ?_) (fun h => False.elim (by omega))
  refine qr_iload_n 21 rfl rfl rfl ?_
  refine qr_bipush 23 rfl (by decide) rfl ?_
  refine qr_icmp_ne 51 26 rfl rfl rfl (qrg r1 (by decide) (by decide)) (by decide) (fun h2 => ?_) (fun h => False.elim (by omega))
  refine qr_aload_n 52 rfl rfl rfl ?_
  refine qr_bipush 54 rfl (by decide) rfl ?_
  have hs3 : (-2147483648) ≤ σ 86 56 ∧ σ 86 56 ≤ 2147483647 := hI.1 86 56
  refine qr_callN 57 rfl rfl rfl (sf_257_86 (d := d + 0) hI (by decide) (by omega)) ?_
  rintro _ _ ⟨σ5, α6, rfl, hI7, hG8, hw4, rfl⟩
  have hF9 : qFr [(86, 56)] [120] σ α σ5 α6 := qFr_t hF0 hG8 (by decide) (by decide)
  have hs10 : (-2147483648) ≤ σ5 86 56 ∧ σ5 86 56 ≤ 2147483647 := hI7.1 86 56
  show qr_W (qe L xs vb) (d + 1) qx_e258 _ (57, _, [], qw σ5 α6 κ ρ, 0, 0)
  refine qr_iload_n 58 rfl rfl rfl ?_
  refine qr_aload_n 59 rfl rfl rfl ?_
  refine qr_get 62 rfl rfl rfl (by decide) rfl ?_
  have hs11 : (-2147483648) ≤ σ5 86 58 ∧ σ5 86 58 ≤ 2147483647 := hI7.1 86 58
  refine qr_ixor 63 rfl rfl ?_
  refine qy_can (fun v12 hv12 => ?_)
  refine qr_retI rfl rfl (by decide) (by decide) ?_
  have hw13 : σ5 86 56 = (σ5 86 56) := rfl
  exact ⟨_, _, rfl, hI7, hF9, v12, rfl, hv12, by omega⟩

set_option maxHeartbeats 4000000 in
set_option maxRecDepth 20000 in
/-- OneRoofModel.endsAs -/
theorem sf_258_86k0_0 {L : Nat} {xs : Nat → Int} {vb : Bool} {d : Nat} {σ α : Nat → Nat → Int} {κ : Nat → Option Nat} {ρ : Nat} {x2 : Int} (hI : qI σ α κ ρ) (r2 : (-2147483648) ≤ x2 ∧ x2 ≤ 2147483647) (p0 : 0 ≤ σ 86 56 ∧ σ 86 56 ≤ 380) (p1 : σ 86 57 = 0) : qm_T (qe L xs vb) (d + 2) 258 [.ref 86, .int (qz 0), .int (qz x2)] (qw σ α κ ρ) (fun r w' => ∃ σ' α', w' = qw σ' α' κ ρ ∧ qI σ' α' κ ρ ∧ qFr [(86, 56)] [120] σ α σ' α' ∧ ∃ v : Int, r = some (.int (qz v)) ∧ ((-2147483648) ≤ v ∧ v ≤ 2147483647) ∧ σ' 86 56 = σ 86 56 + 1) := by
  refine qr_start (d := d + 1) qv_e258 (Nat.le_of_ble_eq_true rfl) ?_
  show qr_W (qe L xs vb) (d + 1) qx_e258 _ (0, [(0, .ref 86), (1, .int (qz 0)), (2, .int (qz x2))], [], _, 0, 0)
  have hF0 := qFr_rf [(86, 56)] [120] σ α
  have hz86_56 : (-2147483648) ≤ σ 86 56 ∧ σ 86 56 ≤ 2147483647 := hI.1 86 56
  have hz86_57 : (-2147483648) ≤ σ 86 57 ∧ σ 86 57 ≤ 2147483647 := hI.1 86 57
  have hz86_6 : 0 ≤ σ 86 6 ∧ σ 86 6 ≤ 32 := hI.1 86 6
  refine qr_iload_n 1 rfl rfl rfl ?_
  refine qr_iconst 2 rfl rfl ?_
  refine qr_icmp_ne 20 5 rfl rfl rfl (by decide) (by decide) (fun h1 => ?_) (fun h => False.elim (by omega))
  refine qr_iload_n 21 rfl rfl rfl ?_
  refine qr_bipush 23 rfl (by decide) rfl ?_
  refine qr_icmp_ne 51 26 rfl rfl rfl (by decide) (by decide) (fun h2 => ?_) (fun h => False.elim (by omega))
  refine qr_aload_n 52 rfl rfl rfl ?_
  refine qr_bipush 54 rfl (by decide) rfl ?_
  have hs3 : (-2147483648) ≤ σ 86 56 ∧ σ 86 56 ≤ 2147483647 := hI.1 86 56
  refine qr_callN 57 rfl rfl rfl (sf_257_86 (d := d + 0) hI (by decide) (by omega)) ?_
  rintro _ _ ⟨σ5, α6, rfl, hI7, hG8, hw4, rfl⟩
  have hF9 : qFr [(86, 56)] [120] σ α σ5 α6 := qFr_t hF0 hG8 (by decide) (by decide)
  have hs10 : (-2147483648) ≤ σ5 86 56 ∧ σ5 86 56 ≤ 2147483647 := hI7.1 86 56
  show qr_W (qe L xs vb) (d + 1) qx_e258 _ (57, _, [], qw σ5 α6 κ ρ, 0, 0)
  refine qr_iload_n 58 rfl rfl rfl ?_
  refine qr_aload_n 59 rfl rfl rfl ?_
  refine qr_get 62 rfl rfl rfl (by decide) rfl ?_
  have hs11 : (-2147483648) ≤ σ5 86 58 ∧ σ5 86 58 ≤ 2147483647 := hI7.1 86 58
  refine qr_ixor 63 rfl rfl ?_
  refine qy_can (fun v12 hv12 => ?_)
  refine qr_retI rfl rfl (by decide) (by decide) ?_
  have hw13 : σ5 86 56 = (σ5 86 56) := rfl
  exact ⟨_, _, rfl, hI7, hF9, v12, rfl, hv12, by omega⟩

set_option maxHeartbeats 4000000 in
set_option maxRecDepth 20000 in
/-- OneRoofModel.endsAs -/
theorem sf_258_86k1_1 {L : Nat} {xs : Nat → Int} {vb : Bool} {d : Nat} {σ α : Nat → Nat → Int} {κ : Nat → Option Nat} {ρ : Nat} {x2 : Int} (hI : qI σ α κ ρ) (r2 : (-2147483648) ≤ x2 ∧ x2 ≤ 2147483647) (p0 : 0 ≤ σ 86 56 ∧ σ 86 56 ≤ 380) (p1 : σ 86 57 = 1) : qm_T (qe L xs vb) (d + 2) 258 [.ref 86, .int (qz 1), .int (qz x2)] (qw σ α κ ρ) (fun r w' => ∃ σ' α', w' = qw σ' α' κ ρ ∧ qI σ' α' κ ρ ∧ qFr [(86, 56)] [120] σ α σ' α' ∧ ∃ v : Int, r = some (.int (qz v)) ∧ ((-2147483648) ≤ v ∧ v ≤ 2147483647) ∧ σ' 86 56 = σ 86 56 + 1) := by
  refine qr_start (d := d + 1) qv_e258 (Nat.le_of_ble_eq_true rfl) ?_
  show qr_W (qe L xs vb) (d + 1) qx_e258 _ (0, [(0, .ref 86), (1, .int (qz 1)), (2, .int (qz x2))], [], _, 0, 0)
  have hF0 := qFr_rf [(86, 56)] [120] σ α
  have hz86_56 : (-2147483648) ≤ σ 86 56 ∧ σ 86 56 ≤ 2147483647 := hI.1 86 56
  have hz86_57 : (-2147483648) ≤ σ 86 57 ∧ σ 86 57 ≤ 2147483647 := hI.1 86 57
  have hz86_6 : 0 ≤ σ 86 6 ∧ σ 86 6 ≤ 32 := hI.1 86 6
  refine qr_iload_n 1 rfl rfl rfl ?_
  refine qr_iconst 2 rfl rfl ?_
  refine qr_icmp_ne 20 5 rfl rfl rfl (by decide) (by decide) (fun h1 => ?_) (fun h => False.elim (by omega))
  refine qr_iload_n 21 rfl rfl rfl ?_
  refine qr_bipush 23 rfl (by decide) rfl ?_
  refine qr_icmp_ne 51 26 rfl rfl rfl (by decide) (by decide) (fun h2 => ?_) (fun h => False.elim (by omega))
  refine qr_aload_n 52 rfl rfl rfl ?_
  refine qr_bipush 54 rfl (by decide) rfl ?_
  have hs3 : (-2147483648) ≤ σ 86 56 ∧ σ 86 56 ≤ 2147483647 := hI.1 86 56
  refine qr_callN 57 rfl rfl rfl (sf_257_86 (d := d + 0) hI (by decide) (by omega)) ?_
  rintro _ _ ⟨σ5, α6, rfl, hI7, hG8, hw4, rfl⟩
  have hF9 : qFr [(86, 56)] [120] σ α σ5 α6 := qFr_t hF0 hG8 (by decide) (by decide)
  have hs10 : (-2147483648) ≤ σ5 86 56 ∧ σ5 86 56 ≤ 2147483647 := hI7.1 86 56
  show qr_W (qe L xs vb) (d + 1) qx_e258 _ (57, _, [], qw σ5 α6 κ ρ, 0, 0)
  refine qr_iload_n 58 rfl rfl rfl ?_
  refine qr_aload_n 59 rfl rfl rfl ?_
  refine qr_get 62 rfl rfl rfl (by decide) rfl ?_
  have hs11 : (-2147483648) ≤ σ5 86 58 ∧ σ5 86 58 ≤ 2147483647 := hI7.1 86 58
  refine qr_ixor 63 rfl rfl ?_
  refine qy_can (fun v12 hv12 => ?_)
  refine qr_retI rfl rfl (by decide) (by decide) ?_
  have hw13 : σ5 86 56 = (σ5 86 56) := rfl
  exact ⟨_, _, rfl, hI7, hF9, v12, rfl, hv12, by omega⟩

set_option maxHeartbeats 4000000 in
set_option maxRecDepth 20000 in
/-- OneRoofModel.endsAs -/
theorem sf_258_86k1_2 {L : Nat} {xs : Nat → Int} {vb : Bool} {d : Nat} {σ α : Nat → Nat → Int} {κ : Nat → Option Nat} {ρ : Nat} {x2 : Int} (hI : qI σ α κ ρ) (r2 : (-2147483648) ≤ x2 ∧ x2 ≤ 2147483647) (p0 : 0 ≤ σ 86 56 ∧ σ 86 56 ≤ 380) (p1 : σ 86 57 = 2) : qm_T (qe L xs vb) (d + 2) 258 [.ref 86, .int (qz 1), .int (qz x2)] (qw σ α κ ρ) (fun r w' => ∃ σ' α', w' = qw σ' α' κ ρ ∧ qI σ' α' κ ρ ∧ qFr [(86, 56)] [120] σ α σ' α' ∧ ∃ v : Int, r = some (.int (qz v)) ∧ ((-2147483648) ≤ v ∧ v ≤ 2147483647) ∧ σ' 86 56 = σ 86 56 + 1) := by
  refine qr_start (d := d + 1) qv_e258 (Nat.le_of_ble_eq_true rfl) ?_
  show qr_W (qe L xs vb) (d + 1) qx_e258 _ (0, [(0, .ref 86), (1, .int (qz 1)), (2, .int (qz x2))], [], _, 0, 0)
  have hF0 := qFr_rf [(86, 56)] [120] σ α
  have hz86_56 : (-2147483648) ≤ σ 86 56 ∧ σ 86 56 ≤ 2147483647 := hI.1 86 56
  have hz86_57 : (-2147483648) ≤ σ 86 57 ∧ σ 86 57 ≤ 2147483647 := hI.1 86 57
  have hz86_6 : 0 ≤ σ 86 6 ∧ σ 86 6 ≤ 32 := hI.1 86 6
  refine qr_iload_n 1 rfl rfl rfl ?_
  refine qr_iconst 2 rfl rfl ?_
  refine qr_icmp_ne 20 5 rfl rfl rfl (by decide) (by decide) (fun h1 => ?_) (fun h => False.elim (by omega))
  refine qr_iload_n 21 rfl rfl rfl ?_
  refine qr_bipush 23 rfl (by decide) rfl ?_
  refine qr_icmp_ne 51 26 rfl rfl rfl (by decide) (by decide) (fun h2 => ?_) (fun h => False.elim (by omega))
  refine qr_aload_n 52 rfl rfl rfl ?_
  refine qr_bipush 54 rfl (by decide) rfl ?_
  have hs3 : (-2147483648) ≤ σ 86 56 ∧ σ 86 56 ≤ 2147483647 := hI.1 86 56
  refine qr_callN 57 rfl rfl rfl (sf_257_86 (d := d + 0) hI (by decide) (by omega)) ?_
  rintro _ _ ⟨σ5, α6, rfl, hI7, hG8, hw4, rfl⟩
  have hF9 : qFr [(86, 56)] [120] σ α σ5 α6 := qFr_t hF0 hG8 (by decide) (by decide)
  have hs10 : (-2147483648) ≤ σ5 86 56 ∧ σ5 86 56 ≤ 2147483647 := hI7.1 86 56
  show qr_W (qe L xs vb) (d + 1) qx_e258 _ (57, _, [], qw σ5 α6 κ ρ, 0, 0)
  refine qr_iload_n 58 rfl rfl rfl ?_
  refine qr_aload_n 59 rfl rfl rfl ?_
  refine qr_get 62 rfl rfl rfl (by decide) rfl ?_
  have hs11 : (-2147483648) ≤ σ5 86 58 ∧ σ5 86 58 ≤ 2147483647 := hI7.1 86 58
  refine qr_ixor 63 rfl rfl ?_
  refine qy_can (fun v12 hv12 => ?_)
  refine qr_retI rfl rfl (by decide) (by decide) ?_
  have hw13 : σ5 86 56 = (σ5 86 56) := rfl
  exact ⟨_, _, rfl, hI7, hF9, v12, rfl, hv12, by omega⟩

set_option maxHeartbeats 4000000 in
set_option maxRecDepth 20000 in
/-- OneRoofModel.endsAs -/
theorem sf_258_86k2_2 {L : Nat} {xs : Nat → Int} {vb : Bool} {d : Nat} {σ α : Nat → Nat → Int} {κ : Nat → Option Nat} {ρ : Nat} {x2 : Int} (hI : qI σ α κ ρ) (r2 : (-2147483648) ≤ x2 ∧ x2 ≤ 2147483647) (p0 : 0 ≤ σ 86 56 ∧ σ 86 56 ≤ 360) (p1 : σ 86 57 = 2) : qm_T (qe L xs vb) (d + 3) 258 [.ref 86, .int (qz 2), .int (qz x2)] (qw σ α κ ρ) (fun r w' => ∃ σ' α', w' = qw σ' α' κ ρ ∧ qI σ' α' κ ρ ∧ qFr [(86, 56)] [120] σ α σ' α' ∧ ∃ v : Int, r = some (.int (qz v)) ∧ ((-2147483648) ≤ v ∧ v ≤ 2147483647) ∧ σ' 86 56 = σ 86 56 + 2) := by
  refine qr_start (d := d + 2) qv_e258 (Nat.le_of_ble_eq_true rfl) ?_
  show qr_W (qe L xs vb) (d + 2) qx_e258 _ (0, [(0, .ref 86), (1, .int (qz 2)), (2, .int (qz x2))], [], _, 0, 0)
  have hF0 := qFr_rf [(86, 56)] [120] σ α
  have hz86_56 : (-2147483648) ≤ σ 86 56 ∧ σ 86 56 ≤ 2147483647 := hI.1 86 56
  have hz86_57 : (-2147483648) ≤ σ 86 57 ∧ σ 86 57 ≤ 2147483647 := hI.1 86 57
  have hz86_6 : 0 ≤ σ 86 6 ∧ σ 86 6 ≤ 32 := hI.1 86 6
  refine qr_iload_n 1 rfl rfl rfl ?_
  refine qr_iconst 2 rfl rfl ?_
  refine qr_icmp_ne 20 5 rfl rfl rfl (by decide) (by decide) (fun h => False.elim (by omega)) (fun h1 => ?_)
  refine qr_aload_n 6 rfl rfl rfl ?_
  refine qr_bipush 8 rfl (by decide) rfl ?_
  have hs2 : (-2147483648) ≤ σ 86 56 ∧ σ 86 56 ≤ 2147483647 := hI.1 86 56
  refine qr_callN 11 rfl rfl rfl (sf_257_86 (d := d + 1) hI (by decide) (by omega)) ?_
  rintro _ _ ⟨σ4, α5, rfl, hI6, hG7, hw3, rfl⟩
  have hF8 : qFr [(86, 56)] [120] σ α σ4 α5 := qFr_t hF0 hG7 (by decide) (by decide)
  have hs9 : (-2147483648) ≤ σ4 86 56 ∧ σ4 86 56 ≤ 2147483647 := hI6.1 86 56
  show qr_W (qe L xs vb) (d + 2) qx_e258 _ (11, _, [], qw σ4 α5 κ ρ, 0, 0)
  refine qr_aload_n 12 rfl rfl rfl ?_
  refine qr_iconst 13 rfl rfl ?_
  refine qr_iload_n 14 rfl rfl rfl ?_
  have hs10 : (-2147483648) ≤ σ4 86 56 ∧ σ4 86 56 ≤ 2147483647 := hI6.1 86 56
  have hs11 : (-2147483648) ≤ σ4 86 57 ∧ σ4 86 57 ≤ 2147483647 := hI6.1 86 57
  have hs12 : σ4 86 57 = (σ 86 57) := (hG7.1 86 57 (by decide)).trans rfl
  refine qr_callN 17 rfl rfl rfl (sf_258_86k1_2 (d := d + 0) hI6 r2 (by omega) (by omega)) ?_
  have hs15 : (-2147483648) ≤ σ4 86 56 ∧ σ4 86 56 ≤ 2147483647 := hI6.1 86 56
  rintro _ _ ⟨σ16, α17, rfl, hI18, hG19, v13, rfl, hv13, hp14⟩
  have hF20 : qFr [(86, 56)] [120] σ α σ16 α17 := qFr_t hF8 hG19 (by decide) (by decide)
  have hs21 : (-2147483648) ≤ σ16 86 56 ∧ σ16 86 56 ≤ 2147483647 := hI18.1 86 56
  show qr_W (qe L xs vb) (d + 2) qx_e258 _ (17, _, [.int (qz v13)], qw σ16 α17 κ ρ, 0, 0)
  refine qr_iconst 18 rfl rfl ?_
  refine qr_imul 19 rfl rfl ?_
  refine qy_can (fun v22 hv22 => ?_)
  refine qr_retI rfl rfl (by decide) (by decide) ?_
  have hw23 : σ16 86 56 = (σ16 86 56) := rfl
  exact ⟨_, _, rfl, hI18, hF20, v22, rfl, hv22, by omega⟩

set_option maxHeartbeats 4000000 in
set_option maxRecDepth 20000 in
/-- OneRoofModel.endsAs -/
theorem sf_258_86k3_3 {L : Nat} {xs : Nat → Int} {vb : Bool} {d : Nat} {σ α : Nat → Nat → Int} {κ : Nat → Option Nat} {ρ : Nat} {x2 : Int} (hI : qI σ α κ ρ) (r2 : (-2147483648) ≤ x2 ∧ x2 ≤ 2147483647) (p0 : 0 ≤ σ 86 56 ∧ σ 86 56 ≤ 380) (p1 : σ 86 57 = 3) : qm_T (qe L xs vb) (d + 2) 258 [.ref 86, .int (qz 3), .int (qz x2)] (qw σ α κ ρ) (fun r w' => ∃ σ' α', w' = qw σ' α' κ ρ ∧ qI σ' α' κ ρ ∧ qFr [(86, 56)] [120] σ α σ' α' ∧ ∃ v : Int, r = some (.int (qz v)) ∧ ((-2147483648) ≤ v ∧ v ≤ 2147483647) ∧ σ' 86 56 = σ 86 56 + 1) := by
  refine qr_start (d := d + 1) qv_e258 (Nat.le_of_ble_eq_true rfl) ?_
  show qr_W (qe L xs vb) (d + 1) qx_e258 _ (0, [(0, .ref 86), (1, .int (qz 3)), (2, .int (qz x2))], [], _, 0, 0)
  have hF0 := qFr_rf [(86, 56)] [120] σ α
  have hz86_56 : (-2147483648) ≤ σ 86 56 ∧ σ 86 56 ≤ 2147483647 := hI.1 86 56
  have hz86_57 : (-2147483648) ≤ σ 86 57 ∧ σ 86 57 ≤ 2147483647 := hI.1 86 57
  have hz86_6 : 0 ≤ σ 86 6 ∧ σ 86 6 ≤ 32 := hI.1 86 6
  refine qr_iload_n 1 rfl rfl rfl ?_
  refine qr_iconst 2 rfl rfl ?_
  refine qr_icmp_ne 20 5 rfl rfl rfl (by decide) (by decide) (fun h1 => ?_) (fun h => False.elim (by omega))
  refine qr_iload_n 21 rfl rfl rfl ?_
  refine qr_bipush 23 rfl (by decide) rfl ?_
  refine qr_icmp_ne 51 26 rfl rfl rfl (by decide) (by decide) (fun h2 => ?_) (fun h => False.elim (by omega))
  refine qr_aload_n 52 rfl rfl rfl ?_
  refine qr_bipush 54 rfl (by decide) rfl ?_
  have hs3 : (-2147483648) ≤ σ 86 56 ∧ σ 86 56 ≤ 2147483647 := hI.1 86 56
  refine qr_callN 57 rfl rfl rfl (sf_257_86 (d := d + 0) hI (by decide) (by omega)) ?_
  rintro _ _ ⟨σ5, α6, rfl, hI7, hG8, hw4, rfl⟩
  have hF9 : qFr [(86, 56)] [120] σ α σ5 α6 := qFr_t hF0 hG8 (by decide) (by decide)
  have hs10 : (-2147483648) ≤ σ5 86 56 ∧ σ5 86 56 ≤ 2147483647 := hI7.1 86 56
  show qr_W (qe L xs vb) (d + 1) qx_e258 _ (57, _, [], qw σ5 α6 κ ρ, 0, 0)
  refine qr_iload_n 58 rfl rfl rfl ?_
  refine qr_aload_n 59 rfl rfl rfl ?_
  refine qr_get 62 rfl rfl rfl (by decide) rfl ?_
  have hs11 : (-2147483648) ≤ σ5 86 58 ∧ σ5 86 58 ≤ 2147483647 := hI7.1 86 58
  refine qr_ixor 63 rfl rfl ?_
  refine qy_can (fun v12 hv12 => ?_)
  refine qr_retI rfl rfl (by decide) (by decide) ?_
  have hw13 : σ5 86 56 = (σ5 86 56) := rfl
  exact ⟨_, _, rfl, hI7, hF9, v12, rfl, hv12, by omega⟩

set_option maxHeartbeats 4000000 in
set_option maxRecDepth 20000 in
/-- OneRoofModel.endsAs -/
theorem sf_258_86k4_4 {L : Nat} {xs : Nat → Int} {vb : Bool} {d : Nat} {σ α : Nat → Nat → Int} {κ : Nat → Option Nat} {ρ : Nat} {x2 : Int} (hI : qI σ α κ ρ) (r2 : (-2147483648) ≤ x2 ∧ x2 ≤ 2147483647) (p0 : 0 ≤ σ 86 56 ∧ σ 86 56 ≤ 380) (p1 : σ 86 57 = 4) : qm_T (qe L xs vb) (d + 2) 258 [.ref 86, .int (qz 4), .int (qz x2)] (qw σ α κ ρ) (fun r w' => ∃ σ' α', w' = qw σ' α' κ ρ ∧ qI σ' α' κ ρ ∧ qFr [(86, 56)] [120] σ α σ' α' ∧ ∃ v : Int, r = some (.int (qz v)) ∧ ((-2147483648) ≤ v ∧ v ≤ 2147483647) ∧ σ' 86 56 = σ 86 56 + 1) := by
  refine qr_start (d := d + 1) qv_e258 (Nat.le_of_ble_eq_true rfl) ?_
  show qr_W (qe L xs vb) (d + 1) qx_e258 _ (0, [(0, .ref 86), (1, .int (qz 4)), (2, .int (qz x2))], [], _, 0, 0)
  have hF0 := qFr_rf [(86, 56)] [120] σ α
  have hz86_56 : (-2147483648) ≤ σ 86 56 ∧ σ 86 56 ≤ 2147483647 := hI.1 86 56
  have hz86_57 : (-2147483648) ≤ σ 86 57 ∧ σ 86 57 ≤ 2147483647 := hI.1 86 57
  have hz86_6 : 0 ≤ σ 86 6 ∧ σ 86 6 ≤ 32 := hI.1 86 6
  refine qr_iload_n 1 rfl rfl rfl ?_
  refine qr_iconst 2 rfl rfl ?_
  refine qr_icmp_ne 20 5 rfl rfl rfl (by decide) (by decide) (fun h1 => ?_) (fun h => False.elim (by omega))
  refine qr_iload_n 21 rfl rfl rfl ?_
  refine qr_bipush 23 rfl (by decide) rfl ?_
  refine qr_icmp_ne 51 26 rfl rfl rfl (by decide) (by decide) (fun h2 => ?_) (fun h => False.elim (by omega))
  refine qr_aload_n 52 rfl rfl rfl ?_
  refine qr_bipush 54 rfl (by decide) rfl ?_
  have hs3 : (-2147483648) ≤ σ 86 56 ∧ σ 86 56 ≤ 2147483647 := hI.1 86 56
  refine qr_callN 57 rfl rfl rfl (sf_257_86 (d := d + 0) hI (by decide) (by omega)) ?_
  rintro _ _ ⟨σ5, α6, rfl, hI7, hG8, hw4, rfl⟩
  have hF9 : qFr [(86, 56)] [120] σ α σ5 α6 := qFr_t hF0 hG8 (by decide) (by decide)
  have hs10 : (-2147483648) ≤ σ5 86 56 ∧ σ5 86 56 ≤ 2147483647 := hI7.1 86 56
  show qr_W (qe L xs vb) (d + 1) qx_e258 _ (57, _, [], qw σ5 α6 κ ρ, 0, 0)
  refine qr_iload_n 58 rfl rfl rfl ?_
  refine qr_aload_n 59 rfl rfl rfl ?_
  refine qr_get 62 rfl rfl rfl (by decide) rfl ?_
  have hs11 : (-2147483648) ≤ σ5 86 58 ∧ σ5 86 58 ≤ 2147483647 := hI7.1 86 58
  refine qr_ixor 63 rfl rfl ?_
  refine qy_can (fun v12 hv12 => ?_)
  refine qr_retI rfl rfl (by decide) (by decide) ?_
  have hw13 : σ5 86 56 = (σ5 86 56) := rfl
  exact ⟨_, _, rfl, hI7, hF9, v12, rfl, hv12, by omega⟩

set_option maxHeartbeats 4000000 in
set_option maxRecDepth 20000 in
/-- OneRoofModel.endsAs -/
theorem sf_258_86k0_6 {L : Nat} {xs : Nat → Int} {vb : Bool} {d : Nat} {σ α : Nat → Nat → Int} {κ : Nat → Option Nat} {ρ : Nat} {x2 : Int} (hI : qI σ α κ ρ) (r2 : (-2147483648) ≤ x2 ∧ x2 ≤ 2147483647) (p0 : 0 ≤ σ 86 56 ∧ σ 86 56 ≤ 380) (p1 : σ 86 57 = 6) : qm_T (qe L xs vb) (d + 2) 258 [.ref 86, .int (qz 0), .int (qz x2)] (qw σ α κ ρ) (fun r w' => ∃ σ' α', w' = qw σ' α' κ ρ ∧ qI σ' α' κ ρ ∧ qFr [(86, 56)] [120] σ α σ' α' ∧ ∃ v : Int, r = some (.int (qz v)) ∧ ((-2147483648) ≤ v ∧ v ≤ 2147483647) ∧ σ' 86 56 = σ 86 56 + 1) := by
  refine qr_start (d := d + 1) qv_e258 (Nat.le_of_ble_eq_true rfl) ?_
  show qr_W (qe L xs vb) (d + 1) qx_e258 _ (0, [(0, .ref 86), (1, .int (qz 0)), (2, .int (qz x2))], [], _, 0, 0)
  have hF0 := qFr_rf [(86, 56)] [120] σ α
  have hz86_56 : (-2147483648) ≤ σ 86 56 ∧ σ 86 56 ≤ 2147483647 := hI.1 86 56
  have hz86_57 : (-2147483648) ≤ σ 86 57 ∧ σ 86 57 ≤ 2147483647 := hI.1 86 57
  have hz86_6 : 0 ≤ σ 86 6 ∧ σ 86 6 ≤ 32 := hI.1 86 6
  refine qr_iload_n 1 rfl rfl rfl ?_
  refine qr_iconst 2 rfl rfl ?_
  refine qr_icmp_ne 20 5 rfl rfl rfl (by decide) (by decide) (fun h1 => ?_) (fun h => False.elim (by omega))
  refine qr_iload_n 21 rfl rfl rfl ?_
  refine qr_bipush 23 rfl (by decide) rfl ?_
  refine qr_icmp_ne 51 26 rfl rfl rfl (by decide) (by decide) (fun h2 => ?_) (fun h => False.elim (by omega))
  refine qr_aload_n 52 rfl rfl rfl ?_
  refine qr_bipush 54 rfl (by decide) rfl ?_
  have hs3 : (-2147483648) ≤ σ 86 56 ∧ σ 86 56 ≤ 2147483647 := hI.1 86 56
  refine qr_callN 57 rfl rfl rfl (sf_257_86 (d := d + 0) hI (by decide) (by omega)) ?_
  rintro _ _ ⟨σ5, α6, rfl, hI7, hG8, hw4, rfl⟩
  have hF9 : qFr [(86, 56)] [120] σ α σ5 α6 := qFr_t hF0 hG8 (by decide) (by decide)
  have hs10 : (-2147483648) ≤ σ5 86 56 ∧ σ5 86 56 ≤ 2147483647 := hI7.1 86 56
  show qr_W (qe L xs vb) (d + 1) qx_e258 _ (57, _, [], qw σ5 α6 κ ρ, 0, 0)
  refine qr_iload_n 58 rfl rfl rfl ?_
  refine qr_aload_n 59 rfl rfl rfl ?_
  refine qr_get 62 rfl rfl rfl (by decide) rfl ?_
  have hs11 : (-2147483648) ≤ σ5 86 58 ∧ σ5 86 58 ≤ 2147483647 := hI7.1 86 58
  refine qr_ixor 63 rfl rfl ?_
  refine qy_can (fun v12 hv12 => ?_)
  refine qr_retI rfl rfl (by decide) (by decide) ?_
  have hw13 : σ5 86 56 = (σ5 86 56) := rfl
  exact ⟨_, _, rfl, hI7, hF9, v12, rfl, hv12, by omega⟩

set_option maxHeartbeats 4000000 in
set_option maxRecDepth 20000 in
/-- OneRoofModel.endsAs -/
theorem sf_258_86k6_6 {L : Nat} {xs : Nat → Int} {vb : Bool} {d : Nat} {σ α : Nat → Nat → Int} {κ : Nat → Option Nat} {ρ : Nat} {x2 : Int} (hI : qI σ α κ ρ) (r2 : (-2147483648) ≤ x2 ∧ x2 ≤ 2147483647) (p0 : 0 ≤ σ 86 56 ∧ σ 86 56 ≤ 360) (p1 : σ 86 57 = 6) : qm_T (qe L xs vb) (d + 3) 258 [.ref 86, .int (qz 6), .int (qz x2)] (qw σ α κ ρ) (fun r w' => ∃ σ' α', w' = qw σ' α' κ ρ ∧ qI σ' α' κ ρ ∧ qFr [(86, 56)] [120] σ α σ' α' ∧ ∃ v : Int, r = some (.int (qz v)) ∧ ((-2147483648) ≤ v ∧ v ≤ 2147483647) ∧ σ' 86 56 = σ 86 56 + 3) := by
  refine qr_start (d := d + 2) qv_e258 (Nat.le_of_ble_eq_true rfl) ?_
  show qr_W (qe L xs vb) (d + 2) qx_e258 _ (0, [(0, .ref 86), (1, .int (qz 6)), (2, .int (qz x2))], [], _, 0, 0)
  have hF0 := qFr_rf [(86, 56)] [120] σ α
  have hz86_56 : (-2147483648) ≤ σ 86 56 ∧ σ 86 56 ≤ 2147483647 := hI.1 86 56
  have hz86_57 : (-2147483648) ≤ σ 86 57 ∧ σ 86 57 ≤ 2147483647 := hI.1 86 57
  have hz86_6 : 0 ≤ σ 86 6 ∧ σ 86 6 ≤ 32 := hI.1 86 6
  refine qr_iload_n 1 rfl rfl rfl ?_
  refine qr_iconst 2 rfl rfl ?_
  refine qr_icmp_ne 20 5 rfl rfl rfl (by decide) (by decide) (fun h1 => ?_) (fun h => False.elim (by omega))
  refine qr_iload_n 21 rfl rfl rfl ?_
  refine qr_bipush 23 rfl (by decide) rfl ?_
  refine qr_icmp_ne 51 26 rfl rfl rfl (by decide) (by decide) (fun h => False.elim (by omega)) (fun h2 => ?_)
  refine qr_aload_n 27 rfl rfl rfl ?_
  refine qr_bipush 29 rfl (by decide) rfl ?_
  have hs3 : (-2147483648) ≤ σ 86 56 ∧ σ 86 56 ≤ 2147483647 := hI.1 86 56
  refine qr_callN 32 rfl rfl rfl (sf_257_86 (d := d + 1) hI (by decide) (by omega)) ?_
  rintro _ _ ⟨σ5, α6, rfl, hI7, hG8, hw4, rfl⟩
  have hF9 : qFr [(86, 56)] [120] σ α σ5 α6 := qFr_t hF0 hG8 (by decide) (by decide)
  have hs10 : (-2147483648) ≤ σ5 86 56 ∧ σ5 86 56 ≤ 2147483647 := hI7.1 86 56
  show qr_W (qe L xs vb) (d + 2) qx_e258 _ (32, _, [], qw σ5 α6 κ ρ, 0, 0)
  refine qr_aload_n 33 rfl rfl rfl ?_
  refine qr_iconst 34 rfl rfl ?_
  refine qr_iload_n 35 rfl rfl rfl ?_
  have hs11 : (-2147483648) ≤ σ5 86 56 ∧ σ5 86 56 ≤ 2147483647 := hI7.1 86 56
  have hs12 : (-2147483648) ≤ σ5 86 57 ∧ σ5 86 57 ≤ 2147483647 := hI7.1 86 57
  have hs13 : σ5 86 57 = (σ 86 57) := (hG8.1 86 57 (by decide)).trans rfl
  refine qr_callN 38 rfl rfl rfl (sf_258_86k0_6 (d := d + 0) hI7 r2 (by omega) (by omega)) ?_
  have hs16 : (-2147483648) ≤ σ5 86 56 ∧ σ5 86 56 ≤ 2147483647 := hI7.1 86 56
  rintro _ _ ⟨σ17, α18, rfl, hI19, hG20, v14, rfl, hv14, hp15⟩
  have hF21 : qFr [(86, 56)] [120] σ α σ17 α18 := qFr_t hF9 hG20 (by decide) (by decide)
  have hs22 : (-2147483648) ≤ σ17 86 56 ∧ σ17 86 56 ≤ 2147483647 := hI19.1 86 56
  show qr_W (qe L xs vb) (d + 2) qx_e258 _ (38, _, [.int (qz v14)], qw σ17 α18 κ ρ, 0, 0)
  refine qr_istore_n _ 39 rfl (by decide) rfl rfl ?_
  refine qr_iload_n 40 rfl rfl rfl ?_
  refine qr_aload_n 41 rfl rfl rfl ?_
  refine qr_aload_n 42 rfl rfl rfl ?_
  refine qr_get 45 rfl rfl rfl (by decide) rfl ?_
  refine qy_v (σ 86 57) ((hG20.1 86 57 (by decide)).trans ((hG8.1 86 57 (by decide)).trans rfl)) ?_
  refine qr_iconst 46 rfl rfl ?_
  have hc23 : (σ 86 57) = 6 := by omega
  rw [hc23]
  have hs24 : (-2147483648) ≤ σ17 86 56 ∧ σ17 86 56 ≤ 2147483647 := hI19.1 86 56
  have hs25 : (-2147483648) ≤ σ17 86 57 ∧ σ17 86 57 ≤ 2147483647 := hI19.1 86 57
  have hs26 : σ17 86 57 = (σ 86 57) := (hG20.1 86 57 (by decide)).trans ((hG8.1 86 57 (by decide)).trans rfl)
  refine qr_callN 49 rfl rfl rfl (sf_256_86k6_6 (d := d + 0) hI19 (by decide) (by omega) (by omega)) ?_
  have hs29 : (-2147483648) ≤ σ17 86 56 ∧ σ17 86 56 ≤ 2147483647 := hI19.1 86 56
  rintro _ _ ⟨σ30, α31, rfl, hI32, hG33, v27, rfl, hv27, hp28⟩
  have hF34 : qFr [(86, 56)] [120] σ α σ30 α31 := qFr_t hF21 hG33 (by decide) (by decide)
  have hs35 : (-2147483648) ≤ σ30 86 56 ∧ σ30 86 56 ≤ 2147483647 := hI32.1 86 56
  show qr_W (qe L xs vb) (d + 2) qx_e258 _ (49, _, [.int (qz v27), .int (qz v14)], qw σ30 α31 κ ρ, 0, 0)
  refine qr_iadd 50 rfl rfl ?_
  refine qy_can (fun v36 hv36 => ?_)
  refine qr_retI rfl rfl (by decide) (by decide) ?_
  have hw37 : σ30 86 56 = (σ30 86 56) := rfl
  exact ⟨_, _, rfl, hI32, hF34, v36, rfl, hv36, by omega⟩

set_option maxHeartbeats 4000000 in
set_option maxRecDepth 20000 in
/-- OneRoofModel.endsAs -/
theorem sf_258_86kp_p {L : Nat} {xs : Nat → Int} {vb : Bool} {d : Nat} {σ α : Nat → Nat → Int} {κ : Nat → Option Nat} {ρ : Nat} {x1 : Int} {x2 : Int} (hI : qI σ α κ ρ) (r1 : 7 ≤ x1 ∧ x1 ≤ 2147483647) (r2 : (-2147483648) ≤ x2 ∧ x2 ≤ 2147483647) (p0 : 0 ≤ σ 86 56 ∧ σ 86 56 ≤ 380) (p1 : 6 < σ 86 57) : qm_T (qe L xs vb) (d + 2) 258 [.ref 86, .int (qz x1), .int (qz x2)] (qw σ α κ ρ) (fun r w' => ∃ σ' α', w' = qw σ' α' κ ρ ∧ qI σ' α' κ ρ ∧ qFr [(86, 56)] [120] σ α σ' α' ∧ ∃ v : Int, r = some (.int (qz v)) ∧ ((-2147483648) ≤ v ∧ v ≤ 2147483647) ∧ σ' 86 56 = σ 86 56 + 1) := by
  refine qr_start (d := d + 1) qv_e258 (Nat.le_of_ble_eq_true rfl) ?_
  show qr_W (qe L xs vb) (d + 1) qx_e258 _ (0, [(0, .ref 86), (1, .int (qz x1)), (2, .int (qz x2))], [], _, 0, 0)
  have hF0 := qFr_rf [(86, 56)] [120] σ α
  have hz86_56 : (-2147483648) ≤ σ 86 56 ∧ σ 86 56 ≤ 2147483647 := hI.1 86 56
  have hz86_57 : (-2147483648) ≤ σ 86 57 ∧ σ 86 57 ≤ 2147483647 := hI.1 86 57
  have hz86_6 : 0 ≤ σ 86 6 ∧ σ 86 6 ≤ 32 := hI.1 86 6
  refine qr_iload_n 1 rfl rfl rfl ?_
  refine qr_iconst 2 rfl rfl ?_
  refine qr_icmp_ne 20 5 rfl rfl rfl (qrg r1 (by decide) (by decide)) (by decide) (fun h1 => ?_) (fun h => False.elim (by omega))
  refine qr_iload_n 21 rfl rfl rfl ?_
  refine qr_bipush 23 rfl (by decide) rfl ?_
  refine qr_icmp_ne 51 26 rfl rfl rfl (qrg r1 (by decide) (by decide)) (by decide) (fun h2 => ?_) (fun h => False.elim (by omega))
  refine qr_aload_n 52 rfl rfl rfl ?_
  refine qr_bipush 54 rfl (by decide) rfl ?_
  have hs3 : (-2147483648) ≤ σ 86 56 ∧ σ 86 56 ≤ 2147483647 := hI.1 86 56
  refine qr_callN 57 rfl rfl rfl (sf_257_86 (d := d + 0) hI (by decide) (by omega)) ?_
  rintro _ _ ⟨σ5, α6, rfl, hI7, hG8, hw4, rfl⟩
  have hF9 : qFr [(86, 56)] [120] σ α σ5 α6 := qFr_t hF0 hG8 (by decide) (by decide)
  have hs10 : (-2147483648) ≤ σ5 86 56 ∧ σ5 86 56 ≤ 2147483647 := hI7.1 86 56
  show qr_W (qe L xs vb) (d + 1) qx_e258 _ (57, _, [], qw σ5 α6 κ ρ, 0, 0)
  refine qr_iload_n 58 rfl rfl rfl ?_
  refine qr_aload_n 59 rfl rfl rfl ?_
  refine qr_get 62 rfl rfl rfl (by decide) rfl ?_
  have hs11 : (-2147483648) ≤ σ5 86 58 ∧ σ5 86 58 ≤ 2147483647 := hI7.1 86 58
  refine qr_ixor 63 rfl rfl ?_
  refine qy_can (fun v12 hv12 => ?_)
  refine qr_retI rfl rfl (by decide) (by decide) ?_
  have hw13 : σ5 86 56 = (σ5 86 56) := rfl
  exact ⟨_, _, rfl, hI7, hF9, v12, rfl, hv12, by omega⟩

set_option maxHeartbeats 4000000 in
set_option maxRecDepth 20000 in
/-- OneRoofModel.endsAs -/
theorem sf_258_86any {L : Nat} {xs : Nat → Int} {vb : Bool} {d : Nat} {σ α : Nat → Nat → Int} {κ : Nat → Option Nat} {ρ : Nat} {x1 : Int} {x2 : Int} (hI : qI σ α κ ρ) (r1 : (-2147483648) ≤ x1 ∧ x1 ≤ 2147483647) (r2 : (-2147483648) ≤ x2 ∧ x2 ≤ 2147483647) (p0 : σ 86 56 = 0) (p1 : x1 = σ 86 57) : qm_T (qe L xs vb) (d + 3) 258 [.ref 86, .int (qz x1), .int (qz x2)] (qw σ α κ ρ) (fun r w' => ∃ σ' α', w' = qw σ' α' κ ρ ∧ qI σ' α' κ ρ ∧ qFr [(86, 56)] [120] σ α σ' α' ∧ ∃ v : Int, r = some (.int (qz v)) ∧ ((-2147483648) ≤ v ∧ v ≤ 2147483647)) := by
  have h1 : x1 < 0 ∨ x1 = 0 ∨ x1 = 1 ∨ x1 = 2 ∨ x1 = 3 ∨ x1 = 4 ∨ x1 = 5 ∨ x1 = 6 ∨ 6 < x1 := by omega
  rcases h1 with h1 | h1 | h1 | h1 | h1 | h1 | h1 | h1 | h1
  · skip
    refine qr_mono (sf_258_86km_m (d := d + 1) hI (by omega) (by omega) (by omega) (by omega)) ?_
    rintro r w2 ⟨σ2, α2, h2, h3, h4, v, h5, h6, h7⟩
    exact ⟨σ2, α2, h2, h3, h4, v, h5, h6⟩
  · rw [h1]
    refine qr_mono (sf_258_86k0_0 (d := d + 1) hI (by omega) (by omega) (by omega)) ?_
    rintro r w2 ⟨σ2, α2, h2, h3, h4, v, h5, h6, h7⟩
    exact ⟨σ2, α2, h2, h3, h4, v, h5, h6⟩
  · rw [h1]
    refine qr_mono (sf_258_86k1_1 (d := d + 1) hI (by omega) (by omega) (by omega)) ?_
    rintro r w2 ⟨σ2, α2, h2, h3, h4, v, h5, h6, h7⟩
    exact ⟨σ2, α2, h2, h3, h4, v, h5, h6⟩
  · rw [h1]
    refine qr_mono (sf_258_86k2_2 (d := d + 0) hI (by omega) (by omega) (by omega)) ?_
    rintro r w2 ⟨σ2, α2, h2, h3, h4, v, h5, h6, h7⟩
    exact ⟨σ2, α2, h2, h3, h4, v, h5, h6⟩
  · rw [h1]
    refine qr_mono (sf_258_86k3_3 (d := d + 1) hI (by omega) (by omega) (by omega)) ?_
    rintro r w2 ⟨σ2, α2, h2, h3, h4, v, h5, h6, h7⟩
    exact ⟨σ2, α2, h2, h3, h4, v, h5, h6⟩
  · rw [h1]
    refine qr_mono (sf_258_86k4_4 (d := d + 1) hI (by omega) (by omega) (by omega)) ?_
    rintro r w2 ⟨σ2, α2, h2, h3, h4, v, h5, h6, h7⟩
    exact ⟨σ2, α2, h2, h3, h4, v, h5, h6⟩
  · rw [h1]
    refine qr_mono (sf_258_86k5_5 (d := d + 1) hI (by omega) (by omega) (by omega)) ?_
    rintro r w2 ⟨σ2, α2, h2, h3, h4, v, h5, h6, h7⟩
    exact ⟨σ2, α2, h2, h3, h4, v, h5, h6⟩
  · rw [h1]
    refine qr_mono (sf_258_86k6_6 (d := d + 0) hI (by omega) (by omega) (by omega)) ?_
    rintro r w2 ⟨σ2, α2, h2, h3, h4, v, h5, h6, h7⟩
    exact ⟨σ2, α2, h2, h3, h4, v, h5, h6⟩
  · skip
    refine qr_mono (sf_258_86kp_p (d := d + 1) hI (by omega) (by omega) (by omega) (by omega)) ?_
    rintro r w2 ⟨σ2, α2, h2, h3, h4, v, h5, h6, h7⟩
    exact ⟨σ2, α2, h2, h3, h4, v, h5, h6⟩

set_option maxHeartbeats 4000000 in
set_option maxRecDepth 20000 in
/-- OneRoofModel.tellsAs -/
theorem sf_260_86km_m {L : Nat} {xs : Nat → Int} {vb : Bool} {d : Nat} {σ α : Nat → Nat → Int} {κ : Nat → Option Nat} {ρ : Nat} {x1 : Int} {x2 : Int} (hI : qI σ α κ ρ) (r1 : (-2147483648) ≤ x1 ∧ x1 ≤ (-1)) (r2 : (-2147483648) ≤ x2 ∧ x2 ≤ 2147483647) (p0 : 0 ≤ σ 86 56 ∧ σ 86 56 ≤ 340) (p1 : σ 86 57 < 0) : qm_T (qe L xs vb) (d + 4) 260 [.ref 86, .int (qz x1), .int (qz x2)] (qw σ α κ ρ) (fun r w' => ∃ σ' α', w' = qw σ' α' κ ρ ∧ qI σ' α' κ ρ ∧ qFr [(86, 56)] [120] σ α σ' α' ∧ ∃ v : Int, r = some (.int (qz v)) ∧ ((-2147483648) ≤ v ∧ v ≤ 2147483647) ∧ σ' 86 56 = σ 86 56 + 4) := by
  refine qr_start (d := d + 3) qv_e260 (Nat.le_of_ble_eq_true rfl) ?_
  show qr_W (qe L xs vb) (d + 3) qx_e260 _ (0, [(0, .ref 86), (1, .int (qz x1)), (2, .int (qz x2))], [], _, 0, 0)
  have hF0 := qFr_rf [(86, 56)] [120] σ α
  have hz86_56 : (-2147483648) ≤ σ 86 56 ∧ σ 86 56 ≤ 2147483647 := hI.1 86 56
  have hz86_57 : (-2147483648) ≤ σ 86 57 ∧ σ 86 57 ≤ 2147483647 := hI.1 86 57
  have hz86_6 : 0 ≤ σ 86 6 ∧ σ 86 6 ≤ 32 := hI.1 86 6
  refine qr_iload_n 1 rfl rfl rfl ?_
  refine qr_iconst 2 rfl rfl ?_
  refine qr_icmp_eq 10 5 rfl rfl rfl (qrg r1 (by decide) (by decide)) (by decide) (fun h => False.elim (by omega)) (fun h1 => ?_)
  refine qr_iload_n 6 rfl rfl rfl ?_
  refine qr_iconst 7 rfl rfl ?_
  refine qr_icmp_ne 25 10 rfl rfl rfl (qrg r1 (by decide) (by decide)) (by decide) (fun h2 => ?_) (fun h => False.elim (by omega))
  refine qr_aload_n 26 rfl rfl rfl ?_
  refine qr_iconst 27 rfl rfl ?_
  have hs3 : (-2147483648) ≤ σ 86 56 ∧ σ 86 56 ≤ 2147483647 := hI.1 86 56
  refine qr_callN 30 rfl rfl rfl (sf_257_86 (d := d + 2) hI (by decide) (by omega)) ?_
  rintro _ _ ⟨σ5, α6, rfl, hI7, hG8, hw4, rfl⟩
  have hF9 : qFr [(86, 56)] [120] σ α σ5 α6 := qFr_t hF0 hG8 (by decide) (by decide)
  have hs10 : (-2147483648) ≤ σ5 86 56 ∧ σ5 86 56 ≤ 2147483647 := hI7.1 86 56
  show qr_W (qe L xs vb) (d + 3) qx_e260 _ (30, _, [], qw σ5 α6 κ ρ, 0, 0)
  refine qr_aload_n 31 rfl rfl rfl ?_
  refine qr_aload_n 32 rfl rfl rfl ?_
  refine qr_get 35 rfl rfl rfl (by decide) rfl ?_
  refine qy_v (σ 86 57) ((hG8.1 86 57 (by decide)).trans rfl) ?_
  refine qr_iload_n 36 rfl rfl rfl ?_
  have hs11 : (-2147483648) ≤ σ5 86 56 ∧ σ5 86 56 ≤ 2147483647 := hI7.1 86 56
  have hs12 : (-2147483648) ≤ σ5 86 57 ∧ σ5 86 57 ≤ 2147483647 := hI7.1 86 57
  have hs13 : σ5 86 57 = (σ 86 57) := (hG8.1 86 57 (by decide)).trans rfl
  refine qr_callN 39 rfl rfl rfl (sf_259_86km_m (d := d + 0) hI7 (by omega) r2 (by omega) (by omega)) ?_
  have hs16 : (-2147483648) ≤ σ5 86 56 ∧ σ5 86 56 ≤ 2147483647 := hI7.1 86 56
  rintro _ _ ⟨σ17, α18, rfl, hI19, hG20, v14, rfl, hv14, hp15⟩
  have hF21 : qFr [(86, 56)] [120] σ α σ17 α18 := qFr_t hF9 hG20 (by decide) (by decide)
  have hs22 : (-2147483648) ≤ σ17 86 56 ∧ σ17 86 56 ≤ 2147483647 := hI19.1 86 56
  show qr_W (qe L xs vb) (d + 3) qx_e260 _ (39, _, [.int (qz v14)], qw σ17 α18 κ ρ, 0, 0)
  refine qr_istore_n _ 40 rfl (by decide) rfl rfl ?_
  refine qr_iload_n 41 rfl rfl rfl ?_
  refine qr_aload_n 42 rfl rfl rfl ?_
  refine qr_aload_n 43 rfl rfl rfl ?_
  refine qr_get 46 rfl rfl rfl (by decide) rfl ?_
  refine qy_v (σ 86 57) ((hG20.1 86 57 (by decide)).trans ((hG8.1 86 57 (by decide)).trans rfl)) ?_
  refine qr_iconst 47 rfl rfl ?_
  have hs23 : (-2147483648) ≤ σ17 86 56 ∧ σ17 86 56 ≤ 2147483647 := hI19.1 86 56
  have hs24 : (-2147483648) ≤ σ17 86 57 ∧ σ17 86 57 ≤ 2147483647 := hI19.1 86 57
  have hs25 : σ17 86 57 = (σ 86 57) := (hG20.1 86 57 (by decide)).trans ((hG8.1 86 57 (by decide)).trans rfl)
  refine qr_callN 50 rfl rfl rfl (sf_258_86km_m (d := d + 1) hI19 (by omega) (by decide) (by omega) (by omega)) ?_
  have hs28 : (-2147483648) ≤ σ17 86 56 ∧ σ17 86 56 ≤ 2147483647 := hI19.1 86 56
  rintro _ _ ⟨σ29, α30, rfl, hI31, hG32, v26, rfl, hv26, hp27⟩
  have hF33 : qFr [(86, 56)] [120] σ α σ29 α30 := qFr_t hF21 hG32 (by decide) (by decide)
  have hs34 : (-2147483648) ≤ σ29 86 56 ∧ σ29 86 56 ≤ 2147483647 := hI31.1 86 56
  show qr_W (qe L xs vb) (d + 3) qx_e260 _ (50, _, [.int (qz v26), .int (qz v14)], qw σ29 α30 κ ρ, 0, 0)
  refine qr_isub 51 rfl rfl ?_
  refine qy_can (fun v35 hv35 => ?_)
  refine qr_retI rfl rfl (by decide) (by decide) ?_
  have hw36 : σ29 86 56 = (σ29 86 56) := rfl
  exact ⟨_, _, rfl, hI31, hF33, v35, rfl, hv35, by omega⟩

set_option maxHeartbeats 4000000 in
set_option maxRecDepth 20000 in
/-- OneRoofModel.tellsAs -/
theorem sf_260_86k0_0 {L : Nat} {xs : Nat → Int} {vb : Bool} {d : Nat} {σ α : Nat → Nat → Int} {κ : Nat → Option Nat} {ρ : Nat} {x2 : Int} (hI : qI σ α κ ρ) (r2 : (-2147483648) ≤ x2 ∧ x2 ≤ 2147483647) (p0 : 0 ≤ σ 86 56 ∧ σ 86 56 ≤ 340) (p1 : σ 86 57 = 0) : qm_T (qe L xs vb) (d + 4) 260 [.ref 86, .int (qz 0), .int (qz x2)] (qw σ α κ ρ) (fun r w' => ∃ σ' α', w' = qw σ' α' κ ρ ∧ qI σ' α' κ ρ ∧ qFr [(86, 56)] [120] σ α σ' α' ∧ ∃ v : Int, r = some (.int (qz v)) ∧ ((-2147483648) ≤ v ∧ v ≤ 2147483647) ∧ σ' 86 56 = σ 86 56 + 4) := by
  refine qr_start (d := d + 3) qv_e260 (Nat.le_of_ble_eq_true rfl) ?_
  show qr_W (qe L xs vb) (d + 3) qx_e260 _ (0, [(0, .ref 86), (1, .int (qz 0)), (2, .int (qz x2))], [], _, 0, 0)
  have hF0 := qFr_rf [(86, 56)] [120] σ α
  have hz86_56 : (-2147483648) ≤ σ 86 56 ∧ σ 86 56 ≤ 2147483647 := hI.1 86 56
  have hz86_57 : (-2147483648) ≤ σ 86 57 ∧ σ 86 57 ≤ 2147483647 := hI.1 86 57
  have hz86_6 : 0 ≤ σ 86 6 ∧ σ 86 6 ≤ 32 := hI.1 86 6
  refine qr_iload_n 1 rfl rfl rfl ?_
  refine qr_iconst 2 rfl rfl ?_
  refine qr_icmp_eq 10 5 rfl rfl rfl (by decide) (by decide) (fun h => False.elim (by omega)) (fun h1 => ?_)
  refine qr_iload_n 6 rfl rfl rfl ?_
  refine qr_iconst 7 rfl rfl ?_
  refine qr_icmp_ne 25 10 rfl rfl rfl (by decide) (by decide) (fun h2 => ?_) (fun h => False.elim (by omega))
  refine qr_aload_n 26 rfl rfl rfl ?_
  refine qr_iconst 27 rfl rfl ?_
  have hs3 : (-2147483648) ≤ σ 86 56 ∧ σ 86 56 ≤ 2147483647 := hI.1 86 56
  refine qr_callN 30 rfl rfl rfl (sf_257_86 (d := d + 2) hI (by decide) (by omega)) ?_
  rintro _ _ ⟨σ5, α6, rfl, hI7, hG8, hw4, rfl⟩
  have hF9 : qFr [(86, 56)] [120] σ α σ5 α6 := qFr_t hF0 hG8 (by decide) (by decide)
  have hs10 : (-2147483648) ≤ σ5 86 56 ∧ σ5 86 56 ≤ 2147483647 := hI7.1 86 56
  show qr_W (qe L xs vb) (d + 3) qx_e260 _ (30, _, [], qw σ5 α6 κ ρ, 0, 0)
  refine qr_aload_n 31 rfl rfl rfl ?_
  refine qr_aload_n 32 rfl rfl rfl ?_
  refine qr_get 35 rfl rfl rfl (by decide) rfl ?_
  refine qy_v (σ 86 57) ((hG8.1 86 57 (by decide)).trans rfl) ?_
  refine qr_iload_n 36 rfl rfl rfl ?_
  have hc11 : (σ 86 57) = 0 := by omega
  rw [hc11]
  have hs12 : (-2147483648) ≤ σ5 86 56 ∧ σ5 86 56 ≤ 2147483647 := hI7.1 86 56
  have hs13 : (-2147483648) ≤ σ5 86 57 ∧ σ5 86 57 ≤ 2147483647 := hI7.1 86 57
  have hs14 : σ5 86 57 = (σ 86 57) := (hG8.1 86 57 (by decide)).trans rfl
  refine qr_callN 39 rfl rfl rfl (sf_259_86k0_0 (d := d + 0) hI7 r2 (by omega) (by omega)) ?_
  have hs17 : (-2147483648) ≤ σ5 86 56 ∧ σ5 86 56 ≤ 2147483647 := hI7.1 86 56
  rintro _ _ ⟨σ18, α19, rfl, hI20, hG21, v15, rfl, hv15, hp16⟩
  have hF22 : qFr [(86, 56)] [120] σ α σ18 α19 := qFr_t hF9 hG21 (by decide) (by decide)
  have hs23 : (-2147483648) ≤ σ18 86 56 ∧ σ18 86 56 ≤ 2147483647 := hI20.1 86 56
  show qr_W (qe L xs vb) (d + 3) qx_e260 _ (39, _, [.int (qz v15)], qw σ18 α19 κ ρ, 0, 0)
  refine qr_istore_n _ 40 rfl (by decide) rfl rfl ?_
  refine qr_iload_n 41 rfl rfl rfl ?_
  refine qr_aload_n 42 rfl rfl rfl ?_
  refine qr_aload_n 43 rfl rfl rfl ?_
  refine qr_get 46 rfl rfl rfl (by decide) rfl ?_
  refine qy_v (σ 86 57) ((hG21.1 86 57 (by decide)).trans ((hG8.1 86 57 (by decide)).trans rfl)) ?_
  refine qr_iconst 47 rfl rfl ?_
  have hc24 : (σ 86 57) = 0 := by omega
  rw [hc24]
  have hs25 : (-2147483648) ≤ σ18 86 56 ∧ σ18 86 56 ≤ 2147483647 := hI20.1 86 56
  have hs26 : (-2147483648) ≤ σ18 86 57 ∧ σ18 86 57 ≤ 2147483647 := hI20.1 86 57
  have hs27 : σ18 86 57 = (σ 86 57) := (hG21.1 86 57 (by decide)).trans ((hG8.1 86 57 (by decide)).trans rfl)
  refine qr_callN 50 rfl rfl rfl (sf_258_86k0_0 (d := d + 1) hI20 (by decide) (by omega) (by omega)) ?_
  have hs30 : (-2147483648) ≤ σ18 86 56 ∧ σ18 86 56 ≤ 2147483647 := hI20.1 86 56
  rintro _ _ ⟨σ31, α32, rfl, hI33, hG34, v28, rfl, hv28, hp29⟩
  have hF35 : qFr [(86, 56)] [120] σ α σ31 α32 := qFr_t hF22 hG34 (by decide) (by decide)
  have hs36 : (-2147483648) ≤ σ31 86 56 ∧ σ31 86 56 ≤ 2147483647 := hI33.1 86 56
  show qr_W (qe L xs vb) (d + 3) qx_e260 _ (50, _, [.int (qz v28), .int (qz v15)], qw σ31 α32 κ ρ, 0, 0)
  refine qr_isub 51 rfl rfl ?_
  refine qy_can (fun v37 hv37 => ?_)
  refine qr_retI rfl rfl (by decide) (by decide) ?_
  have hw38 : σ31 86 56 = (σ31 86 56) := rfl
  exact ⟨_, _, rfl, hI33, hF35, v37, rfl, hv37, by omega⟩

set_option maxHeartbeats 4000000 in
set_option maxRecDepth 20000 in
/-- OneRoofModel.tellsAs -/
theorem sf_260_86k1_1 {L : Nat} {xs : Nat → Int} {vb : Bool} {d : Nat} {σ α : Nat → Nat → Int} {κ : Nat → Option Nat} {ρ : Nat} {x2 : Int} (hI : qI σ α κ ρ) (r2 : (-2147483648) ≤ x2 ∧ x2 ≤ 2147483647) (p0 : 0 ≤ σ 86 56 ∧ σ 86 56 ≤ 320) (p1 : σ 86 57 = 1) : qm_T (qe L xs vb) (d + 5) 260 [.ref 86, .int (qz 1), .int (qz x2)] (qw σ α κ ρ) (fun r w' => ∃ σ' α', w' = qw σ' α' κ ρ ∧ qI σ' α' κ ρ ∧ qFr [(86, 56)] [120] σ α σ' α' ∧ ∃ v : Int, r = some (.int (qz v)) ∧ ((-2147483648) ≤ v ∧ v ≤ 2147483647) ∧ σ' 86 56 = σ 86 56 + 5) := by
  refine qr_start (d := d + 4) qv_e260 (Nat.le_of_ble_eq_true rfl) ?_
  show qr_W (qe L xs vb) (d + 4) qx_e260 _ (0, [(0, .ref 86), (1, .int (qz 1)), (2, .int (qz x2))], [], _, 0, 0)
  have hF0 := qFr_rf [(86, 56)] [120] σ α
  have hz86_56 : (-2147483648) ≤ σ 86 56 ∧ σ 86 56 ≤ 2147483647 := hI.1 86 56
  have hz86_57 : (-2147483648) ≤ σ 86 57 ∧ σ 86 57 ≤ 2147483647 := hI.1 86 57
  have hz86_6 : 0 ≤ σ 86 6 ∧ σ 86 6 ≤ 32 := hI.1 86 6
  refine qr_iload_n 1 rfl rfl rfl ?_
  refine qr_iconst 2 rfl rfl ?_
  refine qr_icmp_eq 10 5 rfl rfl rfl (by decide) (by decide) (fun h => False.elim (by omega)) (fun h1 => ?_)
  refine qr_iload_n 6 rfl rfl rfl ?_
  refine qr_iconst 7 rfl rfl ?_
  refine qr_icmp_ne 25 10 rfl rfl rfl (by decide) (by decide) (fun h2 => ?_) (fun h => False.elim (by omega))
  refine qr_aload_n 26 rfl rfl rfl ?_
  refine qr_iconst 27 rfl rfl ?_
  have hs3 : (-2147483648) ≤ σ 86 56 ∧ σ 86 56 ≤ 2147483647 := hI.1 86 56
  refine qr_callN 30 rfl rfl rfl (sf_257_86 (d := d + 3) hI (by decide) (by omega)) ?_
  rintro _ _ ⟨σ5, α6, rfl, hI7, hG8, hw4, rfl⟩
  have hF9 : qFr [(86, 56)] [120] σ α σ5 α6 := qFr_t hF0 hG8 (by decide) (by decide)
  have hs10 : (-2147483648) ≤ σ5 86 56 ∧ σ5 86 56 ≤ 2147483647 := hI7.1 86 56
  show qr_W (qe L xs vb) (d + 4) qx_e260 _ (30, _, [], qw σ5 α6 κ ρ, 0, 0)
  refine qr_aload_n 31 rfl rfl rfl ?_
  refine qr_aload_n 32 rfl rfl rfl ?_
  refine qr_get 35 rfl rfl rfl (by decide) rfl ?_
  refine qy_v (σ 86 57) ((hG8.1 86 57 (by decide)).trans rfl) ?_
  refine qr_iload_n 36 rfl rfl rfl ?_
  have hc11 : (σ 86 57) = 1 := by omega
  rw [hc11]
  have hs12 : (-2147483648) ≤ σ5 86 56 ∧ σ5 86 56 ≤ 2147483647 := hI7.1 86 56
  have hs13 : (-2147483648) ≤ σ5 86 57 ∧ σ5 86 57 ≤ 2147483647 := hI7.1 86 57
  have hs14 : σ5 86 57 = (σ 86 57) := (hG8.1 86 57 (by decide)).trans rfl
  refine qr_callN 39 rfl rfl rfl (sf_259_86k1_1 (d := d + 0) hI7 r2 (by omega) (by omega)) ?_
  have hs17 : (-2147483648) ≤ σ5 86 56 ∧ σ5 86 56 ≤ 2147483647 := hI7.1 86 56
  rintro _ _ ⟨σ18, α19, rfl, hI20, hG21, v15, rfl, hv15, hp16⟩
  have hF22 : qFr [(86, 56)] [120] σ α σ18 α19 := qFr_t hF9 hG21 (by decide) (by decide)
  have hs23 : (-2147483648) ≤ σ18 86 56 ∧ σ18 86 56 ≤ 2147483647 := hI20.1 86 56
  show qr_W (qe L xs vb) (d + 4) qx_e260 _ (39, _, [.int (qz v15)], qw σ18 α19 κ ρ, 0, 0)
  refine qr_istore_n _ 40 rfl (by decide) rfl rfl ?_
  refine qr_iload_n 41 rfl rfl rfl ?_
  refine qr_aload_n 42 rfl rfl rfl ?_
  refine qr_aload_n 43 rfl rfl rfl ?_
  refine qr_get 46 rfl rfl rfl (by decide) rfl ?_
  refine qy_v (σ 86 57) ((hG21.1 86 57 (by decide)).trans ((hG8.1 86 57 (by decide)).trans rfl)) ?_
  refine qr_iconst 47 rfl rfl ?_
  have hc24 : (σ 86 57) = 1 := by omega
  rw [hc24]
  have hs25 : (-2147483648) ≤ σ18 86 56 ∧ σ18 86 56 ≤ 2147483647 := hI20.1 86 56
  have hs26 : (-2147483648) ≤ σ18 86 57 ∧ σ18 86 57 ≤ 2147483647 := hI20.1 86 57
  have hs27 : σ18 86 57 = (σ 86 57) := (hG21.1 86 57 (by decide)).trans ((hG8.1 86 57 (by decide)).trans rfl)
  refine qr_callN 50 rfl rfl rfl (sf_258_86k1_1 (d := d + 2) hI20 (by decide) (by omega) (by omega)) ?_
  have hs30 : (-2147483648) ≤ σ18 86 56 ∧ σ18 86 56 ≤ 2147483647 := hI20.1 86 56
  rintro _ _ ⟨σ31, α32, rfl, hI33, hG34, v28, rfl, hv28, hp29⟩
  have hF35 : qFr [(86, 56)] [120] σ α σ31 α32 := qFr_t hF22 hG34 (by decide) (by decide)
  have hs36 : (-2147483648) ≤ σ31 86 56 ∧ σ31 86 56 ≤ 2147483647 := hI33.1 86 56
  show qr_W (qe L xs vb) (d + 4) qx_e260 _ (50, _, [.int (qz v28), .int (qz v15)], qw σ31 α32 κ ρ, 0, 0)
  refine qr_isub 51 rfl rfl ?_
  refine qy_can (fun v37 hv37 => ?_)
  refine qr_retI rfl rfl (by decide) (by decide) ?_
  have hw38 : σ31 86 56 = (σ31 86 56) := rfl
  exact ⟨_, _, rfl, hI33, hF35, v37, rfl, hv37, by omega⟩

set_option maxHeartbeats 4000000 in
set_option maxRecDepth 20000 in
/-- OneRoofModel.tellsAs -/
theorem sf_260_86k2_2 {L : Nat} {xs : Nat → Int} {vb : Bool} {d : Nat} {σ α : Nat → Nat → Int} {κ : Nat → Option Nat} {ρ : Nat} {x2 : Int} (hI : qI σ α κ ρ) (r2 : (-2147483648) ≤ x2 ∧ x2 ≤ 2147483647) (p0 : 0 ≤ σ 86 56 ∧ σ 86 56 ≤ 300) (p1 : σ 86 57 = 2) : qm_T (qe L xs vb) (d + 6) 260 [.ref 86, .int (qz 2), .int (qz x2)] (qw σ α κ ρ) (fun r w' => ∃ σ' α', w' = qw σ' α' κ ρ ∧ qI σ' α' κ ρ ∧ qFr [(86, 56)] [120] σ α σ' α' ∧ ∃ v : Int, r = some (.int (qz v)) ∧ ((-2147483648) ≤ v ∧ v ≤ 2147483647) ∧ σ' 86 56 = σ 86 56 + 7) := by
  refine qr_start (d := d + 5) qv_e260 (Nat.le_of_ble_eq_true rfl) ?_
  show qr_W (qe L xs vb) (d + 5) qx_e260 _ (0, [(0, .ref 86), (1, .int (qz 2)), (2, .int (qz x2))], [], _, 0, 0)
  have hF0 := qFr_rf [(86, 56)] [120] σ α
  have hz86_56 : (-2147483648) ≤ σ 86 56 ∧ σ 86 56 ≤ 2147483647 := hI.1 86 56
  have hz86_57 : (-2147483648) ≤ σ 86 57 ∧ σ 86 57 ≤ 2147483647 := hI.1 86 57
  have hz86_6 : 0 ≤ σ 86 6 ∧ σ 86 6 ≤ 32 := hI.1 86 6
  refine qr_iload_n 1 rfl rfl rfl ?_
  refine qr_iconst 2 rfl rfl ?_
  refine qr_icmp_eq 10 5 rfl rfl rfl (by decide) (by decide) (fun h => False.elim (by omega)) (fun h1 => ?_)
  refine qr_iload_n 6 rfl rfl rfl ?_
  refine qr_iconst 7 rfl rfl ?_
  refine qr_icmp_ne 25 10 rfl rfl rfl (by decide) (by decide) (fun h2 => ?_) (fun h => False.elim (by omega))
  refine qr_aload_n 26 rfl rfl rfl ?_
  refine qr_iconst 27 rfl rfl ?_
  have hs3 : (-2147483648) ≤ σ 86 56 ∧ σ 86 56 ≤ 2147483647 := hI.1 86 56
  refine qr_callN 30 rfl rfl rfl (sf_257_86 (d := d + 4) hI (by decide) (by omega)) ?_
  rintro _ _ ⟨σ5, α6, rfl, hI7, hG8, hw4, rfl⟩
  have hF9 : qFr [(86, 56)] [120] σ α σ5 α6 := qFr_t hF0 hG8 (by decide) (by decide)
  have hs10 : (-2147483648) ≤ σ5 86 56 ∧ σ5 86 56 ≤ 2147483647 := hI7.1 86 56
  show qr_W (qe L xs vb) (d + 5) qx_e260 _ (30, _, [], qw σ5 α6 κ ρ, 0, 0)
  refine qr_aload_n 31 rfl rfl rfl ?_
  refine qr_aload_n 32 rfl rfl rfl ?_
  refine qr_get 35 rfl rfl rfl (by decide) rfl ?_
  refine qy_v (σ 86 57) ((hG8.1 86 57 (by decide)).trans rfl) ?_
  refine qr_iload_n 36 rfl rfl rfl ?_
  have hc11 : (σ 86 57) = 2 := by omega
  rw [hc11]
  have hs12 : (-2147483648) ≤ σ5 86 56 ∧ σ5 86 56 ≤ 2147483647 := hI7.1 86 56
  have hs13 : (-2147483648) ≤ σ5 86 57 ∧ σ5 86 57 ≤ 2147483647 := hI7.1 86 57
  have hs14 : σ5 86 57 = (σ 86 57) := (hG8.1 86 57 (by decide)).trans rfl
  refine qr_callN 39 rfl rfl rfl (sf_259_86k2_2 (d := d + 0) hI7 r2 (by omega) (by omega)) ?_
  have hs17 : (-2147483648) ≤ σ5 86 56 ∧ σ5 86 56 ≤ 2147483647 := hI7.1 86 56
  rintro _ _ ⟨σ18, α19, rfl, hI20, hG21, v15, rfl, hv15, hp16⟩
  have hF22 : qFr [(86, 56)] [120] σ α σ18 α19 := qFr_t hF9 hG21 (by decide) (by decide)
  have hs23 : (-2147483648) ≤ σ18 86 56 ∧ σ18 86 56 ≤ 2147483647 := hI20.1 86 56
  show qr_W (qe L xs vb) (d + 5) qx_e260 _ (39, _, [.int (qz v15)], qw σ18 α19 κ ρ, 0, 0)
  refine qr_istore_n _ 40 rfl (by decide) rfl rfl ?_
  refine qr_iload_n 41 rfl rfl rfl ?_
  refine qr_aload_n 42 rfl rfl rfl ?_
  refine qr_aload_n 43 rfl rfl rfl ?_
  refine qr_get 46 rfl rfl rfl (by decide) rfl ?_
  refine qy_v (σ 86 57) ((hG21.1 86 57 (by decide)).trans ((hG8.1 86 57 (by decide)).trans rfl)) ?_
  refine qr_iconst 47 rfl rfl ?_
  have hc24 : (σ 86 57) = 2 := by omega
  rw [hc24]
  have hs25 : (-2147483648) ≤ σ18 86 56 ∧ σ18 86 56 ≤ 2147483647 := hI20.1 86 56
  have hs26 : (-2147483648) ≤ σ18 86 57 ∧ σ18 86 57 ≤ 2147483647 := hI20.1 86 57
  have hs27 : σ18 86 57 = (σ 86 57) := (hG21.1 86 57 (by decide)).trans ((hG8.1 86 57 (by decide)).trans rfl)
  refine qr_callN 50 rfl rfl rfl (sf_258_86k2_2 (d := d + 2) hI20 (by decide) (by omega) (by omega)) ?_
  have hs30 : (-2147483648) ≤ σ18 86 56 ∧ σ18 86 56 ≤ 2147483647 := hI20.1 86 56
  rintro _ _ ⟨σ31, α32, rfl, hI33, hG34, v28, rfl, hv28, hp29⟩
  have hF35 : qFr [(86, 56)] [120] σ α σ31 α32 := qFr_t hF22 hG34 (by decide) (by decide)
  have hs36 : (-2147483648) ≤ σ31 86 56 ∧ σ31 86 56 ≤ 2147483647 := hI33.1 86 56
  show qr_W (qe L xs vb) (d + 5) qx_e260 _ (50, _, [.int (qz v28), .int (qz v15)], qw σ31 α32 κ ρ, 0, 0)
  refine qr_isub 51 rfl rfl ?_
  refine qy_can (fun v37 hv37 => ?_)
  refine qr_retI rfl rfl (by decide) (by decide) ?_
  have hw38 : σ31 86 56 = (σ31 86 56) := rfl
  exact ⟨_, _, rfl, hI33, hF35, v37, rfl, hv37, by omega⟩

set_option maxHeartbeats 4000000 in
set_option maxRecDepth 20000 in
/-- OneRoofModel.tellsAs -/
theorem sf_260_86k3_3 {L : Nat} {xs : Nat → Int} {vb : Bool} {d : Nat} {σ α : Nat → Nat → Int} {κ : Nat → Option Nat} {ρ : Nat} {x2 : Int} (hI : qI σ α κ ρ) (r2 : (-2147483648) ≤ x2 ∧ x2 ≤ 2147483647) (p0 : 0 ≤ σ 86 56 ∧ σ 86 56 ≤ 320) (p1 : σ 86 57 = 3) : qm_T (qe L xs vb) (d + 5) 260 [.ref 86, .int (qz 3), .int (qz x2)] (qw σ α κ ρ) (fun r w' => ∃ σ' α', w' = qw σ' α' κ ρ ∧ qI σ' α' κ ρ ∧ qFr [(86, 56)] [120] σ α σ' α' ∧ ∃ v : Int, r = some (.int (qz v)) ∧ ((-2147483648) ≤ v ∧ v ≤ 2147483647) ∧ σ' 86 56 = σ 86 56 + 5) := by
  refine qr_start (d := d + 4) qv_e260 (Nat.le_of_ble_eq_true rfl) ?_
  show qr_W (qe L xs vb) (d + 4) qx_e260 _ (0, [(0, .ref 86), (1, .int (qz 3)), (2, .int (qz x2))], [], _, 0, 0)
  have hF0 := qFr_rf [(86, 56)] [120] σ α
  have hz86_56 : (-2147483648) ≤ σ 86 56 ∧ σ 86 56 ≤ 2147483647 := hI.1 86 56
  have hz86_57 : (-2147483648) ≤ σ 86 57 ∧ σ 86 57 ≤ 2147483647 := hI.1 86 57
  have hz86_6 : 0 ≤ σ 86 6 ∧ σ 86 6 ≤ 32 := hI.1 86 6
  refine qr_iload_n 1 rfl rfl rfl ?_
  refine qr_iconst 2 rfl rfl ?_
  refine qr_icmp_eq 10 5 rfl rfl rfl (by decide) (by decide) (fun h => False.elim (by omega)) (fun h1 => ?_)
  refine qr_iload_n 6 rfl rfl rfl ?_
  refine qr_iconst 7 rfl rfl ?_
  refine qr_icmp_ne 25 10 rfl rfl rfl (by decide) (by decide) (fun h2 => ?_) (fun h => False.elim (by omega))
  refine qr_aload_n 26 rfl rfl rfl ?_
  refine qr_iconst 27 rfl rfl ?_
  have hs3 : (-2147483648) ≤ σ 86 56 ∧ σ 86 56 ≤ 2147483647 := hI.1 86 56
  refine qr_callN 30 rfl rfl rfl (sf_257_86 (d := d + 3) hI (by decide) (by omega)) ?_
  rintro _ _ ⟨σ5, α6, rfl, hI7, hG8, hw4, rfl⟩
  have hF9 : qFr [(86, 56)] [120] σ α σ5 α6 := qFr_t hF0 hG8 (by decide) (by decide)
  have hs10 : (-2147483648) ≤ σ5 86 56 ∧ σ5 86 56 ≤ 2147483647 := hI7.1 86 56
  show qr_W (qe L xs vb) (d + 4) qx_e260 _ (30, _, [], qw σ5 α6 κ ρ, 0, 0)
  refine qr_aload_n 31 rfl rfl rfl ?_
  refine qr_aload_n 32 rfl rfl rfl ?_
  refine qr_get 35 rfl rfl rfl (by decide) rfl ?_
  refine qy_v (σ 86 57) ((hG8.1 86 57 (by decide)).trans rfl) ?_
  refine qr_iload_n 36 rfl rfl rfl ?_
  have hc11 : (σ 86 57) = 3 := by omega
  rw [hc11]
  have hs12 : (-2147483648) ≤ σ5 86 56 ∧ σ5 86 56 ≤ 2147483647 := hI7.1 86 56
  have hs13 : (-2147483648) ≤ σ5 86 57 ∧ σ5 86 57 ≤ 2147483647 := hI7.1 86 57
  have hs14 : σ5 86 57 = (σ 86 57) := (hG8.1 86 57 (by decide)).trans rfl
  refine qr_callN 39 rfl rfl rfl (sf_259_86k3_3 (d := d + 0) hI7 r2 (by omega) (by omega)) ?_
  have hs17 : (-2147483648) ≤ σ5 86 56 ∧ σ5 86 56 ≤ 2147483647 := hI7.1 86 56
  rintro _ _ ⟨σ18, α19, rfl, hI20, hG21, v15, rfl, hv15, hp16⟩
  have hF22 : qFr [(86, 56)] [120] σ α σ18 α19 := qFr_t hF9 hG21 (by decide) (by decide)
  have hs23 : (-2147483648) ≤ σ18 86 56 ∧ σ18 86 56 ≤ 2147483647 := hI20.1 86 56
  show qr_W (qe L xs vb) (d + 4) qx_e260 _ (39, _, [.int (qz v15)], qw σ18 α19 κ ρ, 0, 0)
  refine qr_istore_n _ 40 rfl (by decide) rfl rfl ?_
  refine qr_iload_n 41 rfl rfl rfl ?_
  refine qr_aload_n 42 rfl rfl rfl ?_
  refine qr_aload_n 43 rfl rfl rfl ?_
  refine qr_get 46 rfl rfl rfl (by decide) rfl ?_
  refine qy_v (σ 86 57) ((hG21.1 86 57 (by decide)).trans ((hG8.1 86 57 (by decide)).trans rfl)) ?_
  refine qr_iconst 47 rfl rfl ?_
  have hc24 : (σ 86 57) = 3 := by omega
  rw [hc24]
  have hs25 : (-2147483648) ≤ σ18 86 56 ∧ σ18 86 56 ≤ 2147483647 := hI20.1 86 56
  have hs26 : (-2147483648) ≤ σ18 86 57 ∧ σ18 86 57 ≤ 2147483647 := hI20.1 86 57
  have hs27 : σ18 86 57 = (σ 86 57) := (hG21.1 86 57 (by decide)).trans ((hG8.1 86 57 (by decide)).trans rfl)
  refine qr_callN 50 rfl rfl rfl (sf_258_86k3_3 (d := d + 2) hI20 (by decide) (by omega) (by omega)) ?_
  have hs30 : (-2147483648) ≤ σ18 86 56 ∧ σ18 86 56 ≤ 2147483647 := hI20.1 86 56
  rintro _ _ ⟨σ31, α32, rfl, hI33, hG34, v28, rfl, hv28, hp29⟩
  have hF35 : qFr [(86, 56)] [120] σ α σ31 α32 := qFr_t hF22 hG34 (by decide) (by decide)
  have hs36 : (-2147483648) ≤ σ31 86 56 ∧ σ31 86 56 ≤ 2147483647 := hI33.1 86 56
  show qr_W (qe L xs vb) (d + 4) qx_e260 _ (50, _, [.int (qz v28), .int (qz v15)], qw σ31 α32 κ ρ, 0, 0)
  refine qr_isub 51 rfl rfl ?_
  refine qy_can (fun v37 hv37 => ?_)
  refine qr_retI rfl rfl (by decide) (by decide) ?_
  have hw38 : σ31 86 56 = (σ31 86 56) := rfl
  exact ⟨_, _, rfl, hI33, hF35, v37, rfl, hv37, by omega⟩

set_option maxHeartbeats 4000000 in
set_option maxRecDepth 20000 in
/-- OneRoofModel.tellsAs -/
theorem sf_260_86k0_4 {L : Nat} {xs : Nat → Int} {vb : Bool} {d : Nat} {σ α : Nat → Nat → Int} {κ : Nat → Option Nat} {ρ : Nat} {x2 : Int} (hI : qI σ α κ ρ) (r2 : (-2147483648) ≤ x2 ∧ x2 ≤ 2147483647) (p0 : 0 ≤ σ 86 56 ∧ σ 86 56 ≤ 340) (p1 : σ 86 57 = 4) : qm_T (qe L xs vb) (d + 4) 260 [.ref 86, .int (qz 0), .int (qz x2)] (qw σ α κ ρ) (fun r w' => ∃ σ' α', w' = qw σ' α' κ ρ ∧ qI σ' α' κ ρ ∧ qFr [(86, 56)] [120] σ α σ' α' ∧ ∃ v : Int, r = some (.int (qz v)) ∧ ((-2147483648) ≤ v ∧ v ≤ 2147483647) ∧ σ' 86 56 = σ 86 56 + 4) := by
  refine qr_start (d := d + 3) qv_e260 (Nat.le_of_ble_eq_true rfl) ?_
  show qr_W (qe L xs vb) (d + 3) qx_e260 _ (0, [(0, .ref 86), (1, .int (qz 0)), (2, .int (qz x2))], [], _, 0, 0)
  have hF0 := qFr_rf [(86, 56)] [120] σ α
  have hz86_56 : (-2147483648) ≤ σ 86 56 ∧ σ 86 56 ≤ 2147483647 := hI.1 86 56
  have hz86_57 : (-2147483648) ≤ σ 86 57 ∧ σ 86 57 ≤ 2147483647 := hI.1 86 57
  have hz86_6 : 0 ≤ σ 86 6 ∧ σ 86 6 ≤ 32 := hI.1 86 6
  refine qr_iload_n 1 rfl rfl rfl ?_
  refine qr_iconst 2 rfl rfl ?_
  refine qr_icmp_eq 10 5 rfl rfl rfl (by decide) (by decide) (fun h => False.elim (by omega)) (fun h1 => ?_)
  refine qr_iload_n 6 rfl rfl rfl ?_
  refine qr_iconst 7 rfl rfl ?_
  refine qr_icmp_ne 25 10 rfl rfl rfl (by decide) (by decide) (fun h2 => ?_) (fun h => False.elim (by omega))
  refine qr_aload_n 26 rfl rfl rfl ?_
  refine qr_iconst 27 rfl rfl ?_
  have hs3 : (-2147483648) ≤ σ 86 56 ∧ σ 86 56 ≤ 2147483647 := hI.1 86 56
  refine qr_callN 30 rfl rfl rfl (sf_257_86 (d := d + 2) hI (by decide) (by omega)) ?_
  rintro _ _ ⟨σ5, α6, rfl, hI7, hG8, hw4, rfl⟩
  have hF9 : qFr [(86, 56)] [120] σ α σ5 α6 := qFr_t hF0 hG8 (by decide) (by decide)
  have hs10 : (-2147483648) ≤ σ5 86 56 ∧ σ5 86 56 ≤ 2147483647 := hI7.1 86 56
  show qr_W (qe L xs vb) (d + 3) qx_e260 _ (30, _, [], qw σ5 α6 κ ρ, 0, 0)
  refine qr_aload_n 31 rfl rfl rfl ?_
  refine qr_aload_n 32 rfl rfl rfl ?_
  refine qr_get 35 rfl rfl rfl (by decide) rfl ?_
  refine qy_v (σ 86 57) ((hG8.1 86 57 (by decide)).trans rfl) ?_
  refine qr_iload_n 36 rfl rfl rfl ?_
  have hc11 : (σ 86 57) = 4 := by omega
  rw [hc11]
  have hs12 : (-2147483648) ≤ σ5 86 56 ∧ σ5 86 56 ≤ 2147483647 := hI7.1 86 56
  have hs13 : (-2147483648) ≤ σ5 86 57 ∧ σ5 86 57 ≤ 2147483647 := hI7.1 86 57
  have hs14 : σ5 86 57 = (σ 86 57) := (hG8.1 86 57 (by decide)).trans rfl
  refine qr_callN 39 rfl rfl rfl (sf_259_86k4_4 (d := d + 0) hI7 r2 (by omega) (by omega)) ?_
  have hs17 : (-2147483648) ≤ σ5 86 56 ∧ σ5 86 56 ≤ 2147483647 := hI7.1 86 56
  rintro _ _ ⟨σ18, α19, rfl, hI20, hG21, v15, rfl, hv15, hp16⟩
  have hF22 : qFr [(86, 56)] [120] σ α σ18 α19 := qFr_t hF9 hG21 (by decide) (by decide)
  have hs23 : (-2147483648) ≤ σ18 86 56 ∧ σ18 86 56 ≤ 2147483647 := hI20.1 86 56
  show qr_W (qe L xs vb) (d + 3) qx_e260 _ (39, _, [.int (qz v15)], qw σ18 α19 κ ρ, 0, 0)
  refine qr_istore_n _ 40 rfl (by decide) rfl rfl ?_
  refine qr_iload_n 41 rfl rfl rfl ?_
  refine qr_aload_n 42 rfl rfl rfl ?_
  refine qr_aload_n 43 rfl rfl rfl ?_
  refine qr_get 46 rfl rfl rfl (by decide) rfl ?_
  refine qy_v (σ 86 57) ((hG21.1 86 57 (by decide)).trans ((hG8.1 86 57 (by decide)).trans rfl)) ?_
  refine qr_iconst 47 rfl rfl ?_
  have hc24 : (σ 86 57) = 4 := by omega
  rw [hc24]
  have hs25 : (-2147483648) ≤ σ18 86 56 ∧ σ18 86 56 ≤ 2147483647 := hI20.1 86 56
  have hs26 : (-2147483648) ≤ σ18 86 57 ∧ σ18 86 57 ≤ 2147483647 := hI20.1 86 57
  have hs27 : σ18 86 57 = (σ 86 57) := (hG21.1 86 57 (by decide)).trans ((hG8.1 86 57 (by decide)).trans rfl)
  refine qr_callN 50 rfl rfl rfl (sf_258_86k4_4 (d := d + 1) hI20 (by decide) (by omega) (by omega)) ?_
  have hs30 : (-2147483648) ≤ σ18 86 56 ∧ σ18 86 56 ≤ 2147483647 := hI20.1 86 56
  rintro _ _ ⟨σ31, α32, rfl, hI33, hG34, v28, rfl, hv28, hp29⟩
  have hF35 : qFr [(86, 56)] [120] σ α σ31 α32 := qFr_t hF22 hG34 (by decide) (by decide)
  have hs36 : (-2147483648) ≤ σ31 86 56 ∧ σ31 86 56 ≤ 2147483647 := hI33.1 86 56
  show qr_W (qe L xs vb) (d + 3) qx_e260 _ (50, _, [.int (qz v28), .int (qz v15)], qw σ31 α32 κ ρ, 0, 0)
  refine qr_isub 51 rfl rfl ?_
  refine qy_can (fun v37 hv37 => ?_)
  refine qr_retI rfl rfl (by decide) (by decide) ?_
  have hw38 : σ31 86 56 = (σ31 86 56) := rfl
  exact ⟨_, _, rfl, hI33, hF35, v37, rfl, hv37, by omega⟩

set_option maxHeartbeats 4000000 in
set_option maxRecDepth 20000 in
/-- OneRoofModel.tellsAs -/
theorem sf_260_86k4_4 {L : Nat} {xs : Nat → Int} {vb : Bool} {d : Nat} {σ α : Nat → Nat → Int} {κ : Nat → Option Nat} {ρ : Nat} {x2 : Int} (hI : qI σ α κ ρ) (r2 : (-2147483648) ≤ x2 ∧ x2 ≤ 2147483647) (p0 : 0 ≤ σ 86 56 ∧ σ 86 56 ≤ 320) (p1 : σ 86 57 = 4) : qm_T (qe L xs vb) (d + 5) 260 [.ref 86, .int (qz 4), .int (qz x2)] (qw σ α κ ρ) (fun r w' => ∃ σ' α', w' = qw σ' α' κ ρ ∧ qI σ' α' κ ρ ∧ qFr [(86, 56)] [120] σ α σ' α' ∧ ∃ v : Int, r = some (.int (qz v)) ∧ ((-2147483648) ≤ v ∧ v ≤ 2147483647) ∧ σ' 86 56 = σ 86 56 + 5) := by
  refine qr_start (d := d + 4) qv_e260 (Nat.le_of_ble_eq_true rfl) ?_
  show qr_W (qe L xs vb) (d + 4) qx_e260 _ (0, [(0, .ref 86), (1, .int (qz 4)), (2, .int (qz x2))], [], _, 0, 0)
  have hF0 := qFr_rf [(86, 56)] [120] σ α
  have hz86_56 : (-2147483648) ≤ σ 86 56 ∧ σ 86 56 ≤ 2147483647 := hI.1 86 56
  have hz86_57 : (-2147483648) ≤ σ 86 57 ∧ σ 86 57 ≤ 2147483647 := hI.1 86 57
  have hz86_6 : 0 ≤ σ 86 6 ∧ σ 86 6 ≤ 32 := hI.1 86 6
  refine qr_iload_n 1 rfl rfl rfl ?_
  refine qr_iconst 2 rfl rfl ?_
  refine qr_icmp_eq 10 5 rfl rfl rfl (by decide) (by decide) (fun h1 => ?_) (fun h => False.elim (by omega))
  refine qr_aload_n 11 rfl rfl rfl ?_
  refine qr_bipush 13 rfl (by decide) rfl ?_
  have hs2 : (-2147483648) ≤ σ 86 56 ∧ σ 86 56 ≤ 2147483647 := hI.1 86 56
  refine qr_callN 16 rfl rfl rfl (sf_257_86 (d := d + 3) hI (by decide) (by omega)) ?_
  rintro _ _ ⟨σ4, α5, rfl, hI6, hG7, hw3, rfl⟩
  have hF8 : qFr [(86, 56)] [120] σ α σ4 α5 := qFr_t hF0 hG7 (by decide) (by decide)
  have hs9 : (-2147483648) ≤ σ4 86 56 ∧ σ4 86 56 ≤ 2147483647 := hI6.1 86 56
  show qr_W (qe L xs vb) (d + 4) qx_e260 _ (16, _, [], qw σ4 α5 κ ρ, 0, 0)
  refine qr_aload_n 17 rfl rfl rfl ?_
  refine qr_iconst 18 rfl rfl ?_
  refine qr_iload_n 19 rfl rfl rfl ?_
  have hs10 : (-2147483648) ≤ σ4 86 56 ∧ σ4 86 56 ≤ 2147483647 := hI6.1 86 56
  have hs11 : (-2147483648) ≤ σ4 86 57 ∧ σ4 86 57 ≤ 2147483647 := hI6.1 86 57
  have hs12 : σ4 86 57 = (σ 86 57) := (hG7.1 86 57 (by decide)).trans rfl
  refine qr_callN 22 rfl rfl rfl (sf_260_86k0_4 (d := d + 0) hI6 r2 (by omega) (by omega)) ?_
  have hs15 : (-2147483648) ≤ σ4 86 56 ∧ σ4 86 56 ≤ 2147483647 := hI6.1 86 56
  rintro _ _ ⟨σ16, α17, rfl, hI18, hG19, v13, rfl, hv13, hp14⟩
  have hF20 : qFr [(86, 56)] [120] σ α σ16 α17 := qFr_t hF8 hG19 (by decide) (by decide)
  have hs21 : (-2147483648) ≤ σ16 86 56 ∧ σ16 86 56 ≤ 2147483647 := hI18.1 86 56
  show qr_W (qe L xs vb) (d + 4) qx_e260 _ (22, _, [.int (qz v13)], qw σ16 α17 κ ρ, 0, 0)
  refine qr_iconst 23 rfl rfl ?_
  refine qr_ixor 24 rfl rfl ?_
  refine qy_can (fun v22 hv22 => ?_)
  refine qr_retI rfl rfl (by decide) (by decide) ?_
  have hw23 : σ16 86 56 = (σ16 86 56) := rfl
  exact ⟨_, _, rfl, hI18, hF20, v22, rfl, hv22, by omega⟩

set_option maxHeartbeats 4000000 in
set_option maxRecDepth 20000 in
/-- OneRoofModel.tellsAs -/
theorem sf_260_86k0_5 {L : Nat} {xs : Nat → Int} {vb : Bool} {d : Nat} {σ α : Nat → Nat → Int} {κ : Nat → Option Nat} {ρ : Nat} {x2 : Int} (hI : qI σ α κ ρ) (r2 : (-2147483648) ≤ x2 ∧ x2 ≤ 2147483647) (p0 : 0 ≤ σ 86 56 ∧ σ 86 56 ≤ 320) (p1 : σ 86 57 = 5) : qm_T (qe L xs vb) (d + 5) 260 [.ref 86, .int (qz 0), .int (qz x2)] (qw σ α κ ρ) (fun r w' => ∃ σ' α', w' = qw σ' α' κ ρ ∧ qI σ' α' κ ρ ∧ qFr [(86, 56)] [120] σ α σ' α' ∧ ∃ v : Int, r = some (.int (qz v)) ∧ ((-2147483648) ≤ v ∧ v ≤ 2147483647) ∧ σ' 86 56 = σ 86 56 + 6) := by
  refine qr_start (d := d + 4) qv_e260 (Nat.le_of_ble_eq_true rfl) ?_
  show qr_W (qe L xs vb) (d + 4) qx_e260 _ (0, [(0, .ref 86), (1, .int (qz 0)), (2, .int (qz x2))], [], _, 0, 0)
  have hF0 := qFr_rf [(86, 56)] [120] σ α
  have hz86_56 : (-2147483648) ≤ σ 86 56 ∧ σ 86 56 ≤ 2147483647 := hI.1 86 56
  have hz86_57 : (-2147483648) ≤ σ 86 57 ∧ σ 86 57 ≤ 2147483647 := hI.1 86 57
  have hz86_6 : 0 ≤ σ 86 6 ∧ σ 86 6 ≤ 32 := hI.1 86 6
  refine qr_iload_n 1 rfl rfl rfl ?_
  refine qr_iconst 2 rfl rfl ?_
  refine qr_icmp_eq 10 5 rfl rfl rfl (by decide) (by decide) (fun h => False.elim (by omega)) (fun h1 => ?_)
  refine qr_iload_n 6 rfl rfl rfl ?_
  refine qr_iconst 7 rfl rfl ?_
  refine qr_icmp_ne 25 10 rfl rfl rfl (by decide) (by decide) (fun h2 => ?_) (fun h => False.elim (by omega))
  refine qr_aload_n 26 rfl rfl rfl ?_
  refine qr_iconst 27 rfl rfl ?_
  have hs3 : (-2147483648) ≤ σ 86 56 ∧ σ 86 56 ≤ 2147483647 := hI.1 86 56
  refine qr_callN 30 rfl rfl rfl (sf_257_86 (d := d + 3) hI (by decide) (by omega)) ?_
  rintro _ _ ⟨σ5, α6, rfl, hI7, hG8, hw4, rfl⟩
  have hF9 : qFr [(86, 56)] [120] σ α σ5 α6 := qFr_t hF0 hG8 (by decide) (by decide)
  have hs10 : (-2147483648) ≤ σ5 86 56 ∧ σ5 86 56 ≤ 2147483647 := hI7.1 86 56
  show qr_W (qe L xs vb) (d + 4) qx_e260 _ (30, _, [], qw σ5 α6 κ ρ, 0, 0)
  refine qr_aload_n 31 rfl rfl rfl ?_
  refine qr_aload_n 32 rfl rfl rfl ?_
  refine qr_get 35 rfl rfl rfl (by decide) rfl ?_
  refine qy_v (σ 86 57) ((hG8.1 86 57 (by decide)).trans rfl) ?_
  refine qr_iload_n 36 rfl rfl rfl ?_
  have hc11 : (σ 86 57) = 5 := by omega
  rw [hc11]
  have hs12 : (-2147483648) ≤ σ5 86 56 ∧ σ5 86 56 ≤ 2147483647 := hI7.1 86 56
  have hs13 : (-2147483648) ≤ σ5 86 57 ∧ σ5 86 57 ≤ 2147483647 := hI7.1 86 57
  have hs14 : σ5 86 57 = (σ 86 57) := (hG8.1 86 57 (by decide)).trans rfl
  refine qr_callN 39 rfl rfl rfl (sf_259_86k5_5 (d := d + 0) hI7 r2 (by omega) (by omega)) ?_
  have hs17 : (-2147483648) ≤ σ5 86 56 ∧ σ5 86 56 ≤ 2147483647 := hI7.1 86 56
  rintro _ _ ⟨σ18, α19, rfl, hI20, hG21, v15, rfl, hv15, hp16⟩
  have hF22 : qFr [(86, 56)] [120] σ α σ18 α19 := qFr_t hF9 hG21 (by decide) (by decide)
  have hs23 : (-2147483648) ≤ σ18 86 56 ∧ σ18 86 56 ≤ 2147483647 := hI20.1 86 56
  show qr_W (qe L xs vb) (d + 4) qx_e260 _ (39, _, [.int (qz v15)], qw σ18 α19 κ ρ, 0, 0)
  refine qr_istore_n _ 40 rfl (by decide) rfl rfl ?_
  refine qr_iload_n 41 rfl rfl rfl ?_
  refine qr_aload_n 42 rfl rfl rfl ?_
  refine qr_aload_n 43 rfl rfl rfl ?_
  refine qr_get 46 rfl rfl rfl (by decide) rfl ?_
  refine qy_v (σ 86 57) ((hG21.1 86 57 (by decide)).trans ((hG8.1 86 57 (by decide)).trans rfl)) ?_
  refine qr_iconst 47 rfl rfl ?_
  have hc24 : (σ 86 57) = 5 := by omega
  rw [hc24]
  have hs25 : (-2147483648) ≤ σ18 86 56 ∧ σ18 86 56 ≤ 2147483647 := hI20.1 86 56
  have hs26 : (-2147483648) ≤ σ18 86 57 ∧ σ18 86 57 ≤ 2147483647 := hI20.1 86 57
  have hs27 : σ18 86 57 = (σ 86 57) := (hG21.1 86 57 (by decide)).trans ((hG8.1 86 57 (by decide)).trans rfl)
  refine qr_callN 50 rfl rfl rfl (sf_258_86k5_5 (d := d + 2) hI20 (by decide) (by omega) (by omega)) ?_
  have hs30 : (-2147483648) ≤ σ18 86 56 ∧ σ18 86 56 ≤ 2147483647 := hI20.1 86 56
  rintro _ _ ⟨σ31, α32, rfl, hI33, hG34, v28, rfl, hv28, hp29⟩
  have hF35 : qFr [(86, 56)] [120] σ α σ31 α32 := qFr_t hF22 hG34 (by decide) (by decide)
  have hs36 : (-2147483648) ≤ σ31 86 56 ∧ σ31 86 56 ≤ 2147483647 := hI33.1 86 56
  show qr_W (qe L xs vb) (d + 4) qx_e260 _ (50, _, [.int (qz v28), .int (qz v15)], qw σ31 α32 κ ρ, 0, 0)
  refine qr_isub 51 rfl rfl ?_
  refine qy_can (fun v37 hv37 => ?_)
  refine qr_retI rfl rfl (by decide) (by decide) ?_
  have hw38 : σ31 86 56 = (σ31 86 56) := rfl
  exact ⟨_, _, rfl, hI33, hF35, v37, rfl, hv37, by omega⟩

set_option maxHeartbeats 4000000 in
set_option maxRecDepth 20000 in
/-- OneRoofModel.tellsAs -/
theorem sf_260_86k5_5 {L : Nat} {xs : Nat → Int} {vb : Bool} {d : Nat} {σ α : Nat → Nat → Int} {κ : Nat → Option Nat} {ρ : Nat} {x2 : Int} (hI : qI σ α κ ρ) (r2 : (-2147483648) ≤ x2 ∧ x2 ≤ 2147483647) (p0 : 0 ≤ σ 86 56 ∧ σ 86 56 ≤ 300) (p1 : σ 86 57 = 5) : qm_T (qe L xs vb) (d + 6) 260 [.ref 86, .int (qz 5), .int (qz x2)] (qw σ α κ ρ) (fun r w' => ∃ σ' α', w' = qw σ' α' κ ρ ∧ qI σ' α' κ ρ ∧ qFr [(86, 56)] [120] σ α σ' α' ∧ ∃ v : Int, r = some (.int (qz v)) ∧ ((-2147483648) ≤ v ∧ v ≤ 2147483647) ∧ σ' 86 56 = σ 86 56 + 7) := by
  refine qr_start (d := d + 5) qv_e260 (Nat.le_of_ble_eq_true rfl) ?_
  show qr_W (qe L xs vb) (d + 5) qx_e260 _ (0, [(0, .ref 86), (1, .int (qz 5)), (2, .int (qz x2))], [], _, 0, 0)
  have hF0 := qFr_rf [(86, 56)] [120] σ α
  have hz86_56 : (-2147483648) ≤ σ 86 56 ∧ σ 86 56 ≤ 2147483647 := hI.1 86 56
  have hz86_57 : (-2147483648) ≤ σ 86 57 ∧ σ 86 57 ≤ 2147483647 := hI.1 86 57
  have hz86_6 : 0 ≤ σ 86 6 ∧ σ 86 6 ≤ 32 := hI.1 86 6
  refine qr_iload_n 1 rfl rfl rfl ?_
  refine qr_iconst 2 rfl rfl ?_
  refine qr_icmp_eq 10 5 rfl rfl rfl (by decide) (by decide) (fun h => False.elim (by omega)) (fun h1 => ?_)
  refine qr_iload_n 6 rfl rfl rfl ?_
  refine qr_iconst 7 rfl rfl ?_
  refine qr_icmp_ne 25 10 rfl rfl rfl (by decide) (by decide) (fun h => False.elim (by omega)) (fun h2 => ?_)
  refine qr_aload_n 11 rfl rfl rfl ?_
  refine qr_bipush 13 rfl (by decide) rfl ?_
  have hs3 : (-2147483648) ≤ σ 86 56 ∧ σ 86 56 ≤ 2147483647 := hI.1 86 56
  refine qr_callN 16 rfl rfl rfl (sf_257_86 (d := d + 4) hI (by decide) (by omega)) ?_
  rintro _ _ ⟨σ5, α6, rfl, hI7, hG8, hw4, rfl⟩
  have hF9 : qFr [(86, 56)] [120] σ α σ5 α6 := qFr_t hF0 hG8 (by decide) (by decide)
  have hs10 : (-2147483648) ≤ σ5 86 56 ∧ σ5 86 56 ≤ 2147483647 := hI7.1 86 56
  show qr_W (qe L xs vb) (d + 5) qx_e260 _ (16, _, [], qw σ5 α6 κ ρ, 0, 0)
  refine qr_aload_n 17 rfl rfl rfl ?_
  refine qr_iconst 18 rfl rfl ?_
  refine qr_iload_n 19 rfl rfl rfl ?_
  have hs11 : (-2147483648) ≤ σ5 86 56 ∧ σ5 86 56 ≤ 2147483647 := hI7.1 86 56
  have hs12 : (-2147483648) ≤ σ5 86 57 ∧ σ5 86 57 ≤ 2147483647 := hI7.1 86 57
  have hs13 : σ5 86 57 = (σ 86 57) := (hG8.1 86 57 (by decide)).trans rfl
  refine qr_callN 22 rfl rfl rfl (sf_260_86k0_5 (d := d + 0) hI7 r2 (by omega) (by omega)) ?_
  have hs16 : (-2147483648) ≤ σ5 86 56 ∧ σ5 86 56 ≤ 2147483647 := hI7.1 86 56
  rintro _ _ ⟨σ17, α18, rfl, hI19, hG20, v14, rfl, hv14, hp15⟩
  have hF21 : qFr [(86, 56)] [120] σ α σ17 α18 := qFr_t hF9 hG20 (by decide) (by decide)
  have hs22 : (-2147483648) ≤ σ17 86 56 ∧ σ17 86 56 ≤ 2147483647 := hI19.1 86 56
  show qr_W (qe L xs vb) (d + 5) qx_e260 _ (22, _, [.int (qz v14)], qw σ17 α18 κ ρ, 0, 0)
  refine qr_iconst 23 rfl rfl ?_
  refine qr_ixor 24 rfl rfl ?_
  refine qy_can (fun v23 hv23 => ?_)
  refine qr_retI rfl rfl (by decide) (by decide) ?_
  have hw24 : σ17 86 56 = (σ17 86 56) := rfl
  exact ⟨_, _, rfl, hI19, hF21, v23, rfl, hv23, by omega⟩

set_option maxHeartbeats 4000000 in
set_option maxRecDepth 20000 in
/-- OneRoofModel.tellsAs -/
theorem sf_260_86k6_6 {L : Nat} {xs : Nat → Int} {vb : Bool} {d : Nat} {σ α : Nat → Nat → Int} {κ : Nat → Option Nat} {ρ : Nat} {x2 : Int} (hI : qI σ α κ ρ) (r2 : (-2147483648) ≤ x2 ∧ x2 ≤ 2147483647) (p0 : 0 ≤ σ 86 56 ∧ σ 86 56 ≤ 320) (p1 : σ 86 57 = 6) : qm_T (qe L xs vb) (d + 5) 260 [.ref 86, .int (qz 6), .int (qz x2)] (qw σ α κ ρ) (fun r w' => ∃ σ' α', w' = qw σ' α' κ ρ ∧ qI σ' α' κ ρ ∧ qFr [(86, 56)] [120] σ α σ' α' ∧ ∃ v : Int, r = some (.int (qz v)) ∧ ((-2147483648) ≤ v ∧ v ≤ 2147483647) ∧ σ' 86 56 = σ 86 56 + 7) := by
  refine qr_start (d := d + 4) qv_e260 (Nat.le_of_ble_eq_true rfl) ?_
  show qr_W (qe L xs vb) (d + 4) qx_e260 _ (0, [(0, .ref 86), (1, .int (qz 6)), (2, .int (qz x2))], [], _, 0, 0)
  have hF0 := qFr_rf [(86, 56)] [120] σ α
  have hz86_56 : (-2147483648) ≤ σ 86 56 ∧ σ 86 56 ≤ 2147483647 := hI.1 86 56
  have hz86_57 : (-2147483648) ≤ σ 86 57 ∧ σ 86 57 ≤ 2147483647 := hI.1 86 57
  have hz86_6 : 0 ≤ σ 86 6 ∧ σ 86 6 ≤ 32 := hI.1 86 6
  refine qr_iload_n 1 rfl rfl rfl ?_
  refine qr_iconst 2 rfl rfl ?_
  refine qr_icmp_eq 10 5 rfl rfl rfl (by decide) (by decide) (fun h => False.elim (by omega)) (fun h1 => ?_)
  refine qr_iload_n 6 rfl rfl rfl ?_
  refine qr_iconst 7 rfl rfl ?_
  refine qr_icmp_ne 25 10 rfl rfl rfl (by decide) (by decide) (fun h2 => ?_) (fun h => False.elim (by omega))
  refine qr_aload_n 26 rfl rfl rfl ?_
  refine qr_iconst 27 rfl rfl ?_
  have hs3 : (-2147483648) ≤ σ 86 56 ∧ σ 86 56 ≤ 2147483647 := hI.1 86 56
  refine qr_callN 30 rfl rfl rfl (sf_257_86 (d := d + 3) hI (by decide) (by omega)) ?_
  rintro _ _ ⟨σ5, α6, rfl, hI7, hG8, hw4, rfl⟩
  have hF9 : qFr [(86, 56)] [120] σ α σ5 α6 := qFr_t hF0 hG8 (by decide) (by decide)
  have hs10 : (-2147483648) ≤ σ5 86 56 ∧ σ5 86 56 ≤ 2147483647 := hI7.1 86 56
  show qr_W (qe L xs vb) (d + 4) qx_e260 _ (30, _, [], qw σ5 α6 κ ρ, 0, 0)
  refine qr_aload_n 31 rfl rfl rfl ?_
  refine qr_aload_n 32 rfl rfl rfl ?_
  refine qr_get 35 rfl rfl rfl (by decide) rfl ?_
  refine qy_v (σ 86 57) ((hG8.1 86 57 (by decide)).trans rfl) ?_
  refine qr_iload_n 36 rfl rfl rfl ?_
  have hc11 : (σ 86 57) = 6 := by omega
  rw [hc11]
  have hs12 : (-2147483648) ≤ σ5 86 56 ∧ σ5 86 56 ≤ 2147483647 := hI7.1 86 56
  have hs13 : (-2147483648) ≤ σ5 86 57 ∧ σ5 86 57 ≤ 2147483647 := hI7.1 86 57
  have hs14 : σ5 86 57 = (σ 86 57) := (hG8.1 86 57 (by decide)).trans rfl
  refine qr_callN 39 rfl rfl rfl (sf_259_86k6_6 (d := d + 0) hI7 r2 (by omega) (by omega)) ?_
  have hs17 : (-2147483648) ≤ σ5 86 56 ∧ σ5 86 56 ≤ 2147483647 := hI7.1 86 56
  rintro _ _ ⟨σ18, α19, rfl, hI20, hG21, v15, rfl, hv15, hp16⟩
  have hF22 : qFr [(86, 56)] [120] σ α σ18 α19 := qFr_t hF9 hG21 (by decide) (by decide)
  have hs23 : (-2147483648) ≤ σ18 86 56 ∧ σ18 86 56 ≤ 2147483647 := hI20.1 86 56
  show qr_W (qe L xs vb) (d + 4) qx_e260 _ (39, _, [.int (qz v15)], qw σ18 α19 κ ρ, 0, 0)
  refine qr_istore_n _ 40 rfl (by decide) rfl rfl ?_
  refine qr_iload_n 41 rfl rfl rfl ?_
  refine qr_aload_n 42 rfl rfl rfl ?_
  refine qr_aload_n 43 rfl rfl rfl ?_
  refine qr_get 46 rfl rfl rfl (by decide) rfl ?_
  refine qy_v (σ 86 57) ((hG21.1 86 57 (by decide)).trans ((hG8.1 86 57 (by decide)).trans rfl)) ?_
  refine qr_iconst 47 rfl rfl ?_
  have hc24 : (σ 86 57) = 6 := by omega
  rw [hc24]
  have hs25 : (-2147483648) ≤ σ18 86 56 ∧ σ18 86 56 ≤ 2147483647 := hI20.1 86 56
  have hs26 : (-2147483648) ≤ σ18 86 57 ∧ σ18 86 57 ≤ 2147483647 := hI20.1 86 57
  have hs27 : σ18 86 57 = (σ 86 57) := (hG21.1 86 57 (by decide)).trans ((hG8.1 86 57 (by decide)).trans rfl)
  refine qr_callN 50 rfl rfl rfl (sf_258_86k6_6 (d := d + 1) hI20 (by decide) (by omega) (by omega)) ?_
  have hs30 : (-2147483648) ≤ σ18 86 56 ∧ σ18 86 56 ≤ 2147483647 := hI20.1 86 56
  rintro _ _ ⟨σ31, α32, rfl, hI33, hG34, v28, rfl, hv28, hp29⟩
  have hF35 : qFr [(86, 56)] [120] σ α σ31 α32 := qFr_t hF22 hG34 (by decide) (by decide)
  have hs36 : (-2147483648) ≤ σ31 86 56 ∧ σ31 86 56 ≤ 2147483647 := hI33.1 86 56
  show qr_W (qe L xs vb) (d + 4) qx_e260 _ (50, _, [.int (qz v28), .int (qz v15)], qw σ31 α32 κ ρ, 0, 0)
  refine qr_isub 51 rfl rfl ?_
  refine qy_can (fun v37 hv37 => ?_)
  refine qr_retI rfl rfl (by decide) (by decide) ?_
  have hw38 : σ31 86 56 = (σ31 86 56) := rfl
  exact ⟨_, _, rfl, hI33, hF35, v37, rfl, hv37, by omega⟩

set_option maxHeartbeats 4000000 in
set_option maxRecDepth 20000 in
/-- OneRoofModel.tellsAs -/
theorem sf_260_86kp_p {L : Nat} {xs : Nat → Int} {vb : Bool} {d : Nat} {σ α : Nat → Nat → Int} {κ : Nat → Option Nat} {ρ : Nat} {x1 : Int} {x2 : Int} (hI : qI σ α κ ρ) (r1 : 7 ≤ x1 ∧ x1 ≤ 2147483647) (r2 : (-2147483648) ≤ x2 ∧ x2 ≤ 2147483647) (p0 : 0 ≤ σ 86 56 ∧ σ 86 56 ≤ 340) (p1 : 6 < σ 86 57) : qm_T (qe L xs vb) (d + 4) 260 [.ref 86, .int (qz x1), .int (qz x2)] (qw σ α κ ρ) (fun r w' => ∃ σ' α', w' = qw σ' α' κ ρ ∧ qI σ' α' κ ρ ∧ qFr [(86, 56)] [120] σ α σ' α' ∧ ∃ v : Int, r = some (.int (qz v)) ∧ ((-2147483648) ≤ v ∧ v ≤ 2147483647) ∧ σ' 86 56 = σ 86 56 + 4) := by
  refine qr_start (d := d + 3) qv_e260 (Nat.le_of_ble_eq_true rfl) ?_
  show qr_W (qe L xs vb) (d + 3) qx_e260 _ (0, [(0, .ref 86), (1, .int (qz x1)), (2, .int (qz x2))], [], _, 0, 0)
  have hF0 := qFr_rf [(86, 56)] [120] σ α
  have hz86_56 : (-2147483648) ≤ σ 86 56 ∧ σ 86 56 ≤ 2147483647 := hI.1 86 56
  have hz86_57 : (-2147483648) ≤ σ 86 57 ∧ σ 86 57 ≤ 2147483647 := hI.1 86 57
  have hz86_6 : 0 ≤ σ 86 6 ∧ σ 86 6 ≤ 32 := hI.1 86 6
  refine qr_iload_n 1 rfl rfl rfl ?_
  refine qr_iconst 2 rfl rfl ?_
  refine qr_icmp_eq 10 5 rfl rfl rfl (qrg r1 (by decide) (by decide)) (by decide) (fun h => False.elim (by omega)) (fun h1 => ?_)
  refine qr_iload_n 6 rfl rfl rfl ?_
  refine qr_iconst 7 rfl rfl ?_
  refine qr_icmp_ne 25 10 rfl rfl rfl (qrg r1 (by decide) (by decide)) (by decide) (fun h2 => ?_) (fun h => False.elim (by omega))
  refine qr_aload_n 26 rfl rfl rfl ?_
  refine qr_iconst 27 rfl rfl ?_
  have hs3 : (-2147483648) ≤ σ 86 56 ∧ σ 86 56 ≤ 2147483647 := hI.1 86 56
  refine qr_callN 30 rfl rfl rfl (sf_257_86 (d := d + 2) hI (by decide) (by omega)) ?_
  rintro _ _ ⟨σ5, α6, rfl, hI7, hG8, hw4, rfl⟩
  have hF9 : qFr [(86, 56)] [120] σ α σ5 α6 := qFr_t hF0 hG8 (by decide) (by decide)
  have hs10 : (-2147483648) ≤ σ5 86 56 ∧ σ5 86 56 ≤ 2147483647 := hI7.1 86 56
  show qr_W (qe L xs vb) (d + 3) qx_e260 _ (30, _, [], qw σ5 α6 κ ρ, 0, 0)
  refine qr_aload_n 31 rfl rfl rfl ?_
  refine qr_aload_n 32 rfl rfl rfl ?_
  refine qr_get 35 rfl rfl rfl (by decide) rfl ?_
  refine qy_v (σ 86 57) ((hG8.1 86 57 (by decide)).trans rfl) ?_
  refine qr_iload_n 36 rfl rfl rfl ?_
  have hs11 : (-2147483648) ≤ σ5 86 56 ∧ σ5 86 56 ≤ 2147483647 := hI7.1 86 56
  have hs12 : (-2147483648) ≤ σ5 86 57 ∧ σ5 86 57 ≤ 2147483647 := hI7.1 86 57
  have hs13 : σ5 86 57 = (σ 86 57) := (hG8.1 86 57 (by decide)).trans rfl
  refine qr_callN 39 rfl rfl rfl (sf_259_86kp_p (d := d + 0) hI7 (by omega) r2 (by omega) (by omega)) ?_
  have hs16 : (-2147483648) ≤ σ5 86 56 ∧ σ5 86 56 ≤ 2147483647 := hI7.1 86 56
  rintro _ _ ⟨σ17, α18, rfl, hI19, hG20, v14, rfl, hv14, hp15⟩
  have hF21 : qFr [(86, 56)] [120] σ α σ17 α18 := qFr_t hF9 hG20 (by decide) (by decide)
  have hs22 : (-2147483648) ≤ σ17 86 56 ∧ σ17 86 56 ≤ 2147483647 := hI19.1 86 56
  show qr_W (qe L xs vb) (d + 3) qx_e260 _ (39, _, [.int (qz v14)], qw σ17 α18 κ ρ, 0, 0)
  refine qr_istore_n _ 40 rfl (by decide) rfl rfl ?_
  refine qr_iload_n 41 rfl rfl rfl ?_
  refine qr_aload_n 42 rfl rfl rfl ?_
  refine qr_aload_n 43 rfl rfl rfl ?_
  refine qr_get 46 rfl rfl rfl (by decide) rfl ?_
  refine qy_v (σ 86 57) ((hG20.1 86 57 (by decide)).trans ((hG8.1 86 57 (by decide)).trans rfl)) ?_
  refine qr_iconst 47 rfl rfl ?_
  have hs23 : (-2147483648) ≤ σ17 86 56 ∧ σ17 86 56 ≤ 2147483647 := hI19.1 86 56
  have hs24 : (-2147483648) ≤ σ17 86 57 ∧ σ17 86 57 ≤ 2147483647 := hI19.1 86 57
  have hs25 : σ17 86 57 = (σ 86 57) := (hG20.1 86 57 (by decide)).trans ((hG8.1 86 57 (by decide)).trans rfl)
  refine qr_callN 50 rfl rfl rfl (sf_258_86kp_p (d := d + 1) hI19 (by omega) (by decide) (by omega) (by omega)) ?_
  have hs28 : (-2147483648) ≤ σ17 86 56 ∧ σ17 86 56 ≤ 2147483647 := hI19.1 86 56
  rintro _ _ ⟨σ29, α30, rfl, hI31, hG32, v26, rfl, hv26, hp27⟩
  have hF33 : qFr [(86, 56)] [120] σ α σ29 α30 := qFr_t hF21 hG32 (by decide) (by decide)
  have hs34 : (-2147483648) ≤ σ29 86 56 ∧ σ29 86 56 ≤ 2147483647 := hI31.1 86 56
  show qr_W (qe L xs vb) (d + 3) qx_e260 _ (50, _, [.int (qz v26), .int (qz v14)], qw σ29 α30 κ ρ, 0, 0)
  refine qr_isub 51 rfl rfl ?_
  refine qy_can (fun v35 hv35 => ?_)
  refine qr_retI rfl rfl (by decide) (by decide) ?_
  have hw36 : σ29 86 56 = (σ29 86 56) := rfl
  exact ⟨_, _, rfl, hI31, hF33, v35, rfl, hv35, by omega⟩

set_option maxHeartbeats 4000000 in
set_option maxRecDepth 20000 in
/-- OneRoofModel.tellsAs -/
theorem sf_260_86any {L : Nat} {xs : Nat → Int} {vb : Bool} {d : Nat} {σ α : Nat → Nat → Int} {κ : Nat → Option Nat} {ρ : Nat} {x1 : Int} {x2 : Int} (hI : qI σ α κ ρ) (r1 : (-2147483648) ≤ x1 ∧ x1 ≤ 2147483647) (r2 : (-2147483648) ≤ x2 ∧ x2 ≤ 2147483647) (p0 : σ 86 56 = 0) (p1 : x1 = σ 86 57) : qm_T (qe L xs vb) (d + 6) 260 [.ref 86, .int (qz x1), .int (qz x2)] (qw σ α κ ρ) (fun r w' => ∃ σ' α', w' = qw σ' α' κ ρ ∧ qI σ' α' κ ρ ∧ qFr [(86, 56)] [120] σ α σ' α' ∧ ∃ v : Int, r = some (.int (qz v)) ∧ ((-2147483648) ≤ v ∧ v ≤ 2147483647)) := by
  have h1 : x1 < 0 ∨ x1 = 0 ∨ x1 = 1 ∨ x1 = 2 ∨ x1 = 3 ∨ x1 = 4 ∨ x1 = 5 ∨ x1 = 6 ∨ 6 < x1 := by omega
  rcases h1 with h1 | h1 | h1 | h1 | h1 | h1 | h1 | h1 | h1
  · skip
    refine qr_mono (sf_260_86km_m (d := d + 2) hI (by omega) (by omega) (by omega) (by omega)) ?_
    rintro r w2 ⟨σ2, α2, h2, h3, h4, v, h5, h6, h7⟩
    exact ⟨σ2, α2, h2, h3, h4, v, h5, h6⟩
  · rw [h1]
    refine qr_mono (sf_260_86k0_0 (d := d + 2) hI (by omega) (by omega) (by omega)) ?_
    rintro r w2 ⟨σ2, α2, h2, h3, h4, v, h5, h6, h7⟩
    exact ⟨σ2, α2, h2, h3, h4, v, h5, h6⟩
  · rw [h1]
    refine qr_mono (sf_260_86k1_1 (d := d + 1) hI (by omega) (by omega) (by omega)) ?_
    rintro r w2 ⟨σ2, α2, h2, h3, h4, v, h5, h6, h7⟩
    exact ⟨σ2, α2, h2, h3, h4, v, h5, h6⟩
  · rw [h1]
    refine qr_mono (sf_260_86k2_2 (d := d + 0) hI (by omega) (by omega) (by omega)) ?_
    rintro r w2 ⟨σ2, α2, h2, h3, h4, v, h5, h6, h7⟩
    exact ⟨σ2, α2, h2, h3, h4, v, h5, h6⟩
  · rw [h1]
    refine qr_mono (sf_260_86k3_3 (d := d + 1) hI (by omega) (by omega) (by omega)) ?_
    rintro r w2 ⟨σ2, α2, h2, h3, h4, v, h5, h6, h7⟩
    exact ⟨σ2, α2, h2, h3, h4, v, h5, h6⟩
  · rw [h1]
    refine qr_mono (sf_260_86k4_4 (d := d + 1) hI (by omega) (by omega) (by omega)) ?_
    rintro r w2 ⟨σ2, α2, h2, h3, h4, v, h5, h6, h7⟩
    exact ⟨σ2, α2, h2, h3, h4, v, h5, h6⟩
  · rw [h1]
    refine qr_mono (sf_260_86k5_5 (d := d + 0) hI (by omega) (by omega) (by omega)) ?_
    rintro r w2 ⟨σ2, α2, h2, h3, h4, v, h5, h6, h7⟩
    exact ⟨σ2, α2, h2, h3, h4, v, h5, h6⟩
  · rw [h1]
    refine qr_mono (sf_260_86k6_6 (d := d + 1) hI (by omega) (by omega) (by omega)) ?_
    rintro r w2 ⟨σ2, α2, h2, h3, h4, v, h5, h6, h7⟩
    exact ⟨σ2, α2, h2, h3, h4, v, h5, h6⟩
  · skip
    refine qr_mono (sf_260_86kp_p (d := d + 2) hI (by omega) (by omega) (by omega) (by omega)) ?_
    rintro r w2 ⟨σ2, α2, h2, h3, h4, v, h5, h6, h7⟩
    exact ⟨σ2, α2, h2, h3, h4, v, h5, h6⟩

set_option maxHeartbeats 4000000 in
set_option maxRecDepth 20000 in
/-- OneRoofModel.act -/
theorem sf_255_86 {L : Nat} {xs : Nat → Int} {vb : Bool} {d : Nat} {σ α : Nat → Nat → Int} {κ : Nat → Option Nat} {ρ : Nat} {x1 : Int} {x2 : Int} {x3 : Int} (hI : qI σ α κ ρ) (r1 : (-2147483648) ≤ x1 ∧ x1 ≤ 2147483647) (r2 : (-2147483648) ≤ x2 ∧ x2 ≤ 2147483647) (r3 : (-2147483648) ≤ x3 ∧ x3 ≤ 2147483647) : qm_T (qe L xs vb) (d + 7) 255 [.ref 86, .int (qz x1), .int (qz x2), .int (qz x3)] (qw σ α κ ρ) (fun r w' => ∃ σ' α', w' = qw σ' α' κ ρ ∧ qI σ' α' κ ρ ∧ qFr [(86, 56), (86, 57), (86, 58)] [120] σ α σ' α' ∧ ∃ v : Int, r = some (.int (qz v)) ∧ ((-2147483648) ≤ v ∧ v ≤ 2147483647)) := by
  refine qr_start (d := d + 6) qv_e255 (Nat.le_of_ble_eq_true rfl) ?_
  show qr_W (qe L xs vb) (d + 6) qx_e255 _ (0, [(0, .ref 86), (1, .int (qz x1)), (2, .int (qz x2)), (3, .int (qz x3))], [], _, 0, 0)
  have hF0 := qFr_rf [(86, 56), (86, 57), (86, 58)] [120] σ α
  have hz86_6 : 0 ≤ σ 86 6 ∧ σ 86 6 ≤ 32 := hI.1 86 6
  refine qr_aload_n 1 rfl rfl rfl ?_
  refine qr_iconst 2 rfl rfl ?_
  refine qr_put 5 rfl (by decide) rfl (Nat.le_of_ble_eq_true rfl) (Nat.le_of_ble_eq_true rfl) (Or.inl rfl) (qr_fitI rfl _) rfl ?_
  refine qy_wS (qw_s σ 86 56 0) rfl (fun σ1 e2 => ?_)
  have hI3 : qI σ1 α κ ρ := by rw [e2]; exact qI_s hI 86 56 rfl (show (-2147483648) ≤ 0 ∧ 0 ≤ 2147483647 by omega)
  have hF4 : qFr [(86, 56), (86, 57), (86, 58)] [120] σ α σ1 α := by rw [e2]; exact qFr_s hF0 86 56 _ (by decide)
  refine qr_aload_n 6 rfl rfl rfl ?_
  refine qr_iload_n 7 rfl rfl rfl ?_
  refine qr_callN 10 rfl rfl rfl (sf_200_86 (d := d + 4) hI3 r1) ?_
  have hs7 : 0 ≤ σ1 86 24 ∧ σ1 86 24 ≤ 60 := hI3.1 86 24
  rintro _ _ ⟨rfl, v5, rfl, hv5, hp6⟩
  show qr_W (qe L xs vb) (d + 6) qx_e255 _ (10, _, [.int (qz v5)], qw σ1 α κ ρ, 0, 0)
  refine qr_if_ne 15 13 rfl rfl rfl (qrg hv5 (by decide) (by decide)) (fun h8 => ?_) (fun h8 => ?_)
  · skip
    refine qr_aload_n 16 rfl rfl rfl ?_
    refine qr_aload_n 17 rfl rfl rfl ?_
    refine qr_iload_n 18 rfl rfl rfl ?_
    refine qr_callN 21 rfl rfl rfl (sf_201_86 (d := d + 5) hI3 (by omega)) ?_
    rintro _ _ ⟨rfl, v9, rfl, hv9⟩
    show qr_W (qe L xs vb) (d + 6) qx_e255 _ (21, _, [.int (qz v9), .ref 86], qw σ1 α κ ρ, 0, 0)
    refine qr_put 24 rfl (by decide) rfl (Nat.le_of_ble_eq_true rfl) (Nat.le_of_ble_eq_true rfl) (Or.inl rfl) (qr_fitI rfl _) rfl ?_
    refine qy_wS (qw_s σ1 86 57 v9) rfl (fun σ10 e11 => ?_)
    have hI12 : qI σ10 α κ ρ := by rw [e11]; exact qI_s hI3 86 57 rfl (show (-2147483648) ≤ v9 ∧ v9 ≤ 2147483647 by omega)
    have hF13 : qFr [(86, 56), (86, 57), (86, 58)] [120] σ α σ10 α := by rw [e11]; exact qFr_s hF4 86 57 _ (by decide)
    refine qr_aload_n 25 rfl rfl rfl ?_
    refine qr_iload_n 26 rfl rfl rfl ?_
    refine qr_put 29 rfl (by decide) rfl (Nat.le_of_ble_eq_true rfl) (Nat.le_of_ble_eq_true rfl) (Or.inl rfl) (qr_fitI rfl _) rfl ?_
    refine qy_wS (qw_s σ10 86 58 x1) rfl (fun σ14 e15 => ?_)
    have hI16 : qI σ14 α κ ρ := by rw [e15]; exact qI_s hI12 86 58 rfl (show (-2147483648) ≤ x1 ∧ x1 ≤ 2147483647 by omega)
    have hF17 : qFr [(86, 56), (86, 57), (86, 58)] [120] σ α σ14 α := by rw [e15]; exact qFr_s hF13 86 58 _ (by decide)
    refine qr_iload_n 30 rfl rfl rfl ?_
    have h18 : x2 = 0 ∨ x2 = 1 ∨ x2 = 2 ∨ x2 = 3 ∨ (x2 < 0 ∨ 3 < x2) := by omega
    rcases h18 with h18 | h18 | h18 | h18 | h18
    · skip
      refine qr_tabIn 60 rfl r2 (by rw [h18]; decide) (by rw [h18]; rfl) rfl ?_
      refine qr_aload_n 61 rfl rfl rfl ?_
      refine qr_aload_n 62 rfl rfl rfl ?_
      refine qr_get 65 rfl rfl rfl (by decide) rfl ?_
      refine qy_v v9 ((congrFun (congrFun e15 86) 57).trans ((congrFun (congrFun e11 86) 57).trans rfl)) ?_
      refine qr_iload_n 66 rfl rfl rfl ?_
      have hs20 : (-2147483648) ≤ σ14 86 56 ∧ σ14 86 56 ≤ 2147483647 := hI16.1 86 56
      have hs21 : σ14 86 56 = 0 := (congrFun (congrFun e15 86) 56).trans ((congrFun (congrFun e11 86) 56).trans ((congrFun (congrFun e2 86) 56).trans rfl))
      have hs22 : (-2147483648) ≤ σ14 86 57 ∧ σ14 86 57 ≤ 2147483647 := hI16.1 86 57
      have hs23 : σ14 86 57 = v9 := (congrFun (congrFun e15 86) 57).trans ((congrFun (congrFun e11 86) 57).trans rfl)
      refine qr_callN 69 rfl rfl rfl (sf_256_86any (d := d + 2) hI16 hv9 r3 (by omega) (by omega)) ?_
      rintro _ _ ⟨σ25, α26, rfl, hI27, hG28, v24, rfl, hv24⟩
      have hF29 : qFr [(86, 56), (86, 57), (86, 58)] [120] σ α σ25 α26 := qFr_t hF17 hG28 (by decide) (by decide)
      show qr_W (qe L xs vb) (d + 6) qx_e255 _ (69, _, [.int (qz v24)], qw σ25 α26 κ ρ, 0, 0)
      refine qr_retI rfl rfl (by decide) (by decide) ?_
      exact ⟨_, _, rfl, hI27, hF29, v24, rfl, hv24⟩
    · skip
      refine qr_tabIn 70 rfl r2 (by rw [h18]; decide) (by rw [h18]; rfl) rfl ?_
      refine qr_aload_n 71 rfl rfl rfl ?_
      refine qr_aload_n 72 rfl rfl rfl ?_
      refine qr_get 75 rfl rfl rfl (by decide) rfl ?_
      refine qy_v v9 ((congrFun (congrFun e15 86) 57).trans ((congrFun (congrFun e11 86) 57).trans rfl)) ?_
      refine qr_iload_n 76 rfl rfl rfl ?_
      have hs30 : (-2147483648) ≤ σ14 86 56 ∧ σ14 86 56 ≤ 2147483647 := hI16.1 86 56
      have hs31 : σ14 86 56 = 0 := (congrFun (congrFun e15 86) 56).trans ((congrFun (congrFun e11 86) 56).trans ((congrFun (congrFun e2 86) 56).trans rfl))
      have hs32 : (-2147483648) ≤ σ14 86 57 ∧ σ14 86 57 ≤ 2147483647 := hI16.1 86 57
      have hs33 : σ14 86 57 = v9 := (congrFun (congrFun e15 86) 57).trans ((congrFun (congrFun e11 86) 57).trans rfl)
      refine qr_callN 79 rfl rfl rfl (sf_259_86any (d := d + 1) hI16 hv9 r3 (by omega) (by omega)) ?_
      rintro _ _ ⟨σ35, α36, rfl, hI37, hG38, v34, rfl, hv34⟩
      have hF39 : qFr [(86, 56), (86, 57), (86, 58)] [120] σ α σ35 α36 := qFr_t hF17 hG38 (by decide) (by decide)
      show qr_W (qe L xs vb) (d + 6) qx_e255 _ (79, _, [.int (qz v34)], qw σ35 α36 κ ρ, 0, 0)
      refine qr_retI rfl rfl (by decide) (by decide) ?_
      exact ⟨_, _, rfl, hI37, hF39, v34, rfl, hv34⟩
    · skip
      refine qr_tabIn 80 rfl r2 (by rw [h18]; decide) (by rw [h18]; rfl) rfl ?_
      refine qr_aload_n 81 rfl rfl rfl ?_
      refine qr_aload_n 82 rfl rfl rfl ?_
      refine qr_get 85 rfl rfl rfl (by decide) rfl ?_
      refine qy_v v9 ((congrFun (congrFun e15 86) 57).trans ((congrFun (congrFun e11 86) 57).trans rfl)) ?_
      refine qr_iload_n 86 rfl rfl rfl ?_
      have hs40 : (-2147483648) ≤ σ14 86 56 ∧ σ14 86 56 ≤ 2147483647 := hI16.1 86 56
      have hs41 : σ14 86 56 = 0 := (congrFun (congrFun e15 86) 56).trans ((congrFun (congrFun e11 86) 56).trans ((congrFun (congrFun e2 86) 56).trans rfl))
      have hs42 : (-2147483648) ≤ σ14 86 57 ∧ σ14 86 57 ≤ 2147483647 := hI16.1 86 57
      have hs43 : σ14 86 57 = v9 := (congrFun (congrFun e15 86) 57).trans ((congrFun (congrFun e11 86) 57).trans rfl)
      refine qr_callN 89 rfl rfl rfl (sf_258_86any (d := d + 3) hI16 hv9 r3 (by omega) (by omega)) ?_
      rintro _ _ ⟨σ45, α46, rfl, hI47, hG48, v44, rfl, hv44⟩
      have hF49 : qFr [(86, 56), (86, 57), (86, 58)] [120] σ α σ45 α46 := qFr_t hF17 hG48 (by decide) (by decide)
      show qr_W (qe L xs vb) (d + 6) qx_e255 _ (89, _, [.int (qz v44)], qw σ45 α46 κ ρ, 0, 0)
      refine qr_retI rfl rfl (by decide) (by decide) ?_
      exact ⟨_, _, rfl, hI47, hF49, v44, rfl, hv44⟩
    · skip
      refine qr_tabIn 90 rfl r2 (by rw [h18]; decide) (by rw [h18]; rfl) rfl ?_
      refine qr_aload_n 91 rfl rfl rfl ?_
      refine qr_aload_n 92 rfl rfl rfl ?_
      refine qr_get 95 rfl rfl rfl (by decide) rfl ?_
      refine qy_v v9 ((congrFun (congrFun e15 86) 57).trans ((congrFun (congrFun e11 86) 57).trans rfl)) ?_
      refine qr_iload_n 96 rfl rfl rfl ?_
      have hs50 : (-2147483648) ≤ σ14 86 56 ∧ σ14 86 56 ≤ 2147483647 := hI16.1 86 56
      have hs51 : σ14 86 56 = 0 := (congrFun (congrFun e15 86) 56).trans ((congrFun (congrFun e11 86) 56).trans ((congrFun (congrFun e2 86) 56).trans rfl))
      have hs52 : (-2147483648) ≤ σ14 86 57 ∧ σ14 86 57 ≤ 2147483647 := hI16.1 86 57
      have hs53 : σ14 86 57 = v9 := (congrFun (congrFun e15 86) 57).trans ((congrFun (congrFun e11 86) 57).trans rfl)
      refine qr_callN 99 rfl rfl rfl (sf_260_86any (d := d + 0) hI16 hv9 r3 (by omega) (by omega)) ?_
      rintro _ _ ⟨σ55, α56, rfl, hI57, hG58, v54, rfl, hv54⟩
      have hF59 : qFr [(86, 56), (86, 57), (86, 58)] [120] σ α σ55 α56 := qFr_t hF17 hG58 (by decide) (by decide)
      show qr_W (qe L xs vb) (d + 6) qx_e255 _ (99, _, [.int (qz v54)], qw σ55 α56 κ ρ, 0, 0)
      refine qr_retI rfl rfl (by decide) (by decide) ?_
      exact ⟨_, _, rfl, hI57, hF59, v54, rfl, hv54⟩
    · skip
      refine qr_tabOut 100 rfl r2 (by omega) rfl ?_
      refine qr_iconst 101 rfl rfl ?_
      refine qr_retI rfl rfl (by decide) (by decide) ?_
      exact ⟨_, _, rfl, hI16, hF17, 0, rfl, (by decide)⟩
  · skip
    refine qr_iconst 14 rfl rfl ?_
    refine qr_retI rfl rfl (by decide) (by decide) ?_
    exact ⟨_, _, rfl, hI3, hF4, 0, rfl, (by decide)⟩
end
section
theorem qzf_can (f : Nat → Int) : qzf f = qzf (fun j => (qz (f j)).toInt) := funext fun j => qz_of (qz (f j))
theorem qI_rw {σ α : Nat → Nat → Int} {κ : Nat → Option Nat} {ρ : Nat} (h : qI σ α κ ρ) (a : Nat) (g : Nat → Int) (hsp : [65, 71, 74, 77, 78, 91, 94, 95, 96].contains a = false) (hg : ∀ j, j < (qI_rr a).1 → (qI_rr a).2.1 ≤ g j ∧ g j ≤ (qI_rr a).2.2) : qI σ (qw_r α a g) κ ρ := by
  refine ⟨h.1, fun a' j hj => ?_, h.2.2.1, qIx_r h.2.2.2 a _ hsp⟩
  by_cases h1 : a' = a
  · subst h1
    rw [qw_r_eq]
    exact hg j hj
  · rw [qw_r_ne h1]
    exact h.2.1 a' j hj
theorem qI_sw {σ α : Nat → Nat → Int} {κ : Nat → Option Nat} {ρ : Nat} (h : qI σ α κ ρ) (i x : Nat) (hx : x = 50 ∨ x = 54 ∨ x = 82) : qI σ α (va_up κ i (some ρ)) x := by
  refine ⟨h.1, h.2.1, ⟨?_, ?_, hx⟩, h.2.2.2⟩
  · by_cases e : 0 = i
    · exact ⟨ρ, if_pos e, h.2.2.1.2.2⟩
    · obtain ⟨y, h1, h2⟩ := h.2.2.1.1
      exact ⟨y, (if_neg e).trans h1, h2⟩
  · by_cases e : 1 = i
    · exact ⟨ρ, if_pos e, h.2.2.1.2.2⟩
    · obtain ⟨y, h1, h2⟩ := h.2.2.1.2.1
      exact ⟨y, (if_neg e).trans h1, h2⟩
end
section
/-! the fresh objects keep the ranges -/
theorem qI_st0 : qI_st.all (fun q => decide (q.2.2.1 ≤ 0 ∧ 0 ≤ q.2.2.2)) = true := by decide +kernel
theorem qI_rt0 : qI_rt.all (fun q => decide (q.2.2.1 ≤ 0 ∧ 0 ≤ q.2.2.2)) = true := by decide +kernel
theorem qI_sr0 (a k : Nat) : (qI_sr a k).1 ≤ 0 ∧ 0 ≤ (qI_sr a k).2 := by
  unfold qI_sr
  cases h : qI_st.find? (fun q => q.1 == a && q.2.1 == k) with
  | none => exact ⟨by decide, by decide⟩
  | some q => exact of_decide_eq_true (List.all_eq_true.mp qI_st0 q (List.mem_of_find?_eq_some h))
theorem qI_rr0 (a : Nat) : (qI_rr a).2.1 ≤ 0 ∧ 0 ≤ (qI_rr a).2.2 := by
  unfold qI_rr
  cases h : qI_rt.find? (fun q => q.1 == a) with
  | none => exact ⟨by decide, by decide⟩
  | some q => exact of_decide_eq_true (List.all_eq_true.mp qI_rt0 q (List.mem_of_find?_eq_some h))
/-- numbers and rows of the fresh objects, with what nothing reads at 0 -/
def qJ_s (s : Nat → Nat → Int) : Nat → Nat → Int := fun a k => if (a = 50 ∨ a = 54 ∨ a = 82) ∧ ¬ (3 ≤ k ∧ k ≤ 7) then 0 else qo_s s a k
def qJ_r (g : Nat → Nat → Int) : Nat → Nat → Int := fun a => if a = 52 ∨ a = 56 ∨ a = 84 then (fun j => (qz (qo_r g a j)).toInt) else qo_r g a
theorem qJ_w (s g : Nat → Nat → Int) : qw (qo_s s) (qo_r g) qo_k 82 = qw (qJ_s s) (qJ_r g) qo_k 82 := by
  have e1 : qzf (qo_r g 52) = qzf (qJ_r g 52) := qzf_can _
  have e2 : qzf (qo_r g 56) = qzf (qJ_r g 56) := qzf_can _
  have e3 : qzf (qo_r g 84) = qzf (qJ_r g 84) := qzf_can _
  unfold qw
  rw [e1, e2, e3]
  rfl
theorem qJ_so {s : Nat → Nat → Int} (a k : Nat) (h : ¬ (a = 50 ∨ a = 54 ∨ a = 82)) : qJ_s s a k = if a = 86 ∧ k = 51 then -1 else 0 := by
  unfold qJ_s qo_s
  rw [if_neg (fun q => h q.1), if_neg (fun q => h (Or.inl q)), if_neg (fun q => h (Or.inr (Or.inl q))), if_neg (fun q => h (Or.inr (Or.inr q)))]
  by_cases h1 : a = 86 <;> by_cases h2 : k = 51 <;> simp [h1, h2]
theorem qJ_ro {g : Nat → Nat → Int} (a : Nat) (h : ¬ (a = 24 ∨ a = 26 ∨ a = 51 ∨ a = 52 ∨ a = 55 ∨ a = 56 ∨ a = 83 ∨ a = 84 ∨ a = 45 ∨ a = 108 ∨ a = 121)) (j : Nat) : qJ_r g a j = 0 := by
  unfold qJ_r
  rw [if_neg (by omega)]
  unfold qo_r
  rw [if_neg (by omega), if_neg (by omega), if_neg (by omega), if_neg (by omega), if_neg (by omega), if_neg (by omega), if_neg (by omega), if_neg (by omega), if_neg (by omega), if_neg (by omega), if_neg (by omega)]
theorem qJ_I {s g : Nat → Nat → Int} (h : qo_ok s g) : qI (qJ_s s) (qJ_r g) qo_k 82 := by
  have z : ∀ a k, ¬ (a = 50 ∨ a = 54 ∨ a = 82) → ¬ (a = 86 ∧ k = 51) → qJ_s s a k = 0 := fun a k h1 h2 => (qJ_so a k h1).trans (if_neg h2)
  refine ⟨fun a k => ?_, fun a j hj => ?_, ⟨⟨50, rfl, Or.inl rfl⟩, ⟨54, rfl, Or.inr (Or.inl rfl)⟩, Or.inr (Or.inr rfl)⟩, ?_, ?_, ?_, ?_, ?_, ?_, ?_⟩
  · by_cases h1 : a = 50 ∨ a = 54 ∨ a = 82
    · by_cases h2 : 3 ≤ k ∧ k ≤ 7
      · have hk : k = 3 ∨ k = 4 ∨ k = 5 ∨ k = 6 ∨ k = 7 := by omega
        have h3 := h.1
        have h40 := h.2.1 0 (by decide)
        have h41 := h.2.1 1 (by decide)
        have h42 := h.2.1 2 (by decide)
        rcases h1 with rfl | rfl | rfl <;> rcases hk with rfl | rfl | rfl | rfl | rfl
        · show 0 ≤ s 0 3 ∧ s 0 3 ≤ 120; omega
        · show 0 ≤ s 0 4 ∧ s 0 4 ≤ 120; omega
        · show 0 ≤ s 0 5 ∧ s 0 5 ≤ 122; omega
        · show -2147483648 ≤ s 0 6 ∧ s 0 6 ≤ 2147483647; omega
        · show 0 ≤ s 0 7 ∧ s 0 7 ≤ 1; omega
        · show 0 ≤ s 1 3 ∧ s 1 3 ≤ 120; omega
        · show 0 ≤ s 1 4 ∧ s 1 4 ≤ 120; omega
        · show 0 ≤ s 1 5 ∧ s 1 5 ≤ 122; omega
        · show -2147483648 ≤ s 1 6 ∧ s 1 6 ≤ 2147483647; omega
        · show 0 ≤ s 1 7 ∧ s 1 7 ≤ 1; omega
        · show 0 ≤ s 2 3 ∧ s 2 3 ≤ 120; omega
        · show 0 ≤ s 2 4 ∧ s 2 4 ≤ 120; omega
        · show 0 ≤ s 2 5 ∧ s 2 5 ≤ 122; omega
        · show -2147483648 ≤ s 2 6 ∧ s 2 6 ≤ 2147483647; omega
        · show 0 ≤ s 2 7 ∧ s 2 7 ≤ 1; omega
      · have e : qJ_s s a k = 0 := if_pos ⟨h1, h2⟩
        rw [e]
        exact qI_sr0 a k
    · by_cases h2 : a = 86 ∧ k = 51
      · obtain ⟨rfl, rfl⟩ := h2
        show -9223372036854775808 ≤ (-1 : Int) ∧ (-1 : Int) ≤ 9223372036854775807
        decide
      · rw [z a k h1 h2]
        exact qI_sr0 a k
  · by_cases h1 : a = 24 ∨ a = 26 ∨ a = 51 ∨ a = 52 ∨ a = 55 ∨ a = 56 ∨ a = 83 ∨ a = 84 ∨ a = 45 ∨ a = 108 ∨ a = 121
    · rcases h1 with rfl | rfl | rfl | rfl | rfl | rfl | rfl | rfl | rfl | rfl | rfl
      · have e := h.2.2.1 24 (Or.inl rfl) j hj
        show 0 ≤ g 24 j ∧ g 24 j ≤ 99
        rw [e]
        split <;> omega
      · have e := h.2.2.1 26 (Or.inr rfl) j hj
        show 0 ≤ g 26 j ∧ g 26 j ≤ 99
        rw [e]
        split <;> omega
      · exact h.2.2.2 51 (Or.inl rfl) j
      · exact qz_rng _
      · exact h.2.2.2 55 (Or.inr (Or.inl rfl)) j
      · exact qz_rng _
      · exact h.2.2.2 83 (Or.inr (Or.inr rfl)) j
      · exact qz_rng _
      · show 0 ≤ (qzu (qzu (qzu (qzu (qzu (qzu (fun _ => (0 : Int)) 0 6) 1 6) 2 6) 3 6) 4 6) 5 6) j ∧ (qzu (qzu (qzu (qzu (qzu (qzu (fun _ => (0 : Int)) 0 6) 1 6) 2 6) 3 6) 4 6) 5 6) j ≤ 6
        unfold qzu
        repeat' split
        all_goals first | omega | (dsimp only; omega)
      · show -1 ≤ (qzu (qzu (fun _ => (0 : Int)) 0 (-1)) 1 (-1)) j ∧ (qzu (qzu (fun _ => (0 : Int)) 0 (-1)) 1 (-1)) j ≤ 120
        unfold qzu
        repeat' split
        all_goals first | omega | (dsimp only; omega)
      · show -1 ≤ (qzu (qzu (qzu (qzu (qzu (qzu (fun _ => (0 : Int)) 0 (-1)) 1 (-1)) 2 (-1)) 3 (-1)) 4 (-1)) 5 (-1)) j ∧ (qzu (qzu (qzu (qzu (qzu (qzu (fun _ => (0 : Int)) 0 (-1)) 1 (-1)) 2 (-1)) 3 (-1)) 4 (-1)) 5 (-1)) j ≤ 64
        unfold qzu
        repeat' split
        all_goals first | omega | (dsimp only; omega)
    · rw [qJ_ro a h1 j]
      exact qI_rr0 a
  · intro i j _ hj
    have e : qJ_s s 64 2 = 0 := rfl
    rw [e] at hj
    omega
  · rintro a (rfl | rfl) j _
    · show (0 : Int) % 100 ≤ 31; decide
    · show (0 : Int) % 100 ≤ 31; decide
  · intro j _
    show ((0 : Int) = 0 → (0 : Int) ≤ 39) ∧ ((0 : Int) = 2 → (0 : Int) ≤ 31) ∧ (¬ (0 : Int) = 0 → ¬ (0 : Int) = 1 → ¬ (0 : Int) = 2 → (0 : Int) ≤ 59)
    omega
  · intro j _
    show (0 : Int) < (j : Int) ∨ (j = 0 ∧ (0 : Int) = 0)
    omega
  · show (0 : Int) ≤ 0
    decide
  · intro j hj
    have e : qJ_s s 86 11 = 0 := rfl
    rw [e] at hj
    omega
  · intro hk
    have e : qJ_s s 86 15 = 0 := rfl
    rw [e] at hk
    exact absurd hk (by decide)
end
