section
set_option maxHeartbeats 4000000 in
set_option maxRecDepth 20000 in
/-- OneRoofModel.begins -/
theorem sf_257_86 {L : Nat} {xs : Nat → Int} {vb : Bool} {d : Nat} {σ α : Nat → Nat → Int} {κ : Nat → Option Nat} {ρ : Nat} {x1 : Int} (hI : qI σ α κ ρ) (r1 : (-2147483648) ≤ x1 ∧ x1 ≤ 2147483647) (p0 : 0 ≤ σ 86 56 ∧ σ 86 56 ≤ 1000) : qm_T (qe L xs vb) (d + 1) 257 [.ref 86, .int (qz x1)] (qw σ α κ ρ) (fun r w' => ∃ σ' α', w' = qw σ' α' κ ρ ∧ qI σ' α' κ ρ ∧ qFr [(86, 56)] [120] σ α σ' α' ∧ σ' 86 56 = σ 86 56 + 1 ∧ r = none) := by
  refine qr_start (d := d + 0) qv_e257 (Nat.le_of_ble_eq_true rfl) ?_
  show qr_W (qe L xs vb) (d + 0) qx_e257 _ (0, [(0, .ref 86), (1, .int (qz x1))], [], _, 0, 0)
  have hF0 := qFr_rf [(86, 56)] [120] σ α
  have hz86_56 : (-2147483648) ≤ σ 86 56 ∧ σ 86 56 ≤ 2147483647 := hI.1 86 56
  have hz86_6 : 0 ≤ σ 86 6 ∧ σ 86 6 ≤ 32 := hI.1 86 6
  refine qr_aload_n 1 rfl rfl rfl ?_
  refine qr_get 4 rfl rfl rfl (by decide) rfl ?_
  refine qr_bipush 6 rfl (by decide) rfl ?_
  have hJ10 : ∀ (ls : qm_L) (α7 : Nat → Nat → Int), qm_get ls 0 = some (.ref 86) → qI σ α7 κ ρ → qFr [(86, 56)] [120] σ α σ α7 → qr_W (qe L xs vb) (d + 0) qx_e257 (fun r w' => ∃ σ' α', w' = qw σ' α' κ ρ ∧ qI σ' α' κ ρ ∧ qFr [(86, 56)] [120] σ α σ' α' ∧ σ' 86 56 = σ 86 56 + 1 ∧ r = none) (19, ls, [], qw σ α7 κ ρ, 0, 0) := by
    intro ls α7 g5 hI8 hF9
    refine qr_aload_n 20 rfl g5 rfl ?_
    refine qr_dup 21 rfl rfl rfl ?_
    refine qr_get 24 rfl rfl rfl (by decide) rfl ?_
    refine qr_iconst 25 rfl rfl ?_
    refine qr_iadd 26 rfl rfl ?_
    refine qr_put 29 rfl (by decide) rfl (Nat.le_of_ble_eq_true rfl) (Nat.le_of_ble_eq_true rfl) (Or.inl rfl) (qr_fitI rfl _) rfl ?_
    refine qy_wS (qw_s σ 86 56 ((σ 86 56) + 1)) rfl (fun σ11 e12 => ?_)
    have hI13 : qI σ11 α7 κ ρ := by rw [e12]; exact qI_s hI8 86 56 rfl (show (-2147483648) ≤ ((σ 86 56) + 1) ∧ ((σ 86 56) + 1) ≤ 2147483647 by omega)
    have hF14 : qFr [(86, 56)] [120] σ α σ11 α7 := by rw [e12]; exact qFr_s hF9 86 56 _ (by decide)
    refine qr_retV rfl rfl (by decide) (by decide) ?_
    exact ⟨_, _, rfl, hI13, hF14, (by have hw : σ11 86 56 = ((σ 86 56) + 1) := (congrFun (congrFun e12 86) 56).trans rfl; omega), rfl⟩
  refine qr_icmp_ge 19 9 rfl rfl rfl hz86_56 (by decide) (fun h15 => ?_) (fun h15 => ?_)
  · skip
    exact hJ10 _ α rfl hI hF0
  · skip
    refine qr_aload_n 10 rfl rfl rfl ?_
    refine qr_get 13 rfl rfl rfl (by decide) rfl ?_
    refine qr_aload_n 14 rfl rfl rfl ?_
    refine qr_get 17 rfl rfl rfl (by decide) rfl ?_
    refine qr_iload_n 18 rfl rfl rfl ?_
    refine qr_iastore 19 rfl (by decide) rfl (by omega) (by decide) rfl ?_
    refine qy_wA (qw_r α 120 (qzu (α 120) ((σ 86 56) : Int).toNat x1)) rfl (fun α16 e17 => ?_)
    have hI18 : qI σ α16 κ ρ := by rw [e17]; exact qI_r hI 120 _ rfl (show (-2147483648) ≤ x1 ∧ x1 ≤ 2147483647 by omega)
    have hF19 : qFr [(86, 56)] [120] σ α σ α16 := by rw [e17]; exact qFr_r hF0 120 _ (by decide)
    exact hJ10 _ α16 rfl hI18 hF19

set_option maxHeartbeats 4000000 in
set_option maxRecDepth 20000 in
/-- OneRoofModel.holdsAs -/
theorem sf_256_86km_m {L : Nat} {xs : Nat → Int} {vb : Bool} {d : Nat} {σ α : Nat → Nat → Int} {κ : Nat → Option Nat} {ρ : Nat} {x1 : Int} {x2 : Int} (hI : qI σ α κ ρ) (r1 : (-2147483648) ≤ x1 ∧ x1 ≤ (-1)) (r2 : (-2147483648) ≤ x2 ∧ x2 ≤ 2147483647) (p0 : 0 ≤ σ 86 56 ∧ σ 86 56 ≤ 380) (p1 : σ 86 57 < 0) : qm_T (qe L xs vb) (d + 2) 256 [.ref 86, .int (qz x1), .int (qz x2)] (qw σ α κ ρ) (fun r w' => ∃ σ' α', w' = qw σ' α' κ ρ ∧ qI σ' α' κ ρ ∧ qFr [(86, 56)] [120] σ α σ' α' ∧ ∃ v : Int, r = some (.int (qz v)) ∧ ((-2147483648) ≤ v ∧ v ≤ 2147483647) ∧ σ' 86 56 = σ 86 56 + 1) := by
  refine qr_start (d := d + 1) qv_e256 (Nat.le_of_ble_eq_true rfl) ?_
  show qr_W (qe L xs vb) (d + 1) qx_e256 _ (0, [(0, .ref 86), (1, .int (qz x1)), (2, .int (qz x2))], [], _, 0, 0)
  have hF0 := qFr_rf [(86, 56)] [120] σ α
  have hz86_56 : (-2147483648) ≤ σ 86 56 ∧ σ 86 56 ≤ 2147483647 := hI.1 86 56
  have hz86_57 : (-2147483648) ≤ σ 86 57 ∧ σ 86 57 ≤ 2147483647 := hI.1 86 57
  have hz86_6 : 0 ≤ σ 86 6 ∧ σ 86 6 ≤ 32 := hI.1 86 6
  refine qr_iload_n 1 rfl rfl rfl ?_
  refine qr_iconst 2 rfl rfl ?_
  refine qr_icmp_ne 20 5 rfl rfl rfl (qrg r1 (by decide) (by decide)) (by decide) (fun h1 => ?_) (fun h => False.elim (by omega))
  refine qr_iload_n 21 rfl rfl rfl ?_
  refine qr_iconst 22 rfl rfl ?_
  refine qr_icmp_ne 40 25 rfl rfl rfl (qrg r1 (by decide) (by decide)) (by decide) (fun h2 => ?_) (fun h => False.elim (by omega))
  refine qr_iload_n 41 rfl rfl rfl ?_
  refine qr_iconst 42 rfl rfl ?_
  refine qr_icmp_ne 70 45 rfl rfl rfl (qrg r1 (by decide) (by decide)) (by decide) (fun h3 => ?_) (fun h => False.elim (by omega))
  refine qr_aload_n 71 rfl rfl rfl ?_
  refine qr_iconst 72 rfl rfl ?_
  have hs4 : (-2147483648) ≤ σ 86 56 ∧ σ 86 56 ≤ 2147483647 := hI.1 86 56
  refine qr_callN 75 rfl rfl rfl (sf_257_86 (d := d + 0) hI (by decide) (by omega)) ?_
  rintro _ _ ⟨σ6, α7, rfl, hI8, hG9, hw5, rfl⟩
  have hF10 : qFr [(86, 56)] [120] σ α σ6 α7 := qFr_t hF0 hG9 (by decide) (by decide)
  have hs11 : (-2147483648) ≤ σ6 86 56 ∧ σ6 86 56 ≤ 2147483647 := hI8.1 86 56
  show qr_W (qe L xs vb) (d + 1) qx_e256 _ (75, _, [], qw σ6 α7 κ ρ, 0, 0)
  refine qr_iload_n 76 rfl rfl rfl ?_
  refine qr_aload_n 77 rfl rfl rfl ?_
  refine qr_get 80 rfl rfl rfl (by decide) rfl ?_
  have hs12 : (-2147483648) ≤ σ6 86 58 ∧ σ6 86 58 ≤ 2147483647 := hI8.1 86 58
  refine qr_iadd 81 rfl rfl ?_
  refine qy_can (fun v13 hv13 => ?_)
  refine qr_retI rfl rfl (by decide) (by decide) ?_
  have hw14 : σ6 86 56 = (σ6 86 56) := rfl
  exact ⟨_, _, rfl, hI8, hF10, v13, rfl, hv13, by omega⟩

set_option maxHeartbeats 4000000 in
set_option maxRecDepth 20000 in
/-- OneRoofModel.holdsAs -/
theorem sf_256_86k0_0 {L : Nat} {xs : Nat → Int} {vb : Bool} {d : Nat} {σ α : Nat → Nat → Int} {κ : Nat → Option Nat} {ρ : Nat} {x2 : Int} (hI : qI σ α κ ρ) (r2 : (-2147483648) ≤ x2 ∧ x2 ≤ 2147483647) (p0 : 0 ≤ σ 86 56 ∧ σ 86 56 ≤ 380) (p1 : σ 86 57 = 0) : qm_T (qe L xs vb) (d + 2) 256 [.ref 86, .int (qz 0), .int (qz x2)] (qw σ α κ ρ) (fun r w' => ∃ σ' α', w' = qw σ' α' κ ρ ∧ qI σ' α' κ ρ ∧ qFr [(86, 56)] [120] σ α σ' α' ∧ ∃ v : Int, r = some (.int (qz v)) ∧ ((-2147483648) ≤ v ∧ v ≤ 2147483647) ∧ σ' 86 56 = σ 86 56 + 1) := by
  refine qr_start (d := d + 1) qv_e256 (Nat.le_of_ble_eq_true rfl) ?_
  show qr_W (qe L xs vb) (d + 1) qx_e256 _ (0, [(0, .ref 86), (1, .int (qz 0)), (2, .int (qz x2))], [], _, 0, 0)
  have hF0 := qFr_rf [(86, 56)] [120] σ α
  have hz86_56 : (-2147483648) ≤ σ 86 56 ∧ σ 86 56 ≤ 2147483647 := hI.1 86 56
  have hz86_57 : (-2147483648) ≤ σ 86 57 ∧ σ 86 57 ≤ 2147483647 := hI.1 86 57
  have hz86_6 : 0 ≤ σ 86 6 ∧ σ 86 6 ≤ 32 := hI.1 86 6
  refine qr_iload_n 1 rfl rfl rfl ?_
  refine qr_iconst 2 rfl rfl ?_
  refine qr_icmp_ne 20 5 rfl rfl rfl (by decide) (by decide) (fun h1 => ?_) (fun h => False.elim (by omega))
  refine qr_iload_n 21 rfl rfl rfl ?_
  refine qr_iconst 22 rfl rfl ?_
  refine qr_icmp_ne 40 25 rfl rfl rfl (by decide) (by decide) (fun h2 => ?_) (fun h => False.elim (by omega))
  refine qr_iload_n 41 rfl rfl rfl ?_
  refine qr_iconst 42 rfl rfl ?_
  refine qr_icmp_ne 70 45 rfl rfl rfl (by decide) (by decide) (fun h3 => ?_) (fun h => False.elim (by omega))
  refine qr_aload_n 71 rfl rfl rfl ?_
  refine qr_iconst 72 rfl rfl ?_
  have hs4 : (-2147483648) ≤ σ 86 56 ∧ σ 86 56 ≤ 2147483647 := hI.1 86 56
  refine qr_callN 75 rfl rfl rfl (sf_257_86 (d := d + 0) hI (by decide) (by omega)) ?_
  rintro _ _ ⟨σ6, α7, rfl, hI8, hG9, hw5, rfl⟩
  have hF10 : qFr [(86, 56)] [120] σ α σ6 α7 := qFr_t hF0 hG9 (by decide) (by decide)
  have hs11 : (-2147483648) ≤ σ6 86 56 ∧ σ6 86 56 ≤ 2147483647 := hI8.1 86 56
  show qr_W (qe L xs vb) (d + 1) qx_e256 _ (75, _, [], qw σ6 α7 κ ρ, 0, 0)
  refine qr_iload_n 76 rfl rfl rfl ?_
  refine qr_aload_n 77 rfl rfl rfl ?_
  refine qr_get 80 rfl rfl rfl (by decide) rfl ?_
  have hs12 : (-2147483648) ≤ σ6 86 58 ∧ σ6 86 58 ≤ 2147483647 := hI8.1 86 58
  refine qr_iadd 81 rfl rfl ?_
  refine qy_can (fun v13 hv13 => ?_)
  refine qr_retI rfl rfl (by decide) (by decide) ?_
  have hw14 : σ6 86 56 = (σ6 86 56) := rfl
  exact ⟨_, _, rfl, hI8, hF10, v13, rfl, hv13, by omega⟩

set_option maxHeartbeats 4000000 in
set_option maxRecDepth 20000 in
/-- OneRoofModel.holdsAs -/
theorem sf_256_86k0_1 {L : Nat} {xs : Nat → Int} {vb : Bool} {d : Nat} {σ α : Nat → Nat → Int} {κ : Nat → Option Nat} {ρ : Nat} {x2 : Int} (hI : qI σ α κ ρ) (r2 : (-2147483648) ≤ x2 ∧ x2 ≤ 2147483647) (p0 : 0 ≤ σ 86 56 ∧ σ 86 56 ≤ 380) (p1 : σ 86 57 = 1) : qm_T (qe L xs vb) (d + 2) 256 [.ref 86, .int (qz 0), .int (qz x2)] (qw σ α κ ρ) (fun r w' => ∃ σ' α', w' = qw σ' α' κ ρ ∧ qI σ' α' κ ρ ∧ qFr [(86, 56)] [120] σ α σ' α' ∧ ∃ v : Int, r = some (.int (qz v)) ∧ ((-2147483648) ≤ v ∧ v ≤ 2147483647) ∧ σ' 86 56 = σ 86 56 + 1) := by
  refine qr_start (d := d + 1) qv_e256 (Nat.le_of_ble_eq_true rfl) ?_
  show qr_W (qe L xs vb) (d + 1) qx_e256 _ (0, [(0, .ref 86), (1, .int (qz 0)), (2, .int (qz x2))], [], _, 0, 0)
  have hF0 := qFr_rf [(86, 56)] [120] σ α
  have hz86_56 : (-2147483648) ≤ σ 86 56 ∧ σ 86 56 ≤ 2147483647 := hI.1 86 56
  have hz86_57 : (-2147483648) ≤ σ 86 57 ∧ σ 86 57 ≤ 2147483647 := hI.1 86 57
  have hz86_6 : 0 ≤ σ 86 6 ∧ σ 86 6 ≤ 32 := hI.1 86 6
  refine qr_iload_n 1 rfl rfl rfl ?_
  refine qr_iconst 2 rfl rfl ?_
  refine qr_icmp_ne 20 5 rfl rfl rfl (by decide) (by decide) (fun h1 => ?_) (fun h => False.elim (by omega))
  refine qr_iload_n 21 rfl rfl rfl ?_
  refine qr_iconst 22 rfl rfl ?_
  refine qr_icmp_ne 40 25 rfl rfl rfl (by decide) (by decide) (fun h2 => ?_) (fun h => False.elim (by omega))
  refine qr_iload_n 41 rfl rfl rfl ?_
  refine qr_iconst 42 rfl rfl ?_
  refine qr_icmp_ne 70 45 rfl rfl rfl (by decide) (by decide) (fun h3 => ?_) (fun h => False.elim (by omega))
  refine qr_aload_n 71 rfl rfl rfl ?_
  refine qr_iconst 72 rfl rfl ?_
  have hs4 : (-2147483648) ≤ σ 86 56 ∧ σ 86 56 ≤ 2147483647 := hI.1 86 56
  refine qr_callN 75 rfl rfl rfl (sf_257_86 (d := d + 0) hI (by decide) (by omega)) ?_
  rintro _ _ ⟨σ6, α7, rfl, hI8, hG9, hw5, rfl⟩
  have hF10 : qFr [(86, 56)] [120] σ α σ6 α7 := qFr_t hF0 hG9 (by decide) (by decide)
  have hs11 : (-2147483648) ≤ σ6 86 56 ∧ σ6 86 56 ≤ 2147483647 := hI8.1 86 56
  show qr_W (qe L xs vb) (d + 1) qx_e256 _ (75, _, [], qw σ6 α7 κ ρ, 0, 0)
  refine qr_iload_n 76 rfl rfl rfl ?_
  refine qr_aload_n 77 rfl rfl rfl ?_
  refine qr_get 80 rfl rfl rfl (by decide) rfl ?_
  have hs12 : (-2147483648) ≤ σ6 86 58 ∧ σ6 86 58 ≤ 2147483647 := hI8.1 86 58
  refine qr_iadd 81 rfl rfl ?_
  refine qy_can (fun v13 hv13 => ?_)
  refine qr_retI rfl rfl (by decide) (by decide) ?_
  have hw14 : σ6 86 56 = (σ6 86 56) := rfl
  exact ⟨_, _, rfl, hI8, hF10, v13, rfl, hv13, by omega⟩

set_option maxHeartbeats 4000000 in
set_option maxRecDepth 20000 in
/-- OneRoofModel.holdsAs -/
theorem sf_256_86k1_1 {L : Nat} {xs : Nat → Int} {vb : Bool} {d : Nat} {σ α : Nat → Nat → Int} {κ : Nat → Option Nat} {ρ : Nat} {x2 : Int} (hI : qI σ α κ ρ) (r2 : (-2147483648) ≤ x2 ∧ x2 ≤ 2147483647) (p0 : 0 ≤ σ 86 56 ∧ σ 86 56 ≤ 360) (p1 : σ 86 57 = 1) : qm_T (qe L xs vb) (d + 3) 256 [.ref 86, .int (qz 1), .int (qz x2)] (qw σ α κ ρ) (fun r w' => ∃ σ' α', w' = qw σ' α' κ ρ ∧ qI σ' α' κ ρ ∧ qFr [(86, 56)] [120] σ α σ' α' ∧ ∃ v : Int, r = some (.int (qz v)) ∧ ((-2147483648) ≤ v ∧ v ≤ 2147483647) ∧ σ' 86 56 = σ 86 56 + 2) := by
  refine qr_start (d := d + 2) qv_e256 (Nat.le_of_ble_eq_true rfl) ?_
  show qr_W (qe L xs vb) (d + 2) qx_e256 _ (0, [(0, .ref 86), (1, .int (qz 1)), (2, .int (qz x2))], [], _, 0, 0)
  have hF0 := qFr_rf [(86, 56)] [120] σ α
  have hz86_56 : (-2147483648) ≤ σ 86 56 ∧ σ 86 56 ≤ 2147483647 := hI.1 86 56
  have hz86_57 : (-2147483648) ≤ σ 86 57 ∧ σ 86 57 ≤ 2147483647 := hI.1 86 57
  have hz86_6 : 0 ≤ σ 86 6 ∧ σ 86 6 ≤ 32 := hI.1 86 6
  refine qr_iload_n 1 rfl rfl rfl ?_
  refine qr_iconst 2 rfl rfl ?_
  refine qr_icmp_ne 20 5 rfl rfl rfl (by decide) (by decide) (fun h1 => ?_) (fun h => False.elim (by omega))
  refine qr_iload_n 21 rfl rfl rfl ?_
  refine qr_iconst 22 rfl rfl ?_
  refine qr_icmp_ne 40 25 rfl rfl rfl (by decide) (by decide) (fun h => False.elim (by omega)) (fun h2 => ?_)
  refine qr_aload_n 26 rfl rfl rfl ?_
  refine qr_bipush 28 rfl (by decide) rfl ?_
  have hs3 : (-2147483648) ≤ σ 86 56 ∧ σ 86 56 ≤ 2147483647 := hI.1 86 56
  refine qr_callN 31 rfl rfl rfl (sf_257_86 (d := d + 1) hI (by decide) (by omega)) ?_
  rintro _ _ ⟨σ5, α6, rfl, hI7, hG8, hw4, rfl⟩
  have hF9 : qFr [(86, 56)] [120] σ α σ5 α6 := qFr_t hF0 hG8 (by decide) (by decide)
  have hs10 : (-2147483648) ≤ σ5 86 56 ∧ σ5 86 56 ≤ 2147483647 := hI7.1 86 56
  show qr_W (qe L xs vb) (d + 2) qx_e256 _ (31, _, [], qw σ5 α6 κ ρ, 0, 0)
  refine qr_aload_n 32 rfl rfl rfl ?_
  refine qr_iconst 33 rfl rfl ?_
  refine qr_iload_n 34 rfl rfl rfl ?_
  have hs11 : (-2147483648) ≤ σ5 86 56 ∧ σ5 86 56 ≤ 2147483647 := hI7.1 86 56
  have hs12 : (-2147483648) ≤ σ5 86 57 ∧ σ5 86 57 ≤ 2147483647 := hI7.1 86 57
  have hs13 : σ5 86 57 = (σ 86 57) := (hG8.1 86 57 (by decide)).trans rfl
  refine qr_callN 37 rfl rfl rfl (sf_256_86k0_1 (d := d + 0) hI7 r2 (by omega) (by omega)) ?_
  have hs16 : (-2147483648) ≤ σ5 86 56 ∧ σ5 86 56 ≤ 2147483647 := hI7.1 86 56
  rintro _ _ ⟨σ17, α18, rfl, hI19, hG20, v14, rfl, hv14, hp15⟩
  have hF21 : qFr [(86, 56)] [120] σ α σ17 α18 := qFr_t hF9 hG20 (by decide) (by decide)
  have hs22 : (-2147483648) ≤ σ17 86 56 ∧ σ17 86 56 ≤ 2147483647 := hI19.1 86 56
  show qr_W (qe L xs vb) (d + 2) qx_e256 _ (37, _, [.int (qz v14)], qw σ17 α18 κ ρ, 0, 0)
  refine qr_iconst 38 rfl rfl ?_
  refine qr_iadd 39 rfl rfl ?_
  refine qy_can (fun v23 hv23 => ?_)
  refine qr_retI rfl rfl (by decide) (by decide) ?_
  have hw24 : σ17 86 56 = (σ17 86 56) := rfl
  exact ⟨_, _, rfl, hI19, hF21, v23, rfl, hv23, by omega⟩

set_option maxHeartbeats 4000000 in
set_option maxRecDepth 20000 in
/-- OneRoofModel.holdsAs -/
theorem sf_256_86k0_2 {L : Nat} {xs : Nat → Int} {vb : Bool} {d : Nat} {σ α : Nat → Nat → Int} {κ : Nat → Option Nat} {ρ : Nat} {x2 : Int} (hI : qI σ α κ ρ) (r2 : (-2147483648) ≤ x2 ∧ x2 ≤ 2147483647) (p0 : 0 ≤ σ 86 56 ∧ σ 86 56 ≤ 380) (p1 : σ 86 57 = 2) : qm_T (qe L xs vb) (d + 2) 256 [.ref 86, .int (qz 0), .int (qz x2)] (qw σ α κ ρ) (fun r w' => ∃ σ' α', w' = qw σ' α' κ ρ ∧ qI σ' α' κ ρ ∧ qFr [(86, 56)] [120] σ α σ' α' ∧ ∃ v : Int, r = some (.int (qz v)) ∧ ((-2147483648) ≤ v ∧ v ≤ 2147483647) ∧ σ' 86 56 = σ 86 56 + 1) := by
  refine qr_start (d := d + 1) qv_e256 (Nat.le_of_ble_eq_true rfl) ?_
  show qr_W (qe L xs vb) (d + 1) qx_e256 _ (0, [(0, .ref 86), (1, .int (qz 0)), (2, .int (qz x2))], [], _, 0, 0)
  have hF0 := qFr_rf [(86, 56)] [120] σ α
  have hz86_56 : (-2147483648) ≤ σ 86 56 ∧ σ 86 56 ≤ 2147483647 := hI.1 86 56
  have hz86_57 : (-2147483648) ≤ σ 86 57 ∧ σ 86 57 ≤ 2147483647 := hI.1 86 57
  have hz86_6 : 0 ≤ σ 86 6 ∧ σ 86 6 ≤ 32 := hI.1 86 6
  refine qr_iload_n 1 rfl rfl rfl ?_
  refine qr_iconst 2 rfl rfl ?_
  refine qr_icmp_ne 20 5 rfl rfl rfl (by decide) (by decide) (fun h1 => ?_) (fun h => False.elim (by omega))
  refine qr_iload_n 21 rfl rfl rfl ?_
  refine qr_iconst 22 rfl rfl ?_
  refine qr_icmp_ne 40 25 rfl rfl rfl (by decide) (by decide) (fun h2 => ?_) (fun h => False.elim (by omega))
  refine qr_iload_n 41 rfl rfl rfl ?_
  refine qr_iconst 42 rfl rfl ?_
  refine qr_icmp_ne 70 45 rfl rfl rfl (by decide) (by decide) (fun h3 => ?_) (fun h => False.elim (by omega))
  refine qr_aload_n 71 rfl rfl rfl ?_
  refine qr_iconst 72 rfl rfl ?_
  have hs4 : (-2147483648) ≤ σ 86 56 ∧ σ 86 56 ≤ 2147483647 := hI.1 86 56
  refine qr_callN 75 rfl rfl rfl (sf_257_86 (d := d + 0) hI (by decide) (by omega)) ?_
  rintro _ _ ⟨σ6, α7, rfl, hI8, hG9, hw5, rfl⟩
  have hF10 : qFr [(86, 56)] [120] σ α σ6 α7 := qFr_t hF0 hG9 (by decide) (by decide)
  have hs11 : (-2147483648) ≤ σ6 86 56 ∧ σ6 86 56 ≤ 2147483647 := hI8.1 86 56
  show qr_W (qe L xs vb) (d + 1) qx_e256 _ (75, _, [], qw σ6 α7 κ ρ, 0, 0)
  refine qr_iload_n 76 rfl rfl rfl ?_
  refine qr_aload_n 77 rfl rfl rfl ?_
  refine qr_get 80 rfl rfl rfl (by decide) rfl ?_
  have hs12 : (-2147483648) ≤ σ6 86 58 ∧ σ6 86 58 ≤ 2147483647 := hI8.1 86 58
  refine qr_iadd 81 rfl rfl ?_
  refine qy_can (fun v13 hv13 => ?_)
  refine qr_retI rfl rfl (by decide) (by decide) ?_
  have hw14 : σ6 86 56 = (σ6 86 56) := rfl
  exact ⟨_, _, rfl, hI8, hF10, v13, rfl, hv13, by omega⟩

set_option maxHeartbeats 4000000 in
set_option maxRecDepth 20000 in
/-- OneRoofModel.holdsAs -/
theorem sf_256_86k1_2 {L : Nat} {xs : Nat → Int} {vb : Bool} {d : Nat} {σ α : Nat → Nat → Int} {κ : Nat → Option Nat} {ρ : Nat} {x2 : Int} (hI : qI σ α κ ρ) (r2 : (-2147483648) ≤ x2 ∧ x2 ≤ 2147483647) (p0 : 0 ≤ σ 86 56 ∧ σ 86 56 ≤ 360) (p1 : σ 86 57 = 2) : qm_T (qe L xs vb) (d + 3) 256 [.ref 86, .int (qz 1), .int (qz x2)] (qw σ α κ ρ) (fun r w' => ∃ σ' α', w' = qw σ' α' κ ρ ∧ qI σ' α' κ ρ ∧ qFr [(86, 56)] [120] σ α σ' α' ∧ ∃ v : Int, r = some (.int (qz v)) ∧ ((-2147483648) ≤ v ∧ v ≤ 2147483647) ∧ σ' 86 56 = σ 86 56 + 2) := by
  refine qr_start (d := d + 2) qv_e256 (Nat.le_of_ble_eq_true rfl) ?_
  show qr_W (qe L xs vb) (d + 2) qx_e256 _ (0, [(0, .ref 86), (1, .int (qz 1)), (2, .int (qz x2))], [], _, 0, 0)
  have hF0 := qFr_rf [(86, 56)] [120] σ α
  have hz86_56 : (-2147483648) ≤ σ 86 56 ∧ σ 86 56 ≤ 2147483647 := hI.1 86 56
  have hz86_57 : (-2147483648) ≤ σ 86 57 ∧ σ 86 57 ≤ 2147483647 := hI.1 86 57
  have hz86_6 : 0 ≤ σ 86 6 ∧ σ 86 6 ≤ 32 := hI.1 86 6
  refine qr_iload_n 1 rfl rfl rfl ?_
  refine qr_iconst 2 rfl rfl ?_
  refine qr_icmp_ne 20 5 rfl rfl rfl (by decide) (by decide) (fun h1 => ?_) (fun h => False.elim (by omega))
  refine qr_iload_n 21 rfl rfl rfl ?_
  refine qr_iconst 22 rfl rfl ?_
  refine qr_icmp_ne 40 25 rfl rfl rfl (by decide) (by decide) (fun h => False.elim (by omega)) (fun h2 => ?_)
  refine qr_aload_n 26 rfl rfl rfl ?_
  refine qr_bipush 28 rfl (by decide) rfl ?_
  have hs3 : (-2147483648) ≤ σ 86 56 ∧ σ 86 56 ≤ 2147483647 := hI.1 86 56
  refine qr_callN 31 rfl rfl rfl (sf_257_86 (d := d + 1) hI (by decide) (by omega)) ?_
  rintro _ _ ⟨σ5, α6, rfl, hI7, hG8, hw4, rfl⟩
  have hF9 : qFr [(86, 56)] [120] σ α σ5 α6 := qFr_t hF0 hG8 (by decide) (by decide)
  have hs10 : (-2147483648) ≤ σ5 86 56 ∧ σ5 86 56 ≤ 2147483647 := hI7.1 86 56
  show qr_W (qe L xs vb) (d + 2) qx_e256 _ (31, _, [], qw σ5 α6 κ ρ, 0, 0)
  refine qr_aload_n 32 rfl rfl rfl ?_
  refine qr_iconst 33 rfl rfl ?_
  refine qr_iload_n 34 rfl rfl rfl ?_
  have hs11 : (-2147483648) ≤ σ5 86 56 ∧ σ5 86 56 ≤ 2147483647 := hI7.1 86 56
  have hs12 : (-2147483648) ≤ σ5 86 57 ∧ σ5 86 57 ≤ 2147483647 := hI7.1 86 57
  have hs13 : σ5 86 57 = (σ 86 57) := (hG8.1 86 57 (by decide)).trans rfl
  refine qr_callN 37 rfl rfl rfl (sf_256_86k0_2 (d := d + 0) hI7 r2 (by omega) (by omega)) ?_
  have hs16 : (-2147483648) ≤ σ5 86 56 ∧ σ5 86 56 ≤ 2147483647 := hI7.1 86 56
  rintro _ _ ⟨σ17, α18, rfl, hI19, hG20, v14, rfl, hv14, hp15⟩
  have hF21 : qFr [(86, 56)] [120] σ α σ17 α18 := qFr_t hF9 hG20 (by decide) (by decide)
  have hs22 : (-2147483648) ≤ σ17 86 56 ∧ σ17 86 56 ≤ 2147483647 := hI19.1 86 56
  show qr_W (qe L xs vb) (d + 2) qx_e256 _ (37, _, [.int (qz v14)], qw σ17 α18 κ ρ, 0, 0)
  refine qr_iconst 38 rfl rfl ?_
  refine qr_iadd 39 rfl rfl ?_
  refine qy_can (fun v23 hv23 => ?_)
  refine qr_retI rfl rfl (by decide) (by decide) ?_
  have hw24 : σ17 86 56 = (σ17 86 56) := rfl
  exact ⟨_, _, rfl, hI19, hF21, v23, rfl, hv23, by omega⟩

set_option maxHeartbeats 4000000 in
set_option maxRecDepth 20000 in
/-- OneRoofModel.holdsAs -/
theorem sf_256_86k2_2 {L : Nat} {xs : Nat → Int} {vb : Bool} {d : Nat} {σ α : Nat → Nat → Int} {κ : Nat → Option Nat} {ρ : Nat} {x2 : Int} (hI : qI σ α κ ρ) (r2 : (-2147483648) ≤ x2 ∧ x2 ≤ 2147483647) (p0 : 0 ≤ σ 86 56 ∧ σ 86 56 ≤ 340) (p1 : σ 86 57 = 2) : qm_T (qe L xs vb) (d + 4) 256 [.ref 86, .int (qz 2), .int (qz x2)] (qw σ α κ ρ) (fun r w' => ∃ σ' α', w' = qw σ' α' κ ρ ∧ qI σ' α' κ ρ ∧ qFr [(86, 56)] [120] σ α σ' α' ∧ ∃ v : Int, r = some (.int (qz v)) ∧ ((-2147483648) ≤ v ∧ v ≤ 2147483647) ∧ σ' 86 56 = σ 86 56 + 3) := by
  refine qr_start (d := d + 3) qv_e256 (Nat.le_of_ble_eq_true rfl) ?_
  show qr_W (qe L xs vb) (d + 3) qx_e256 _ (0, [(0, .ref 86), (1, .int (qz 2)), (2, .int (qz x2))], [], _, 0, 0)
  have hF0 := qFr_rf [(86, 56)] [120] σ α
  have hz86_56 : (-2147483648) ≤ σ 86 56 ∧ σ 86 56 ≤ 2147483647 := hI.1 86 56
  have hz86_57 : (-2147483648) ≤ σ 86 57 ∧ σ 86 57 ≤ 2147483647 := hI.1 86 57
  have hz86_6 : 0 ≤ σ 86 6 ∧ σ 86 6 ≤ 32 := hI.1 86 6
  refine qr_iload_n 1 rfl rfl rfl ?_
  refine qr_iconst 2 rfl rfl ?_
  refine qr_icmp_ne 20 5 rfl rfl rfl (by decide) (by decide) (fun h => False.elim (by omega)) (fun h1 => ?_)
  refine qr_aload_n 6 rfl rfl rfl ?_
  refine qr_bipush 8 rfl (by decide) rfl ?_
  have hs2 : (-2147483648) ≤ σ 86 56 ∧ σ 86 56 ≤ 2147483647 := hI.1 86 56
  refine qr_callN 11 rfl rfl rfl (sf_257_86 (d := d + 2) hI (by decide) (by omega)) ?_
  rintro _ _ ⟨σ4, α5, rfl, hI6, hG7, hw3, rfl⟩
  have hF8 : qFr [(86, 56)] [120] σ α σ4 α5 := qFr_t hF0 hG7 (by decide) (by decide)
  have hs9 : (-2147483648) ≤ σ4 86 56 ∧ σ4 86 56 ≤ 2147483647 := hI6.1 86 56
  show qr_W (qe L xs vb) (d + 3) qx_e256 _ (11, _, [], qw σ4 α5 κ ρ, 0, 0)
  refine qr_aload_n 12 rfl rfl rfl ?_
  refine qr_iconst 13 rfl rfl ?_
  refine qr_iload_n 14 rfl rfl rfl ?_
  refine qr_iconst 15 rfl rfl ?_
  refine qr_iadd 16 rfl rfl ?_
  refine qy_can (fun v10 hv10 => ?_)
  have hs11 : (-2147483648) ≤ σ4 86 56 ∧ σ4 86 56 ≤ 2147483647 := hI6.1 86 56
  have hs12 : (-2147483648) ≤ σ4 86 57 ∧ σ4 86 57 ≤ 2147483647 := hI6.1 86 57
  have hs13 : σ4 86 57 = (σ 86 57) := (hG7.1 86 57 (by decide)).trans rfl
  refine qr_callN 19 rfl rfl rfl (sf_256_86k1_2 (d := d + 0) hI6 hv10 (by omega) (by omega)) ?_
  have hs16 : (-2147483648) ≤ σ4 86 56 ∧ σ4 86 56 ≤ 2147483647 := hI6.1 86 56
  rintro _ _ ⟨σ17, α18, rfl, hI19, hG20, v14, rfl, hv14, hp15⟩
  have hF21 : qFr [(86, 56)] [120] σ α σ17 α18 := qFr_t hF8 hG20 (by decide) (by decide)
  have hs22 : (-2147483648) ≤ σ17 86 56 ∧ σ17 86 56 ≤ 2147483647 := hI19.1 86 56
  show qr_W (qe L xs vb) (d + 3) qx_e256 _ (19, _, [.int (qz v14)], qw σ17 α18 κ ρ, 0, 0)
  refine qr_retI rfl rfl (by decide) (by decide) ?_
  have hw23 : σ17 86 56 = (σ17 86 56) := rfl
  exact ⟨_, _, rfl, hI19, hF21, v14, rfl, hv14, by omega⟩

set_option maxHeartbeats 4000000 in
set_option maxRecDepth 20000 in
/-- OneRoofModel.holdsAs -/
theorem sf_256_86k3_3 {L : Nat} {xs : Nat → Int} {vb : Bool} {d : Nat} {σ α : Nat → Nat → Int} {κ : Nat → Option Nat} {ρ : Nat} {x2 : Int} (hI : qI σ α κ ρ) (r2 : (-2147483648) ≤ x2 ∧ x2 ≤ 2147483647) (p0 : 0 ≤ σ 86 56 ∧ σ 86 56 ≤ 380) (p1 : σ 86 57 = 3) : qm_T (qe L xs vb) (d + 2) 256 [.ref 86, .int (qz 3), .int (qz x2)] (qw σ α κ ρ) (fun r w' => ∃ σ' α', w' = qw σ' α' κ ρ ∧ qI σ' α' κ ρ ∧ qFr [(86, 56)] [120] σ α σ' α' ∧ ∃ v : Int, r = some (.int (qz v)) ∧ ((-2147483648) ≤ v ∧ v ≤ 2147483647) ∧ σ' 86 56 = σ 86 56 + 1) := by
  refine qr_start (d := d + 1) qv_e256 (Nat.le_of_ble_eq_true rfl) ?_
  show qr_W (qe L xs vb) (d + 1) qx_e256 _ (0, [(0, .ref 86), (1, .int (qz 3)), (2, .int (qz x2))], [], _, 0, 0)
  have hF0 := qFr_rf [(86, 56)] [120] σ α
  have hz86_56 : (-2147483648) ≤ σ 86 56 ∧ σ 86 56 ≤ 2147483647 := hI.1 86 56
  have hz86_57 : (-2147483648) ≤ σ 86 57 ∧ σ 86 57 ≤ 2147483647 := hI.1 86 57
  have hz86_6 : 0 ≤ σ 86 6 ∧ σ 86 6 ≤ 32 := hI.1 86 6
  refine qr_iload_n 1 rfl rfl rfl ?_
  refine qr_iconst 2 rfl rfl ?_
  refine qr_icmp_ne 20 5 rfl rfl rfl (by decide) (by decide) (fun h1 => ?_) (fun h => False.elim (by omega))
  refine qr_iload_n 21 rfl rfl rfl ?_
  refine qr_iconst 22 rfl rfl ?_
  refine qr_icmp_ne 40 25 rfl rfl rfl (by decide) (by decide) (fun h2 => ?_) (fun h => False.elim (by omega))
  refine qr_iload_n 41 rfl rfl rfl ?_
  refine qr_iconst 42 rfl rfl ?_
  refine qr_icmp_ne 70 45 rfl rfl rfl (by decide) (by decide) (fun h3 => ?_) (fun h => False.elim (by omega))
  refine qr_aload_n 71 rfl rfl rfl ?_
  refine qr_iconst 72 rfl rfl ?_
  have hs4 : (-2147483648) ≤ σ 86 56 ∧ σ 86 56 ≤ 2147483647 := hI.1 86 56
  refine qr_callN 75 rfl rfl rfl (sf_257_86 (d := d + 0) hI (by decide) (by omega)) ?_
  rintro _ _ ⟨σ6, α7, rfl, hI8, hG9, hw5, rfl⟩
  have hF10 : qFr [(86, 56)] [120] σ α σ6 α7 := qFr_t hF0 hG9 (by decide) (by decide)
  have hs11 : (-2147483648) ≤ σ6 86 56 ∧ σ6 86 56 ≤ 2147483647 := hI8.1 86 56
  show qr_W (qe L xs vb) (d + 1) qx_e256 _ (75, _, [], qw σ6 α7 κ ρ, 0, 0)
  refine qr_iload_n 76 rfl rfl rfl ?_
  refine qr_aload_n 77 rfl rfl rfl ?_
  refine qr_get 80 rfl rfl rfl (by decide) rfl ?_
  have hs12 : (-2147483648) ≤ σ6 86 58 ∧ σ6 86 58 ≤ 2147483647 := hI8.1 86 58
  refine qr_iadd 81 rfl rfl ?_
  refine qy_can (fun v13 hv13 => ?_)
  refine qr_retI rfl rfl (by decide) (by decide) ?_
  have hw14 : σ6 86 56 = (σ6 86 56) := rfl
  exact ⟨_, _, rfl, hI8, hF10, v13, rfl, hv13, by omega⟩

set_option maxHeartbeats 4000000 in
set_option maxRecDepth 20000 in
/-- OneRoofModel.holdsAs -/
theorem sf_256_86k4_4 {L : Nat} {xs : Nat → Int} {vb : Bool} {d : Nat} {σ α : Nat → Nat → Int} {κ : Nat → Option Nat} {ρ : Nat} {x2 : Int} (hI : qI σ α κ ρ) (r2 : (-2147483648) ≤ x2 ∧ x2 ≤ 2147483647) (p0 : 0 ≤ σ 86 56 ∧ σ 86 56 ≤ 380) (p1 : σ 86 57 = 4) : qm_T (qe L xs vb) (d + 2) 256 [.ref 86, .int (qz 4), .int (qz x2)] (qw σ α κ ρ) (fun r w' => ∃ σ' α', w' = qw σ' α' κ ρ ∧ qI σ' α' κ ρ ∧ qFr [(86, 56)] [120] σ α σ' α' ∧ ∃ v : Int, r = some (.int (qz v)) ∧ ((-2147483648) ≤ v ∧ v ≤ 2147483647) ∧ σ' 86 56 = σ 86 56 + 1) := by
  refine qr_start (d := d + 1) qv_e256 (Nat.le_of_ble_eq_true rfl) ?_
  show qr_W (qe L xs vb) (d + 1) qx_e256 _ (0, [(0, .ref 86), (1, .int (qz 4)), (2, .int (qz x2))], [], _, 0, 0)
  have hF0 := qFr_rf [(86, 56)] [120] σ α
  have hz86_56 : (-2147483648) ≤ σ 86 56 ∧ σ 86 56 ≤ 2147483647 := hI.1 86 56
  have hz86_57 : (-2147483648) ≤ σ 86 57 ∧ σ 86 57 ≤ 2147483647 := hI.1 86 57
  have hz86_6 : 0 ≤ σ 86 6 ∧ σ 86 6 ≤ 32 := hI.1 86 6
  refine qr_iload_n 1 rfl rfl rfl ?_
  refine qr_iconst 2 rfl rfl ?_
  refine qr_icmp_ne 20 5 rfl rfl rfl (by decide) (by decide) (fun h1 => ?_) (fun h => False.elim (by omega))
  refine qr_iload_n 21 rfl rfl rfl ?_
  refine qr_iconst 22 rfl rfl ?_
  refine qr_icmp_ne 40 25 rfl rfl rfl (by decide) (by decide) (fun h2 => ?_) (fun h => False.elim (by omega))
  refine qr_iload_n 41 rfl rfl rfl ?_
  refine qr_iconst 42 rfl rfl ?_
  refine qr_icmp_ne 70 45 rfl rfl rfl (by decide) (by decide) (fun h3 => ?_) (fun h => False.elim (by omega))
  refine qr_aload_n 71 rfl rfl rfl ?_
  refine qr_iconst 72 rfl rfl ?_
  have hs4 : (-2147483648) ≤ σ 86 56 ∧ σ 86 56 ≤ 2147483647 := hI.1 86 56
  refine qr_callN 75 rfl rfl rfl (sf_257_86 (d := d + 0) hI (by decide) (by omega)) ?_
  rintro _ _ ⟨σ6, α7, rfl, hI8, hG9, hw5, rfl⟩
  have hF10 : qFr [(86, 56)] [120] σ α σ6 α7 := qFr_t hF0 hG9 (by decide) (by decide)
  have hs11 : (-2147483648) ≤ σ6 86 56 ∧ σ6 86 56 ≤ 2147483647 := hI8.1 86 56
  show qr_W (qe L xs vb) (d + 1) qx_e256 _ (75, _, [], qw σ6 α7 κ ρ, 0, 0)
  refine qr_iload_n 76 rfl rfl rfl ?_
  refine qr_aload_n 77 rfl rfl rfl ?_
  refine qr_get 80 rfl rfl rfl (by decide) rfl ?_
  have hs12 : (-2147483648) ≤ σ6 86 58 ∧ σ6 86 58 ≤ 2147483647 := hI8.1 86 58
  refine qr_iadd 81 rfl rfl ?_
  refine qy_can (fun v13 hv13 => ?_)
  refine qr_retI rfl rfl (by decide) (by decide) ?_
  have hw14 : σ6 86 56 = (σ6 86 56) := rfl
  exact ⟨_, _, rfl, hI8, hF10, v13, rfl, hv13, by omega⟩

set_option maxHeartbeats 4000000 in
set_option maxRecDepth 20000 in
/-- OneRoofModel.holdsAs -/
theorem sf_256_86k4_5 {L : Nat} {xs : Nat → Int} {vb : Bool} {d : Nat} {σ α : Nat → Nat → Int} {κ : Nat → Option Nat} {ρ : Nat} {x2 : Int} (hI : qI σ α κ ρ) (r2 : (-2147483648) ≤ x2 ∧ x2 ≤ 2147483647) (p0 : 0 ≤ σ 86 56 ∧ σ 86 56 ≤ 380) (p1 : σ 86 57 = 5) : qm_T (qe L xs vb) (d + 2) 256 [.ref 86, .int (qz 4), .int (qz x2)] (qw σ α κ ρ) (fun r w' => ∃ σ' α', w' = qw σ' α' κ ρ ∧ qI σ' α' κ ρ ∧ qFr [(86, 56)] [120] σ α σ' α' ∧ ∃ v : Int, r = some (.int (qz v)) ∧ ((-2147483648) ≤ v ∧ v ≤ 2147483647) ∧ σ' 86 56 = σ 86 56 + 1) := by
  refine qr_start (d := d + 1) qv_e256 (Nat.le_of_ble_eq_true rfl) ?_
  show qr_W (qe L xs vb) (d + 1) qx_e256 _ (0, [(0, .ref 86), (1, .int (qz 4)), (2, .int (qz x2))], [], _, 0, 0)
  have hF0 := qFr_rf [(86, 56)] [120] σ α
  have hz86_56 : (-2147483648) ≤ σ 86 56 ∧ σ 86 56 ≤ 2147483647 := hI.1 86 56
  have hz86_57 : (-2147483648) ≤ σ 86 57 ∧ σ 86 57 ≤ 2147483647 := hI.1 86 57
  have hz86_6 : 0 ≤ σ 86 6 ∧ σ 86 6 ≤ 32 := hI.1 86 6
  refine qr_iload_n 1 rfl rfl rfl ?_
  refine qr_iconst 2 rfl rfl ?_
  refine qr_icmp_ne 20 5 rfl rfl rfl (by decide) (by decide) (fun h1 => ?_) (fun h => False.elim (by omega))
  refine qr_iload_n 21 rfl rfl rfl ?_
  refine qr_iconst 22 rfl rfl ?_
  refine qr_icmp_ne 40 25 rfl rfl rfl (by decide) (by decide) (fun h2 => ?_) (fun h => False.elim (by omega))
  refine qr_iload_n 41 rfl rfl rfl ?_
  refine qr_iconst 42 rfl rfl ?_
  refine qr_icmp_ne 70 45 rfl rfl rfl (by decide) (by decide) (fun h3 => ?_) (fun h => False.elim (by omega))
  refine qr_aload_n 71 rfl rfl rfl ?_
  refine qr_iconst 72 rfl rfl ?_
  have hs4 : (-2147483648) ≤ σ 86 56 ∧ σ 86 56 ≤ 2147483647 := hI.1 86 56
  refine qr_callN 75 rfl rfl rfl (sf_257_86 (d := d + 0) hI (by decide) (by omega)) ?_
  rintro _ _ ⟨σ6, α7, rfl, hI8, hG9, hw5, rfl⟩
  have hF10 : qFr [(86, 56)] [120] σ α σ6 α7 := qFr_t hF0 hG9 (by decide) (by decide)
  have hs11 : (-2147483648) ≤ σ6 86 56 ∧ σ6 86 56 ≤ 2147483647 := hI8.1 86 56
  show qr_W (qe L xs vb) (d + 1) qx_e256 _ (75, _, [], qw σ6 α7 κ ρ, 0, 0)
  refine qr_iload_n 76 rfl rfl rfl ?_
  refine qr_aload_n 77 rfl rfl rfl ?_
  refine qr_get 80 rfl rfl rfl (by decide) rfl ?_
  have hs12 : (-2147483648) ≤ σ6 86 58 ∧ σ6 86 58 ≤ 2147483647 := hI8.1 86 58
  refine qr_iadd 81 rfl rfl ?_
  refine qy_can (fun v13 hv13 => ?_)
  refine qr_retI rfl rfl (by decide) (by decide) ?_
  have hw14 : σ6 86 56 = (σ6 86 56) := rfl
  exact ⟨_, _, rfl, hI8, hF10, v13, rfl, hv13, by omega⟩

set_option maxHeartbeats 4000000 in
set_option maxRecDepth 20000 in
/-- OneRoofModel.endsAs -/
theorem sf_258_86k5_5 {L : Nat} {xs : Nat → Int} {vb : Bool} {d : Nat} {σ α : Nat → Nat → Int} {κ : Nat → Option Nat} {ρ : Nat} {x2 : Int} (hI : qI σ α κ ρ) (r2 : (-2147483648) ≤ x2 ∧ x2 ≤ 2147483647) (p0 : 0 ≤ σ 86 56 ∧ σ 86 56 ≤ 380) (p1 : σ 86 57 = 5) : qm_T (qe L xs vb) (d + 2) 258 [.ref 86, .int (qz 5), .int (qz x2)] (qw σ α κ ρ) (fun r w' => ∃ σ' α', w' = qw σ' α' κ ρ ∧ qI σ' α' κ ρ ∧ qFr [(86, 56)] [120] σ α σ' α' ∧ ∃ v : Int, r = some (.int (qz v)) ∧ ((-2147483648) ≤ v ∧ v ≤ 2147483647) ∧ σ' 86 56 = σ 86 56 + 1) := by
  refine qr_start (d := d + 1) qv_e258 (Nat.le_of_ble_eq_true rfl) ?_
  show qr_W (qe L xs vb) (d + 1) qx_e258 _ (0, [(0, .ref 86), (1, .int (qz 5)), (2, .int (qz x2))], [], _, 0, 0)
  have hF0 := qFr_rf [(86, 56)] [120] σ α
  have hz86_56 : (-2147483648) ≤ σ 86 56 ∧ σ 86 56 ≤ 2147483647 := hI.1 86 56
  have hz86_57 : (-2147483648) ≤ σ 86 57 ∧ σ 86 57 ≤ 2147483647 := hI.1 86 57
  have hz86_6 : 0 ≤ σ 86 6 ∧ σ 86 6 ≤ 32 := hI.1 86 6
  refine qr_iload_n 1 rfl rfl rfl ?_
  refine qr_iconst 2 rfl rfl ?_
  refine qr_icmp_ne 20 5 rfl rfl rfl (by decide) (by decide) (fun h1 => ?_) (fun h => False.elim (by omega))
  refine qr_iload_n 21 rfl rfl rfl ?_
  refine qr_bipush 23 rfl (by decide) rfl ?_
  refine qr_icmp_ne 51 26 rfl rfl rfl (by decide) (by decide) (fun h2 => ?_) (fun h => False.elim (by omega))
  refine qr_aload_n 52 rfl rfl rfl ?_
  refine qr_bipush 54 rfl (by decide) rfl ?_
  have hs3 : (-2147483648) ≤ σ 86 56 ∧ σ 86 56 ≤ 2147483647 := hI.1 86 56
  refine qr_callN 57 rfl rfl rfl (sf_257_86 (d := d + 0) hI (by decide) (by omega)) ?_
  rintro _ _ ⟨σ5, α6, rfl, hI7, hG8, hw4, rfl⟩
  have hF9 : qFr [(86, 56)] [120] σ α σ5 α6 := qFr_t hF0 hG8 (by decide) (by decide)
  have hs10 : (-2147483648) ≤ σ5 86 56 ∧ σ5 86 56 ≤ 2147483647 := hI7.1 86 56
  show qr_W (qe L xs vb) (d + 1) qx_e258 _ (57, _, [], qw σ5 α6 κ ρ, 0, 0)
  refine qr_iload_n 58 rfl rfl rfl ?_
  refine qr_aload_n 59 rfl rfl rfl ?_
  refine qr_get 62 rfl rfl rfl (by decide) rfl ?_
  have hs11 : (-2147483648) ≤ σ5 86 58 ∧ σ5 86 58 ≤ 2147483647 := hI7.1 86 58
  refine qr_ixor 63 rfl rfl ?_
  refine qy_can (fun v12 hv12 => ?_)
  refine qr_retI rfl rfl (by decide) (by decide) ?_
  have hw13 : σ5 86 56 = (σ5 86 56) := rfl
  exact ⟨_, _, rfl, hI7, hF9, v12, rfl, hv12, by omega⟩

set_option maxHeartbeats 4000000 in
set_option maxRecDepth 20000 in
/-- OneRoofModel.holdsAs -/
theorem sf_256_86k5_5 {L : Nat} {xs : Nat → Int} {vb : Bool} {d : Nat} {σ α : Nat → Nat → Int} {κ : Nat → Option Nat} {ρ : Nat} {x2 : Int} (hI : qI σ α κ ρ) (r2 : (-2147483648) ≤ x2 ∧ x2 ≤ 2147483647) (p0 : 0 ≤ σ 86 56 ∧ σ 86 56 ≤ 360) (p1 : σ 86 57 = 5) : qm_T (qe L xs vb) (d + 3) 256 [.ref 86, .int (qz 5), .int (qz x2)] (qw σ α κ ρ) (fun r w' => ∃ σ' α', w' = qw σ' α' κ ρ ∧ qI σ' α' κ ρ ∧ qFr [(86, 56)] [120] σ α σ' α' ∧ ∃ v : Int, r = some (.int (qz v)) ∧ ((-2147483648) ≤ v ∧ v ≤ 2147483647) ∧ σ' 86 56 = σ 86 56 + 3) := by
  refine qr_start (d := d + 2) qv_e256 (Nat.le_of_ble_eq_true rfl) ?_
  show qr_W (qe L xs vb) (d + 2) qx_e256 _ (0, [(0, .ref 86), (1, .int (qz 5)), (2, .int (qz x2))], [], _, 0, 0)
  have hF0 := qFr_rf [(86, 56)] [120] σ α
  have hz86_56 : (-2147483648) ≤ σ 86 56 ∧ σ 86 56 ≤ 2147483647 := hI.1 86 56
  have hz86_57 : (-2147483648) ≤ σ 86 57 ∧ σ 86 57 ≤ 2147483647 := hI.1 86 57
  have hz86_6 : 0 ≤ σ 86 6 ∧ σ 86 6 ≤ 32 := hI.1 86 6
  refine qr_iload_n 1 rfl rfl rfl ?_
  refine qr_iconst 2 rfl rfl ?_
  refine qr_icmp_ne 20 5 rfl rfl rfl (by decide) (by decide) (fun h1 => ?_) (fun h => False.elim (by omega))
  refine qr_iload_n 21 rfl rfl rfl ?_
  refine qr_iconst 22 rfl rfl ?_
  refine qr_icmp_ne 40 25 rfl rfl rfl (by decide) (by decide) (fun h2 => ?_) (fun h => False.elim (by omega))
  refine qr_iload_n 41 rfl rfl rfl ?_
  refine qr_iconst 42 rfl rfl ?_
  refine qr_icmp_ne 70 45 rfl rfl rfl (by decide) (by decide) (fun h => False.elim (by omega)) (fun h3 => ?_)
  refine qr_aload_n 46 rfl rfl rfl ?_
  refine qr_bipush 48 rfl (by decide) rfl ?_
  have hs4 : (-2147483648) ≤ σ 86 56 ∧ σ 86 56 ≤ 2147483647 := hI.1 86 56
  refine qr_callN 51 rfl rfl rfl (sf_257_86 (d := d + 1) hI (by decide) (by omega)) ?_
  rintro _ _ ⟨σ6, α7, rfl, hI8, hG9, hw5, rfl⟩
  have hF10 : qFr [(86, 56)] [120] σ α σ6 α7 := qFr_t hF0 hG9 (by decide) (by decide)
  have hs11 : (-2147483648) ≤ σ6 86 56 ∧ σ6 86 56 ≤ 2147483647 := hI8.1 86 56
  show qr_W (qe L xs vb) (d + 2) qx_e256 _ (51, _, [], qw σ6 α7 κ ρ, 0, 0)
  refine qr_aload_n 52 rfl rfl rfl ?_
  refine qr_iconst 53 rfl rfl ?_
  refine qr_iload_n 54 rfl rfl rfl ?_
  have hs12 : (-2147483648) ≤ σ6 86 56 ∧ σ6 86 56 ≤ 2147483647 := hI8.1 86 56
  have hs13 : (-2147483648) ≤ σ6 86 57 ∧ σ6 86 57 ≤ 2147483647 := hI8.1 86 57
  have hs14 : σ6 86 57 = (σ 86 57) := (hG9.1 86 57 (by decide)).trans rfl
  refine qr_callN 57 rfl rfl rfl (sf_256_86k4_5 (d := d + 0) hI8 r2 (by omega) (by omega)) ?_
  have hs17 : (-2147483648) ≤ σ6 86 56 ∧ σ6 86 56 ≤ 2147483647 := hI8.1 86 56
  rintro _ _ ⟨σ18, α19, rfl, hI20, hG21, v15, rfl, hv15, hp16⟩
  have hF22 : qFr [(86, 56)] [120] σ α σ18 α19 := qFr_t hF10 hG21 (by decide) (by decide)
  have hs23 : (-2147483648) ≤ σ18 86 56 ∧ σ18 86 56 ≤ 2147483647 := hI20.1 86 56
  show qr_W (qe L xs vb) (d + 2) qx_e256 _ (57, _, [.int (qz v15)], qw σ18 α19 κ ρ, 0, 0)
  refine qr_istore_n _ 58 rfl (by decide) rfl rfl ?_
  refine qr_iload_n 59 rfl rfl rfl ?_
  refine qr_aload_n 60 rfl rfl rfl ?_
  refine qr_aload_n 61 rfl rfl rfl ?_
  refine qr_get 64 rfl rfl rfl (by decide) rfl ?_
  refine qy_v (σ 86 57) ((hG21.1 86 57 (by decide)).trans ((hG9.1 86 57 (by decide)).trans rfl)) ?_
  refine qr_iconst 65 rfl rfl ?_
  have hc24 : (σ 86 57) = 5 := by omega
  rw [hc24]
  have hs25 : (-2147483648) ≤ σ18 86 56 ∧ σ18 86 56 ≤ 2147483647 := hI20.1 86 56
  have hs26 : (-2147483648) ≤ σ18 86 57 ∧ σ18 86 57 ≤ 2147483647 := hI20.1 86 57
  have hs27 : σ18 86 57 = (σ 86 57) := (hG21.1 86 57 (by decide)).trans ((hG9.1 86 57 (by decide)).trans rfl)
  refine qr_callN 68 rfl rfl rfl (sf_258_86k5_5 (d := d + 0) hI20 (by decide) (by omega) (by omega)) ?_
  have hs30 : (-2147483648) ≤ σ18 86 56 ∧ σ18 86 56 ≤ 2147483647 := hI20.1 86 56
  rintro _ _ ⟨σ31, α32, rfl, hI33, hG34, v28, rfl, hv28, hp29⟩
  have hF35 : qFr [(86, 56)] [120] σ α σ31 α32 := qFr_t hF22 hG34 (by decide) (by decide)
  have hs36 : (-2147483648) ≤ σ31 86 56 ∧ σ31 86 56 ≤ 2147483647 := hI33.1 86 56
  show qr_W (qe L xs vb) (d + 2) qx_e256 _ (68, _, [.int (qz v28), .int (qz v15)], qw σ31 α32 κ ρ, 0, 0)
  refine qr_isub 69 rfl rfl ?_
  refine qy_can (fun v37 hv37 => ?_)
  refine qr_retI rfl rfl (by decide) (by decide) ?_
  have hw38 : σ31 86 56 = (σ31 86 56) := rfl
  exact ⟨_, _, rfl, hI33, hF35, v37, rfl, hv37, by omega⟩

set_option maxHeartbeats 4000000 in
set_option maxRecDepth 20000 in
/-- OneRoofModel.holdsAs -/
theorem sf_256_86k6_6 {L : Nat} {xs : Nat → Int} {vb : Bool} {d : Nat} {σ α : Nat → Nat → Int} {κ : Nat → Option Nat} {ρ : Nat} {x2 : Int} (hI : qI σ α κ ρ) (r2 : (-2147483648) ≤ x2 ∧ x2 ≤ 2147483647) (p0 : 0 ≤ σ 86 56 ∧ σ 86 56 ≤ 380) (p1 : σ 86 57 = 6) : qm_T (qe L xs vb) (d + 2) 256 [.ref 86, .int (qz 6), .int (qz x2)] (qw σ α κ ρ) (fun r w' => ∃ σ' α', w' = qw σ' α' κ ρ ∧ qI σ' α' κ ρ ∧ qFr [(86, 56)] [120] σ α σ' α' ∧ ∃ v : Int, r = some (.int (qz v)) ∧ ((-2147483648) ≤ v ∧ v ≤ 2147483647) ∧ σ' 86 56 = σ 86 56 + 1) := by
  refine qr_start (d := d + 1) qv_e256 (Nat.le_of_ble_eq_true rfl) ?_
  show qr_W (qe L xs vb) (d + 1) qx_e256 _ (0, [(0, .ref 86), (1, .int (qz 6)), (2, .int (qz x2))], [], _, 0, 0)
  have hF0 := qFr_rf [(86, 56)] [120] σ α
  have hz86_56 : (-2147483648) ≤ σ 86 56 ∧ σ 86 56 ≤ 2147483647 := hI.1 86 56
  have hz86_57 : (-2147483648) ≤ σ 86 57 ∧ σ 86 57 ≤ 2147483647 := hI.1 86 57
  have hz86_6 : 0 ≤ σ 86 6 ∧ σ 86 6 ≤ 32 := hI.1 86 6
  refine qr_iload_n 1 rfl rfl rfl ?_
  refine qr_iconst 2 rfl rfl ?_
  refine qr_icmp_ne 20 5 rfl rfl rfl (by decide) (by decide) (fun h1 => ?_) (fun h => False.elim (by omega))
  refine qr_iload_n 21 rfl rfl rfl ?_
  refine qr_iconst 22 rfl rfl ?_
  refine qr_icmp_ne 40 25 rfl rfl rfl (by decide) (by decide) (fun h2 => ?_) (fun h => False.elim (by omega))
  refine qr_iload_n 41 rfl rfl rfl ?_
  refine qr_iconst 42 rfl rfl ?_
  refine qr_icmp_ne 70 45 rfl rfl rfl (by decide) (by decide) (fun h3 => ?_) (fun h => False.elim (by omega))
  refine qr_aload_n 71 rfl rfl rfl ?_
  refine qr_iconst 72 rfl rfl ?_
  have hs4 : (-2147483648) ≤ σ 86 56 ∧ σ 86 56 ≤ 2147483647 := hI.1 86 56
  refine qr_callN 75 rfl rfl rfl (sf_257_86 (d := d + 0) hI (by decide) (by omega)) ?_
  rintro _ _ ⟨σ6, α7, rfl, hI8, hG9, hw5, rfl⟩
  have hF10 : qFr [(86, 56)] [120] σ α σ6 α7 := qFr_t hF0 hG9 (by decide) (by decide)
  have hs11 : (-2147483648) ≤ σ6 86 56 ∧ σ6 86 56 ≤ 2147483647 := hI8.1 86 56
  show qr_W (qe L xs vb) (d + 1) qx_e256 _ (75, _, [], qw σ6 α7 κ ρ, 0, 0)
  refine qr_iload_n 76 rfl rfl rfl ?_
  refine qr_aload_n 77 rfl rfl rfl ?_
  refine qr_get 80 rfl rfl rfl (by decide) rfl ?_
  have hs12 : (-2147483648) ≤ σ6 86 58 ∧ σ6 86 58 ≤ 2147483647 := hI8.1 86 58
  refine qr_iadd 81 rfl rfl ?_
  refine qy_can (fun v13 hv13 => ?_)
  refine qr_retI rfl rfl (by decide) (by decide) ?_
  have hw14 : σ6 86 56 = (σ6 86 56) := rfl
  exact ⟨_, _, rfl, hI8, hF10, v13, rfl, hv13, by omega⟩

set_option maxHeartbeats 4000000 in
set_option maxRecDepth 20000 in
/-- OneRoofModel.holdsAs -/
theorem sf_256_86kp_p {L : Nat} {xs : Nat → Int} {vb : Bool} {d : Nat} {σ α : Nat → Nat → Int} {κ : Nat → Option Nat} {ρ : Nat} {x1 : Int} {x2 : Int} (hI : qI σ α κ ρ) (r1 : 7 ≤ x1 ∧ x1 ≤ 2147483647) (r2 : (-2147483648) ≤ x2 ∧ x2 ≤ 2147483647) (p0 : 0 ≤ σ 86 56 ∧ σ 86 56 ≤ 380) (p1 : 6 < σ 86 57) : qm_T (qe L xs vb) (d + 2) 256 [.ref 86, .int (qz x1), .int (qz x2)] (qw σ α κ ρ) (fun r w' => ∃ σ' α', w' = qw σ' α' κ ρ ∧ qI σ' α' κ ρ ∧ qFr [(86, 56)] [120] σ α σ' α' ∧ ∃ v : Int, r = some (.int (qz v)) ∧ ((-2147483648) ≤ v ∧ v ≤ 2147483647) ∧ σ' 86 56 = σ 86 56 + 1) := by
  refine qr_start (d := d + 1) qv_e256 (Nat.le_of_ble_eq_true rfl) ?_
  show qr_W (qe L xs vb) (d + 1) qx_e256 _ (0, [(0, .ref 86), (1, .int (qz x1)), (2, .int (qz x2))], [], _, 0, 0)
  have hF0 := qFr_rf [(86, 56)] [120] σ α
  have hz86_56 : (-2147483648) ≤ σ 86 56 ∧ σ 86 56 ≤ 2147483647 := hI.1 86 56
  have hz86_57 : (-2147483648) ≤ σ 86 57 ∧ σ 86 57 ≤ 2147483647 := hI.1 86 57
  have hz86_6 : 0 ≤ σ 86 6 ∧ σ 86 6 ≤ 32 := hI.1 86 6
  refine qr_iload_n 1 rfl rfl rfl ?_
  refine qr_iconst 2 rfl rfl ?_
  refine qr_icmp_ne 20 5 rfl rfl rfl (qrg r1 (by decide) (by decide)) (by decide) (fun h1 => ?_) (fun h => False.elim (by omega))
  refine qr_iload_n 21 rfl rfl rfl ?_
  refine qr_iconst 22 rfl rfl ?_
  refine qr_icmp_ne 40 25 rfl rfl rfl (qrg r1 (by decide) (by decide)) (by decide) (fun h2 => ?_) (fun h => False.elim (by omega))
  refine qr_iload_n 41 rfl rfl rfl ?_
  refine qr_iconst 42 rfl rfl ?_
  refine qr_icmp_ne 70 45 rfl rfl rfl (qrg r1 (by decide) (by decide)) (by decide) (fun h3 => ?_) (fun h => False.elim (by omega))
  refine qr_aload_n 71 rfl rfl rfl ?_
  refine qr_iconst 72 rfl rfl ?_
  have hs4 : (-2147483648) ≤ σ 86 56 ∧ σ 86 56 ≤ 2147483647 := hI.1 86 56
  refine qr_callN 75 rfl rfl rfl (sf_257_86 (d := d + 0) hI (by decide) (by omega)) ?_
  rintro _ _ ⟨σ6, α7, rfl, hI8, hG9, hw5, rfl⟩
  have hF10 : qFr [(86, 56)] [120] σ α σ6 α7 := qFr_t hF0 hG9 (by decide) (by decide)
  have hs11 : (-2147483648) ≤ σ6 86 56 ∧ σ6 86 56 ≤ 2147483647 := hI8.1 86 56
  show qr_W (qe L xs vb) (d + 1) qx_e256 _ (75, _, [], qw σ6 α7 κ ρ, 0, 0)
  refine qr_iload_n 76 rfl rfl rfl ?_
  refine qr_aload_n 77 rfl rfl rfl ?_
  refine qr_get 80 rfl rfl rfl (by decide) rfl ?_
  have hs12 : (-2147483648) ≤ σ6 86 58 ∧ σ6 86 58 ≤ 2147483647 := hI8.1 86 58
  refine qr_iadd 81 rfl rfl ?_
  refine qy_can (fun v13 hv13 => ?_)
  refine qr_retI rfl rfl (by decide) (by decide) ?_
  have hw14 : σ6 86 56 = (σ6 86 56) := rfl
  exact ⟨_, _, rfl, hI8, hF10, v13, rfl, hv13, by omega⟩

set_option maxHeartbeats 4000000 in
set_option maxRecDepth 20000 in
/-- OneRoofModel.holdsAs -/
theorem sf_256_86any {L : Nat} {xs : Nat → Int} {vb : Bool} {d : Nat} {σ α : Nat → Nat → Int} {κ : Nat → Option Nat} {ρ : Nat} {x1 : Int} {x2 : Int} (hI : qI σ α κ ρ) (r1 : (-2147483648) ≤ x1 ∧ x1 ≤ 2147483647) (r2 : (-2147483648) ≤ x2 ∧ x2 ≤ 2147483647) (p0 : σ 86 56 = 0) (p1 : x1 = σ 86 57) : qm_T (qe L xs vb) (d + 4) 256 [.ref 86, .int (qz x1), .int (qz x2)] (qw σ α κ ρ) (fun r w' => ∃ σ' α', w' = qw σ' α' κ ρ ∧ qI σ' α' κ ρ ∧ qFr [(86, 56)] [120] σ α σ' α' ∧ ∃ v : Int, r = some (.int (qz v)) ∧ ((-2147483648) ≤ v ∧ v ≤ 2147483647)) := by
  have h1 : x1 < 0 ∨ x1 = 0 ∨ x1 = 1 ∨ x1 = 2 ∨ x1 = 3 ∨ x1 = 4 ∨ x1 = 5 ∨ x1 = 6 ∨ 6 < x1 := by omega
  rcases h1 with h1 | h1 | h1 | h1 | h1 | h1 | h1 | h1 | h1
  · skip
    refine qr_mono (sf_256_86km_m (d := d + 2) hI (by omega) (by omega) (by omega) (by omega)) ?_
    rintro r w2 ⟨σ2, α2, h2, h3, h4, v, h5, h6, h7⟩
    exact ⟨σ2, α2, h2, h3, h4, v, h5, h6⟩
  · rw [h1]
    refine qr_mono (sf_256_86k0_0 (d := d + 2) hI (by omega) (by omega) (by omega)) ?_
    rintro r w2 ⟨σ2, α2, h2, h3, h4, v, h5, h6, h7⟩
    exact ⟨σ2, α2, h2, h3, h4, v, h5, h6⟩
  · rw [h1]
    refine qr_mono (sf_256_86k1_1 (d := d + 1) hI (by omega) (by omega) (by omega)) ?_
    rintro r w2 ⟨σ2, α2, h2, h3, h4, v, h5, h6, h7⟩
    exact ⟨σ2, α2, h2, h3, h4, v, h5, h6⟩
  · rw [h1]
    refine qr_mono (sf_256_86k2_2 (d := d + 0) hI (by omega) (by omega) (by omega)) ?_
    rintro r w2 ⟨σ2, α2, h2, h3, h4, v, h5, h6, h7⟩
    exact ⟨σ2, α2, h2, h3, h4, v, h5, h6⟩
  · rw [h1]
    refine qr_mono (sf_256_86k3_3 (d := d + 2) hI (by omega) (by omega) (by omega)) ?_
    rintro r w2 ⟨σ2, α2, h2, h3, h4, v, h5, h6, h7⟩
    exact ⟨σ2, α2, h2, h3, h4, v, h5, h6⟩
  · rw [h1]
    refine qr_mono (sf_256_86k4_4 (d := d + 2) hI (by omega) (by omega) (by omega)) ?_
    rintro r w2 ⟨σ2, α2, h2, h3, h4, v, h5, h6, h7⟩
    exact ⟨σ2, α2, h2, h3, h4, v, h5, h6⟩
  · rw [h1]
    refine qr_mono (sf_256_86k5_5 (d := d + 1) hI (by omega) (by omega) (by omega)) ?_
    rintro r w2 ⟨σ2, α2, h2, h3, h4, v, h5, h6, h7⟩
    exact ⟨σ2, α2, h2, h3, h4, v, h5, h6⟩
  · rw [h1]
    refine qr_mono (sf_256_86k6_6 (d := d + 2) hI (by omega) (by omega) (by omega)) ?_
    rintro r w2 ⟨σ2, α2, h2, h3, h4, v, h5, h6, h7⟩
    exact ⟨σ2, α2, h2, h3, h4, v, h5, h6⟩
  · skip
    refine qr_mono (sf_256_86kp_p (d := d + 2) hI (by omega) (by omega) (by omega) (by omega)) ?_
    rintro r w2 ⟨σ2, α2, h2, h3, h4, v, h5, h6, h7⟩
    exact ⟨σ2, α2, h2, h3, h4, v, h5, h6⟩

set_option maxHeartbeats 4000000 in
set_option maxRecDepth 20000 in
/-- OneRoofModel.coversAs -/
theorem sf_259_86km_m {L : Nat} {xs : Nat → Int} {vb : Bool} {d : Nat} {σ α : Nat → Nat → Int} {κ : Nat → Option Nat} {ρ : Nat} {x1 : Int} {x2 : Int} (hI : qI σ α κ ρ) (r1 : (-2147483648) ≤ x1 ∧ x1 ≤ (-1)) (r2 : (-2147483648) ≤ x2 ∧ x2 ≤ 2147483647) (p0 : 0 ≤ σ 86 56 ∧ σ 86 56 ≤ 360) (p1 : σ 86 57 < 0) : qm_T (qe L xs vb) (d + 3) 259 [.ref 86, .int (qz x1), .int (qz x2)] (qw σ α κ ρ) (fun r w' => ∃ σ' α', w' = qw σ' α' κ ρ ∧ qI σ' α' κ ρ ∧ qFr [(86, 56)] [120] σ α σ' α' ∧ ∃ v : Int, r = some (.int (qz v)) ∧ ((-2147483648) ≤ v ∧ v ≤ 2147483647) ∧ σ' 86 56 = σ 86 56 + 2) := by
  refine qr_start (d := d + 2) qv_e259 (Nat.le_of_ble_eq_true rfl) ?_
  show qr_W (qe L xs vb) (d + 2) qx_e259 _ (0, [(0, .ref 86), (1, .int (qz x1)), (2, .int (qz x2))], [], _, 0, 0)
  have hF0 := qFr_rf [(86, 56)] [120] σ α
  have hz86_56 : (-2147483648) ≤ σ 86 56 ∧ σ 86 56 ≤ 2147483647 := hI.1 86 56
  have hz86_57 : (-2147483648) ≤ σ 86 57 ∧ σ 86 57 ≤ 2147483647 := hI.1 86 57
  have hz86_6 : 0 ≤ σ 86 6 ∧ σ 86 6 ≤ 32 := hI.1 86 6
  refine qr_iload_n 1 rfl rfl rfl ?_
  refine qr_iconst 2 rfl rfl ?_
  refine qr_icmp_ne 19 5 rfl rfl rfl (qrg r1 (by decide) (by decide)) (by decide) (fun h1 => ?_) (fun h => False.elim (by omega))
  refine qr_iload_n 20 rfl rfl rfl ?_
  refine qr_bipush 22 rfl (by decide) rfl ?_
  refine qr_icmp_ne 40 25 rfl rfl rfl (qrg r1 (by decide) (by decide)) (by decide) (fun h2 => ?_) (fun h => False.elim (by omega))
  refine qr_aload_n 41 rfl rfl rfl ?_
  refine qr_bipush 43 rfl (by decide) rfl ?_
  have hs3 : (-2147483648) ≤ σ 86 56 ∧ σ 86 56 ≤ 2147483647 := hI.1 86 56
  refine qr_callN 46 rfl rfl rfl (sf_257_86 (d := d + 1) hI (by decide) (by omega)) ?_
  rintro _ _ ⟨σ5, α6, rfl, hI7, hG8, hw4, rfl⟩
  have hF9 : qFr [(86, 56)] [120] σ α σ5 α6 := qFr_t hF0 hG8 (by decide) (by decide)
  have hs10 : (-2147483648) ≤ σ5 86 56 ∧ σ5 86 56 ≤ 2147483647 := hI7.1 86 56
  show qr_W (qe L xs vb) (d + 2) qx_e259 _ (46, _, [], qw σ5 α6 κ ρ, 0, 0)
  refine qr_aload_n 47 rfl rfl rfl ?_
  refine qr_aload_n 48 rfl rfl rfl ?_
  refine qr_get 51 rfl rfl rfl (by decide) rfl ?_
  refine qy_v (σ 86 57) ((hG8.1 86 57 (by decide)).trans rfl) ?_
  refine qr_iload_n 52 rfl rfl rfl ?_
  have hs11 : (-2147483648) ≤ σ5 86 56 ∧ σ5 86 56 ≤ 2147483647 := hI7.1 86 56
  have hs12 : (-2147483648) ≤ σ5 86 57 ∧ σ5 86 57 ≤ 2147483647 := hI7.1 86 57
  have hs13 : σ5 86 57 = (σ 86 57) := (hG8.1 86 57 (by decide)).trans rfl
  refine qr_callN 55 rfl rfl rfl (sf_256_86km_m (d := d + 0) hI7 (by omega) r2 (by omega) (by omega)) ?_
  have hs16 : (-2147483648) ≤ σ5 86 56 ∧ σ5 86 56 ≤ 2147483647 := hI7.1 86 56
  rintro _ _ ⟨σ17, α18, rfl, hI19, hG20, v14, rfl, hv14, hp15⟩
  have hF21 : qFr [(86, 56)] [120] σ α σ17 α18 := qFr_t hF9 hG20 (by decide) (by decide)
  have hs22 : (-2147483648) ≤ σ17 86 56 ∧ σ17 86 56 ≤ 2147483647 := hI19.1 86 56
  show qr_W (qe L xs vb) (d + 2) qx_e259 _ (55, _, [.int (qz v14)], qw σ17 α18 κ ρ, 0, 0)
  refine qr_iconst 56 rfl rfl ?_
  refine qr_imul 57 rfl rfl ?_
  refine qy_can (fun v23 hv23 => ?_)
  refine qr_retI rfl rfl (by decide) (by decide) ?_
  have hw24 : σ17 86 56 = (σ17 86 56) := rfl
  exact ⟨_, _, rfl, hI19, hF21, v23, rfl, hv23, by omega⟩

set_option maxHeartbeats 4000000 in
set_option maxRecDepth 20000 in
/-- OneRoofModel.coversAs -/
theorem sf_259_86k0_0 {L : Nat} {xs : Nat → Int} {vb : Bool} {d : Nat} {σ α : Nat → Nat → Int} {κ : Nat → Option Nat} {ρ : Nat} {x2 : Int} (hI : qI σ α κ ρ) (r2 : (-2147483648) ≤ x2 ∧ x2 ≤ 2147483647) (p0 : 0 ≤ σ 86 56 ∧ σ 86 56 ≤ 360) (p1 : σ 86 57 = 0) : qm_T (qe L xs vb) (d + 3) 259 [.ref 86, .int (qz 0), .int (qz x2)] (qw σ α κ ρ) (fun r w' => ∃ σ' α', w' = qw σ' α' κ ρ ∧ qI σ' α' κ ρ ∧ qFr [(86, 56)] [120] σ α σ' α' ∧ ∃ v : Int, r = some (.int (qz v)) ∧ ((-2147483648) ≤ v ∧ v ≤ 2147483647) ∧ σ' 86 56 = σ 86 56 + 2) := by
  refine qr_start (d := d + 2) qv_e259 (Nat.le_of_ble_eq_true rfl) ?_
  show qr_W (qe L xs vb) (d + 2) qx_e259 _ (0, [(0, .ref 86), (1, .int (qz 0)), (2, .int (qz x2))], [], _, 0, 0)
  have hF0 := qFr_rf [(86, 56)] [120] σ α
  have hz86_56 : (-2147483648) ≤ σ 86 56 ∧ σ 86 56 ≤ 2147483647 := hI.1 86 56
  have hz86_57 : (-2147483648) ≤ σ 86 57 ∧ σ 86 57 ≤ 2147483647 := hI.1 86 57
  have hz86_6 : 0 ≤ σ 86 6 ∧ σ 86 6 ≤ 32 := hI.1 86 6
  refine qr_iload_n 1 rfl rfl rfl ?_
  refine qr_iconst 2 rfl rfl ?_
  refine qr_icmp_ne 19 5 rfl rfl rfl (by decide) (by decide) (fun h1 => ?_) (fun h => False.elim (by omega))
  refine qr_iload_n 20 rfl rfl rfl ?_
  refine qr_bipush 22 rfl (by decide) rfl ?_
  refine qr_icmp_ne 40 25 rfl rfl rfl (by decide) (by decide) (fun h2 => ?_) (fun h => False.elim (by omega))
  refine qr_aload_n 41 rfl rfl rfl ?_
  refine qr_bipush 43 rfl (by decide) rfl ?_
  have hs3 : (-2147483648) ≤ σ 86 56 ∧ σ 86 56 ≤ 2147483647 := hI.1 86 56
  refine qr_callN 46 rfl rfl rfl (sf_257_86 (d := d + 1) hI (by decide) (by omega)) ?_
  rintro _ _ ⟨σ5, α6, rfl, hI7, hG8, hw4, rfl⟩
  have hF9 : qFr [(86, 56)] [120] σ α σ5 α6 := qFr_t hF0 hG8 (by decide) (by decide)
  have hs10 : (-2147483648) ≤ σ5 86 56 ∧ σ5 86 56 ≤ 2147483647 := hI7.1 86 56
  show qr_W (qe L xs vb) (d + 2) qx_e259 _ (46, _, [], qw σ5 α6 κ ρ, 0, 0)
  refine qr_aload_n 47 rfl rfl rfl ?_
  refine qr_aload_n 48 rfl rfl rfl ?_
  refine qr_get 51 rfl rfl rfl (by decide) rfl ?_
  refine qy_v (σ 86 57) ((hG8.1 86 57 (by decide)).trans rfl) ?_
  refine qr_iload_n 52 rfl rfl rfl ?_
  have hc11 : (σ 86 57) = 0 := by omega
  rw [hc11]
  have hs12 : (-2147483648) ≤ σ5 86 56 ∧ σ5 86 56 ≤ 2147483647 := hI7.1 86 56
  have hs13 : (-2147483648) ≤ σ5 86 57 ∧ σ5 86 57 ≤ 2147483647 := hI7.1 86 57
  have hs14 : σ5 86 57 = (σ 86 57) := (hG8.1 86 57 (by decide)).trans rfl
  refine qr_callN 55 rfl rfl rfl (sf_256_86k0_0 (d := d + 0) hI7 r2 (by omega) (by omega)) ?_
  have hs17 : (-2147483648) ≤ σ5 86 56 ∧ σ5 86 56 ≤ 2147483647 := hI7.1 86 56
  rintro _ _ ⟨σ18, α19, rfl, hI20, hG21, v15, rfl, hv15, hp16⟩
  have hF22 : qFr [(86, 56)] [120] σ α σ18 α19 := qFr_t hF9 hG21 (by decide) (by decide)
  have hs23 : (-2147483648) ≤ σ18 86 56 ∧ σ18 86 56 ≤ 2147483647 := hI20.1 86 56
  show qr_W (qe L xs vb) (d + 2) qx_e259 _ (55, _, [.int (qz v15)], qw σ18 α19 κ ρ, 0, 0)
  refine qr_iconst 56 rfl rfl ?_
  refine qr_imul 57 rfl rfl ?_
  refine qy_can (fun v24 hv24 => ?_)
  refine qr_retI rfl rfl (by decide) (by decide) ?_
  have hw25 : σ18 86 56 = (σ18 86 56) := rfl
  exact ⟨_, _, rfl, hI20, hF22, v24, rfl, hv24, by omega⟩

set_option maxHeartbeats 4000000 in
set_option maxRecDepth 20000 in
/-- OneRoofModel.coversAs -/
theorem sf_259_86k1_1 {L : Nat} {xs : Nat → Int} {vb : Bool} {d : Nat} {σ α : Nat → Nat → Int} {κ : Nat → Option Nat} {ρ : Nat} {x2 : Int} (hI : qI σ α κ ρ) (r2 : (-2147483648) ≤ x2 ∧ x2 ≤ 2147483647) (p0 : 0 ≤ σ 86 56 ∧ σ 86 56 ≤ 340) (p1 : σ 86 57 = 1) : qm_T (qe L xs vb) (d + 4) 259 [.ref 86, .int (qz 1), .int (qz x2)] (qw σ α κ ρ) (fun r w' => ∃ σ' α', w' = qw σ' α' κ ρ ∧ qI σ' α' κ ρ ∧ qFr [(86, 56)] [120] σ α σ' α' ∧ ∃ v : Int, r = some (.int (qz v)) ∧ ((-2147483648) ≤ v ∧ v ≤ 2147483647) ∧ σ' 86 56 = σ 86 56 + 3) := by
  refine qr_start (d := d + 3) qv_e259 (Nat.le_of_ble_eq_true rfl) ?_
  show qr_W (qe L xs vb) (d + 3) qx_e259 _ (0, [(0, .ref 86), (1, .int (qz 1)), (2, .int (qz x2))], [], _, 0, 0)
  have hF0 := qFr_rf [(86, 56)] [120] σ α
  have hz86_56 : (-2147483648) ≤ σ 86 56 ∧ σ 86 56 ≤ 2147483647 := hI.1 86 56
  have hz86_57 : (-2147483648) ≤ σ 86 57 ∧ σ 86 57 ≤ 2147483647 := hI.1 86 57
  have hz86_6 : 0 ≤ σ 86 6 ∧ σ 86 6 ≤ 32 := hI.1 86 6
  refine qr_iload_n 1 rfl rfl rfl ?_
  refine qr_iconst 2 rfl rfl ?_
  refine qr_icmp_ne 19 5 rfl rfl rfl (by decide) (by decide) (fun h1 => ?_) (fun h => False.elim (by omega))
  refine qr_iload_n 20 rfl rfl rfl ?_
  refine qr_bipush 22 rfl (by decide) rfl ?_
  refine qr_icmp_ne 40 25 rfl rfl rfl (by decide) (by decide) (fun h2 => ?_) (fun h => False.elim (by omega))
  refine qr_aload_n 41 rfl rfl rfl ?_
  refine qr_bipush 43 rfl (by decide) rfl ?_
  have hs3 : (-2147483648) ≤ σ 86 56 ∧ σ 86 56 ≤ 2147483647 := hI.1 86 56
  refine qr_callN 46 rfl rfl rfl (sf_257_86 (d := d + 2) hI (by decide) (by omega)) ?_
  rintro _ _ ⟨σ5, α6, rfl, hI7, hG8, hw4, rfl⟩
  have hF9 : qFr [(86, 56)] [120] σ α σ5 α6 := qFr_t hF0 hG8 (by decide) (by decide)
  have hs10 : (-2147483648) ≤ σ5 86 56 ∧ σ5 86 56 ≤ 2147483647 := hI7.1 86 56
  show qr_W (qe L xs vb) (d + 3) qx_e259 _ (46, _, [], qw σ5 α6 κ ρ, 0, 0)
  refine qr_aload_n 47 rfl rfl rfl ?_
  refine qr_aload_n 48 rfl rfl rfl ?_
  refine qr_get 51 rfl rfl rfl (by decide) rfl ?_
  refine qy_v (σ 86 57) ((hG8.1 86 57 (by decide)).trans rfl) ?_
  refine qr_iload_n 52 rfl rfl rfl ?_
  have hc11 : (σ 86 57) = 1 := by omega
  rw [hc11]
  have hs12 : (-2147483648) ≤ σ5 86 56 ∧ σ5 86 56 ≤ 2147483647 := hI7.1 86 56
  have hs13 : (-2147483648) ≤ σ5 86 57 ∧ σ5 86 57 ≤ 2147483647 := hI7.1 86 57
  have hs14 : σ5 86 57 = (σ 86 57) := (hG8.1 86 57 (by decide)).trans rfl
  refine qr_callN 55 rfl rfl rfl (sf_256_86k1_1 (d := d + 0) hI7 r2 (by omega) (by omega)) ?_
  have hs17 : (-2147483648) ≤ σ5 86 56 ∧ σ5 86 56 ≤ 2147483647 := hI7.1 86 56
  rintro _ _ ⟨σ18, α19, rfl, hI20, hG21, v15, rfl, hv15, hp16⟩
  have hF22 : qFr [(86, 56)] [120] σ α σ18 α19 := qFr_t hF9 hG21 (by decide) (by decide)
  have hs23 : (-2147483648) ≤ σ18 86 56 ∧ σ18 86 56 ≤ 2147483647 := hI20.1 86 56
  show qr_W (qe L xs vb) (d + 3) qx_e259 _ (55, _, [.int (qz v15)], qw σ18 α19 κ ρ, 0, 0)
  refine qr_iconst 56 rfl rfl ?_
  refine qr_imul 57 rfl rfl ?_
  refine qy_can (fun v24 hv24 => ?_)
  refine qr_retI rfl rfl (by decide) (by decide) ?_
  have hw25 : σ18 86 56 = (σ18 86 56) := rfl
  exact ⟨_, _, rfl, hI20, hF22, v24, rfl, hv24, by omega⟩

set_option maxHeartbeats 4000000 in
set_option maxRecDepth 20000 in
/-- OneRoofModel.coversAs -/
theorem sf_259_86k2_2 {L : Nat} {xs : Nat → Int} {vb : Bool} {d : Nat} {σ α : Nat → Nat → Int} {κ : Nat → Option Nat} {ρ : Nat} {x2 : Int} (hI : qI σ α κ ρ) (r2 : (-2147483648) ≤ x2 ∧ x2 ≤ 2147483647) (p0 : 0 ≤ σ 86 56 ∧ σ 86 56 ≤ 320) (p1 : σ 86 57 = 2) : qm_T (qe L xs vb) (d + 5) 259 [.ref 86, .int (qz 2), .int (qz x2)] (qw σ α κ ρ) (fun r w' => ∃ σ' α', w' = qw σ' α' κ ρ ∧ qI σ' α' κ ρ ∧ qFr [(86, 56)] [120] σ α σ' α' ∧ ∃ v : Int, r = some (.int (qz v)) ∧ ((-2147483648) ≤ v ∧ v ≤ 2147483647) ∧ σ' 86 56 = σ 86 56 + 4) := by
  refine qr_start (d := d + 4) qv_e259 (Nat.le_of_ble_eq_true rfl) ?_
  show qr_W (qe L xs vb) (d + 4) qx_e259 _ (0, [(0, .ref 86), (1, .int (qz 2)), (2, .int (qz x2))], [], _, 0, 0)
  have hF0 := qFr_rf [(86, 56)] [120] σ α
  have hz86_56 : (-2147483648) ≤ σ 86 56 ∧ σ 86 56 ≤ 2147483647 := hI.1 86 56
  have hz86_57 : (-2147483648) ≤ σ 86 57 ∧ σ 86 57 ≤ 2147483647 := hI.1 86 57
  have hz86_6 : 0 ≤ σ 86 6 ∧ σ 86 6 ≤ 32 := hI.1 86 6
  refine qr_iload_n 1 rfl rfl rfl ?_
  refine qr_iconst 2 rfl rfl ?_
  refine qr_icmp_ne 19 5 rfl rfl rfl (by decide) (by decide) (fun h1 => ?_) (fun h => False.elim (by omega))
  refine qr_iload_n 20 rfl rfl rfl ?_
  refine qr_bipush 22 rfl (by decide) rfl ?_
  refine qr_icmp_ne 40 25 rfl rfl rfl (by decide) (by decide) (fun h2 => ?_) (fun h => False.elim (by omega))
  refine qr_aload_n 41 rfl rfl rfl ?_
  refine qr_bipush 43 rfl (by decide) rfl ?_
  have hs3 : (-2147483648) ≤ σ 86 56 ∧ σ 86 56 ≤ 2147483647 := hI.1 86 56
  refine qr_callN 46 rfl rfl rfl (sf_257_86 (d := d + 3) hI (by decide) (by omega)) ?_
  rintro _ _ ⟨σ5, α6, rfl, hI7, hG8, hw4, rfl⟩
  have hF9 : qFr [(86, 56)] [120] σ α σ5 α6 := qFr_t hF0 hG8 (by decide) (by decide)
  have hs10 : (-2147483648) ≤ σ5 86 56 ∧ σ5 86 56 ≤ 2147483647 := hI7.1 86 56
  show qr_W (qe L xs vb) (d + 4) qx_e259 _ (46, _, [], qw σ5 α6 κ ρ, 0, 0)
  refine qr_aload_n 47 rfl rfl rfl ?_
  refine qr_aload_n 48 rfl rfl rfl ?_
  refine qr_get 51 rfl rfl rfl (by decide) rfl ?_
  refine qy_v (σ 86 57) ((hG8.1 86 57 (by decide)).trans rfl) ?_
  refine qr_iload_n 52 rfl rfl rfl ?_
  have hc11 : (σ 86 57) = 2 := by omega
  rw [hc11]
  have hs12 : (-2147483648) ≤ σ5 86 56 ∧ σ5 86 56 ≤ 2147483647 := hI7.1 86 56
  have hs13 : (-2147483648) ≤ σ5 86 57 ∧ σ5 86 57 ≤ 2147483647 := hI7.1 86 57
  have hs14 : σ5 86 57 = (σ 86 57) := (hG8.1 86 57 (by decide)).trans rfl
  refine qr_callN 55 rfl rfl rfl (sf_256_86k2_2 (d := d + 0) hI7 r2 (by omega) (by omega)) ?_
  have hs17 : (-2147483648) ≤ σ5 86 56 ∧ σ5 86 56 ≤ 2147483647 := hI7.1 86 56
  rintro _ _ ⟨σ18, α19, rfl, hI20, hG21, v15, rfl, hv15, hp16⟩
  have hF22 : qFr [(86, 56)] [120] σ α σ18 α19 := qFr_t hF9 hG21 (by decide) (by decide)
  have hs23 : (-2147483648) ≤ σ18 86 56 ∧ σ18 86 56 ≤ 2147483647 := hI20.1 86 56
  show qr_W (qe L xs vb) (d + 4) qx_e259 _ (55, _, [.int (qz v15)], qw σ18 α19 κ ρ, 0, 0)
  refine qr_iconst 56 rfl rfl ?_
  refine qr_imul 57 rfl rfl ?_
  refine qy_can (fun v24 hv24 => ?_)
  refine qr_retI rfl rfl (by decide) (by decide) ?_
  have hw25 : σ18 86 56 = (σ18 86 56) := rfl
  exact ⟨_, _, rfl, hI20, hF22, v24, rfl, hv24, by omega⟩

set_option maxHeartbeats 4000000 in
set_option maxRecDepth 20000 in
/-- OneRoofModel.coversAs -/
theorem sf_259_86k0_3 {L : Nat} {xs : Nat → Int} {vb : Bool} {d : Nat} {σ α : Nat → Nat → Int} {κ : Nat → Option Nat} {ρ : Nat} {x2 : Int} (hI : qI σ α κ ρ) (r2 : (-2147483648) ≤ x2 ∧ x2 ≤ 2147483647) (p0 : 0 ≤ σ 86 56 ∧ σ 86 56 ≤ 360) (p1 : σ 86 57 = 3) : qm_T (qe L xs vb) (d + 3) 259 [.ref 86, .int (qz 0), .int (qz x2)] (qw σ α κ ρ) (fun r w' => ∃ σ' α', w' = qw σ' α' κ ρ ∧ qI σ' α' κ ρ ∧ qFr [(86, 56)] [120] σ α σ' α' ∧ ∃ v : Int, r = some (.int (qz v)) ∧ ((-2147483648) ≤ v ∧ v ≤ 2147483647) ∧ σ' 86 56 = σ 86 56 + 2) := by
  refine qr_start (d := d + 2) qv_e259 (Nat.le_of_ble_eq_true rfl) ?_
  show qr_W (qe L xs vb) (d + 2) qx_e259 _ (0, [(0, .ref 86), (1, .int (qz 0)), (2, .int (qz x2))], [], _, 0, 0)
  have hF0 := qFr_rf [(86, 56)] [120] σ α
  have hz86_56 : (-2147483648) ≤ σ 86 56 ∧ σ 86 56 ≤ 2147483647 := hI.1 86 56
  have hz86_57 : (-2147483648) ≤ σ 86 57 ∧ σ 86 57 ≤ 2147483647 := hI.1 86 57
  have hz86_6 : 0 ≤ σ 86 6 ∧ σ 86 6 ≤ 32 := hI.1 86 6
  refine qr_iload_n 1 rfl rfl rfl ?_
  refine qr_iconst 2 rfl rfl ?_
  refine qr_icmp_ne 19 5 rfl rfl rfl (by decide) (by decide) (fun h1 => ?_) (fun h => False.elim (by omega))
  refine qr_iload_n 20 rfl rfl rfl ?_
  refine qr_bipush 22 rfl (by decide) rfl ?_
  refine qr_icmp_ne 40 25 rfl rfl rfl (by decide) (by decide) (fun h2 => ?_) (fun h => False.elim (by omega))
  refine qr_aload_n 41 rfl rfl rfl ?_
  refine qr_bipush 43 rfl (by decide) rfl ?_
  have hs3 : (-2147483648) ≤ σ 86 56 ∧ σ 86 56 ≤ 2147483647 := hI.1 86 56
  refine qr_callN 46 rfl rfl rfl (sf_257_86 (d := d + 1) hI (by decide) (by omega)) ?_
  rintro _ _ ⟨σ5, α6, rfl, hI7, hG8, hw4, rfl⟩
  have hF9 : qFr [(86, 56)] [120] σ α σ5 α6 := qFr_t hF0 hG8 (by decide) (by decide)
  have hs10 : (-2147483648) ≤ σ5 86 56 ∧ σ5 86 56 ≤ 2147483647 := hI7.1 86 56
  show qr_W (qe L xs vb) (d + 2) qx_e259 _ (46, _, [], qw σ5 α6 κ ρ, 0, 0)
  refine qr_aload_n 47 rfl rfl rfl ?_
  refine qr_aload_n 48 rfl rfl rfl ?_
  refine qr_get 51 rfl rfl rfl (by decide) rfl ?_
  refine qy_v (σ 86 57) ((hG8.1 86 57 (by decide)).trans rfl) ?_
  refine qr_iload_n 52 rfl rfl rfl ?_
  have hc11 : (σ 86 57) = 3 := by omega
  rw [hc11]
  have hs12 : (-2147483648) ≤ σ5 86 56 ∧ σ5 86 56 ≤ 2147483647 := hI7.1 86 56
  have hs13 : (-2147483648) ≤ σ5 86 57 ∧ σ5 86 57 ≤ 2147483647 := hI7.1 86 57
  have hs14 : σ5 86 57 = (σ 86 57) := (hG8.1 86 57 (by decide)).trans rfl
  refine qr_callN 55 rfl rfl rfl (sf_256_86k3_3 (d := d + 0) hI7 r2 (by omega) (by omega)) ?_
  have hs17 : (-2147483648) ≤ σ5 86 56 ∧ σ5 86 56 ≤ 2147483647 := hI7.1 86 56
  rintro _ _ ⟨σ18, α19, rfl, hI20, hG21, v15, rfl, hv15, hp16⟩
  have hF22 : qFr [(86, 56)] [120] σ α σ18 α19 := qFr_t hF9 hG21 (by decide) (by decide)
  have hs23 : (-2147483648) ≤ σ18 86 56 ∧ σ18 86 56 ≤ 2147483647 := hI20.1 86 56
  show qr_W (qe L xs vb) (d + 2) qx_e259 _ (55, _, [.int (qz v15)], qw σ18 α19 κ ρ, 0, 0)
  refine qr_iconst 56 rfl rfl ?_
  refine qr_imul 57 rfl rfl ?_
  refine qy_can (fun v24 hv24 => ?_)
  refine qr_retI rfl rfl (by decide) (by decide) ?_
  have hw25 : σ18 86 56 = (σ18 86 56) := rfl
  exact ⟨_, _, rfl, hI20, hF22, v24, rfl, hv24, by omega⟩

set_option maxHeartbeats 4000000 in
set_option maxRecDepth 20000 in
/-- OneRoofModel.coversAs -/
theorem sf_259_86k3_3 {L : Nat} {xs : Nat → Int} {vb : Bool} {d : Nat} {σ α : Nat → Nat → Int} {κ : Nat → Option Nat} {ρ : Nat} {x2 : Int} (hI : qI σ α κ ρ) (r2 : (-2147483648) ≤ x2 ∧ x2 ≤ 2147483647) (p0 : 0 ≤ σ 86 56 ∧ σ 86 56 ≤ 340) (p1 : σ 86 57 = 3) : qm_T (qe L xs vb) (d + 4) 259 [.ref 86, .int (qz 3), .int (qz x2)] (qw σ α κ ρ) (fun r w' => ∃ σ' α', w' = qw σ' α' κ ρ ∧ qI σ' α' κ ρ ∧ qFr [(86, 56)] [120] σ α σ' α' ∧ ∃ v : Int, r = some (.int (qz v)) ∧ ((-2147483648) ≤ v ∧ v ≤ 2147483647) ∧ σ' 86 56 = σ 86 56 + 3) := by
  refine qr_start (d := d + 3) qv_e259 (Nat.le_of_ble_eq_true rfl) ?_
  show qr_W (qe L xs vb) (d + 3) qx_e259 _ (0, [(0, .ref 86), (1, .int (qz 3)), (2, .int (qz x2))], [], _, 0, 0)
  have hF0 := qFr_rf [(86, 56)] [120] σ α
  have hz86_56 : (-2147483648) ≤ σ 86 56 ∧ σ 86 56 ≤ 2147483647 := hI.1 86 56
  have hz86_57 : (-2147483648) ≤ σ 86 57 ∧ σ 86 57 ≤ 2147483647 := hI.1 86 57
  have hz86_6 : 0 ≤ σ 86 6 ∧ σ 86 6 ≤ 32 := hI.1 86 6
  refine qr_iload_n 1 rfl rfl rfl ?_
  refine qr_iconst 2 rfl rfl ?_
  refine qr_icmp_ne 19 5 rfl rfl rfl (by decide) (by decide) (fun h => False.elim (by omega)) (fun h1 => ?_)
  refine qr_aload_n 6 rfl rfl rfl ?_
  refine qr_bipush 8 rfl (by decide) rfl ?_
  have hs2 : (-2147483648) ≤ σ 86 56 ∧ σ 86 56 ≤ 2147483647 := hI.1 86 56
  refine qr_callN 11 rfl rfl rfl (sf_257_86 (d := d + 2) hI (by decide) (by omega)) ?_
  rintro _ _ ⟨σ4, α5, rfl, hI6, hG7, hw3, rfl⟩
  have hF8 : qFr [(86, 56)] [120] σ α σ4 α5 := qFr_t hF0 hG7 (by decide) (by decide)
  have hs9 : (-2147483648) ≤ σ4 86 56 ∧ σ4 86 56 ≤ 2147483647 := hI6.1 86 56
  show qr_W (qe L xs vb) (d + 3) qx_e259 _ (11, _, [], qw σ4 α5 κ ρ, 0, 0)
  refine qr_aload_n 12 rfl rfl rfl ?_
  refine qr_iconst 13 rfl rfl ?_
  refine qr_iload_n 14 rfl rfl rfl ?_
  have hs10 : (-2147483648) ≤ σ4 86 56 ∧ σ4 86 56 ≤ 2147483647 := hI6.1 86 56
  have hs11 : (-2147483648) ≤ σ4 86 57 ∧ σ4 86 57 ≤ 2147483647 := hI6.1 86 57
  have hs12 : σ4 86 57 = (σ 86 57) := (hG7.1 86 57 (by decide)).trans rfl
  refine qr_callN 17 rfl rfl rfl (sf_259_86k0_3 (d := d + 0) hI6 r2 (by omega) (by omega)) ?_
  have hs15 : (-2147483648) ≤ σ4 86 56 ∧ σ4 86 56 ≤ 2147483647 := hI6.1 86 56
  rintro _ _ ⟨σ16, α17, rfl, hI18, hG19, v13, rfl, hv13, hp14⟩
  have hF20 : qFr [(86, 56)] [120] σ α σ16 α17 := qFr_t hF8 hG19 (by decide) (by decide)
  have hs21 : (-2147483648) ≤ σ16 86 56 ∧ σ16 86 56 ≤ 2147483647 := hI18.1 86 56
  show qr_W (qe L xs vb) (d + 3) qx_e259 _ (17, _, [.int (qz v13)], qw σ16 α17 κ ρ, 0, 0)
  refine qr_ineg 18 rfl rfl ?_
  refine qy_can (fun v22 hv22 => ?_)
  refine qr_retI rfl rfl (by decide) (by decide) ?_
  have hw23 : σ16 86 56 = (σ16 86 56) := rfl
  exact ⟨_, _, rfl, hI18, hF20, v22, rfl, hv22, by omega⟩

set_option maxHeartbeats 4000000 in
set_option maxRecDepth 20000 in
/-- OneRoofModel.coversAs -/
theorem sf_259_86k4_4 {L : Nat} {xs : Nat → Int} {vb : Bool} {d : Nat} {σ α : Nat → Nat → Int} {κ : Nat → Option Nat} {ρ : Nat} {x2 : Int} (hI : qI σ α κ ρ) (r2 : (-2147483648) ≤ x2 ∧ x2 ≤ 2147483647) (p0 : 0 ≤ σ 86 56 ∧ σ 86 56 ≤ 360) (p1 : σ 86 57 = 4) : qm_T (qe L xs vb) (d + 3) 259 [.ref 86, .int (qz 4), .int (qz x2)] (qw σ α κ ρ) (fun r w' => ∃ σ' α', w' = qw σ' α' κ ρ ∧ qI σ' α' κ ρ ∧ qFr [(86, 56)] [120] σ α σ' α' ∧ ∃ v : Int, r = some (.int (qz v)) ∧ ((-2147483648) ≤ v ∧ v ≤ 2147483647) ∧ σ' 86 56 = σ 86 56 + 2) := by
  refine qr_start (d := d + 2) qv_e259 (Nat.le_of_ble_eq_true rfl) ?_
  show qr_W (qe L xs vb) (d + 2) qx_e259 _ (0, [(0, .ref 86), (1, .int (qz 4)), (2, .int (qz x2))], [], _, 0, 0)
  have hF0 := qFr_rf [(86, 56)] [120] σ α
  have hz86_56 : (-2147483648) ≤ σ 86 56 ∧ σ 86 56 ≤ 2147483647 := hI.1 86 56
  have hz86_57 : (-2147483648) ≤ σ 86 57 ∧ σ 86 57 ≤ 2147483647 := hI.1 86 57
  have hz86_6 : 0 ≤ σ 86 6 ∧ σ 86 6 ≤ 32 := hI.1 86 6
  refine qr_iload_n 1 rfl rfl rfl ?_
  refine qr_iconst 2 rfl rfl ?_
  refine qr_icmp_ne 19 5 rfl rfl rfl (by decide) (by decide) (fun h1 => ?_) (fun h => False.elim (by omega))
  refine qr_iload_n 20 rfl rfl rfl ?_
  refine qr_bipush 22 rfl (by decide) rfl ?_
  refine qr_icmp_ne 40 25 rfl rfl rfl (by decide) (by decide) (fun h2 => ?_) (fun h => False.elim (by omega))
  refine qr_aload_n 41 rfl rfl rfl ?_
  refine qr_bipush 43 rfl (by decide) rfl ?_
  have hs3 : (-2147483648) ≤ σ 86 56 ∧ σ 86 56 ≤ 2147483647 := hI.1 86 56
  refine qr_callN 46 rfl rfl rfl (sf_257_86 (d := d + 1) hI (by decide) (by omega)) ?_
  rintro _ _ ⟨σ5, α6, rfl, hI7, hG8, hw4, rfl⟩
  have hF9 : qFr [(86, 56)] [120] σ α σ5 α6 := qFr_t hF0 hG8 (by decide) (by decide)
  have hs10 : (-2147483648) ≤ σ5 86 56 ∧ σ5 86 56 ≤ 2147483647 := hI7.1 86 56
  show qr_W (qe L xs vb) (d + 2) qx_e259 _ (46, _, [], qw σ5 α6 κ ρ, 0, 0)
  refine qr_aload_n 47 rfl rfl rfl ?_
  refine qr_aload_n 48 rfl rfl rfl ?_
  refine qr_get 51 rfl rfl rfl (by decide) rfl ?_
  refine qy_v (σ 86 57) ((hG8.1 86 57 (by decide)).trans rfl) ?_
  refine qr_iload_n 52 rfl rfl rfl ?_
  have hc11 : (σ 86 57) = 4 := by omega
  rw [hc11]
  have hs12 : (-2147483648) ≤ σ5 86 56 ∧ σ5 86 56 ≤ 2147483647 := hI7.1 86 56
  have hs13 : (-2147483648) ≤ σ5 86 57 ∧ σ5 86 57 ≤ 2147483647 := hI7.1 86 57
  have hs14 : σ5 86 57 = (σ 86 57) := (hG8.1 86 57 (by decide)).trans rfl
  refine qr_callN 55 rfl rfl rfl (sf_256_86k4_4 (d := d + 0) hI7 r2 (by omega) (by omega)) ?_
  have hs17 : (-2147483648) ≤ σ5 86 56 ∧ σ5 86 56 ≤ 2147483647 := hI7.1 86 56
  rintro _ _ ⟨σ18, α19, rfl, hI20, hG21, v15, rfl, hv15, hp16⟩
  have hF22 : qFr [(86, 56)] [120] σ α σ18 α19 := qFr_t hF9 hG21 (by decide) (by decide)
  have hs23 : (-2147483648) ≤ σ18 86 56 ∧ σ18 86 56 ≤ 2147483647 := hI20.1 86 56
  show qr_W (qe L xs vb) (d + 2) qx_e259 _ (55, _, [.int (qz v15)], qw σ18 α19 κ ρ, 0, 0)
  refine qr_iconst 56 rfl rfl ?_
  refine qr_imul 57 rfl rfl ?_
  refine qy_can (fun v24 hv24 => ?_)
  refine qr_retI rfl rfl (by decide) (by decide) ?_
  have hw25 : σ18 86 56 = (σ18 86 56) := rfl
  exact ⟨_, _, rfl, hI20, hF22, v24, rfl, hv24, by omega⟩

set_option maxHeartbeats 4000000 in
set_option maxRecDepth 20000 in
/-- OneRoofModel.coversAs -/
theorem sf_259_86k5_5 {L : Nat} {xs : Nat → Int} {vb : Bool} {d : Nat} {σ α : Nat → Nat → Int} {κ : Nat → Option Nat} {ρ : Nat} {x2 : Int} (hI : qI σ α κ ρ) (r2 : (-2147483648) ≤ x2 ∧ x2 ≤ 2147483647) (p0 : 0 ≤ σ 86 56 ∧ σ 86 56 ≤ 340) (p1 : σ 86 57 = 5) : qm_T (qe L xs vb) (d + 4) 259 [.ref 86, .int (qz 5), .int (qz x2)] (qw σ α κ ρ) (fun r w' => ∃ σ' α', w' = qw σ' α' κ ρ ∧ qI σ' α' κ ρ ∧ qFr [(86, 56)] [120] σ α σ' α' ∧ ∃ v : Int, r = some (.int (qz v)) ∧ ((-2147483648) ≤ v ∧ v ≤ 2147483647) ∧ σ' 86 56 = σ 86 56 + 4) := by
  refine qr_start (d := d + 3) qv_e259 (Nat.le_of_ble_eq_true rfl) ?_
  show qr_W (qe L xs vb) (d + 3) qx_e259 _ (0, [(0, .ref 86), (1, .int (qz 5)), (2, .int (qz x2))], [], _, 0, 0)
  have hF0 := qFr_rf [(86, 56)] [120] σ α
  have hz86_56 : (-2147483648) ≤ σ 86 56 ∧ σ 86 56 ≤ 2147483647 := hI.1 86 56
  have hz86_57 : (-2147483648) ≤ σ 86 57 ∧ σ 86 57 ≤ 2147483647 := hI.1 86 57
  have hz86_6 : 0 ≤ σ 86 6 ∧ σ 86 6 ≤ 32 := hI.1 86 6
  refine qr_iload_n 1 rfl rfl rfl ?_
  refine qr_iconst 2 rfl rfl ?_
  refine qr_icmp_ne 19 5 rfl rfl rfl (by decide) (by decide) (fun h1 => ?_) (fun h => False.elim (by omega))
  refine qr_iload_n 20 rfl rfl rfl ?_
  refine qr_bipush 22 rfl (by decide) rfl ?_
  refine qr_icmp_ne 40 25 rfl rfl rfl (by decide) (by decide) (fun h2 => ?_) (fun h => False.elim (by omega))
  refine qr_aload_n 41 rfl rfl rfl ?_
  refine qr_bipush 43 rfl (by decide) rfl ?_
  have hs3 : (-2147483648) ≤ σ 86 56 ∧ σ 86 56 ≤ 2147483647 := hI.1 86 56
  refine qr_callN 46 rfl rfl rfl (sf_257_86 (d := d + 2) hI (by decide) (by omega)) ?_
  rintro _ _ ⟨σ5, α6, rfl, hI7, hG8, hw4, rfl⟩
  have hF9 : qFr [(86, 56)] [120] σ α σ5 α6 := qFr_t hF0 hG8 (by decide) (by decide)
  have hs10 : (-2147483648) ≤ σ5 86 56 ∧ σ5 86 56 ≤ 2147483647 := hI7.1 86 56
  show qr_W (qe L xs vb) (d + 3) qx_e259 _ (46, _, [], qw σ5 α6 κ ρ, 0, 0)
  refine qr_aload_n 47 rfl rfl rfl ?_
  refine qr_aload_n 48 rfl rfl rfl ?_
  refine qr_get 51 rfl rfl rfl (by decide) rfl ?_
  refine qy_v (σ 86 57) ((hG8.1 86 57 (by decide)).trans rfl) ?_
  refine qr_iload_n 52 rfl rfl rfl ?_
  have hc11 : (σ 86 57) = 5 := by omega
  rw [hc11]
  have hs12 : (-2147483648) ≤ σ5 86 56 ∧ σ5 86 56 ≤ 2147483647 := hI7.1 86 56
  have hs13 : (-2147483648) ≤ σ5 86 57 ∧ σ5 86 57 ≤ 2147483647 := hI7.1 86 57
  have hs14 : σ5 86 57 = (σ 86 57) := (hG8.1 86 57 (by decide)).trans rfl
  refine qr_callN 55 rfl rfl rfl (sf_256_86k5_5 (d := d + 0) hI7 r2 (by omega) (by omega)) ?_
  have hs17 : (-2147483648) ≤ σ5 86 56 ∧ σ5 86 56 ≤ 2147483647 := hI7.1 86 56
  rintro _ _ ⟨σ18, α19, rfl, hI20, hG21, v15, rfl, hv15, hp16⟩
  have hF22 : qFr [(86, 56)] [120] σ α σ18 α19 := qFr_t hF9 hG21 (by decide) (by decide)
  have hs23 : (-2147483648) ≤ σ18 86 56 ∧ σ18 86 56 ≤ 2147483647 := hI20.1 86 56
  show qr_W (qe L xs vb) (d + 3) qx_e259 _ (55, _, [.int (qz v15)], qw σ18 α19 κ ρ, 0, 0)
  refine qr_iconst 56 rfl rfl ?_
  refine qr_imul 57 rfl rfl ?_
  refine qy_can (fun v24 hv24 => ?_)
  refine qr_retI rfl rfl (by decide) (by decide) ?_
  have hw25 : σ18 86 56 = (σ18 86 56) := rfl
  exact ⟨_, _, rfl, hI20, hF22, v24, rfl, hv24, by omega⟩

set_option maxHeartbeats 4000000 in
set_option maxRecDepth 20000 in
/-- OneRoofModel.coversAs -/
theorem sf_259_86k0_6 {L : Nat} {xs : Nat → Int} {vb : Bool} {d : Nat} {σ α : Nat → Nat → Int} {κ : Nat → Option Nat} {ρ : Nat} {x2 : Int} (hI : qI σ α κ ρ) (r2 : (-2147483648) ≤ x2 ∧ x2 ≤ 2147483647) (p0 : 0 ≤ σ 86 56 ∧ σ 86 56 ≤ 360) (p1 : σ 86 57 = 6) : qm_T (qe L xs vb) (d + 3) 259 [.ref 86, .int (qz 0), .int (qz x2)] (qw σ α κ ρ) (fun r w' => ∃ σ' α', w' = qw σ' α' κ ρ ∧ qI σ' α' κ ρ ∧ qFr [(86, 56)] [120] σ α σ' α' ∧ ∃ v : Int, r = some (.int (qz v)) ∧ ((-2147483648) ≤ v ∧ v ≤ 2147483647) ∧ σ' 86 56 = σ 86 56 + 2) := by
  refine qr_start (d := d + 2) qv_e259 (Nat.le_of_ble_eq_true rfl) ?_
  show qr_W (qe L xs vb) (d + 2) qx_e259 _ (0, [(0, .ref 86), (1, .int (qz 0)), (2, .int (qz x2))], [], _, 0, 0)
  have hF0 := qFr_rf [(86, 56)] [120] σ α
  have hz86_56 : (-2147483648) ≤ σ 86 56 ∧ σ 86 56 ≤ 2147483647 := hI.1 86 56
  have hz86_57 : (-2147483648) ≤ σ 86 57 ∧ σ 86 57 ≤ 2147483647 := hI.1 86 57
  have hz86_6 : 0 ≤ σ 86 6 ∧ σ 86 6 ≤ 32 := hI.1 86 6
  refine qr_iload_n 1 rfl rfl rfl ?_
  refine qr_iconst 2 rfl rfl ?_
  refine qr_icmp_ne 19 5 rfl rfl rfl (by decide) (by decide) (fun h1 => ?_) (fun h => False.elim (by omega))
  refine qr_iload_n 20 rfl rfl rfl ?_
  refine qr_bipush 22 rfl (by decide) rfl ?_
  refine qr_icmp_ne 40 25 rfl rfl rfl (by decide) (by decide) (fun h2 => ?_) (fun h => False.elim (by omega))
  refine qr_aload_n 41 rfl rfl rfl ?_
  refine qr_bipush 43 rfl (by decide) rfl ?_
  have hs3 : (-2147483648) ≤ σ 86 56 ∧ σ 86 56 ≤ 2147483647 := hI.1 86 56
  refine qr_callN 46 rfl rfl rfl (sf_257_86 (d := d + 1) hI (by decide) (by omega)) ?_
  rintro _ _ ⟨σ5, α6, rfl, hI7, hG8, hw4, rfl⟩
  have hF9 : qFr [(86, 56)] [120] σ α σ5 α6 := qFr_t hF0 hG8 (by decide) (by decide)
  have hs10 : (-2147483648) ≤ σ5 86 56 ∧ σ5 86 56 ≤ 2147483647 := hI7.1 86 56
  show qr_W (qe L xs vb) (d + 2) qx_e259 _ (46, _, [], qw σ5 α6 κ ρ, 0, 0)
  refine qr_aload_n 47 rfl rfl rfl ?_
  refine qr_aload_n 48 rfl rfl rfl ?_
  refine qr_get 51 rfl rfl rfl (by decide) rfl ?_
  refine qy_v (σ 86 57) ((hG8.1 86 57 (by decide)).trans rfl) ?_
  refine qr_iload_n 52 rfl rfl rfl ?_
  have hc11 : (σ 86 57) = 6 := by omega
  rw [hc11]
  have hs12 : (-2147483648) ≤ σ5 86 56 ∧ σ5 86 56 ≤ 2147483647 := hI7.1 86 56
  have hs13 : (-2147483648) ≤ σ5 86 57 ∧ σ5 86 57 ≤ 2147483647 := hI7.1 86 57
  have hs14 : σ5 86 57 = (σ 86 57) := (hG8.1 86 57 (by decide)).trans rfl
  refine qr_callN 55 rfl rfl rfl (sf_256_86k6_6 (d := d + 0) hI7 r2 (by omega) (by omega)) ?_
  have hs17 : (-2147483648) ≤ σ5 86 56 ∧ σ5 86 56 ≤ 2147483647 := hI7.1 86 56
  rintro _ _ ⟨σ18, α19, rfl, hI20, hG21, v15, rfl, hv15, hp16⟩
  have hF22 : qFr [(86, 56)] [120] σ α σ18 α19 := qFr_t hF9 hG21 (by decide) (by decide)
  have hs23 : (-2147483648) ≤ σ18 86 56 ∧ σ18 86 56 ≤ 2147483647 := hI20.1 86 56
  show qr_W (qe L xs vb) (d + 2) qx_e259 _ (55, _, [.int (qz v15)], qw σ18 α19 κ ρ, 0, 0)
  refine qr_iconst 56 rfl rfl ?_
  refine qr_imul 57 rfl rfl ?_
  refine qy_can (fun v24 hv24 => ?_)
  refine qr_retI rfl rfl (by decide) (by decide) ?_
  have hw25 : σ18 86 56 = (σ18 86 56) := rfl
  exact ⟨_, _, rfl, hI20, hF22, v24, rfl, hv24, by omega⟩

set_option maxHeartbeats 4000000 in
set_option maxRecDepth 20000 in
/-- OneRoofModel.coversAs -/
theorem sf_259_86k6_6 {L : Nat} {xs : Nat → Int} {vb : Bool} {d : Nat} {σ α : Nat → Nat → Int} {κ : Nat → Option Nat} {ρ : Nat} {x2 : Int} (hI : qI σ α κ ρ) (r2 : (-2147483648) ≤ x2 ∧ x2 ≤ 2147483647) (p0 : 0 ≤ σ 86 56 ∧ σ 86 56 ≤ 340) (p1 : σ 86 57 = 6) : qm_T (qe L xs vb) (d + 4) 259 [.ref 86, .int (qz 6), .int (qz x2)] (qw σ α κ ρ) (fun r w' => ∃ σ' α', w' = qw σ' α' κ ρ ∧ qI σ' α' κ ρ ∧ qFr [(86, 56)] [120] σ α σ' α' ∧ ∃ v : Int, r = some (.int (qz v)) ∧ ((-2147483648) ≤ v ∧ v ≤ 2147483647) ∧ σ' 86 56 = σ 86 56 + 3) := by
  refine qr_start (d := d + 3) qv_e259 (Nat.le_of_ble_eq_true rfl) ?_
  show qr_W (qe L xs vb) (d + 3) qx_e259 _ (0, [(0, .ref 86), (1, .int (qz 6)), (2, .int (qz x2))], [], _, 0, 0)
  have hF0 := qFr_rf [(86, 56)] [120] σ α
  have hz86_56 : (-2147483648) ≤ σ 86 56 ∧ σ 86 56 ≤ 2147483647 := hI.1 86 56
  have hz86_57 : (-2147483648) ≤ σ 86 57 ∧ σ 86 57 ≤ 2147483647 := hI.1 86 57
  have hz86_6 : 0 ≤ σ 86 6 ∧ σ 86 6 ≤ 32 := hI.1 86 6
  refine qr_iload_n 1 rfl rfl rfl ?_
  refine qr_iconst 2 rfl rfl ?_
  refine qr_icmp_ne 19 5 rfl rfl rfl (by decide) (by decide) (fun h1 => ?_) (fun h => False.elim (by omega))
  refine qr_iload_n 20 rfl rfl rfl ?_
  refine qr_bipush 22 rfl (by decide) rfl ?_
  refine qr_icmp_ne 40 25 rfl rfl rfl (by decide) (by decide) (fun h => False.elim (by omega)) (fun h2 => ?_)
  refine qr_aload_n 26 rfl rfl rfl ?_
  refine qr_bipush 28 rfl (by decide) rfl ?_
  have hs3 : (-2147483648) ≤ σ 86 56 ∧ σ 86 56 ≤ 2147483647 := hI.1 86 56
  refine qr_callN 31 rfl rfl rfl (sf_257_86 (d := d + 2) hI (by decide) (by omega)) ?_
  rintro _ _ ⟨σ5, α6, rfl, hI7, hG8, hw4, rfl⟩
  have hF9 : qFr [(86, 56)] [120] σ α σ5 α6 := qFr_t hF0 hG8 (by decide) (by decide)
  have hs10 : (-2147483648) ≤ σ5 86 56 ∧ σ5 86 56 ≤ 2147483647 := hI7.1 86 56
  show qr_W (qe L xs vb) (d + 3) qx_e259 _ (31, _, [], qw σ5 α6 κ ρ, 0, 0)
  refine qr_aload_n 32 rfl rfl rfl ?_
  refine qr_iconst 33 rfl rfl ?_
  refine qr_iload_n 34 rfl rfl rfl ?_
  have hs11 : (-2147483648) ≤ σ5 86 56 ∧ σ5 86 56 ≤ 2147483647 := hI7.1 86 56
  have hs12 : (-2147483648) ≤ σ5 86 57 ∧ σ5 86 57 ≤ 2147483647 := hI7.1 86 57
  have hs13 : σ5 86 57 = (σ 86 57) := (hG8.1 86 57 (by decide)).trans rfl
  refine qr_callN 37 rfl rfl rfl (sf_259_86k0_6 (d := d + 0) hI7 r2 (by omega) (by omega)) ?_
  have hs16 : (-2147483648) ≤ σ5 86 56 ∧ σ5 86 56 ≤ 2147483647 := hI7.1 86 56
  rintro _ _ ⟨σ17, α18, rfl, hI19, hG20, v14, rfl, hv14, hp15⟩
  have hF21 : qFr [(86, 56)] [120] σ α σ17 α18 := qFr_t hF9 hG20 (by decide) (by decide)
  have hs22 : (-2147483648) ≤ σ17 86 56 ∧ σ17 86 56 ≤ 2147483647 := hI19.1 86 56
  show qr_W (qe L xs vb) (d + 3) qx_e259 _ (37, _, [.int (qz v14)], qw σ17 α18 κ ρ, 0, 0)
  refine qr_iconst 38 rfl rfl ?_
  refine qr_imul 39 rfl rfl ?_
  refine qy_can (fun v23 hv23 => ?_)
  refine qr_retI rfl rfl (by decide) (by decide) ?_
  have hw24 : σ17 86 56 = (σ17 86 56) := rfl
  exact ⟨_, _, rfl, hI19, hF21, v23, rfl, hv23, by omega⟩

set_option maxHeartbeats 4000000 in
set_option maxRecDepth 20000 in
/-- OneRoofModel.coversAs -/
theorem sf_259_86kp_p {L : Nat} {xs : Nat → Int} {vb : Bool} {d : Nat} {σ α : Nat → Nat → Int} {κ : Nat → Option Nat} {ρ : Nat} {x1 : Int} {x2 : Int} (hI : qI σ α κ ρ) (r1 : 7 ≤ x1 ∧ x1 ≤ 2147483647) (r2 : (-2147483648) ≤ x2 ∧ x2 ≤ 2147483647) (p0 : 0 ≤ σ 86 56 ∧ σ 86 56 ≤ 360) (p1 : 6 < σ 86 57) : qm_T (qe L xs vb) (d + 3) 259 [.ref 86, .int (qz x1), .int (qz x2)] (qw σ α κ ρ) (fun r w' => ∃ σ' α', w' = qw σ' α' κ ρ ∧ qI σ' α' κ ρ ∧ qFr [(86, 56)] [120] σ α σ' α' ∧ ∃ v : Int, r = some (.int (qz v)) ∧ ((-2147483648) ≤ v ∧ v ≤ 2147483647) ∧ σ' 86 56 = σ 86 56 + 2) := by
  refine qr_start (d := d + 2) qv_e259 (Nat.le_of_ble_eq_true rfl) ?_
  show qr_W (qe L xs vb) (d + 2) qx_e259 _ (0, [(0, .ref 86), (1, .int (qz x1)), (2, .int (qz x2))], [], _, 0, 0)
  have hF0 := qFr_rf [(86, 56)] [120] σ α
  have hz86_56 : (-2147483648) ≤ σ 86 56 ∧ σ 86 56 ≤ 2147483647 := hI.1 86 56
  have hz86_57 : (-2147483648) ≤ σ 86 57 ∧ σ 86 57 ≤ 2147483647 := hI.1 86 57
  have hz86_6 : 0 ≤ σ 86 6 ∧ σ 86 6 ≤ 32 := hI.1 86 6
  refine qr_iload_n 1 rfl rfl rfl ?_
  refine qr_iconst 2 rfl rfl ?_
  refine qr_icmp_ne 19 5 rfl rfl rfl (qrg r1 (by decide) (by decide)) (by decide) (fun h1 => ?_) (fun h => False.elim (by omega))
  refine qr_iload_n 20 rfl rfl rfl ?_
  refine qr_bipush 22 rfl (by decide) rfl ?_
  refine qr_icmp_ne 40 25 rfl rfl rfl (qrg r1 (by decide) (by decide)) (by decide) (fun h2 => ?_) (fun h => False.elim (by omega))
  refine qr_aload_n 41 rfl rfl rfl ?_
  refine qr_bipush 43 rfl (by decide) rfl ?_
  have hs3 : (-2147483648) ≤ σ 86 56 ∧ σ 86 56 ≤ 2147483647 := hI.1 86 56
  refine qr_callN 46 rfl rfl rfl (sf_257_86 (d := d + 1) hI (by decide) (by omega)) ?_
  rintro _ _ ⟨σ5, α6, rfl, hI7, hG8, hw4, rfl⟩
  have hF9 : qFr [(86, 56)] [120] σ α σ5 α6 := qFr_t hF0 hG8 (by decide) (by decide)
  have hs10 : (-2147483648) ≤ σ5 86 56 ∧ σ5 86 56 ≤ 2147483647 := hI7.1 86 56
  show qr_W (qe L xs vb) (d + 2) qx_e259 _ (46, _, [], qw σ5 α6 κ ρ, 0, 0)
  refine qr_aload_n 47 rfl rfl rfl ?_
  refine qr_aload_n 48 rfl rfl rfl ?_
  refine qr_get 51 rfl rfl rfl (by decide) rfl ?_
  refine qy_v (σ 86 57) ((hG8.1 86 57 (by decide)).trans rfl) ?_
  refine qr_iload_n 52 rfl rfl rfl ?_
  have hs11 : (-2147483648) ≤ σ5 86 56 ∧ σ5 86 56 ≤ 2147483647 := hI7.1 86 56
  have hs12 : (-2147483648) ≤ σ5 86 57 ∧ σ5 86 57 ≤ 2147483647 := hI7.1 86 57
  have hs13 : σ5 86 57 = (σ 86 57) := (hG8.1 86 57 (by decide)).trans rfl
  refine qr_callN 55 rfl rfl rfl (sf_256_86kp_p (d := d + 0) hI7 (by omega) r2 (by omega) (by omega)) ?_
  have hs16 : (-2147483648) ≤ σ5 86 56 ∧ σ5 86 56 ≤ 2147483647 := hI7.1 86 56
  rintro _ _ ⟨σ17, α18, rfl, hI19, hG20, v14, rfl, hv14, hp15⟩
  have hF21 : qFr [(86, 56)] [120] σ α σ17 α18 := qFr_t hF9 hG20 (by decide) (by decide)
  have hs22 : (-2147483648) ≤ σ17 86 56 ∧ σ17 86 56 ≤ 2147483647 := hI19.1 86 56
  show qr_W (qe L xs vb) (d + 2) qx_e259 _ (55, _, [.int (qz v14)], qw σ17 α18 κ ρ, 0, 0)
  refine qr_iconst 56 rfl rfl ?_
  refine qr_imul 57 rfl rfl ?_
  refine qy_can (fun v23 hv23 => ?_)
  refine qr_retI rfl rfl (by decide) (by decide) ?_
  have hw24 : σ17 86 56 = (σ17 86 56) := rfl
  exact ⟨_, _, rfl, hI19, hF21, v23, rfl, hv23, by omega⟩

set_option maxHeartbeats 4000000 in
set_option maxRecDepth 20000 in
/-- OneRoofModel.coversAs -/
theorem sf_259_86any {L : Nat} {xs : Nat → Int} {vb : Bool} {d : Nat} {σ α : Nat → Nat → Int} {κ : Nat → Option Nat} {ρ : Nat} {x1 : Int} {x2 : Int} (hI : qI σ α κ ρ) (r1 : (-2147483648) ≤ x1 ∧ x1 ≤ 2147483647) (r2 : (-2147483648) ≤ x2 ∧ x2 ≤ 2147483647) (p0 : σ 86 56 = 0) (p1 : x1 = σ 86 57) : qm_T (qe L xs vb) (d + 5) 259 [.ref 86, .int (qz x1), .int (qz x2)] (qw σ α κ ρ) (fun r w' => ∃ σ' α', w' = qw σ' α' κ ρ ∧ qI σ' α' κ ρ ∧ qFr [(86, 56)] [120] σ α σ' α' ∧ ∃ v : Int, r = some (.int (qz v)) ∧ ((-2147483648) ≤ v ∧ v ≤ 2147483647)) := by
  have h1 : x1 < 0 ∨ x1 = 0 ∨ x1 = 1 ∨ x1 = 2 ∨ x1 = 3 ∨ x1 = 4 ∨ x1 = 5 ∨ x1 = 6 ∨ 6 < x1 := by omega
  rcases h1 with h1 | h1 | h1 | h1 | h1 | h1 | h1 | h1 | h1
  · skip
    refine qr_mono (sf_259_86km_m (d := d + 2) hI (by omega) (by omega) (by omega) (by omega)) ?_
    rintro r w2 ⟨σ2, α2, h2, h3, h4, v, h5, h6, h7⟩
    exact ⟨σ2, α2, h2, h3, h4, v, h5, h6⟩
  · rw [h1]
    refine qr_mono (sf_259_86k0_0 (d := d + 2) hI (by omega) (by omega) (by omega)) ?_
    rintro r w2 ⟨σ2, α2, h2, h3, h4, v, h5, h6, h7⟩
    exact ⟨σ2, α2, h2, h3, h4, v, h5, h6⟩
  · rw [h1]
    refine qr_mono (sf_259_86k1_1 (d := d + 1) hI (by omega) (by omega) (by omega)) ?_
    rintro r w2 ⟨σ2, α2, h2, h3, h4, v, h5, h6, h7⟩
    exact ⟨σ2, α2, h2, h3, h4, v, h5, h6⟩
  · rw [h1]
    refine qr_mono (sf_259_86k2_2 (d := d + 0) hI (by omega) (by omega) (by omega)) ?_
    rintro r w2 ⟨σ2, α2, h2, h3, h4, v, h5, h6, h7⟩
    exact ⟨σ2, α2, h2, h3, h4, v, h5, h6⟩
  · rw [h1]
    refine qr_mono (sf_259_86k3_3 (d := d + 1) hI (by omega) (by omega) (by omega)) ?_
    rintro r w2 ⟨σ2, α2, h2, h3, h4, v, h5, h6, h7⟩
    exact ⟨σ2, α2, h2, h3, h4, v, h5, h6⟩
  · rw [h1]
    refine qr_mono (sf_259_86k4_4 (d := d + 2) hI (by omega) (by omega) (by omega)) ?_
    rintro r w2 ⟨σ2, α2, h2, h3, h4, v, h5, h6, h7⟩
    exact ⟨σ2, α2, h2, h3, h4, v, h5, h6⟩
  · rw [h1]
    refine qr_mono (sf_259_86k5_5 (d := d + 1) hI (by omega) (by omega) (by omega)) ?_
    rintro r w2 ⟨σ2, α2, h2, h3, h4, v, h5, h6, h7⟩
    exact ⟨σ2, α2, h2, h3, h4, v, h5, h6⟩
  · rw [h1]
    refine qr_mono (sf_259_86k6_6 (d := d + 1) hI (by omega) (by omega) (by omega)) ?_
    rintro r w2 ⟨σ2, α2, h2, h3, h4, v, h5, h6, h7⟩
    exact ⟨σ2, α2, h2, h3, h4, v, h5, h6⟩
  · skip
    refine qr_mono (sf_259_86kp_p (d := d + 2) hI (by omega) (by omega) (by omega) (by omega)) ?_
    rintro r w2 ⟨σ2, α2, h2, h3, h4, v, h5, h6, h7⟩
    exact ⟨σ2, α2, h2, h3, h4, v, h5, h6⟩

set_option maxHeartbeats 4000000 in
set_option maxRecDepth 20000 in
/-- OneRoofModel.endsAs -/
theorem sf_258_86km_m {L : Nat} {xs : Nat → Int} {vb : Bool} {d : Nat} {σ α : Nat → Nat → Int} {κ : Nat → Option Nat} {ρ : Nat} {x1 : Int} {x2 : Int} (hI : qI σ α κ ρ) (r1 : (-2147483648) ≤ x1 ∧ x1 ≤ (-1)) (r2 : (-2147483648) ≤ x2 ∧ x2 ≤ 2147483647) (p0 : 0 ≤ σ 86 56 ∧ σ 86 56 ≤ 380) (p1 : σ 86 57 < 0) : qm_T (qe L xs vb) (d + 2) 258 [.ref 86, .int (qz x1), .int (qz x2)] (qw σ α κ ρ) (fun r w' => ∃ σ' α', w' = qw σ' α' κ ρ ∧ qI σ' α' κ ρ ∧ qFr [(86, 56)] [120] σ α σ' α' ∧ ∃ v : Int, r = some (.int (qz v)) ∧ ((-2147483648) ≤ v ∧ v ≤ 2147483647) ∧ σ' 86 56 = σ 86 56 + 1) := by
  refine qr_start (d := d + 1) qv_e258 (Nat.le_of_ble_eq_true rfl) ?_
  show qr_W (qe L xs vb) (d + 1) qx_e258 _ (0, [(0, .ref 86), (1, .int (qz x1)), (2, .int (qz x2))], [], _, 0, 0)
  have hF0 := qFr_rf [(86, 56)] [120] σ α
  have hz86_56 : (-2147483648) ≤ σ 86 56 ∧ σ 86 56 ≤ 2147483647 := hI.1 86 56
  have hz86_57 : (-2147483648) ≤ σ 86 57 ∧ σ 86 57 ≤ 2147483647 := hI.1 86 57
  have hz86_6 : 0 ≤ σ 86 6 ∧ σ 86 6 ≤ 32 := hI.1 86 6
  refine qr_iload_n 1 rfl rfl rfl ?_
  refine qr_iconst 2 rfl rfl ?_
  refine qr_icmp_ne 20 5 rfl rfl rfl (qrg r1 (by decide) (by decide)) (by decide) (fun h1 => ?_) (fun h => False.elim (by omega))
  refine qr_iload_n 21 rfl rfl rfl ?_
  refine qr_bipush 23 rfl (by decide) rfl ?_
  refine qr_icmp_ne 51 26 rfl rfl rfl (qrg r1 (by decide) (by decide)) (by decide) (fun h2 => ?_) (fun h => False.elim (by omega))
  refine qr_aload_n 52 rfl rfl rfl ?_
  refine qr_bipush 54 rfl (by decide) rfl ?_
  have hs3 : (-2147483648) ≤ σ 86 56 ∧ σ 86 56 ≤ 2147483647 := hI.1 86 56
  refine qr_callN 57 rfl rfl rfl (sf_257_86 (d := d + 0) hI (by decide) (by omega)) ?_
  rintro _ _ ⟨σ5, α6, rfl, hI7, hG8, hw4, rfl⟩
  have hF9 : qFr [(86, 56)] [120] σ α σ5 α6 := qFr_t hF0 hG8 (by decide) (by decide)
  have hs10 : (-2147483648) ≤ σ5 86 56 ∧ σ5 86 56 ≤ 2147483647 := hI7.1 86 56
  show qr_W (qe L xs vb) (d + 1) qx_e258 _ (57, _, [], qw σ5 α6 κ ρ, 0, 0)
  refine qr_iload_n 58 rfl rfl rfl ?_
  refine qr_aload_n 59 rfl rfl rfl ?_
  refine qr_get 62 rfl rfl rfl (by decide) rfl ?_
  have hs11 : (-2147483648) ≤ σ5 86 58 ∧ σ5 86 58 ≤ 2147483647 := hI7.1 86 58
  refine qr_ixor 63 rfl rfl ?_
  refine qy_can (fun v12 hv12 => ?_)
  refine qr_retI rfl rfl (by decide) (by decide) ?_
  have hw13 : σ5 86 56 = (σ5 86 56) := rfl
  exact ⟨_, _, rfl, hI7, hF9, v12, rfl, hv12, by omega⟩

set_option maxHeartbeats 4000000 in
set_option maxRecDepth 20000 in
/-- OneRoofModel.endsAs -/
theorem sf_258_86k0_0 {L : Nat} {xs : Nat → Int} {vb : Bool} {d : Nat} {σ α : Nat → Nat → Int} {κ : Nat → Option Nat} {ρ : Nat} {x2 : Int} (hI : qI σ α κ ρ) (r2 : (-2147483648) ≤ x2 ∧ x2 ≤ 2147483647) (p0 : 0 ≤ σ 86 56 ∧ σ 86 56 ≤ 380) (p1 : σ 86 57 = 0) : qm_T (qe L xs vb) (d + 2) 258 [.ref 86, .int (qz 0), .int (qz x2)] (qw σ α κ ρ) (fun r w' => ∃ σ' α', w' = qw σ' α' κ ρ ∧ qI σ' α' κ ρ ∧ qFr [(86, 56)] [120] σ α σ' α' ∧ ∃ v : Int, r = some (.int (qz v)) ∧ ((-2147483648) ≤ v ∧ v ≤ 2147483647) ∧ σ' 86 56 = σ 86 56 + 1) := by
  refine qr_start (d := d + 1) qv_e258 (Nat.le_of_ble_eq_true rfl) ?_
  show qr_W (qe L xs vb) (d + 1) qx_e258 _ (0, [(0, .ref 86), (1, .int (qz 0)), (2, .int (qz x2))], [], _, 0, 0)
  have hF0 := qFr_rf [(86, 56)] [120] σ α
  have hz86_56 : (-2147483648) ≤ σ 86 56 ∧ σ 86 56 ≤ 2147483647 := hI.1 86 56
  have hz86_57 : (-2147483648) ≤ σ 86 57 ∧ σ 86 57 ≤ 2147483647 := hI.1 86 57
  have hz86_6 : 0 ≤ σ 86 6 ∧ σ 86 6 ≤ 32 := hI.1 86 6
  refine qr_iload_n 1 rfl rfl rfl ?_
  refine qr_iconst 2 rfl rfl ?_
  refine qr_icmp_ne 20 5 rfl rfl rfl (by decide) (by decide) (fun h1 => ?_) (fun h => False.elim (by omega))
  refine qr_iload_n 21 rfl rfl rfl ?_
  refine qr_bipush 23 rfl (by decide) rfl ?_
  refine qr_icmp_ne 51 26 rfl rfl rfl (by decide) (by decide) (fun h2 => ?_) (fun h => False.elim (by omega))
  refine qr_aload_n 52 rfl rfl rfl ?_
  refine qr_bipush 54 rfl (by decide) rfl ?_
  have hs3 : (-2147483648) ≤ σ 86 56 ∧ σ 86 56 ≤ 2147483647 := hI.1 86 56
  refine qr_callN 57 rfl rfl rfl (sf_257_86 (d := d + 0) hI (by decide) (by omega)) ?_
  rintro _ _ ⟨σ5, α6, rfl, hI7, hG8, hw4, rfl⟩
  have hF9 : qFr [(86, 56)] [120] σ α σ5 α6 := qFr_t hF0 hG8 (by decide) (by decide)
  have hs10 : (-2147483648) ≤ σ5 86 56 ∧ σ5 86 56 ≤ 2147483647 := hI7.1 86 56
  show qr_W (qe L xs vb) (d + 1) qx_e258 _ (57, _, [], qw σ5 α6 κ ρ, 0, 0)
  refine qr_iload_n 58 rfl rfl rfl ?_
  refine qr_aload_n 59 rfl rfl rfl ?_
  refine qr_get 62 rfl rfl rfl (by decide) rfl ?_
  have hs11 : (-2147483648) ≤ σ5 86 58 ∧ σ5 86 58 ≤ 2147483647 := hI7.1 86 58
  refine qr_ixor 63 rfl rfl ?_
  refine qy_can (fun v12 hv12 => ?_)
  refine qr_retI rfl rfl (by decide) (by decide) ?_
  have hw13 : σ5 86 56 = (σ5 86 56) := rfl
  exact ⟨_, _, rfl, hI7, hF9, v12, rfl, hv12, by omega⟩

set_option maxHeartbeats 4000000 in
set_option maxRecDepth 20000 in
/-- OneRoofModel.endsAs -/
theorem sf_258_86k1_1 {L : Nat} {xs : Nat → Int} {vb : Bool} {d : Nat} {σ α : Nat → Nat → Int} {κ : Nat → Option Nat} {ρ : Nat} {x2 : Int} (hI : qI σ α κ ρ) (r2 : (-2147483648) ≤ x2 ∧ x2 ≤ 2147483647) (p0 : 0 ≤ σ 86 56 ∧ σ 86 56 ≤ 380) (p1 : σ 86 57 = 1) : qm_T (qe L xs vb) (d + 2) 258 [.ref 86, .int (qz 1), .int (qz x2)] (qw σ α κ ρ) (fun r w' => ∃ σ' α', w' = qw σ' α' κ ρ ∧ qI σ' α' κ ρ ∧ qFr [(86, 56)] [120] σ α σ' α' ∧ ∃ v : Int, r = some (.int (qz v)) ∧ ((-2147483648) ≤ v ∧ v ≤ 2147483647) ∧ σ' 86 56 = σ 86 56 + 1) := by
  refine qr_start (d := d + 1) qv_e258 (Nat.le_of_ble_eq_true rfl) ?_
  show qr_W (qe L xs vb) (d + 1) qx_e258 _ (0, [(0, .ref 86), (1, .int (qz 1)), (2, .int (qz x2))], [], _, 0, 0)
  have hF0 := qFr_rf [(86, 56)] [120] σ α
  have hz86_56 : (-2147483648) ≤ σ 86 56 ∧ σ 86 56 ≤ 2147483647 := hI.1 86 56
  have hz86_57 : (-2147483648) ≤ σ 86 57 ∧ σ 86 57 ≤ 2147483647 := hI.1 86 57
  have hz86_6 : 0 ≤ σ 86 6 ∧ σ 86 6 ≤ 32 := hI.1 86 6
  refine qr_iload_n 1 rfl rfl rfl ?_
  refine qr_iconst 2 rfl rfl ?_
  refine qr_icmp_ne 20 5 rfl rfl rfl (by decide) (by decide) (fun h1 => ?_) (fun h => False.elim (by omega))
  refine qr_iload_n 21 rfl rfl rfl ?_
  refine qr_bipush 23 rfl (by decide) rfl ?_
  refine qr_icmp_ne 51 26 rfl rfl rfl (by decide) (by decide) (fun h2 => ?_) (fun h => False.elim (by omega))
  refine qr_aload_n 52 rfl rfl rfl ?_
  refine qr_bipush 54 rfl (by decide) rfl ?_
  have hs3 : (-2147483648) ≤ σ 86 56 ∧ σ 86 56 ≤ 2147483647 := hI.1 86 56
  refine qr_callN 57 rfl rfl rfl (sf_257_86 (d := d + 0) hI (by decide) (by omega)) ?_
  rintro _ _ ⟨σ5, α6, rfl, hI7, hG8, hw4, rfl⟩
  have hF9 : qFr [(86, 56)] [120] σ α σ5 α6 := qFr_t hF0 hG8 (by decide) (by decide)
  have hs10 : (-2147483648) ≤ σ5 86 56 ∧ σ5 86 56 ≤ 2147483647 := hI7.1 86 56
  show qr_W (qe L xs vb) (d + 1) qx_e258 _ (57, _, [], qw σ5 α6 κ ρ, 0, 0)
  refine qr_iload_n 58 rfl rfl rfl ?_
  refine qr_aload_n 59 rfl rfl rfl ?_
  refine qr_get 62 rfl rfl rfl (by decide) rfl ?_
  have hs11 : (-2147483648) ≤ σ5 86 58 ∧ σ5 86 58 ≤ 2147483647 := hI7.1 86 58
  refine qr_ixor 63 rfl rfl ?_
  refine qy_can (fun v12 hv12 => ?_)
  refine qr_retI rfl rfl (by decide) (by decide) ?_
  have hw13 : σ5 86 56 = (σ5 86 56) := rfl
  exact ⟨_, _, rfl, hI7, hF9, v12, rfl, hv12, by omega⟩

set_option maxHeartbeats 4000000 in
set_option maxRecDepth 20000 in
/-- OneRoofModel.endsAs -/
theorem sf_258_86k1_2 {L : Nat} {xs : Nat → Int} {vb : Bool} {d : Nat} {σ α : Nat → Nat → Int} {κ : Nat → Option Nat} {ρ : Nat} {x2 : Int} (hI : qI σ α κ ρ) (r2 : (-2147483648) ≤ x2 ∧ x2 ≤ 2147483647) (p0 : 0 ≤ σ 86 56 ∧ σ 86 56 ≤ 380) (p1 : σ 86 57 = 2) : qm_T (qe L xs vb) (d + 2) 258 [.ref 86, .int (qz 1), .int (qz x2)] (qw σ α κ ρ) (fun r w' => ∃ σ' α', w' = qw σ' α' κ ρ ∧ qI σ' α' κ ρ ∧ qFr [(86, 56)] [120] σ α σ' α' ∧ ∃ v : Int, r = some (.int (qz v)) ∧ ((-2147483648) ≤ v ∧ v ≤ 2147483647) ∧ σ' 86 56 = σ 86 56 + 1) := by
  refine qr_start (d := d + 1) qv_e258 (Nat.le_of_ble_eq_true rfl) ?_
  show qr_W (qe L xs vb) (d + 1) qx_e258 _ (0, [(0, .ref 86), (1, .int (qz 1)), (2, .int (qz x2))], [], _, 0, 0)
  have hF0 := qFr_rf [(86, 56)] [120] σ α
  have hz86_56 : (-2147483648) ≤ σ 86 56 ∧ σ 86 56 ≤ 2147483647 := hI.1 86 56
  have hz86_57 : (-2147483648) ≤ σ 86 57 ∧ σ 86 57 ≤ 2147483647 := hI.1 86 57
  have hz86_6 : 0 ≤ σ 86 6 ∧ σ 86 6 ≤ 32 := hI.1 86 6
  refine qr_iload_n 1 rfl rfl rfl ?_
  refine qr_iconst 2 rfl rfl ?_
  refine qr_icmp_ne 20 5 rfl rfl rfl (by decide) (by decide) (fun h1 => ?_) (fun h => False.elim (by omega))
  refine qr_iload_n 21 rfl rfl rfl ?_
  refine qr_bipush 23 rfl (by decide) rfl ?_
  refine qr_icmp_ne 51 26 rfl rfl rfl (by decide) (by decide) (fun h2 => ?_) (fun h => False.elim (by omega))
  refine qr_aload_n 52 rfl rfl rfl ?_
  refine qr_bipush 54 rfl (by decide) rfl ?_
  have hs3 : (-2147483648) ≤ σ 86 56 ∧ σ 86 56 ≤ 2147483647 := hI.1 86 56
  refine qr_callN 57 rfl rfl rfl (sf_257_86 (d := d + 0) hI (by decide) (by omega)) ?_
  rintro _ _ ⟨σ5, α6, rfl, hI7, hG8, hw4, rfl⟩
  have hF9 : qFr [(86, 56)] [120] σ α σ5 α6 := qFr_t hF0 hG8 (by decide) (by decide)
  have hs10 : (-2147483648) ≤ σ5 86 56 ∧ σ5 86 56 ≤ 2147483647 := hI7.1 86 56
  show qr_W (qe L xs vb) (d + 1) qx_e258 _ (57, _, [], qw σ5 α6 κ ρ, 0, 0)
  refine qr_iload_n 58 rfl rfl rfl ?_
  refine qr_aload_n 59 rfl rfl rfl ?_
  refine qr_get 62 rfl rfl rfl (by decide) rfl ?_
  have hs11 : (-2147483648) ≤ σ5 86 58 ∧ σ5 86 58 ≤ 2147483647 := hI7.1 86 58
  refine qr_ixor 63 rfl rfl ?_
  refine qy_can (fun v12 hv12 => ?_)
  refine qr_retI rfl rfl (by decide) (by decide) ?_
  have hw13 : σ5 86 56 = (σ5 86 56) := rfl
  exact ⟨_, _, rfl, hI7, hF9, v12, rfl, hv12, by omega⟩

set_option maxHeartbeats 4000000 in
set_option maxRecDepth 20000 in
/-- OneRoofModel.endsAs -/
theorem sf_258_86k2_2 {L : Nat} {xs : Nat → Int} {vb : Bool} {d : Nat} {σ α : Nat → Nat → Int} {κ : Nat → Option Nat} {ρ : Nat} {x2 : Int} (hI : qI σ α κ ρ) (r2 : (-2147483648) ≤ x2 ∧ x2 ≤ 2147483647) (p0 : 0 ≤ σ 86 56 ∧ σ 86 56 ≤ 360) (p1 : σ 86 57 = 2) : qm_T (qe L xs vb) (d + 3) 258 [.ref 86, .int (qz 2), .int (qz x2)] (qw σ α κ ρ) (fun r w' => ∃ σ' α', w' = qw σ' α' κ ρ ∧ qI σ' α' κ ρ ∧ qFr [(86, 56)] [120] σ α σ' α' ∧ ∃ v : Int, r = some (.int (qz v)) ∧ ((-2147483648) ≤ v ∧ v ≤ 2147483647) ∧ σ' 86 56 = σ 86 56 + 2) := by
  refine qr_start (d := d + 2) qv_e258 (Nat.le_of_ble_eq_true rfl) ?_
  show qr_W (qe L xs vb) (d + 2) qx_e258 _ (0, [(0, .ref 86), (1, .int (qz 2)), (2, .int (qz x2))], [], _, 0, 0)
  have hF0 := qFr_rf [(86, 56)] [120] σ α
  have hz86_56 : (-2147483648) ≤ σ 86 56 ∧ σ 86 56 ≤ 2147483647 := hI.1 86 56
  have hz86_57 : (-2147483648) ≤ σ 86 57 ∧ σ 86 57 ≤ 2147483647 := hI.1 86 57
  have hz86_6 : 0 ≤ σ 86 6 ∧ σ 86 6 ≤ 32 := hI.1 86 6
  refine qr_iload_n 1 rfl rfl rfl ?_
  refine qr_iconst 2 rfl rfl ?_
  refine qr_icmp_ne 20 5 rfl rfl rfl (by decide) (by decide) (fun h => False.elim (by omega)) (fun h1 => ?_)
  refine qr_aload_n 6 rfl rfl rfl ?_
  refine qr_bipush 8 rfl (by decide) rfl ?_
  have hs2 : (-2147483648) ≤ σ 86 56 ∧ σ 86 56 ≤ 2147483647 := hI.1 86 56
  refine qr_callN 11 rfl rfl rfl (sf_257_86 (d := d + 1) hI (by decide) (by omega)) ?_
  rintro _ _ ⟨σ4, α5, rfl, hI6, hG7, hw3, rfl⟩
  have hF8 : qFr [(86, 56)] [120] σ α σ4 α5 := qFr_t hF0 hG7 (by decide) (by decide)
  have hs9 : (-2147483648) ≤ σ4 86 56 ∧ σ4 86 56 ≤ 2147483647 := hI6.1 86 56
  show qr_W (qe L xs vb) (d + 2) qx_e258 _ (11, _, [], qw σ4 α5 κ ρ, 0, 0)
  refine qr_aload_n 12 rfl rfl rfl ?_
  refine qr_iconst 13 rfl rfl ?_
  refine qr_iload_n 14 rfl rfl rfl ?_
  have hs10 : (-2147483648) ≤ σ4 86 56 ∧ σ4 86 56 ≤ 2147483647 := hI6.1 86 56
  have hs11 : (-2147483648) ≤ σ4 86 57 ∧ σ4 86 57 ≤ 2147483647 := hI6.1 86 57
  have hs12 : σ4 86 57 = (σ 86 57) := (hG7.1 86 57 (by decide)).trans rfl
  refine qr_callN 17 rfl rfl rfl (sf_258_86k1_2 (d := d + 0) hI6 r2 (by omega) (by omega)) ?_
  have hs15 : (-2147483648) ≤ σ4 86 56 ∧ σ4 86 56 ≤ 2147483647 := hI6.1 86 56
  rintro _ _ ⟨σ16, α17, rfl, hI18, hG19, v13, rfl, hv13, hp14⟩
  have hF20 : qFr [(86, 56)] [120] σ α σ16 α17 := qFr_t hF8 hG19 (by decide) (by decide)
  have hs21 : (-2147483648) ≤ σ16 86 56 ∧ σ16 86 56 ≤ 2147483647 := hI18.1 86 56
  show qr_W (qe L xs vb) (d + 2) qx_e258 _ (17, _, [.int (qz v13)], qw σ16 α17 κ ρ, 0, 0)
  refine qr_iconst 18 rfl rfl ?_
  refine qr_imul 19 rfl rfl ?_
  refine qy_can (fun v22 hv22 => ?_)
  refine qr_retI rfl rfl (by decide) (by decide) ?_
  have hw23 : σ16 86 56 = (σ16 86 56) := rfl
  exact ⟨_, _, rfl, hI18, hF20, v22, rfl, hv22, by omega⟩

set_option maxHeartbeats 4000000 in
set_option maxRecDepth 20000 in
/-- OneRoofModel.endsAs -/
theorem sf_258_86k3_3 {L : Nat} {xs : Nat → Int} {vb : Bool} {d : Nat} {σ α : Nat → Nat → Int} {κ : Nat → Option Nat} {ρ : Nat} {x2 : Int} (hI : qI σ α κ ρ) (r2 : (-2147483648) ≤ x2 ∧ x2 ≤ 2147483647) (p0 : 0 ≤ σ 86 56 ∧ σ 86 56 ≤ 380) (p1 : σ 86 57 = 3) : qm_T (qe L xs vb) (d + 2) 258 [.ref 86, .int (qz 3), .int (qz x2)] (qw σ α κ ρ) (fun r w' => ∃ σ' α', w' = qw σ' α' κ ρ ∧ qI σ' α' κ ρ ∧ qFr [(86, 56)] [120] σ α σ' α' ∧ ∃ v : Int, r = some (.int (qz v)) ∧ ((-2147483648) ≤ v ∧ v ≤ 2147483647) ∧ σ' 86 56 = σ 86 56 + 1) := by
  refine qr_start (d := d + 1) qv_e258 (Nat.le_of_ble_eq_true rfl) ?_
  show qr_W (qe L xs vb) (d + 1) qx_e258 _ (0, [(0, .ref 86), (1, .int (qz 3)), (2, .int (qz x2))], [], _, 0, 0)
  have hF0 := qFr_rf [(86, 56)] [120] σ α
  have hz86_56 : (-2147483648) ≤ σ 86 56 ∧ σ 86 56 ≤ 2147483647 := hI.1 86 56
  have hz86_57 : (-2147483648) ≤ σ 86 57 ∧ σ 86 57 ≤ 2147483647 := hI.1 86 57
  have hz86_6 : 0 ≤ σ 86 6 ∧ σ 86 6 ≤ 32 := hI.1 86 6
  refine qr_iload_n 1 rfl rfl rfl ?_
  refine qr_iconst 2 rfl rfl ?_
  refine qr_icmp_ne 20 5 rfl rfl rfl (by decide) (by decide) (fun h1 => ?_) (fun h => False.elim (by omega))
  refine qr_iload_n 21 rfl rfl rfl ?_
  refine qr_bipush 23 rfl (by decide) rfl ?_
  refine qr_icmp_ne 51 26 rfl rfl rfl (by decide) (by decide) (fun h2 => ?_) (fun h => False.elim (by omega))
  refine qr_aload_n 52 rfl rfl rfl ?_
  refine qr_bipush 54 rfl (by decide) rfl ?_
  have hs3 : (-2147483648) ≤ σ 86 56 ∧ σ 86 56 ≤ 2147483647 := hI.1 86 56
  refine qr_callN 57 rfl rfl rfl (sf_257_86 (d := d + 0) hI (by decide) (by omega)) ?_
  rintro _ _ ⟨σ5, α6, rfl, hI7, hG8, hw4, rfl⟩
  have hF9 : qFr [(86, 56)] [120] σ α σ5 α6 := qFr_t hF0 hG8 (by decide) (by decide)
  have hs10 : (-2147483648) ≤ σ5 86 56 ∧ σ5 86 56 ≤ 2147483647 := hI7.1 86 56
  show qr_W (qe L xs vb) (d + 1) qx_e258 _ (57, _, [], qw σ5 α6 κ ρ, 0, 0)
  refine qr_iload_n 58 rfl rfl rfl ?_
  refine qr_aload_n 59 rfl rfl rfl ?_
  refine qr_get 62 rfl rfl rfl (by decide) rfl ?_
  have hs11 : (-2147483648) ≤ σ5 86 58 ∧ σ5 86 58 ≤ 2147483647 := hI7.1 86 58
  refine qr_ixor 63 rfl rfl ?_
  refine qy_can (fun v12 hv12 => ?_)
  refine qr_retI rfl rfl (by decide) (by decide) ?_
  have hw13 : σ5 86 56 = (σ5 86 56) := rfl
  exact ⟨_, _, rfl, hI7, hF9, v12, rfl, hv12, by omega⟩

set_option maxHeartbeats 4000000 in
set_option maxRecDepth 20000 in
/-- OneRoofModel.endsAs -/
theorem sf_258_86k4_4 {L : Nat} {xs : Nat → Int} {vb : Bool} {d : Nat} {σ α : Nat → Nat → Int} {κ : Nat → Option Nat} {ρ : Nat} {x2 : Int} (hI : qI σ α κ ρ) (r2 : (-2147483648) ≤ x2 ∧ x2 ≤ 2147483647) (p0 : 0 ≤ σ 86 56 ∧ σ 86 56 ≤ 380) (p1 : σ 86 57 = 4) : qm_T (qe L xs vb) (d + 2) 258 [.ref 86, .int (qz 4), .int (qz x2)] (qw σ α κ ρ) (fun r w' => ∃ σ' α', w' = qw σ' α' κ ρ ∧ qI σ' α' κ ρ ∧ qFr [(86, 56)] [120] σ α σ' α' ∧ ∃ v : Int, r = some (.int (qz v)) ∧ ((-2147483648) ≤ v ∧ v ≤ 2147483647) ∧ σ' 86 56 = σ 86 56 + 1) := by
  refine qr_start (d := d + 1) qv_e258 (Nat.le_of_ble_eq_true rfl) ?_
  show qr_W (qe L xs vb) (d + 1) qx_e258 _ (0, [(0, .ref 86), (1, .int (qz 4)), (2, .int (qz x2))], [], _, 0, 0)
  have hF0 := qFr_rf [(86, 56)] [120] σ α
  have hz86_56 : (-2147483648) ≤ σ 86 56 ∧ σ 86 56 ≤ 2147483647 := hI.1 86 56
  have hz86_57 : (-2147483648) ≤ σ 86 57 ∧ σ 86 57 ≤ 2147483647 := hI.1 86 57
  have hz86_6 : 0 ≤ σ 86 6 ∧ σ 86 6 ≤ 32 := hI.1 86 6
  refine qr_iload_n 1 rfl rfl rfl ?_
  refine qr_iconst 2 rfl rfl ?_
  refine qr_icmp_ne 20 5 rfl rfl rfl (by decide) (by decide) (fun h1 => ?_) (fun h => False.elim (by omega))
  refine qr_iload_n 21 rfl rfl rfl ?_
  refine qr_bipush 23 rfl (by decide) rfl ?_
  refine qr_icmp_ne 51 26 rfl rfl rfl (by decide) (by decide) (fun h2 => ?_) (fun h => False.elim (by omega))
  refine qr_aload_n 52 rfl rfl rfl ?_
  refine qr_bipush 54 rfl (by decide) rfl ?_
  have hs3 : (-2147483648) ≤ σ 86 56 ∧ σ 86 56 ≤ 2147483647 := hI.1 86 56
  refine qr_callN 57 rfl rfl rfl (sf_257_86 (d := d + 0) hI (by decide) (by omega)) ?_
  rintro _ _ ⟨σ5, α6, rfl, hI7, hG8, hw4, rfl⟩
  have hF9 : qFr [(86, 56)] [120] σ α σ5 α6 := qFr_t hF0 hG8 (by decide) (by decide)
  have hs10 : (-2147483648) ≤ σ5 86 56 ∧ σ5 86 56 ≤ 2147483647 := hI7.1 86 56
  show qr_W (qe L xs vb) (d + 1) qx_e258 _ (57, _, [], qw σ5 α6 κ ρ, 0, 0)
  refine qr_iload_n 58 rfl rfl rfl ?_
  refine qr_aload_n 59 rfl rfl rfl ?_
  refine qr_get 62 rfl rfl rfl (by decide) rfl ?_
  have hs11 : (-2147483648) ≤ σ5 86 58 ∧ σ5 86 58 ≤ 2147483647 := hI7.1 86 58
  refine qr_ixor 63 rfl rfl ?_
  refine qy_can (fun v12 hv12 => ?_)
  refine qr_retI rfl rfl (by decide) (by decide) ?_
  have hw13 : σ5 86 56 = (σ5 86 56) := rfl
  exact ⟨_, _, rfl, hI7, hF9, v12, rfl, hv12, by omega⟩

set_option maxHeartbeats 4000000 in
set_option maxRecDepth 20000 in
/-- OneRoofModel.endsAs -/
theorem sf_258_86k0_6 {L : Nat} {xs : Nat → Int} {vb : Bool} {d : Nat} {σ α : Nat → Nat → Int} {κ : Nat → Option Nat} {ρ : Nat} {x2 : Int} (hI : qI σ α κ ρ) (r2 : (-2147483648) ≤ x2 ∧ x2 ≤ 2147483647) (p0 : 0 ≤ σ 86 56 ∧ σ 86 56 ≤ 380) (p1 : σ 86 57 = 6) : qm_T (qe L xs vb) (d + 2) 258 [.ref 86, .int (qz 0), .int (qz x2)] (qw σ α κ ρ) (fun r w' => ∃ σ' α', w' = qw σ' α' κ ρ ∧ qI σ' α' κ ρ ∧ qFr [(86, 56)] [120] σ α σ' α' ∧ ∃ v : Int, r = some (.int (qz v)) ∧ ((-2147483648) ≤ v ∧ v ≤ 2147483647) ∧ σ' 86 56 = σ 86 56 + 1) := by
  refine qr_start (d := d + 1) qv_e258 (Nat.le_of_ble_eq_true rfl) ?_
  show qr_W (qe L xs vb) (d + 1) qx_e258 _ (0, [(0, .ref 86), (1, .int (qz 0)), (2, .int (qz x2))], [], _, 0, 0)
  have hF0 := qFr_rf [(86, 56)] [120] σ α
  have hz86_56 : (-2147483648) ≤ σ 86 56 ∧ σ 86 56 ≤ 2147483647 := hI.1 86 56
  have hz86_57 : (-2147483648) ≤ σ 86 57 ∧ σ 86 57 ≤ 2147483647 := hI.1 86 57
  have hz86_6 : 0 ≤ σ 86 6 ∧ σ 86 6 ≤ 32 := hI.1 86 6
  refine qr_iload_n 1 rfl rfl rfl ?_
  refine qr_iconst 2 rfl rfl ?_
  refine qr_icmp_ne 20 5 rfl rfl rfl (by decide) (by decide) (fun h1 => ?_) (fun h => False.elim (by omega))
  refine qr_iload_n 21 rfl rfl rfl ?_
  refine qr_bipush 23 rfl (by decide) rfl ?_
  refine qr_icmp_ne 51 26 rfl rfl rfl (by decide) (by decide) (fun h2 => ?_) (fun h => False.elim (by omega))
  refine qr_aload_n 52 rfl rfl rfl ?_
  refine qr_bipush 54 rfl (by decide) rfl ?_
  have hs3 : (-2147483648) ≤ σ 86 56 ∧ σ 86 56 ≤ 2147483647 := hI.1 86 56
  refine qr_callN 57 rfl rfl rfl (sf_257_86 (d := d + 0) hI (by decide) (by omega)) ?_
  rintro _ _ ⟨σ5, α6, rfl, hI7, hG8, hw4, rfl⟩
  have hF9 : qFr [(86, 56)] [120] σ α σ5 α6 := qFr_t hF0 hG8 (by decide) (by decide)
  have hs10 : (-2147483648) ≤ σ5 86 56 ∧ σ5 86 56 ≤ 2147483647 := hI7.1 86 56
  show qr_W (qe L xs vb) (d + 1) qx_e258 _ (57, _, [], qw σ5 α6 κ ρ, 0, 0)
  refine qr_iload_n 58 rfl rfl rfl ?_
  refine qr_aload_n 59 rfl rfl rfl ?_
  refine qr_get 62 rfl rfl rfl (by decide) rfl ?_
  have hs11 : (-2147483648) ≤ σ5 86 58 ∧ σ5 86 58 ≤ 2147483647 := hI7.1 86 58
  refine qr_ixor 63 rfl rfl ?_
  refine qy_can (fun v12 hv12 => ?_)
  refine qr_retI rfl rfl (by decide) (by decide) ?_
  have hw13 : σ5 86 56 = (σ5 86 56) := rfl
  exact ⟨_, _, rfl, hI7, hF9, v12, rfl, hv12, by omega⟩

set_option maxHeartbeats 4000000 in
set_option maxRecDepth 20000 in
/-- OneRoofModel.endsAs -/
theorem sf_258_86k6_6 {L : Nat} {xs : Nat → Int} {vb : Bool} {d : Nat} {σ α : Nat → Nat → Int} {κ : Nat → Option Nat} {ρ : Nat} {x2 : Int} (hI : qI σ α κ ρ) (r2 : (-2147483648) ≤ x2 ∧ x2 ≤ 2147483647) (p0 : 0 ≤ σ 86 56 ∧ σ 86 56 ≤ 360) (p1 : σ 86 57 = 6) : qm_T (qe L xs vb) (d + 3) 258 [.ref 86, .int (qz 6), .int (qz x2)] (qw σ α κ ρ) (fun r w' => ∃ σ' α', w' = qw σ' α' κ ρ ∧ qI σ' α' κ ρ ∧ qFr [(86, 56)] [120] σ α σ' α' ∧ ∃ v : Int, r = some (.int (qz v)) ∧ ((-2147483648) ≤ v ∧ v ≤ 2147483647) ∧ σ' 86 56 = σ 86 56 + 3) := by
  refine qr_start (d := d + 2) qv_e258 (Nat.le_of_ble_eq_true rfl) ?_
  show qr_W (qe L xs vb) (d + 2) qx_e258 _ (0, [(0, .ref 86), (1, .int (qz 6)), (2, .int (qz x2))], [], _, 0, 0)
  have hF0 := qFr_rf [(86, 56)] [120] σ α
  have hz86_56 : (-2147483648) ≤ σ 86 56 ∧ σ 86 56 ≤ 2147483647 := hI.1 86 56
  have hz86_57 : (-2147483648) ≤ σ 86 57 ∧ σ 86 57 ≤ 2147483647 := hI.1 86 57
  have hz86_6 : 0 ≤ σ 86 6 ∧ σ 86 6 ≤ 32 := hI.1 86 6
  refine qr_iload_n 1 rfl rfl rfl ?_
  refine qr_iconst 2 rfl rfl ?_
  refine qr_icmp_ne 20 5 rfl rfl rfl (by decide) (by decide) (fun h1 => ?_) (fun h => False.elim (by omega))
  refine qr_iload_n 21 rfl rfl rfl ?_
  refine qr_bipush 23 rfl (by decide) rfl ?_
  refine qr_icmp_ne 51 26 rfl rfl rfl (by decide) (by decide) (fun h => False.elim (by omega)) (fun h2 => ?_)
  refine qr_aload_n 27 rfl rfl rfl ?_
  refine qr_bipush 29 rfl (by decide) rfl ?_
  have hs3 : (-2147483648) ≤ σ 86 56 ∧ σ 86 56 ≤ 2147483647 := hI.1 86 56
  refine qr_callN 32 rfl rfl rfl (sf_257_86 (d := d + 1) hI (by decide) (by omega)) ?_
  rintro _ _ ⟨σ5, α6, rfl, hI7, hG8, hw4, rfl⟩
  have hF9 : qFr [(86, 56)] [120] σ α σ5 α6 := qFr_t hF0 hG8 (by decide) (by decide)
  have hs10 : (-2147483648) ≤ σ5 86 56 ∧ σ5 86 56 ≤ 2147483647 := hI7.1 86 56
  show qr_W (qe L xs vb) (d + 2) qx_e258 _ (32, _, [], qw σ5 α6 κ ρ, 0, 0)
  refine qr_aload_n 33 rfl rfl rfl ?_
  refine qr_iconst 34 rfl rfl ?_
  refine qr_iload_n 35 rfl rfl rfl ?_
  have hs11 : (-2147483648) ≤ σ5 86 56 ∧ σ5 86 56 ≤ 2147483647 := hI7.1 86 56
  have hs12 : (-2147483648) ≤ σ5 86 57 ∧ σ5 86 57 ≤ 2147483647 := hI7.1 86 57
  have hs13 : σ5 86 57 = (σ 86 57) := (hG8.1 86 57 (by decide)).trans rfl
  refine qr_callN 38 rfl rfl rfl (sf_258_86k0_6 (d := d + 0) hI7 r2 (by omega) (by omega)) ?_
  have hs16 : (-2147483648) ≤ σ5 86 56 ∧ σ5 86 56 ≤ 2147483647 := hI7.1 86 56
  rintro _ _ ⟨σ17, α18, rfl, hI19, hG20, v14, rfl, hv14, hp15⟩
  have hF21 : qFr [(86, 56)] [120] σ α σ17 α18 := qFr_t hF9 hG20 (by decide) (by decide)
  have hs22 : (-2147483648) ≤ σ17 86 56 ∧ σ17 86 56 ≤ 2147483647 := hI19.1 86 56
  show qr_W (qe L xs vb) (d + 2) qx_e258 _ (38, _, [.int (qz v14)], qw σ17 α18 κ ρ, 0, 0)
  refine qr_istore_n _ 39 rfl (by decide) rfl rfl ?_
  refine qr_iload_n 40 rfl rfl rfl ?_
  refine qr_aload_n 41 rfl rfl rfl ?_
  refine qr_aload_n 42 rfl rfl rfl ?_
  refine qr_get 45 rfl rfl rfl (by decide) rfl ?_
  refine qy_v (σ 86 57) ((hG20.1 86 57 (by decide)).trans ((hG8.1 86 57 (by decide)).trans rfl)) ?_
  refine qr_iconst 46 rfl rfl ?_
  have hc23 : (σ 86 57) = 6 := by omega
  rw [hc23]
  have hs24 : (-2147483648) ≤ σ17 86 56 ∧ σ17 86 56 ≤ 2147483647 := hI19.1 86 56
  have hs25 : (-2147483648) ≤ σ17 86 57 ∧ σ17 86 57 ≤ 2147483647 := hI19.1 86 57
  have hs26 : σ17 86 57 = (σ 86 57) := (hG20.1 86 57 (by decide)).trans ((hG8.1 86 57 (by decide)).trans rfl)
  refine qr_callN 49 rfl rfl rfl (sf_256_86k6_6 (d := d + 0) hI19 (by decide) (by omega) (by omega)) ?_
  have hs29 : (-2147483648) ≤ σ17 86 56 ∧ σ17 86 56 ≤ 2147483647 := hI19.1 86 56
  rintro _ _ ⟨σ30, α31, rfl, hI32, hG33, v27, rfl, hv27, hp28⟩
  have hF34 : qFr [(86, 56)] [120] σ α σ30 α31 := qFr_t hF21 hG33 (by decide) (by decide)
  have hs35 : (-2147483648) ≤ σ30 86 56 ∧ σ30 86 56 ≤ 2147483647 := hI32.1 86 56
  show qr_W (qe L xs vb) (d + 2) qx_e258 _ (49, _, [.int (qz v27), .int (qz v14)], qw σ30 α31 κ ρ, 0, 0)
  refine qr_iadd 50 rfl rfl ?_
  refine qy_can (fun v36 hv36 => ?_)
  refine qr_retI rfl rfl (by decide) (by decide) ?_
  have hw37 : σ30 86 56 = (σ30 86 56) := rfl
  exact ⟨_, _, rfl, hI32, hF34, v36, rfl, hv36, by omega⟩

set_option maxHeartbeats 4000000 in
set_option maxRecDepth 20000 in
/-- OneRoofModel.endsAs -/
theorem sf_258_86kp_p {L : Nat} {xs : Nat → Int} {vb : Bool} {d : Nat} {σ α : Nat → Nat → Int} {κ : Nat → Option Nat} {ρ : Nat} {x1 : Int} {x2 : Int} (hI : qI σ α κ ρ) (r1 : 7 ≤ x1 ∧ x1 ≤ 2147483647) (r2 : (-2147483648) ≤ x2 ∧ x2 ≤ 2147483647) (p0 : 0 ≤ σ 86 56 ∧ σ 86 56 ≤ 380) (p1 : 6 < σ 86 57) : qm_T (qe L xs vb) (d + 2) 258 [.ref 86, .int (qz x1), .int (qz x2)] (qw σ α κ ρ) (fun r w' => ∃ σ' α', w' = qw σ' α' κ ρ ∧ qI σ' α' κ ρ ∧ qFr [(86, 56)] [120] σ α σ' α' ∧ ∃ v : Int, r = some (.int (qz v)) ∧ ((-2147483648) ≤ v ∧ v ≤ 2147483647) ∧ σ' 86 56 = σ 86 56 + 1) := by
  refine qr_start (d := d + 1) qv_e258 (Nat.le_of_ble_eq_true rfl) ?_
  show qr_W (qe L xs vb) (d + 1) qx_e258 _ (0, [(0, .ref 86), (1, .int (qz x1)), (2, .int (qz x2))], [], _, 0, 0)
  have hF0 := qFr_rf [(86, 56)] [120] σ α
  have hz86_56 : (-2147483648) ≤ σ 86 56 ∧ σ 86 56 ≤ 2147483647 := hI.1 86 56
  have hz86_57 : (-2147483648) ≤ σ 86 57 ∧ σ 86 57 ≤ 2147483647 := hI.1 86 57
  have hz86_6 : 0 ≤ σ 86 6 ∧ σ 86 6 ≤ 32 := hI.1 86 6
  refine qr_iload_n 1 rfl rfl rfl ?_
  refine qr_iconst 2 rfl rfl ?_
  refine qr_icmp_ne 20 5 rfl rfl rfl (qrg r1 (by decide) (by decide)) (by decide) (fun h1 => ?_) (fun h => False.elim (by omega))
  refine qr_iload_n 21 rfl rfl rfl ?_
  refine qr_bipush 23 rfl (by decide) rfl ?_
  refine qr_icmp_ne 51 26 rfl rfl rfl (qrg r1 (by decide) (by decide)) (by decide) (fun h2 => ?_) (fun h => False.elim (by omega))
  refine qr_aload_n 52 rfl rfl rfl ?_
  refine qr_bipush 54 rfl (by decide) rfl ?_
  have hs3 : (-2147483648) ≤ σ 86 56 ∧ σ 86 56 ≤ 2147483647 := hI.1 86 56
  refine qr_callN 57 rfl rfl rfl (sf_257_86 (d := d + 0) hI (by decide) (by omega)) ?_
  rintro _ _ ⟨σ5, α6, rfl, hI7, hG8, hw4, rfl⟩
  have hF9 : qFr [(86, 56)] [120] σ α σ5 α6 := qFr_t hF0 hG8 (by decide) (by decide)
  have hs10 : (-2147483648) ≤ σ5 86 56 ∧ σ5 86 56 ≤ 2147483647 := hI7.1 86 56
  show qr_W (qe L xs vb) (d + 1) qx_e258 _ (57, _, [], qw σ5 α6 κ ρ, 0, 0)
  refine qr_iload_n 58 rfl rfl rfl ?_
  refine qr_aload_n 59 rfl rfl rfl ?_
  refine qr_get 62 rfl rfl rfl (by decide) rfl ?_
  have hs11 : (-2147483648) ≤ σ5 86 58 ∧ σ5 86 58 ≤ 2147483647 := hI7.1 86 58
  refine qr_ixor 63 rfl rfl ?_
  refine qy_can (fun v12 hv12 => ?_)
  refine qr_retI rfl rfl (by decide) (by decide) ?_
  have hw13 : σ5 86 56 = (σ5 86 56) := rfl
  exact ⟨_, _, rfl, hI7, hF9, v12, rfl, hv12, by omega⟩

set_option maxHeartbeats 4000000 in
set_option maxRecDepth 20000 in
/-- OneRoofModel.endsAs -/
theorem sf_258_86any {L : Nat} {xs : Nat → Int} {vb : Bool} {d : Nat} {σ α : Nat → Nat → Int} {κ : Nat → Option Nat} {ρ : Nat} {x1 : Int} {x2 : Int} (hI : qI σ α κ ρ) (r1 : (-2147483648) ≤ x1 ∧ x1 ≤ 2147483647) (r2 : (-2147483648) ≤ x2 ∧ x2 ≤ 2147483647) (p0 : σ 86 56 = 0) (p1 : x1 = σ 86 57) : qm_T (qe L xs vb) (d + 3) 258 [.ref 86, .int (qz x1), .int (qz x2)] (qw σ α κ ρ) (fun r w' => ∃ σ' α', w' = qw σ' α' κ ρ ∧ qI σ' α' κ ρ ∧ qFr [(86, 56)] [120] σ α σ' α' ∧ ∃ v : Int, r = some (.int (qz v)) ∧ ((-2147483648) ≤ v ∧ v ≤ 2147483647)) := by
  have h1 : x1 < 0 ∨ x1 = 0 ∨ x1 = 1 ∨ x1 = 2 ∨ x1 = 3 ∨ x1 = 4 ∨ x1 = 5 ∨ x1 = 6 ∨ 6 < x1 := by omega
  rcases h1 with h1 | h1 | h1 | h1 | h1 | h1 | h1 | h1 | h1
  · skip
    refine qr_mono (sf_258_86km_m (d := d + 1) hI (by omega) (by omega) (by omega) (by omega)) ?_
    rintro r w2 ⟨σ2, α2, h2, h3, h4, v, h5, h6, h7⟩
    exact ⟨σ2, α2, h2, h3, h4, v, h5, h6⟩
  · rw [h1]
    refine qr_mono (sf_258_86k0_0 (d := d + 1) hI (by omega) (by omega) (by omega)) ?_
    rintro r w2 ⟨σ2, α2, h2, h3, h4, v, h5, h6, h7⟩
    exact ⟨σ2, α2, h2, h3, h4, v, h5, h6⟩
  · rw [h1]
    refine qr_mono (sf_258_86k1_1 (d := d + 1) hI (by omega) (by omega) (by omega)) ?_
    rintro r w2 ⟨σ2, α2, h2, h3, h4, v, h5, h6, h7⟩
    exact ⟨σ2, α2, h2, h3, h4, v, h5, h6⟩
  · rw [h1]
    refine qr_mono (sf_258_86k2_2 (d := d + 0) hI (by omega) (by omega) (by omega)) ?_
    rintro r w2 ⟨σ2, α2, h2, h3, h4, v, h5, h6, h7⟩
    exact ⟨σ2, α2, h2, h3, h4, v, h5, h6⟩
  · rw [h1]
    refine qr_mono (sf_258_86k3_3 (d := d + 1) hI (by omega) (by omega) (by omega)) ?_
    rintro r w2 ⟨σ2, α2, h2, h3, h4, v, h5, h6, h7⟩
    exact ⟨σ2, α2, h2, h3, h4, v, h5, h6⟩
  · rw [h1]
    refine qr_mono (sf_258_86k4_4 (d := d + 1) hI (by omega) (by omega) (by omega)) ?_
    rintro r w2 ⟨σ2, α2, h2, h3, h4, v, h5, h6, h7⟩
    exact ⟨σ2, α2, h2, h3, h4, v, h5, h6⟩
  · rw [h1]
    refine qr_mono (sf_258_86k5_5 (d := d + 1) hI (by omega) (by omega) (by omega)) ?_
    rintro r w2 ⟨σ2, α2, h2, h3, h4, v, h5, h6, h7⟩
    exact ⟨σ2, α2, h2, h3, h4, v, h5, h6⟩
  · rw [h1]
    refine qr_mono (sf_258_86k6_6 (d := d + 0) hI (by omega) (by omega) (by omega)) ?_
    rintro r w2 ⟨σ2, α2, h2, h3, h4, v, h5, h6, h7⟩
    exact ⟨σ2, α2, h2, h3, h4, v, h5, h6⟩
  · skip
    refine qr_mono (sf_258_86kp_p (d := d + 1) hI (by omega) (by omega) (by omega) (by omega)) ?_
    rintro r w2 ⟨σ2, α2, h2, h3, h4, v, h5, h6, h7⟩
    exact ⟨σ2, α2, h2, h3, h4, v, h5, h6⟩

set_option maxHeartbeats 4000000 in
set_option maxRecDepth 20000 in
/-- OneRoofModel.tellsAs -/
theorem sf_260_86km_m {L : Nat} {xs : Nat → Int} {vb : Bool} {d : Nat} {σ α : Nat → Nat → Int} {κ : Nat → Option Nat} {ρ : Nat} {x1 : Int} {x2 : Int} (hI : qI σ α κ ρ) (r1 : (-2147483648) ≤ x1 ∧ x1 ≤ (-1)) (r2 : (-2147483648) ≤ x2 ∧ x2 ≤ 2147483647) (p0 : 0 ≤ σ 86 56 ∧ σ 86 56 ≤ 340) (p1 : σ 86 57 < 0) : qm_T (qe L xs vb) (d + 4) 260 [.ref 86, .int (qz x1), .int (qz x2)] (qw σ α κ ρ) (fun r w' => ∃ σ' α', w' = qw σ' α' κ ρ ∧ qI σ' α' κ ρ ∧ qFr [(86, 56)] [120] σ α σ' α' ∧ ∃ v : Int, r = some (.int (qz v)) ∧ ((-2147483648) ≤ v ∧ v ≤ 2147483647) ∧ σ' 86 56 = σ 86 56 + 4) := by
  refine qr_start (d := d + 3) qv_e260 (Nat.le_of_ble_eq_true rfl) ?_
  show qr_W (qe L xs vb) (d + 3) qx_e260 _ (0, [(0, .ref 86), (1, .int (qz x1)), (2, .int (qz x2))], [], _, 0, 0)
  have hF0 := qFr_rf [(86, 56)] [120] σ α
  have hz86_56 : (-2147483648) ≤ σ 86 56 ∧ σ 86 56 ≤ 2147483647 := hI.1 86 56
  have hz86_57 : (-2147483648) ≤ σ 86 57 ∧ σ 86 57 ≤ 2147483647 := hI.1 86 57
  have hz86_6 : 0 ≤ σ 86 6 ∧ σ 86 6 ≤ 32 := hI.1 86 6
  refine qr_iload_n 1 rfl rfl rfl ?_
  refine qr_iconst 2 rfl rfl ?_
  refine qr_icmp_eq 10 5 rfl rfl rfl (qrg r1 (by decide) (by decide)) (by decide) (fun h => False.elim (by omega)) (fun h1 => ?_)
  refine qr_iload_n 6 rfl rfl rfl ?_
  refine qr_iconst 7 rfl rfl ?_
  refine qr_icmp_ne 25 10 rfl rfl rfl (qrg r1 (by decide) (by decide)) (by decide) (fun h2 => ?_) (fun h => False.elim (by omega))
  refine qr_aload_n 26 rfl rfl rfl ?_
  refine qr_iconst 27 rfl rfl ?_
  have hs3 : (-2147483648) ≤ σ 86 56 ∧ σ 86 56 ≤ 2147483647 := hI.1 86 56
  refine qr_callN 30 rfl rfl rfl (sf_257_86 (d := d + 2) hI (by decide) (by omega)) ?_
  rintro _ _ ⟨σ5, α6, rfl, hI7, hG8, hw4, rfl⟩
  have hF9 : qFr [(86, 56)] [120] σ α σ5 α6 := qFr_t hF0 hG8 (by decide) (by decide)
  have hs10 : (-2147483648) ≤ σ5 86 56 ∧ σ5 86 56 ≤ 2147483647 := hI7.1 86 56
  show qr_W (qe L xs vb) (d + 3) qx_e260 _ (30, _, [], qw σ5 α6 κ ρ, 0, 0)
  refine qr_aload_n 31 rfl rfl rfl ?_
  refine qr_aload_n 32 rfl rfl rfl ?_
  refine qr_get 35 rfl rfl rfl (by decide) rfl ?_
  refine qy_v (σ 86 57) ((hG8.1 86 57 (by decide)).trans rfl) ?_
  refine qr_iload_n 36 rfl rfl rfl ?_
  have hs11 : (-2147483648) ≤ σ5 86 56 ∧ σ5 86 56 ≤ 2147483647 := hI7.1 86 56
  have hs12 : (-2147483648) ≤ σ5 86 57 ∧ σ5 86 57 ≤ 2147483647 := hI7.1 86 57
  have hs13 : σ5 86 57 = (σ 86 57) := (hG8.1 86 57 (by decide)).trans rfl
  refine qr_callN 39 rfl rfl rfl (sf_259_86km_m (d := d + 0) hI7 (by omega) r2 (by omega) (by omega)) ?_
  have hs16 : (-2147483648) ≤ σ5 86 56 ∧ σ5 86 56 ≤ 2147483647 := hI7.1 86 56
  rintro _ _ ⟨σ17, α18, rfl, hI19, hG20, v14, rfl, hv14, hp15⟩
  have hF21 : qFr [(86, 56)] [120] σ α σ17 α18 := qFr_t hF9 hG20 (by decide) (by decide)
  have hs22 : (-2147483648) ≤ σ17 86 56 ∧ σ17 86 56 ≤ 2147483647 := hI19.1 86 56
  show qr_W (qe L xs vb) (d + 3) qx_e260 _ (39, _, [.int (qz v14)], qw σ17 α18 κ ρ, 0, 0)
  refine qr_istore_n _ 40 rfl (by decide) rfl rfl ?_
  refine qr_iload_n 41 rfl rfl rfl ?_
  refine qr_aload_n 42 rfl rfl rfl ?_
  refine qr_aload_n 43 rfl rfl rfl ?_
  refine qr_get 46 rfl rfl rfl (by decide) rfl ?_
  refine qy_v (σ 86 57) ((hG20.1 86 57 (by decide)).trans ((hG8.1 86 57 (by decide)).trans rfl)) ?_
  refine qr_iconst 47 rfl rfl ?_
  have hs23 : (-2147483648) ≤ σ17 86 56 ∧ σ17 86 56 ≤ 2147483647 := hI19.1 86 56
  have hs24 : (-2147483648) ≤ σ17 86 57 ∧ σ17 86 57 ≤ 2147483647 := hI19.1 86 57
  have hs25 : σ17 86 57 = (σ 86 57) := (hG20.1 86 57 (by decide)).trans ((hG8.1 86 57 (by decide)).trans rfl)
  refine qr_callN 50 rfl rfl rfl (sf_258_86km_m (d := d + 1) hI19 (by omega) (by decide) (by omega) (by omega)) ?_
  have hs28 : (-2147483648) ≤ σ17 86 56 ∧ σ17 86 56 ≤ 2147483647 := hI19.1 86 56
  rintro _ _ ⟨σ29, α30, rfl, hI31, hG32, v26, rfl, hv26, hp27⟩
  have hF33 : qFr [(86, 56)] [120] σ α σ29 α30 := qFr_t hF21 hG32 (by decide) (by decide)
  have hs34 : (-2147483648) ≤ σ29 86 56 ∧ σ29 86 56 ≤ 2147483647 := hI31.1 86 56
  show qr_W (qe L xs vb) (d + 3) qx_e260 _ (50, _, [.int (qz v26), .int (qz v14)], qw σ29 α30 κ ρ, 0, 0)
  refine qr_isub 51 rfl rfl ?_
  refine qy_can (fun v35 hv35 => ?_)
  refine qr_retI rfl rfl (by decide) (by decide) ?_
  have hw36 : σ29 86 56 = (σ29 86 56) := rfl
  exact ⟨_, _, rfl, hI31, hF33, v35, rfl, hv35, by omega⟩

set_option maxHeartbeats 4000000 in
set_option maxRecDepth 20000 in
/-- OneRoofModel.tellsAs -/
theorem sf_260_86k0_0 {L : Nat} {xs : Nat → Int} {vb : Bool} {d : Nat} {σ α : Nat → Nat → Int} {κ : Nat → Option Nat} {ρ : Nat} {x2 : Int} (hI : qI σ α κ ρ) (r2 : (-2147483648) ≤ x2 ∧ x2 ≤ 2147483647) (p0 : 0 ≤ σ 86 56 ∧ σ 86 56 ≤ 340) (p1 : σ 86 57 = 0) : qm_T (qe L xs vb) (d + 4) 260 [.ref 86, .int (qz 0), .int (qz x2)] (qw σ α κ ρ) (fun r w' => ∃ σ' α', w' = qw σ' α' κ ρ ∧ qI σ' α' κ ρ ∧ qFr [(86, 56)] [120] σ α σ' α' ∧ ∃ v : Int, r = some (.int (qz v)) ∧ ((-2147483648) ≤ v ∧ v ≤ 2147483647) ∧ σ' 86 56 = σ 86 56 + 4) := by
  refine qr_start (d := d + 3) qv_e260 (Nat.le_of_ble_eq_true rfl) ?_
  show qr_W (qe L xs vb) (d + 3) qx_e260 _ (0, [(0, .ref 86), (1, .int (qz 0)), (2, .int (qz x2))], [], _, 0, 0)
  have hF0 := qFr_rf [(86, 56)] [120] σ α
  have hz86_56 : (-2147483648) ≤ σ 86 56 ∧ σ 86 56 ≤ 2147483647 := hI.1 86 56
  have hz86_57 : (-2147483648) ≤ σ 86 57 ∧ σ 86 57 ≤ 2147483647 := hI.1 86 57
  have hz86_6 : 0 ≤ σ 86 6 ∧ σ 86 6 ≤ 32 := hI.1 86 6
  refine qr_iload_n 1 rfl rfl rfl ?_
  refine qr_iconst 2 rfl rfl ?_
  refine qr_icmp_eq 10 5 rfl rfl rfl (by decide) (by decide) (fun h => False.elim (by omega)) (fun h1 => ?_)
  refine qr_iload_n 6 rfl rfl rfl ?_
  refine qr_iconst 7 rfl rfl ?_
  refine qr_icmp_ne 25 10 rfl rfl rfl (by decide) (by decide) (fun h2 => ?_) (fun h => False.elim (by omega))
  refine qr_aload_n 26 rfl rfl rfl ?_
  refine qr_iconst 27 rfl rfl ?_
  have hs3 : (-2147483648) ≤ σ 86 56 ∧ σ 86 56 ≤ 2147483647 := hI.1 86 56
  refine qr_callN 30 rfl rfl rfl (sf_257_86 (d := d + 2) hI (by decide) (by omega)) ?_
  rintro _ _ ⟨σ5, α6, rfl, hI7, hG8, hw4, rfl⟩
  have hF9 : qFr [(86, 56)] [120] σ α σ5 α6 := qFr_t hF0 hG8 (by decide) (by decide)
  have hs10 : (-2147483648) ≤ σ5 86 56 ∧ σ5 86 56 ≤ 2147483647 := hI7.1 86 56
  show qr_W (qe L xs vb) (d + 3) qx_e260 _ (30, _, [], qw σ5 α6 κ ρ, 0, 0)
  refine qr_aload_n 31 rfl rfl rfl ?_
  refine qr_aload_n 32 rfl rfl rfl ?_
  refine qr_get 35 rfl rfl rfl (by decide) rfl ?_
  refine qy_v (σ 86 57) ((hG8.1 86 57 (by decide)).trans rfl) ?_
  refine qr_iload_n 36 rfl rfl rfl ?_
  have hc11 : (σ 86 57) = 0 := by omega
  rw [hc11]
  have hs12 : (-2147483648) ≤ σ5 86 56 ∧ σ5 86 56 ≤ 2147483647 := hI7.1 86 56
  have hs13 : (-2147483648) ≤ σ5 86 57 ∧ σ5 86 57 ≤ 2147483647 := hI7.1 86 57
  have hs14 : σ5 86 57 = (σ 86 57) := (hG8.1 86 57 (by decide)).trans rfl
  refine qr_callN 39 rfl rfl rfl (sf_259_86k0_0 (d := d + 0) hI7 r2 (by omega) (by omega)) ?_
  have hs17 : (-2147483648) ≤ σ5 86 56 ∧ σ5 86 56 ≤ 2147483647 := hI7.1 86 56
  rintro _ _ ⟨σ18, α19, rfl, hI20, hG21, v15, rfl, hv15, hp16⟩
  have hF22 : qFr [(86, 56)] [120] σ α σ18 α19 := qFr_t hF9 hG21 (by decide) (by decide)
  have hs23 : (-2147483648) ≤ σ18 86 56 ∧ σ18 86 56 ≤ 2147483647 := hI20.1 86 56
  show qr_W (qe L xs vb) (d + 3) qx_e260 _ (39, _, [.int (qz v15)], qw σ18 α19 κ ρ, 0, 0)
  refine qr_istore_n _ 40 rfl (by decide) rfl rfl ?_
  refine qr_iload_n 41 rfl rfl rfl ?_
  refine qr_aload_n 42 rfl rfl rfl ?_
  refine qr_aload_n 43 rfl rfl rfl ?_
  refine qr_get 46 rfl rfl rfl (by decide) rfl ?_
  refine qy_v (σ 86 57) ((hG21.1 86 57 (by decide)).trans ((hG8.1 86 57 (by decide)).trans rfl)) ?_
  refine qr_iconst 47 rfl rfl ?_
  have hc24 : (σ 86 57) = 0 := by omega
  rw [hc24]
  have hs25 : (-2147483648) ≤ σ18 86 56 ∧ σ18 86 56 ≤ 2147483647 := hI20.1 86 56
  have hs26 : (-2147483648) ≤ σ18 86 57 ∧ σ18 86 57 ≤ 2147483647 := hI20.1 86 57
  have hs27 : σ18 86 57 = (σ 86 57) := (hG21.1 86 57 (by decide)).trans ((hG8.1 86 57 (by decide)).trans rfl)
  refine qr_callN 50 rfl rfl rfl (sf_258_86k0_0 (d := d + 1) hI20 (by decide) (by omega) (by omega)) ?_
  have hs30 : (-2147483648) ≤ σ18 86 56 ∧ σ18 86 56 ≤ 2147483647 := hI20.1 86 56
  rintro _ _ ⟨σ31, α32, rfl, hI33, hG34, v28, rfl, hv28, hp29⟩
  have hF35 : qFr [(86, 56)] [120] σ α σ31 α32 := qFr_t hF22 hG34 (by decide) (by decide)
  have hs36 : (-2147483648) ≤ σ31 86 56 ∧ σ31 86 56 ≤ 2147483647 := hI33.1 86 56
  show qr_W (qe L xs vb) (d + 3) qx_e260 _ (50, _, [.int (qz v28), .int (qz v15)], qw σ31 α32 κ ρ, 0, 0)
  refine qr_isub 51 rfl rfl ?_
  refine qy_can (fun v37 hv37 => ?_)
  refine qr_retI rfl rfl (by decide) (by decide) ?_
  have hw38 : σ31 86 56 = (σ31 86 56) := rfl
  exact ⟨_, _, rfl, hI33, hF35, v37, rfl, hv37, by omega⟩

set_option maxHeartbeats 4000000 in
set_option maxRecDepth 20000 in
/-- OneRoofModel.tellsAs -/
theorem sf_260_86k1_1 {L : Nat} {xs : Nat → Int} {vb : Bool} {d : Nat} {σ α : Nat → Nat → Int} {κ : Nat → Option Nat} {ρ : Nat} {x2 : Int} (hI : qI σ α κ ρ) (r2 : (-2147483648) ≤ x2 ∧ x2 ≤ 2147483647) (p0 : 0 ≤ σ 86 56 ∧ σ 86 56 ≤ 320) (p1 : σ 86 57 = 1) : qm_T (qe L xs vb) (d + 5) 260 [.ref 86, .int (qz 1), .int (qz x2)] (qw σ α κ ρ) (fun r w' => ∃ σ' α', w' = qw σ' α' κ ρ ∧ qI σ' α' κ ρ ∧ qFr [(86, 56)] [120] σ α σ' α' ∧ ∃ v : Int, r = some (.int (qz v)) ∧ ((-2147483648) ≤ v ∧ v ≤ 2147483647) ∧ σ' 86 56 = σ 86 56 + 5) := by
  refine qr_start (d := d + 4) qv_e260 (Nat.le_of_ble_eq_true rfl) ?_
  show qr_W (qe L xs vb) (d + 4) qx_e260 _ (0, [(0, .ref 86), (1, .int (qz 1)), (2, .int (qz x2))], [], _, 0, 0)
  have hF0 := qFr_rf [(86, 56)] [120] σ α
  have hz86_56 : (-2147483648) ≤ σ 86 56 ∧ σ 86 56 ≤ 2147483647 := hI.1 86 56
  have hz86_57 : (-2147483648) ≤ σ 86 57 ∧ σ 86 57 ≤ 2147483647 := hI.1 86 57
  have hz86_6 : 0 ≤ σ 86 6 ∧ σ 86 6 ≤ 32 := hI.1 86 6
  refine qr_iload_n 1 rfl rfl rfl ?_
  refine qr_iconst 2 rfl rfl ?_
  refine qr_icmp_eq 10 5 rfl rfl rfl (by decide) (by decide) (fun h => False.elim (by omega)) (fun h1 => ?_)
  refine qr_iload_n 6 rfl rfl rfl ?_
  refine qr_iconst 7 rfl rfl ?_
  refine qr_icmp_ne 25 10 rfl rfl rfl (by decide) (by decide) (fun h2 => ?_) (fun h => False.elim (by omega))
  refine qr_aload_n 26 rfl rfl rfl ?_
  refine qr_iconst 27 rfl rfl ?_
  have hs3 : (-2147483648) ≤ σ 86 56 ∧ σ 86 56 ≤ 2147483647 := hI.1 86 56
  refine qr_callN 30 rfl rfl rfl (sf_257_86 (d := d + 3) hI (by decide) (by omega)) ?_
  rintro _ _ ⟨σ5, α6, rfl, hI7, hG8, hw4, rfl⟩
  have hF9 : qFr [(86, 56)] [120] σ α σ5 α6 := qFr_t hF0 hG8 (by decide) (by decide)
  have hs10 : (-2147483648) ≤ σ5 86 56 ∧ σ5 86 56 ≤ 2147483647 := hI7.1 86 56
  show qr_W (qe L xs vb) (d + 4) qx_e260 _ (30, _, [], qw σ5 α6 κ ρ, 0, 0)
  refine qr_aload_n 31 rfl rfl rfl ?_
  refine qr_aload_n 32 rfl rfl rfl ?_
  refine qr_get 35 rfl rfl rfl (by decide) rfl ?_
  refine qy_v (σ 86 57) ((hG8.1 86 57 (by decide)).trans rfl) ?_
  refine qr_iload_n 36 rfl rfl rfl ?_
  have hc11 : (σ 86 57) = 1 := by omega
  rw [hc11]
  have hs12 : (-2147483648) ≤ σ5 86 56 ∧ σ5 86 56 ≤ 2147483647 := hI7.1 86 56
  have hs13 : (-2147483648) ≤ σ5 86 57 ∧ σ5 86 57 ≤ 2147483647 := hI7.1 86 57
  have hs14 : σ5 86 57 = (σ 86 57) := (hG8.1 86 57 (by decide)).trans rfl
  refine qr_callN 39 rfl rfl rfl (sf_259_86k1_1 (d := d + 0) hI7 r2 (by omega) (by omega)) ?_
  have hs17 : (-2147483648) ≤ σ5 86 56 ∧ σ5 86 56 ≤ 2147483647 := hI7.1 86 56
  rintro _ _ ⟨σ18, α19, rfl, hI20, hG21, v15, rfl, hv15, hp16⟩
  have hF22 : qFr [(86, 56)] [120] σ α σ18 α19 := qFr_t hF9 hG21 (by decide) (by decide)
  have hs23 : (-2147483648) ≤ σ18 86 56 ∧ σ18 86 56 ≤ 2147483647 := hI20.1 86 56
  show qr_W (qe L xs vb) (d + 4) qx_e260 _ (39, _, [.int (qz v15)], qw σ18 α19 κ ρ, 0, 0)
  refine qr_istore_n _ 40 rfl (by decide) rfl rfl ?_
  refine qr_iload_n 41 rfl rfl rfl ?_
  refine qr_aload_n 42 rfl rfl rfl ?_
  refine qr_aload_n 43 rfl rfl rfl ?_
  refine qr_get 46 rfl rfl rfl (by decide) rfl ?_
  refine qy_v (σ 86 57) ((hG21.1 86 57 (by decide)).trans ((hG8.1 86 57 (by decide)).trans rfl)) ?_
  refine qr_iconst 47 rfl rfl ?_
  have hc24 : (σ 86 57) = 1 := by omega
  rw [hc24]
  have hs25 : (-2147483648) ≤ σ18 86 56 ∧ σ18 86 56 ≤ 2147483647 := hI20.1 86 56
  have hs26 : (-2147483648) ≤ σ18 86 57 ∧ σ18 86 57 ≤ 2147483647 := hI20.1 86 57
  have hs27 : σ18 86 57 = (σ 86 57) := (hG21.1 86 57 (by decide)).trans ((hG8.1 86 57 (by decide)).trans rfl)
  refine qr_callN 50 rfl rfl rfl (sf_258_86k1_1 (d := d + 2) hI20 (by decide) (by omega) (by omega)) ?_
  have hs30 : (-2147483648) ≤ σ18 86 56 ∧ σ18 86 56 ≤ 2147483647 := hI20.1 86 56
  rintro _ _ ⟨σ31, α32, rfl, hI33, hG34, v28, rfl, hv28, hp29⟩
  have hF35 : qFr [(86, 56)] [120] σ α σ31 α32 := qFr_t hF22 hG34 (by decide) (by decide)
  have hs36 : (-2147483648) ≤ σ31 86 56 ∧ σ31 86 56 ≤ 2147483647 := hI33.1 86 56
  show qr_W (qe L xs vb) (d + 4) qx_e260 _ (50, _, [.int (qz v28), .int (qz v15)], qw σ31 α32 κ ρ, 0, 0)
  refine qr_isub 51 rfl rfl ?_
  refine qy_can (fun v37 hv37 => ?_)
  refine qr_retI rfl rfl (by decide) (by decide) ?_
  have hw38 : σ31 86 56 = (σ31 86 56) := rfl
  exact ⟨_, _, rfl, hI33, hF35, v37, rfl, hv37, by omega⟩

set_option maxHeartbeats 4000000 in
set_option maxRecDepth 20000 in
/-- OneRoofModel.tellsAs -/
theorem sf_260_86k2_2 {L : Nat} {xs : Nat → Int} {vb : Bool} {d : Nat} {σ α : Nat → Nat → Int} {κ : Nat → Option Nat} {ρ : Nat} {x2 : Int} (hI : qI σ α κ ρ) (r2 : (-2147483648) ≤ x2 ∧ x2 ≤ 2147483647) (p0 : 0 ≤ σ 86 56 ∧ σ 86 56 ≤ 300) (p1 : σ 86 57 = 2) : qm_T (qe L xs vb) (d + 6) 260 [.ref 86, .int (qz 2), .int (qz x2)] (qw σ α κ ρ) (fun r w' => ∃ σ' α', w' = qw σ' α' κ ρ ∧ qI σ' α' κ ρ ∧ qFr [(86, 56)] [120] σ α σ' α' ∧ ∃ v : Int, r = some (.int (qz v)) ∧ ((-2147483648) ≤ v ∧ v ≤ 2147483647) ∧ σ' 86 56 = σ 86 56 + 7) := by
  refine qr_start (d := d + 5) qv_e260 (Nat.le_of_ble_eq_true rfl) ?_
  show qr_W (qe L xs vb) (d + 5) qx_e260 _ (0, [(0, .ref 86), (1, .int (qz 2)), (2, .int (qz x2))], [], _, 0, 0)
  have hF0 := qFr_rf [(86, 56)] [120] σ α
  have hz86_56 : (-2147483648) ≤ σ 86 56 ∧ σ 86 56 ≤ 2147483647 := hI.1 86 56
  have hz86_57 : (-2147483648) ≤ σ 86 57 ∧ σ 86 57 ≤ 2147483647 := hI.1 86 57
  have hz86_6 : 0 ≤ σ 86 6 ∧ σ 86 6 ≤ 32 := hI.1 86 6
  refine qr_iload_n 1 rfl rfl rfl ?_
  refine qr_iconst 2 rfl rfl ?_
  refine qr_icmp_eq 10 5 rfl rfl rfl (by decide) (by decide) (fun h => False.elim (by omega)) (fun h1 => ?_)
  refine qr_iload_n 6 rfl rfl rfl ?_
  refine qr_iconst 7 rfl rfl ?_
  refine qr_icmp_ne 25 10 rfl rfl rfl (by decide) (by decide) (fun h2 => ?_) (fun h => False.elim (by omega))
  refine qr_aload_n 26 rfl rfl rfl ?_
  refine qr_iconst 27 rfl rfl ?_
  have hs3 : (-2147483648) ≤ σ 86 56 ∧ σ 86 56 ≤ 2147483647 := hI.1 86 56
  refine qr_callN 30 rfl rfl rfl (sf_257_86 (d := d + 4) hI (by decide) (by omega)) ?_
  rintro _ _ ⟨σ5, α6, rfl, hI7, hG8, hw4, rfl⟩
  have hF9 : qFr [(86, 56)] [120] σ α σ5 α6 := qFr_t hF0 hG8 (by decide) (by decide)
  have hs10 : (-2147483648) ≤ σ5 86 56 ∧ σ5 86 56 ≤ 2147483647 := hI7.1 86 56
  show qr_W (qe L xs vb) (d + 5) qx_e260 _ (30, _, [], qw σ5 α6 κ ρ, 0, 0)
  refine qr_aload_n 31 rfl rfl rfl ?_
  refine qr_aload_n 32 rfl rfl rfl ?_
  refine qr_get 35 rfl rfl rfl (by decide) rfl ?_
  refine qy_v (σ 86 57) ((hG8.1 86 57 (by decide)).trans rfl) ?_
  refine qr_iload_n 36 rfl rfl rfl ?_
  have hc11 : (σ 86 57) = 2 := by omega
  rw [hc11]
  have hs12 : (-2147483648) ≤ σ5 86 56 ∧ σ5 86 56 ≤ 2147483647 := hI7.1 86 56
  have hs13 : (-2147483648) ≤ σ5 86 57 ∧ σ5 86 57 ≤ 2147483647 := hI7.1 86 57
  have hs14 : σ5 86 57 = (σ 86 57) := (hG8.1 86 57 (by decide)).trans rfl
  refine qr_callN 39 rfl rfl rfl (sf_259_86k2_2 (d := d + 0) hI7 r2 (by omega) (by omega)) ?_
  have hs17 : (-2147483648) ≤ σ5 86 56 ∧ σ5 86 56 ≤ 2147483647 := hI7.1 86 56
  rintro _ _ ⟨σ18, α19, rfl, hI20, hG21, v15, rfl, hv15, hp16⟩
  have hF22 : qFr [(86, 56)] [120] σ α σ18 α19 := qFr_t hF9 hG21 (by decide) (by decide)
  have hs23 : (-2147483648) ≤ σ18 86 56 ∧ σ18 86 56 ≤ 2147483647 := hI20.1 86 56
  show qr_W (qe L xs vb) (d + 5) qx_e260 _ (39, _, [.int (qz v15)], qw σ18 α19 κ ρ, 0, 0)
  refine qr_istore_n _ 40 rfl (by decide) rfl rfl ?_
  refine qr_iload_n 41 rfl rfl rfl ?_
  refine qr_aload_n 42 rfl rfl rfl ?_
  refine qr_aload_n 43 rfl rfl rfl ?_
  refine qr_get 46 rfl rfl rfl (by decide) rfl ?_
  refine qy_v (σ 86 57) ((hG21.1 86 57 (by decide)).trans ((hG8.1 86 57 (by decide)).trans rfl)) ?_
  refine qr_iconst 47 rfl rfl ?_
  have hc24 : (σ 86 57) = 2 := by omega
  rw [hc24]
  have hs25 : (-2147483648) ≤ σ18 86 56 ∧ σ18 86 56 ≤ 2147483647 := hI20.1 86 56
  have hs26 : (-2147483648) ≤ σ18 86 57 ∧ σ18 86 57 ≤ 2147483647 := hI20.1 86 57
  have hs27 : σ18 86 57 = (σ 86 57) := (hG21.1 86 57 (by decide)).trans ((hG8.1 86 57 (by decide)).trans rfl)
  refine qr_callN 50 rfl rfl rfl (sf_258_86k2_2 (d := d + 2) hI20 (by decide) (by omega) (by omega)) ?_
  have hs30 : (-2147483648) ≤ σ18 86 56 ∧ σ18 86 56 ≤ 2147483647 := hI20.1 86 56
  rintro _ _ ⟨σ31, α32, rfl, hI33, hG34, v28, rfl, hv28, hp29⟩
  have hF35 : qFr [(86, 56)] [120] σ α σ31 α32 := qFr_t hF22 hG34 (by decide) (by decide)
  have hs36 : (-2147483648) ≤ σ31 86 56 ∧ σ31 86 56 ≤ 2147483647 := hI33.1 86 56
  show qr_W (qe L xs vb) (d + 5) qx_e260 _ (50, _, [.int (qz v28), .int (qz v15)], qw σ31 α32 κ ρ, 0, 0)
  refine qr_isub 51 rfl rfl ?_
  refine qy_can (fun v37 hv37 => ?_)
  refine qr_retI rfl rfl (by decide) (by decide) ?_
  have hw38 : σ31 86 56 = (σ31 86 56) := rfl
  exact ⟨_, _, rfl, hI33, hF35, v37, rfl, hv37, by omega⟩

set_option maxHeartbeats 4000000 in
set_option maxRecDepth 20000 in
/-- OneRoofModel.tellsAs -/
theorem sf_260_86k3_3 {L : Nat} {xs : Nat → Int} {vb : Bool} {d : Nat} {σ α : Nat → Nat → Int} {κ : Nat → Option Nat} {ρ : Nat} {x2 : Int} (hI : qI σ α κ ρ) (r2 : (-2147483648) ≤ x2 ∧ x2 ≤ 2147483647) (p0 : 0 ≤ σ 86 56 ∧ σ 86 56 ≤ 320) (p1 : σ 86 57 = 3) : qm_T (qe L xs vb) (d + 5) 260 [.ref 86, .int (qz 3), .int (qz x2)] (qw σ α κ ρ) (fun r w' => ∃ σ' α', w' = qw σ' α' κ ρ ∧ qI σ' α' κ ρ ∧ qFr [(86, 56)] [120] σ α σ' α' ∧ ∃ v : Int, r = some (.int (qz v)) ∧ ((-2147483648) ≤ v ∧ v ≤ 2147483647) ∧ σ' 86 56 = σ 86 56 + 5) := by
  refine qr_start (d := d + 4) qv_e260 (Nat.le_of_ble_eq_true rfl) ?_
  show qr_W (qe L xs vb) (d + 4) qx_e260 _ (0, [(0, .ref 86), (1, .int (qz 3)), (2, .int (qz x2))], [], _, 0, 0)
  have hF0 := qFr_rf [(86, 56)] [120] σ α
  have hz86_56 : (-2147483648) ≤ σ 86 56 ∧ σ 86 56 ≤ 2147483647 := hI.1 86 56
  have hz86_57 : (-2147483648) ≤ σ 86 57 ∧ σ 86 57 ≤ 2147483647 := hI.1 86 57
  have hz86_6 : 0 ≤ σ 86 6 ∧ σ 86 6 ≤ 32 := hI.1 86 6
  refine qr_iload_n 1 rfl rfl rfl ?_
  refine qr_iconst 2 rfl rfl ?_
  refine qr_icmp_eq 10 5 rfl rfl rfl (by decide) (by decide) (fun h => False.elim (by omega)) (fun h1 => ?_)
  refine qr_iload_n 6 rfl rfl rfl ?_
  refine qr_iconst 7 rfl rfl ?_
  refine qr_icmp_ne 25 10 rfl rfl rfl (by decide) (by decide) (fun h2 => ?_) (fun h => False.elim (by omega))
  refine qr_aload_n 26 rfl rfl rfl ?_
  refine qr_iconst 27 rfl rfl ?_
  have hs3 : (-2147483648) ≤ σ 86 56 ∧ σ 86 56 ≤ 2147483647 := hI.1 86 56
  refine qr_callN 30 rfl rfl rfl (sf_257_86 (d := d + 3) hI (by decide) (by omega)) ?_
  rintro _ _ ⟨σ5, α6, rfl, hI7, hG8, hw4, rfl⟩
  have hF9 : qFr [(86, 56)] [120] σ α σ5 α6 := qFr_t hF0 hG8 (by decide) (by decide)
  have hs10 : (-2147483648) ≤ σ5 86 56 ∧ σ5 86 56 ≤ 2147483647 := hI7.1 86 56
  show qr_W (qe L xs vb) (d + 4) qx_e260 _ (30, _, [], qw σ5 α6 κ ρ, 0, 0)
  refine qr_aload_n 31 rfl rfl rfl ?_
  refine qr_aload_n 32 rfl rfl rfl ?_
  refine qr_get 35 rfl rfl rfl (by decide) rfl ?_
  refine qy_v (σ 86 57) ((hG8.1 86 57 (by decide)).trans rfl) ?_
  refine qr_iload_n 36 rfl rfl rfl ?_
  have hc11 : (σ 86 57) = 3 := by omega
  rw [hc11]
  have hs12 : (-2147483648) ≤ σ5 86 56 ∧ σ5 86 56 ≤ 2147483647 := hI7.1 86 56
  have hs13 : (-2147483648) ≤ σ5 86 57 ∧ σ5 86 57 ≤ 2147483647 := hI7.1 86 57
  have hs14 : σ5 86 57 = (σ 86 57) := (hG8.1 86 57 (by decide)).trans rfl
  refine qr_callN 39 rfl rfl rfl (sf_259_86k3_3 (d := d + 0) hI7 r2 (by omega) (by omega)) ?_
  have hs17 : (-2147483648) ≤ σ5 86 56 ∧ σ5 86 56 ≤ 2147483647 := hI7.1 86 56
  rintro _ _ ⟨σ18, α19, rfl, hI20, hG21, v15, rfl, hv15, hp16⟩
  have hF22 : qFr [(86, 56)] [120] σ α σ18 α19 := qFr_t hF9 hG21 (by decide) (by decide)
  have hs23 : (-2147483648) ≤ σ18 86 56 ∧ σ18 86 56 ≤ 2147483647 := hI20.1 86 56
  show qr_W (qe L xs vb) (d + 4) qx_e260 _ (39, _, [.int (qz v15)], qw σ18 α19 κ ρ, 0, 0)
  refine qr_istore_n _ 40 rfl (by decide) rfl rfl ?_
  refine qr_iload_n 41 rfl rfl rfl ?_
  refine qr_aload_n 42 rfl rfl rfl ?_
  refine qr_aload_n 43 rfl rfl rfl ?_
  refine qr_get 46 rfl rfl rfl (by decide) rfl ?_
  refine qy_v (σ 86 57) ((hG21.1 86 57 (by decide)).trans ((hG8.1 86 57 (by decide)).trans rfl)) ?_
  refine qr_iconst 47 rfl rfl ?_
  have hc24 : (σ 86 57) = 3 := by omega
  rw [hc24]
  have hs25 : (-2147483648) ≤ σ18 86 56 ∧ σ18 86 56 ≤ 2147483647 := hI20.1 86 56
  have hs26 : (-2147483648) ≤ σ18 86 57 ∧ σ18 86 57 ≤ 2147483647 := hI20.1 86 57
  have hs27 : σ18 86 57 = (σ 86 57) := (hG21.1 86 57 (by decide)).trans ((hG8.1 86 57 (by decide)).trans rfl)
  refine qr_callN 50 rfl rfl rfl (sf_258_86k3_3 (d := d + 2) hI20 (by decide) (by omega) (by omega)) ?_
  have hs30 : (-2147483648) ≤ σ18 86 56 ∧ σ18 86 56 ≤ 2147483647 := hI20.1 86 56
  rintro _ _ ⟨σ31, α32, rfl, hI33, hG34, v28, rfl, hv28, hp29⟩
  have hF35 : qFr [(86, 56)] [120] σ α σ31 α32 := qFr_t hF22 hG34 (by decide) (by decide)
  have hs36 : (-2147483648) ≤ σ31 86 56 ∧ σ31 86 56 ≤ 2147483647 := hI33.1 86 56
  show qr_W (qe L xs vb) (d + 4) qx_e260 _ (50, _, [.int (qz v28), .int (qz v15)], qw σ31 α32 κ ρ, 0, 0)
  refine qr_isub 51 rfl rfl ?_
  refine qy_can (fun v37 hv37 => ?_)
  refine qr_retI rfl rfl (by decide) (by decide) ?_
  have hw38 : σ31 86 56 = (σ31 86 56) := rfl
  exact ⟨_, _, rfl, hI33, hF35, v37, rfl, hv37, by omega⟩

set_option maxHeartbeats 4000000 in
set_option maxRecDepth 20000 in
/-- OneRoofModel.tellsAs -/
theorem sf_260_86k0_4 {L : Nat} {xs : Nat → Int} {vb : Bool} {d : Nat} {σ α : Nat → Nat → Int} {κ : Nat → Option Nat} {ρ : Nat} {x2 : Int} (hI : qI σ α κ ρ) (r2 : (-2147483648) ≤ x2 ∧ x2 ≤ 2147483647) (p0 : 0 ≤ σ 86 56 ∧ σ 86 56 ≤ 340) (p1 : σ 86 57 = 4) : qm_T (qe L xs vb) (d + 4) 260 [.ref 86, .int (qz 0), .int (qz x2)] (qw σ α κ ρ) (fun r w' => ∃ σ' α', w' = qw σ' α' κ ρ ∧ qI σ' α' κ ρ ∧ qFr [(86, 56)] [120] σ α σ' α' ∧ ∃ v : Int, r = some (.int (qz v)) ∧ ((-2147483648) ≤ v ∧ v ≤ 2147483647) ∧ σ' 86 56 = σ 86 56 + 4) := by
  refine qr_start (d := d + 3) qv_e260 (Nat.le_of_ble_eq_true rfl) ?_
  show qr_W (qe L xs vb) (d + 3) qx_e260 _ (0, [(0, .ref 86), (1, .int (qz 0)), (2, .int (qz x2))], [], _, 0, 0)
  have hF0 := qFr_rf [(86, 56)] [120] σ α
  have hz86_56 : (-2147483648) ≤ σ 86 56 ∧ σ 86 56 ≤ 2147483647 := hI.1 86 56
  have hz86_57 : (-2147483648) ≤ σ 86 57 ∧ σ 86 57 ≤ 2147483647 := hI.1 86 57
  have hz86_6 : 0 ≤ σ 86 6 ∧ σ 86 6 ≤ 32 := hI.1 86 6
  refine qr_iload_n 1 rfl rfl rfl ?_
  refine qr_iconst 2 rfl rfl ?_
  refine qr_icmp_eq 10 5 rfl rfl rfl (by decide) (by decide) (fun h => False.elim (by omega)) (fun h1 => ?_)
  refine qr_iload_n 6 rfl rfl rfl ?_
  refine qr_iconst 7 rfl rfl ?_
  refine qr_icmp_ne 25 10 rfl rfl rfl (by decide) (by decide) (fun h2 => ?_) (fun h => False.elim (by omega))
  refine qr_aload_n 26 rfl rfl rfl ?_
  refine qr_iconst 27 rfl rfl ?_
  have hs3 : (-2147483648) ≤ σ 86 56 ∧ σ 86 56 ≤ 2147483647 := hI.1 86 56
  refine qr_callN 30 rfl rfl rfl (sf_257_86 (d := d + 2) hI (by decide) (by omega)) ?_
  rintro _ _ ⟨σ5, α6, rfl, hI7, hG8, hw4, rfl⟩
  have hF9 : qFr [(86, 56)] [120] σ α σ5 α6 := qFr_t hF0 hG8 (by decide) (by decide)
  have hs10 : (-2147483648) ≤ σ5 86 56 ∧ σ5 86 56 ≤ 2147483647 := hI7.1 86 56
  show qr_W (qe L xs vb) (d + 3) qx_e260 _ (30, _, [], qw σ5 α6 κ ρ, 0, 0)
  refine qr_aload_n 31 rfl rfl rfl ?_
  refine qr_aload_n 32 rfl rfl rfl ?_
  refine qr_get 35 rfl rfl rfl (by decide) rfl ?_
  refine qy_v (σ 86 57) ((hG8.1 86 57 (by decide)).trans rfl) ?_
  refine qr_iload_n 36 rfl rfl rfl ?_
  have hc11 : (σ 86 57) = 4 := by omega
  rw [hc11]
  have hs12 : (-2147483648) ≤ σ5 86 56 ∧ σ5 86 56 ≤ 2147483647 := hI7.1 86 56
  have hs13 : (-2147483648) ≤ σ5 86 57 ∧ σ5 86 57 ≤ 2147483647 := hI7.1 86 57
  have hs14 : σ5 86 57 = (σ 86 57) := (hG8.1 86 57 (by decide)).trans rfl
  refine qr_callN 39 rfl rfl rfl (sf_259_86k4_4 (d := d + 0) hI7 r2 (by omega) (by omega)) ?_
  have hs17 : (-2147483648) ≤ σ5 86 56 ∧ σ5 86 56 ≤ 2147483647 := hI7.1 86 56
  rintro _ _ ⟨σ18, α19, rfl, hI20, hG21, v15, rfl, hv15, hp16⟩
  have hF22 : qFr [(86, 56)] [120] σ α σ18 α19 := qFr_t hF9 hG21 (by decide) (by decide)
  have hs23 : (-2147483648) ≤ σ18 86 56 ∧ σ18 86 56 ≤ 2147483647 := hI20.1 86 56
  show qr_W (qe L xs vb) (d + 3) qx_e260 _ (39, _, [.int (qz v15)], qw σ18 α19 κ ρ, 0, 0)
  refine qr_istore_n _ 40 rfl (by decide) rfl rfl ?_
  refine qr_iload_n 41 rfl rfl rfl ?_
  refine qr_aload_n 42 rfl rfl rfl ?_
  refine qr_aload_n 43 rfl rfl rfl ?_
  refine qr_get 46 rfl rfl rfl (by decide) rfl ?_
  refine qy_v (σ 86 57) ((hG21.1 86 57 (by decide)).trans ((hG8.1 86 57 (by decide)).trans rfl)) ?_
  refine qr_iconst 47 rfl rfl ?_
  have hc24 : (σ 86 57) = 4 := by omega
  rw [hc24]
  have hs25 : (-2147483648) ≤ σ18 86 56 ∧ σ18 86 56 ≤ 2147483647 := hI20.1 86 56
  have hs26 : (-2147483648) ≤ σ18 86 57 ∧ σ18 86 57 ≤ 2147483647 := hI20.1 86 57
  have hs27 : σ18 86 57 = (σ 86 57) := (hG21.1 86 57 (by decide)).trans ((hG8.1 86 57 (by decide)).trans rfl)
  refine qr_callN 50 rfl rfl rfl (sf_258_86k4_4 (d := d + 1) hI20 (by decide) (by omega) (by omega)) ?_
  have hs30 : (-2147483648) ≤ σ18 86 56 ∧ σ18 86 56 ≤ 2147483647 := hI20.1 86 56
  rintro _ _ ⟨σ31, α32, rfl, hI33, hG34, v28, rfl, hv28, hp29⟩
  have hF35 : qFr [(86, 56)] [120] σ α σ31 α32 := qFr_t hF22 hG34 (by decide) (by decide)
  have hs36 : (-2147483648) ≤ σ31 86 56 ∧ σ31 86 56 ≤ 2147483647 := hI33.1 86 56
  show qr_W (qe L xs vb) (d + 3) qx_e260 _ (50, _, [.int (qz v28), .int (qz v15)], qw σ31 α32 κ ρ, 0, 0)
  refine qr_isub 51 rfl rfl ?_
  refine qy_can (fun v37 hv37 => ?_)
  refine qr_retI rfl rfl (by decide) (by decide) ?_
  have hw38 : σ31 86 56 = (σ31 86 56) := rfl
  exact ⟨_, _, rfl, hI33, hF35, v37, rfl, hv37, by omega⟩

set_option maxHeartbeats 4000000 in
set_option maxRecDepth 20000 in
/-- OneRoofModel.tellsAs -/
theorem sf_260_86k4_4 {L : Nat} {xs : Nat → Int} {vb : Bool} {d : Nat} {σ α : Nat → Nat → Int} {κ : Nat → Option Nat} {ρ : Nat} {x2 : Int} (hI : qI σ α κ ρ) (r2 : (-2147483648) ≤ x2 ∧ x2 ≤ 2147483647) (p0 : 0 ≤ σ 86 56 ∧ σ 86 56 ≤ 320) (p1 : σ 86 57 = 4) : qm_T (qe L xs vb) (d + 5) 260 [.ref 86, .int (qz 4), .int (qz x2)] (qw σ α κ ρ) (fun r w' => ∃ σ' α', w' = qw σ' α' κ ρ ∧ qI σ' α' κ ρ ∧ qFr [(86, 56)] [120] σ α σ' α' ∧ ∃ v : Int, r = some (.int (qz v)) ∧ ((-2147483648) ≤ v ∧ v ≤ 2147483647) ∧ σ' 86 56 = σ 86 56 + 5) := by
  refine qr_start (d := d + 4) qv_e260 (Nat.le_of_ble_eq_true rfl) ?_
  show qr_W (qe L xs vb) (d + 4) qx_e260 _ (0, [(0, .ref 86), (1, .int (qz 4)), (2, .int (qz x2))], [], _, 0, 0)
  have hF0 := qFr_rf [(86, 56)] [120] σ α
  have hz86_56 : (-2147483648) ≤ σ 86 56 ∧ σ 86 56 ≤ 2147483647 := hI.1 86 56
  have hz86_57 : (-2147483648) ≤ σ 86 57 ∧ σ 86 57 ≤ 2147483647 := hI.1 86 57
  have hz86_6 : 0 ≤ σ 86 6 ∧ σ 86 6 ≤ 32 := hI.1 86 6
  refine qr_iload_n 1 rfl rfl rfl ?_
  refine qr_iconst 2 rfl rfl ?_
  refine qr_icmp_eq 10 5 rfl rfl rfl (by decide) (by decide) (fun h1 => ?_) (fun h => False.elim (by omega))
  refine qr_aload_n 11 rfl rfl rfl ?_
  refine qr_bipush 13 rfl (by decide) rfl ?_
  have hs2 : (-2147483648) ≤ σ 86 56 ∧ σ 86 56 ≤ 2147483647 := hI.1 86 56
  refine qr_callN 16 rfl rfl rfl (sf_257_86 (d := d + 3) hI (by decide) (by omega)) ?_
  rintro _ _ ⟨σ4, α5, rfl, hI6, hG7, hw3, rfl⟩
  have hF8 : qFr [(86, 56)] [120] σ α σ4 α5 := qFr_t hF0 hG7 (by decide) (by decide)
  have hs9 : (-2147483648) ≤ σ4 86 56 ∧ σ4 86 56 ≤ 2147483647 := hI6.1 86 56
  show qr_W (qe L xs vb) (d + 4) qx_e260 _ (16, _, [], qw σ4 α5 κ ρ, 0, 0)
  refine qr_aload_n 17 rfl rfl rfl ?_
  refine qr_iconst 18 rfl rfl ?_
  refine qr_iload_n 19 rfl rfl rfl ?_
  have hs10 : (-2147483648) ≤ σ4 86 56 ∧ σ4 86 56 ≤ 2147483647 := hI6.1 86 56
  have hs11 : (-2147483648) ≤ σ4 86 57 ∧ σ4 86 57 ≤ 2147483647 := hI6.1 86 57
  have hs12 : σ4 86 57 = (σ 86 57) := (hG7.1 86 57 (by decide)).trans rfl
  refine qr_callN 22 rfl rfl rfl (sf_260_86k0_4 (d := d + 0) hI6 r2 (by omega) (by omega)) ?_
  have hs15 : (-2147483648) ≤ σ4 86 56 ∧ σ4 86 56 ≤ 2147483647 := hI6.1 86 56
  rintro _ _ ⟨σ16, α17, rfl, hI18, hG19, v13, rfl, hv13, hp14⟩
  have hF20 : qFr [(86, 56)] [120] σ α σ16 α17 := qFr_t hF8 hG19 (by decide) (by decide)
  have hs21 : (-2147483648) ≤ σ16 86 56 ∧ σ16 86 56 ≤ 2147483647 := hI18.1 86 56
  show qr_W (qe L xs vb) (d + 4) qx_e260 _ (22, _, [.int (qz v13)], qw σ16 α17 κ ρ, 0, 0)
  refine qr_iconst 23 rfl rfl ?_
  refine qr_ixor 24 rfl rfl ?_
  refine qy_can (fun v22 hv22 => ?_)
  refine qr_retI rfl rfl (by decide) (by decide) ?_
  have hw23 : σ16 86 56 = (σ16 86 56) := rfl
  exact ⟨_, _, rfl, hI18, hF20, v22, rfl, hv22, by omega⟩

set_option maxHeartbeats 4000000 in
set_option maxRecDepth 20000 in
/-- OneRoofModel.tellsAs -/
theorem sf_260_86k0_5 {L : Nat} {xs : Nat → Int} {vb : Bool} {d : Nat} {σ α : Nat → Nat → Int} {κ : Nat → Option Nat} {ρ : Nat} {x2 : Int} (hI : qI σ α κ ρ) (r2 : (-2147483648) ≤ x2 ∧ x2 ≤ 2147483647) (p0 : 0 ≤ σ 86 56 ∧ σ 86 56 ≤ 320) (p1 : σ 86 57 = 5) : qm_T (qe L xs vb) (d + 5) 260 [.ref 86, .int (qz 0), .int (qz x2)] (qw σ α κ ρ) (fun r w' => ∃ σ' α', w' = qw σ' α' κ ρ ∧ qI σ' α' κ ρ ∧ qFr [(86, 56)] [120] σ α σ' α' ∧ ∃ v : Int, r = some (.int (qz v)) ∧ ((-2147483648) ≤ v ∧ v ≤ 2147483647) ∧ σ' 86 56 = σ 86 56 + 6) := by
  refine qr_start (d := d + 4) qv_e260 (Nat.le_of_ble_eq_true rfl) ?_
  show qr_W (qe L xs vb) (d + 4) qx_e260 _ (0, [(0, .ref 86), (1, .int (qz 0)), (2, .int (qz x2))], [], _, 0, 0)
  have hF0 := qFr_rf [(86, 56)] [120] σ α
  have hz86_56 : (-2147483648) ≤ σ 86 56 ∧ σ 86 56 ≤ 2147483647 := hI.1 86 56
  have hz86_57 : (-2147483648) ≤ σ 86 57 ∧ σ 86 57 ≤ 2147483647 := hI.1 86 57
  have hz86_6 : 0 ≤ σ 86 6 ∧ σ 86 6 ≤ 32 := hI.1 86 6
  refine qr_iload_n 1 rfl rfl rfl ?_
  refine qr_iconst 2 rfl rfl ?_
  refine qr_icmp_eq 10 5 rfl rfl rfl (by decide) (by decide) (fun h => False.elim (by omega)) (fun h1 => ?_)
  refine qr_iload_n 6 rfl rfl rfl ?_
  refine qr_iconst 7 rfl rfl ?_
  refine qr_icmp_ne 25 10 rfl rfl rfl (by decide) (by decide) (fun h2 => ?_) (fun h => False.elim (by omega))
  refine qr_aload_n 26 rfl rfl rfl ?_
  refine qr_iconst 27 rfl rfl ?_
  have hs3 : (-2147483648) ≤ σ 86 56 ∧ σ 86 56 ≤ 2147483647 := hI.1 86 56
  refine qr_callN 30 rfl rfl rfl (sf_257_86 (d := d + 3) hI (by decide) (by omega)) ?_
  rintro _ _ ⟨σ5, α6, rfl, hI7, hG8, hw4, rfl⟩
  have hF9 : qFr [(86, 56)] [120] σ α σ5 α6 := qFr_t hF0 hG8 (by decide) (by decide)
  have hs10 : (-2147483648) ≤ σ5 86 56 ∧ σ5 86 56 ≤ 2147483647 := hI7.1 86 56
  show qr_W (qe L xs vb) (d + 4) qx_e260 _ (30, _, [], qw σ5 α6 κ ρ, 0, 0)
  refine qr_aload_n 31 rfl rfl rfl ?_
  refine qr_aload_n 32 rfl rfl rfl ?_
  refine qr_get 35 rfl rfl rfl (by decide) rfl ?_
  refine qy_v (σ 86 57) ((hG8.1 86 57 (by decide)).trans rfl) ?_
  refine qr_iload_n 36 rfl rfl rfl ?_
  have hc11 : (σ 86 57) = 5 := by omega
  rw [hc11]
  have hs12 : (-2147483648) ≤ σ5 86 56 ∧ σ5 86 56 ≤ 2147483647 := hI7.1 86 56
  have hs13 : (-2147483648) ≤ σ5 86 57 ∧ σ5 86 57 ≤ 2147483647 := hI7.1 86 57
  have hs14 : σ5 86 57 = (σ 86 57) := (hG8.1 86 57 (by decide)).trans rfl
  refine qr_callN 39 rfl rfl rfl (sf_259_86k5_5 (d := d + 0) hI7 r2 (by omega) (by omega)) ?_
  have hs17 : (-2147483648) ≤ σ5 86 56 ∧ σ5 86 56 ≤ 2147483647 := hI7.1 86 56
  rintro _ _ ⟨σ18, α19, rfl, hI20, hG21, v15, rfl, hv15, hp16⟩
  have hF22 : qFr [(86, 56)] [120] σ α σ18 α19 := qFr_t hF9 hG21 (by decide) (by decide)
  have hs23 : (-2147483648) ≤ σ18 86 56 ∧ σ18 86 56 ≤ 2147483647 := hI20.1 86 56
  show qr_W (qe L xs vb) (d + 4) qx_e260 _ (39, _, [.int (qz v15)], qw σ18 α19 κ ρ, 0, 0)
  refine qr_istore_n _ 40 rfl (by decide) rfl rfl ?_
  refine qr_iload_n 41 rfl rfl rfl ?_
  refine qr_aload_n 42 rfl rfl rfl ?_
  refine qr_aload_n 43 rfl rfl rfl ?_
  refine qr_get 46 rfl rfl rfl (by decide) rfl ?_
  refine qy_v (σ 86 57) ((hG21.1 86 57 (by decide)).trans ((hG8.1 86 57 (by decide)).trans rfl)) ?_
  refine qr_iconst 47 rfl rfl ?_
  have hc24 : (σ 86 57) = 5 := by omega
  rw [hc24]
  have hs25 : (-2147483648) ≤ σ18 86 56 ∧ σ18 86 56 ≤ 2147483647 := hI20.1 86 56
  have hs26 : (-2147483648) ≤ σ18 86 57 ∧ σ18 86 57 ≤ 2147483647 := hI20.1 86 57
  have hs27 : σ18 86 57 = (σ 86 57) := (hG21.1 86 57 (by decide)).trans ((hG8.1 86 57 (by decide)).trans rfl)
  refine qr_callN 50 rfl rfl rfl (sf_258_86k5_5 (d := d + 2) hI20 (by decide) (by omega) (by omega)) ?_
  have hs30 : (-2147483648) ≤ σ18 86 56 ∧ σ18 86 56 ≤ 2147483647 := hI20.1 86 56
  rintro _ _ ⟨σ31, α32, rfl, hI33, hG34, v28, rfl, hv28, hp29⟩
  have hF35 : qFr [(86, 56)] [120] σ α σ31 α32 := qFr_t hF22 hG34 (by decide) (by decide)
  have hs36 : (-2147483648) ≤ σ31 86 56 ∧ σ31 86 56 ≤ 2147483647 := hI33.1 86 56
  show qr_W (qe L xs vb) (d + 4) qx_e260 _ (50, _, [.int (qz v28), .int (qz v15)], qw σ31 α32 κ ρ, 0, 0)
  refine qr_isub 51 rfl rfl ?_
  refine qy_can (fun v37 hv37 => ?_)
  refine qr_retI rfl rfl (by decide) (by decide) ?_
  have hw38 : σ31 86 56 = (σ31 86 56) := rfl
  exact ⟨_, _, rfl, hI33, hF35, v37, rfl, hv37, by omega⟩

set_option maxHeartbeats 4000000 in
set_option maxRecDepth 20000 in
/-- OneRoofModel.tellsAs -/
theorem sf_260_86k5_5 {L : Nat} {xs : Nat → Int} {vb : Bool} {d : Nat} {σ α : Nat → Nat → Int} {κ : Nat → Option Nat} {ρ : Nat} {x2 : Int} (hI : qI σ α κ ρ) (r2 : (-2147483648) ≤ x2 ∧ x2 ≤ 2147483647) (p0 : 0 ≤ σ 86 56 ∧ σ 86 56 ≤ 300) (p1 : σ 86 57 = 5) : qm_T (qe L xs vb) (d + 6) 260 [.ref 86, .int (qz 5), .int (qz x2)] (qw σ α κ ρ) (fun r w' => ∃ σ' α', w' = qw σ' α' κ ρ ∧ qI σ' α' κ ρ ∧ qFr [(86, 56)] [120] σ α σ' α' ∧ ∃ v : Int, r = some (.int (qz v)) ∧ ((-2147483648) ≤ v ∧ v ≤ 2147483647) ∧ σ' 86 56 = σ 86 56 + 7) := by
  refine qr_start (d := d + 5) qv_e260 (Nat.le_of_ble_eq_true rfl) ?_
  show qr_W (qe L xs vb) (d + 5) qx_e260 _ (0, [(0, .ref 86), (1, .int (qz 5)), (2, .int (qz x2))], [], _, 0, 0)
  have hF0 := qFr_rf [(86, 56)] [120] σ α
  have hz86_56 : (-2147483648) ≤ σ 86 56 ∧ σ 86 56 ≤ 2147483647 := hI.1 86 56
  have hz86_57 : (-2147483648) ≤ σ 86 57 ∧ σ 86 57 ≤ 2147483647 := hI.1 86 57
  have hz86_6 : 0 ≤ σ 86 6 ∧ σ 86 6 ≤ 32 := hI.1 86 6
  refine qr_iload_n 1 rfl rfl rfl ?_
  refine qr_iconst 2 rfl rfl ?_
  refine qr_icmp_eq 10 5 rfl rfl rfl (by decide) (by decide) (fun h => False.elim (by omega)) (fun h1 => ?_)
  refine qr_iload_n 6 rfl rfl rfl ?_
  refine qr_iconst 7 rfl rfl ?_
  refine qr_icmp_ne 25 10 rfl rfl rfl (by decide) (by decide) (fun h => False.elim (by omega)) (fun h2 => ?_)
  refine qr_aload_n 11 rfl rfl rfl ?_
  refine qr_bipush 13 rfl (by decide) rfl ?_
  have hs3 : (-2147483648) ≤ σ 86 56 ∧ σ 86 56 ≤ 2147483647 := hI.1 86 56
  refine qr_callN 16 rfl rfl rfl (sf_257_86 (d := d + 4) hI (by decide) (by omega)) ?_
  rintro _ _ ⟨σ5, α6, rfl, hI7, hG8, hw4, rfl⟩
  have hF9 : qFr [(86, 56)] [120] σ α σ5 α6 := qFr_t hF0 hG8 (by decide) (by decide)
  have hs10 : (-2147483648) ≤ σ5 86 56 ∧ σ5 86 56 ≤ 2147483647 := hI7.1 86 56
  show qr_W (qe L xs vb) (d + 5) qx_e260 _ (16, _, [], qw σ5 α6 κ ρ, 0, 0)
  refine qr_aload_n 17 rfl rfl rfl ?_
  refine qr_iconst 18 rfl rfl ?_
  refine qr_iload_n 19 rfl rfl rfl ?_
  have hs11 : (-2147483648) ≤ σ5 86 56 ∧ σ5 86 56 ≤ 2147483647 := hI7.1 86 56
  have hs12 : (-2147483648) ≤ σ5 86 57 ∧ σ5 86 57 ≤ 2147483647 := hI7.1 86 57
  have hs13 : σ5 86 57 = (σ 86 57) := (hG8.1 86 57 (by decide)).trans rfl
  refine qr_callN 22 rfl rfl rfl (sf_260_86k0_5 (d := d + 0) hI7 r2 (by omega) (by omega)) ?_
  have hs16 : (-2147483648) ≤ σ5 86 56 ∧ σ5 86 56 ≤ 2147483647 := hI7.1 86 56
  rintro _ _ ⟨σ17, α18, rfl, hI19, hG20, v14, rfl, hv14, hp15⟩
  have hF21 : qFr [(86, 56)] [120] σ α σ17 α18 := qFr_t hF9 hG20 (by decide) (by decide)
  have hs22 : (-2147483648) ≤ σ17 86 56 ∧ σ17 86 56 ≤ 2147483647 := hI19.1 86 56
  show qr_W (qe L xs vb) (d + 5) qx_e260 _ (22, _, [.int (qz v14)], qw σ17 α18 κ ρ, 0, 0)
  refine qr_iconst 23 rfl rfl ?_
  refine qr_ixor 24 rfl rfl ?_
  refine qy_can (fun v23 hv23 => ?_)
  refine qr_retI rfl rfl (by decide) (by decide) ?_
  have hw24 : σ17 86 56 = (σ17 86 56) := rfl
  exact ⟨_, _, rfl, hI19, hF21, v23, rfl, hv23, by omega⟩

set_option maxHeartbeats 4000000 in
set_option maxRecDepth 20000 in
/-- OneRoofModel.tellsAs -/
theorem sf_260_86k6_6 {L : Nat} {xs : Nat → Int} {vb : Bool} {d : Nat} {σ α : Nat → Nat → Int} {κ : Nat → Option Nat} {ρ : Nat} {x2 : Int} (hI : qI σ α κ ρ) (r2 : (-2147483648) ≤ x2 ∧ x2 ≤ 2147483647) (p0 : 0 ≤ σ 86 56 ∧ σ 86 56 ≤ 320) (p1 : σ 86 57 = 6) : qm_T (qe L xs vb) (d + 5) 260 [.ref 86, .int (qz 6), .int (qz x2)] (qw σ α κ ρ) (fun r w' => ∃ σ' α', w' = qw σ' α' κ ρ ∧ qI σ' α' κ ρ ∧ qFr [(86, 56)] [120] σ α σ' α' ∧ ∃ v : Int, r = some (.int (qz v)) ∧ ((-2147483648) ≤ v ∧ v ≤ 2147483647) ∧ σ' 86 56 = σ 86 56 + 7) := by
  refine qr_start (d := d + 4) qv_e260 (Nat.le_of_ble_eq_true rfl) ?_
  show qr_W (qe L xs vb) (d + 4) qx_e260 _ (0, [(0, .ref 86), (1, .int (qz 6)), (2, .int (qz x2))], [], _, 0, 0)
  have hF0 := qFr_rf [(86, 56)] [120] σ α
  have hz86_56 : (-2147483648) ≤ σ 86 56 ∧ σ 86 56 ≤ 2147483647 := hI.1 86 56
  have hz86_57 : (-2147483648) ≤ σ 86 57 ∧ σ 86 57 ≤ 2147483647 := hI.1 86 57
  have hz86_6 : 0 ≤ σ 86 6 ∧ σ 86 6 ≤ 32 := hI.1 86 6
  refine qr_iload_n 1 rfl rfl rfl ?_
  refine qr_iconst 2 rfl rfl ?_
  refine qr_icmp_eq 10 5 rfl rfl rfl (by decide) (by decide) (fun h => False.elim (by omega)) (fun h1 => ?_)
  refine qr_iload_n 6 rfl rfl rfl ?_
  refine qr_iconst 7 rfl rfl ?_
  refine qr_icmp_ne 25 10 rfl rfl rfl (by decide) (by decide) (fun h2 => ?_) (fun h => False.elim (by omega))
  refine qr_aload_n 26 rfl rfl rfl ?_
  refine qr_iconst 27 rfl rfl ?_
  have hs3 : (-2147483648) ≤ σ 86 56 ∧ σ 86 56 ≤ 2147483647 := hI.1 86 56
  refine qr_callN 30 rfl rfl rfl (sf_257_86 (d := d + 3) hI (by decide) (by omega)) ?_
  rintro _ _ ⟨σ5, α6, rfl, hI7, hG8, hw4, rfl⟩
  have hF9 : qFr [(86, 56)] [120] σ α σ5 α6 := qFr_t hF0 hG8 (by decide) (by decide)
  have hs10 : (-2147483648) ≤ σ5 86 56 ∧ σ5 86 56 ≤ 2147483647 := hI7.1 86 56
  show qr_W (qe L xs vb) (d + 4) qx_e260 _ (30, _, [], qw σ5 α6 κ ρ, 0, 0)
  refine qr_aload_n 31 rfl rfl rfl ?_
  refine qr_aload_n 32 rfl rfl rfl ?_
  refine qr_get 35 rfl rfl rfl (by decide) rfl ?_
  refine qy_v (σ 86 57) ((hG8.1 86 57 (by decide)).trans rfl) ?_
  refine qr_iload_n 36 rfl rfl rfl ?_
  have hc11 : (σ 86 57) = 6 := by omega
  rw [hc11]
  have hs12 : (-2147483648) ≤ σ5 86 56 ∧ σ5 86 56 ≤ 2147483647 := hI7.1 86 56
  have hs13 : (-2147483648) ≤ σ5 86 57 ∧ σ5 86 57 ≤ 2147483647 := hI7.1 86 57
  have hs14 : σ5 86 57 = (σ 86 57) := (hG8.1 86 57 (by decide)).trans rfl
  refine qr_callN 39 rfl rfl rfl (sf_259_86k6_6 (d := d + 0) hI7 r2 (by omega) (by omega)) ?_
  have hs17 : (-2147483648) ≤ σ5 86 56 ∧ σ5 86 56 ≤ 2147483647 := hI7.1 86 56
  rintro _ _ ⟨σ18, α19, rfl, hI20, hG21, v15, rfl, hv15, hp16⟩
  have hF22 : qFr [(86, 56)] [120] σ α σ18 α19 := qFr_t hF9 hG21 (by decide) (by decide)
  have hs23 : (-2147483648) ≤ σ18 86 56 ∧ σ18 86 56 ≤ 2147483647 := hI20.1 86 56
  show qr_W (qe L xs vb) (d + 4) qx_e260 _ (39, _, [.int (qz v15)], qw σ18 α19 κ ρ, 0, 0)
  refine qr_istore_n _ 40 rfl (by decide) rfl rfl ?_
  refine qr_iload_n 41 rfl rfl rfl ?_
  refine qr_aload_n 42 rfl rfl rfl ?_
  refine qr_aload_n 43 rfl rfl rfl ?_
  refine qr_get 46 rfl rfl rfl (by decide) rfl ?_
  refine qy_v (σ 86 57) ((hG21.1 86 57 (by decide)).trans ((hG8.1 86 57 (by decide)).trans rfl)) ?_
  refine qr_iconst 47 rfl rfl ?_
  have hc24 : (σ 86 57) = 6 := by omega
  rw [hc24]
  have hs25 : (-2147483648) ≤ σ18 86 56 ∧ σ18 86 56 ≤ 2147483647 := hI20.1 86 56
  have hs26 : (-2147483648) ≤ σ18 86 57 ∧ σ18 86 57 ≤ 2147483647 := hI20.1 86 57
  have hs27 : σ18 86 57 = (σ 86 57) := (hG21.1 86 57 (by decide)).trans ((hG8.1 86 57 (by decide)).trans rfl)
  refine qr_callN 50 rfl rfl rfl (sf_258_86k6_6 (d := d + 1) hI20 (by decide) (by omega) (by omega)) ?_
  have hs30 : (-2147483648) ≤ σ18 86 56 ∧ σ18 86 56 ≤ 2147483647 := hI20.1 86 56
  rintro _ _ ⟨σ31, α32, rfl, hI33, hG34, v28, rfl, hv28, hp29⟩
  have hF35 : qFr [(86, 56)] [120] σ α σ31 α32 := qFr_t hF22 hG34 (by decide) (by decide)
  have hs36 : (-2147483648) ≤ σ31 86 56 ∧ σ31 86 56 ≤ 2147483647 := hI33.1 86 56
  show qr_W (qe L xs vb) (d + 4) qx_e260 _ (50, _, [.int (qz v28), .int (qz v15)], qw σ31 α32 κ ρ, 0, 0)
  refine qr_isub 51 rfl rfl ?_
  refine qy_can (fun v37 hv37 => ?_)
  refine qr_retI rfl rfl (by decide) (by decide) ?_
  have hw38 : σ31 86 56 = (σ31 86 56) := rfl
  exact ⟨_, _, rfl, hI33, hF35, v37, rfl, hv37, by omega⟩

set_option maxHeartbeats 4000000 in
set_option maxRecDepth 20000 in
/-- OneRoofModel.tellsAs -/
theorem sf_260_86kp_p {L : Nat} {xs : Nat → Int} {vb : Bool} {d : Nat} {σ α : Nat → Nat → Int} {κ : Nat → Option Nat} {ρ : Nat} {x1 : Int} {x2 : Int} (hI : qI σ α κ ρ) (r1 : 7 ≤ x1 ∧ x1 ≤ 2147483647) (r2 : (-2147483648) ≤ x2 ∧ x2 ≤ 2147483647) (p0 : 0 ≤ σ 86 56 ∧ σ 86 56 ≤ 340) (p1 : 6 < σ 86 57) : qm_T (qe L xs vb) (d + 4) 260 [.ref 86, .int (qz x1), .int (qz x2)] (qw σ α κ ρ) (fun r w' => ∃ σ' α', w' = qw σ' α' κ ρ ∧ qI σ' α' κ ρ ∧ qFr [(86, 56)] [120] σ α σ' α' ∧ ∃ v : Int, r = some (.int (qz v)) ∧ ((-2147483648) ≤ v ∧ v ≤ 2147483647) ∧ σ' 86 56 = σ 86 56 + 4) := by
  refine qr_start (d := d + 3) qv_e260 (Nat.le_of_ble_eq_true rfl) ?_
  show qr_W (qe L xs vb) (d + 3) qx_e260 _ (0, [(0, .ref 86), (1, .int (qz x1)), (2, .int (qz x2))], [], _, 0, 0)
  have hF0 := qFr_rf [(86, 56)] [120] σ α
  have hz86_56 : (-2147483648) ≤ σ 86 56 ∧ σ 86 56 ≤ 2147483647 := hI.1 86 56
  have hz86_57 : (-2147483648) ≤ σ 86 57 ∧ σ 86 57 ≤ 2147483647 := hI.1 86 57
  have hz86_6 : 0 ≤ σ 86 6 ∧ σ 86 6 ≤ 32 := hI.1 86 6
  refine qr_iload_n 1 rfl rfl rfl ?_
  refine qr_iconst 2 rfl rfl ?_
  refine qr_icmp_eq 10 5 rfl rfl rfl (qrg r1 (by decide) (by decide)) (by decide) (fun h => False.elim (by omega)) (fun h1 => ?_)
  refine qr_iload_n 6 rfl rfl rfl ?_
  refine qr_iconst 7 rfl rfl ?_
  refine qr_icmp_ne 25 10 rfl rfl rfl (qrg r1 (by decide) (by decide)) (by decide) (fun h2 => ?_) (fun h => False.elim (by omega))
  refine qr_aload_n 26 rfl rfl rfl ?_
  refine qr_iconst 27 rfl rfl ?_
  have hs3 : (-2147483648) ≤ σ 86 56 ∧ σ 86 56 ≤ 2147483647 := hI.1 86 56
  refine qr_callN 30 rfl rfl rfl (sf_257_86 (d := d + 2) hI (by decide) (by omega)) ?_
  rintro _ _ ⟨σ5, α6, rfl, hI7, hG8, hw4, rfl⟩
  have hF9 : qFr [(86, 56)] [120] σ α σ5 α6 := qFr_t hF0 hG8 (by decide) (by decide)
  have hs10 : (-2147483648) ≤ σ5 86 56 ∧ σ5 86 56 ≤ 2147483647 := hI7.1 86 56
  show qr_W (qe L xs vb) (d + 3) qx_e260 _ (30, _, [], qw σ5 α6 κ ρ, 0, 0)
  refine qr_aload_n 31 rfl rfl rfl ?_
  refine qr_aload_n 32 rfl rfl rfl ?_
  refine qr_get 35 rfl rfl rfl (by decide) rfl ?_
  refine qy_v (σ 86 57) ((hG8.1 86 57 (by decide)).trans rfl) ?_
  refine qr_iload_n 36 rfl rfl rfl ?_
  have hs11 : (-2147483648) ≤ σ5 86 56 ∧ σ5 86 56 ≤ 2147483647 := hI7.1 86 56
  have hs12 : (-2147483648) ≤ σ5 86 57 ∧ σ5 86 57 ≤ 2147483647 := hI7.1 86 57
  have hs13 : σ5 86 57 = (σ 86 57) := (hG8.1 86 57 (by decide)).trans rfl
  refine qr_callN 39 rfl rfl rfl (sf_259_86kp_p (d := d + 0) hI7 (by omega) r2 (by omega) (by omega)) ?_
  have hs16 : (-2147483648) ≤ σ5 86 56 ∧ σ5 86 56 ≤ 2147483647 := hI7.1 86 56
  rintro _ _ ⟨σ17, α18, rfl, hI19, hG20, v14, rfl, hv14, hp15⟩
  have hF21 : qFr [(86, 56)] [120] σ α σ17 α18 := qFr_t hF9 hG20 (by decide) (by decide)
  have hs22 : (-2147483648) ≤ σ17 86 56 ∧ σ17 86 56 ≤ 2147483647 := hI19.1 86 56
  show qr_W (qe L xs vb) (d + 3) qx_e260 _ (39, _, [.int (qz v14)], qw σ17 α18 κ ρ, 0, 0)
  refine qr_istore_n _ 40 rfl (by decide) rfl rfl ?_
  refine qr_iload_n 41 rfl rfl rfl ?_
  refine qr_aload_n 42 rfl rfl rfl ?_
  refine qr_aload_n 43 rfl rfl rfl ?_
  refine qr_get 46 rfl rfl rfl (by decide) rfl ?_
  refine qy_v (σ 86 57) ((hG20.1 86 57 (by decide)).trans ((hG8.1 86 57 (by decide)).trans rfl)) ?_
  refine qr_iconst 47 rfl rfl ?_
  have hs23 : (-2147483648) ≤ σ17 86 56 ∧ σ17 86 56 ≤ 2147483647 := hI19.1 86 56
  have hs24 : (-2147483648) ≤ σ17 86 57 ∧ σ17 86 57 ≤ 2147483647 := hI19.1 86 57
  have hs25 : σ17 86 57 = (σ 86 57) := (hG20.1 86 57 (by decide)).trans ((hG8.1 86 57 (by decide)).trans rfl)
  refine qr_callN 50 rfl rfl rfl (sf_258_86kp_p (d := d + 1) hI19 (by omega) (by decide) (by omega) (by omega)) ?_
  have hs28 : (-2147483648) ≤ σ17 86 56 ∧ σ17 86 56 ≤ 2147483647 := hI19.1 86 56
  rintro _ _ ⟨σ29, α30, rfl, hI31, hG32, v26, rfl, hv26, hp27⟩
  have hF33 : qFr [(86, 56)] [120] σ α σ29 α30 := qFr_t hF21 hG32 (by decide) (by decide)
  have hs34 : (-2147483648) ≤ σ29 86 56 ∧ σ29 86 56 ≤ 2147483647 := hI31.1 86 56
  show qr_W (qe L xs vb) (d + 3) qx_e260 _ (50, _, [.int (qz v26), .int (qz v14)], qw σ29 α30 κ ρ, 0, 0)
  refine qr_isub 51 rfl rfl ?_
  refine qy_can (fun v35 hv35 => ?_)
  refine qr_retI rfl rfl (by decide) (by decide) ?_
  have hw36 : σ29 86 56 = (σ29 86 56) := rfl
  exact ⟨_, _, rfl, hI31, hF33, v35, rfl, hv35, by omega⟩

set_option maxHeartbeats 4000000 in
set_option maxRecDepth 20000 in
/-- OneRoofModel.tellsAs -/
theorem sf_260_86any {L : Nat} {xs : Nat → Int} {vb : Bool} {d : Nat} {σ α : Nat → Nat → Int} {κ : Nat → Option Nat} {ρ : Nat} {x1 : Int} {x2 : Int} (hI : qI σ α κ ρ) (r1 : (-2147483648) ≤ x1 ∧ x1 ≤ 2147483647) (r2 : (-2147483648) ≤ x2 ∧ x2 ≤ 2147483647) (p0 : σ 86 56 = 0) (p1 : x1 = σ 86 57) : qm_T (qe L xs vb) (d + 6) 260 [.ref 86, .int (qz x1), .int (qz x2)] (qw σ α κ ρ) (fun r w' => ∃ σ' α', w' = qw σ' α' κ ρ ∧ qI σ' α' κ ρ ∧ qFr [(86, 56)] [120] σ α σ' α' ∧ ∃ v : Int, r = some (.int (qz v)) ∧ ((-2147483648) ≤ v ∧ v ≤ 2147483647)) := by
  have h1 : x1 < 0 ∨ x1 = 0 ∨ x1 = 1 ∨ x1 = 2 ∨ x1 = 3 ∨ x1 = 4 ∨ x1 = 5 ∨ x1 = 6 ∨ 6 < x1 := by omega
  rcases h1 with h1 | h1 | h1 | h1 | h1 | h1 | h1 | h1 | h1
  · skip
    refine qr_mono (sf_260_86km_m (d := d + 2) hI (by omega) (by omega) (by omega) (by omega)) ?_
    rintro r w2 ⟨σ2, α2, h2, h3, h4, v, h5, h6, h7⟩
    exact ⟨σ2, α2, h2, h3, h4, v, h5, h6⟩
  · rw [h1]
    refine qr_mono (sf_260_86k0_0 (d := d + 2) hI (by omega) (by omega) (by omega)) ?_
    rintro r w2 ⟨σ2, α2, h2, h3, h4, v, h5, h6, h7⟩
    exact ⟨σ2, α2, h2, h3, h4, v, h5, h6⟩
  · rw [h1]
    refine qr_mono (sf_260_86k1_1 (d := d + 1) hI (by omega) (by omega) (by omega)) ?_
    rintro r w2 ⟨σ2, α2, h2, h3, h4, v, h5, h6, h7⟩
    exact ⟨σ2, α2, h2, h3, h4, v, h5, h6⟩
  · rw [h1]
    refine qr_mono (sf_260_86k2_2 (d := d + 0) hI (by omega) (by omega) (by omega)) ?_
    rintro r w2 ⟨σ2, α2, h2, h3, h4, v, h5, h6, h7⟩
    exact ⟨σ2, α2, h2, h3, h4, v, h5, h6⟩
  · rw [h1]
    refine qr_mono (sf_260_86k3_3 (d := d + 1) hI (by omega) (by omega) (by omega)) ?_
    rintro r w2 ⟨σ2, α2, h2, h3, h4, v, h5, h6, h7⟩
    exact ⟨σ2, α2, h2, h3, h4, v, h5, h6⟩
  · rw [h1]
    refine qr_mono (sf_260_86k4_4 (d := d + 1) hI (by omega) (by omega) (by omega)) ?_
    rintro r w2 ⟨σ2, α2, h2, h3, h4, v, h5, h6, h7⟩
    exact ⟨σ2, α2, h2, h3, h4, v, h5, h6⟩
  · rw [h1]
    refine qr_mono (sf_260_86k5_5 (d := d + 0) hI (by omega) (by omega) (by omega)) ?_
    rintro r w2 ⟨σ2, α2, h2, h3, h4, v, h5, h6, h7⟩
    exact ⟨σ2, α2, h2, h3, h4, v, h5, h6⟩
  · rw [h1]
    refine qr_mono (sf_260_86k6_6 (d := d + 1) hI (by omega) (by omega) (by omega)) ?_
    rintro r w2 ⟨σ2, α2, h2, h3, h4, v, h5, h6, h7⟩
    exact ⟨σ2, α2, h2, h3, h4, v, h5, h6⟩
  · skip
    refine qr_mono (sf_260_86kp_p (d := d + 2) hI (by omega) (by omega) (by omega) (by omega)) ?_
    rintro r w2 ⟨σ2, α2, h2, h3, h4, v, h5, h6, h7⟩
    exact ⟨σ2, α2, h2, h3, h4, v, h5, h6⟩

set_option maxHeartbeats 4000000 in
set_option maxRecDepth 20000 in
/-- OneRoofModel.act -/
theorem sf_255_86 {L : Nat} {xs : Nat → Int} {vb : Bool} {d : Nat} {σ α : Nat → Nat → Int} {κ : Nat → Option Nat} {ρ : Nat} {x1 : Int} {x2 : Int} {x3 : Int} (hI : qI σ α κ ρ) (r1 : (-2147483648) ≤ x1 ∧ x1 ≤ 2147483647) (r2 : (-2147483648) ≤ x2 ∧ x2 ≤ 2147483647) (r3 : (-2147483648) ≤ x3 ∧ x3 ≤ 2147483647) : qm_T (qe L xs vb) (d + 7) 255 [.ref 86, .int (qz x1), .int (qz x2), .int (qz x3)] (qw σ α κ ρ) (fun r w' => ∃ σ' α', w' = qw σ' α' κ ρ ∧ qI σ' α' κ ρ ∧ qFr [(86, 56), (86, 57), (86, 58)] [120] σ α σ' α' ∧ ∃ v : Int, r = some (.int (qz v)) ∧ ((-2147483648) ≤ v ∧ v ≤ 2147483647)) := by
  refine qr_start (d := d + 6) qv_e255 (Nat.le_of_ble_eq_true rfl) ?_
  show qr_W (qe L xs vb) (d + 6) qx_e255 _ (0, [(0, .ref 86), (1, .int (qz x1)), (2, .int (qz x2)), (3, .int (qz x3))], [], _, 0, 0)
  have hF0 := qFr_rf [(86, 56), (86, 57), (86, 58)] [120] σ α
  have hz86_6 : 0 ≤ σ 86 6 ∧ σ 86 6 ≤ 32 := hI.1 86 6
  refine qr_aload_n 1 rfl rfl rfl ?_
  refine qr_iconst 2 rfl rfl ?_
  refine qr_put 5 rfl (by decide) rfl (Nat.le_of_ble_eq_true rfl) (Nat.le_of_ble_eq_true rfl) (Or.inl rfl) (qr_fitI rfl _) rfl ?_
  refine qy_wS (qw_s σ 86 56 0) rfl (fun σ1 e2 => ?_)
  have hI3 : qI σ1 α κ ρ := by rw [e2]; exact qI_s hI 86 56 rfl (show (-2147483648) ≤ 0 ∧ 0 ≤ 2147483647 by omega)
  have hF4 : qFr [(86, 56), (86, 57), (86, 58)] [120] σ α σ1 α := by rw [e2]; exact qFr_s hF0 86 56 _ (by decide)
  refine qr_aload_n 6 rfl rfl rfl ?_
  refine qr_iload_n 7 rfl rfl rfl ?_
  refine qr_callN 10 rfl rfl rfl (sf_200_86 (d := d + 4) hI3 r1) ?_
  have hs7 : 0 ≤ σ1 86 24 ∧ σ1 86 24 ≤ 60 := hI3.1 86 24
  rintro _ _ ⟨rfl, v5, rfl, hv5, hp6⟩
  show qr_W (qe L xs vb) (d + 6) qx_e255 _ (10, _, [.int (qz v5)], qw σ1 α κ ρ, 0, 0)
  refine qr_if_ne 15 13 rfl rfl rfl (qrg hv5 (by decide) (by decide)) (fun h8 => ?_) (fun h8 => ?_)
  · skip
    refine qr_aload_n 16 rfl rfl rfl ?_
    refine qr_aload_n 17 rfl rfl rfl ?_
    refine qr_iload_n 18 rfl rfl rfl ?_
    refine qr_callN 21 rfl rfl rfl (sf_201_86 (d := d + 5) hI3 (by omega)) ?_
    rintro _ _ ⟨rfl, v9, rfl, hv9⟩
    show qr_W (qe L xs vb) (d + 6) qx_e255 _ (21, _, [.int (qz v9), .ref 86], qw σ1 α κ ρ, 0, 0)
    refine qr_put 24 rfl (by decide) rfl (Nat.le_of_ble_eq_true rfl) (Nat.le_of_ble_eq_true rfl) (Or.inl rfl) (qr_fitI rfl _) rfl ?_
    refine qy_wS (qw_s σ1 86 57 v9) rfl (fun σ10 e11 => ?_)
    have hI12 : qI σ10 α κ ρ := by rw [e11]; exact qI_s hI3 86 57 rfl (show (-2147483648) ≤ v9 ∧ v9 ≤ 2147483647 by omega)
    have hF13 : qFr [(86, 56), (86, 57), (86, 58)] [120] σ α σ10 α := by rw [e11]; exact qFr_s hF4 86 57 _ (by decide)
    refine qr_aload_n 25 rfl rfl rfl ?_
    refine qr_iload_n 26 rfl rfl rfl ?_
    refine qr_put 29 rfl (by decide) rfl (Nat.le_of_ble_eq_true rfl) (Nat.le_of_ble_eq_true rfl) (Or.inl rfl) (qr_fitI rfl _) rfl ?_
    refine qy_wS (qw_s σ10 86 58 x1) rfl (fun σ14 e15 => ?_)
    have hI16 : qI σ14 α κ ρ := by rw [e15]; exact qI_s hI12 86 58 rfl (show (-2147483648) ≤ x1 ∧ x1 ≤ 2147483647 by omega)
    have hF17 : qFr [(86, 56), (86, 57), (86, 58)] [120] σ α σ14 α := by rw [e15]; exact qFr_s hF13 86 58 _ (by decide)
    refine qr_iload_n 30 rfl rfl rfl ?_
    have h18 : x2 = 0 ∨ x2 = 1 ∨ x2 = 2 ∨ x2 = 3 ∨ (x2 < 0 ∨ 3 < x2) := by omega
    rcases h18 with h18 | h18 | h18 | h18 | h18
    · skip
      refine qr_tabIn 60 rfl r2 (by rw [h18]; decide) (by rw [h18]; rfl) rfl ?_
      refine qr_aload_n 61 rfl rfl rfl ?_
      refine qr_aload_n 62 rfl rfl rfl ?_
      refine qr_get 65 rfl rfl rfl (by decide) rfl ?_
      refine qy_v v9 ((congrFun (congrFun e15 86) 57).trans ((congrFun (congrFun e11 86) 57).trans rfl)) ?_
      refine qr_iload_n 66 rfl rfl rfl ?_
      have hs20 : (-2147483648) ≤ σ14 86 56 ∧ σ14 86 56 ≤ 2147483647 := hI16.1 86 56
      have hs21 : σ14 86 56 = 0 := (congrFun (congrFun e15 86) 56).trans ((congrFun (congrFun e11 86) 56).trans ((congrFun (congrFun e2 86) 56).trans rfl))
      have hs22 : (-2147483648) ≤ σ14 86 57 ∧ σ14 86 57 ≤ 2147483647 := hI16.1 86 57
      have hs23 : σ14 86 57 = v9 := (congrFun (congrFun e15 86) 57).trans ((congrFun (congrFun e11 86) 57).trans rfl)
      refine qr_callN 69 rfl rfl rfl (sf_256_86any (d := d + 2) hI16 hv9 r3 (by omega) (by omega)) ?_
      rintro _ _ ⟨σ25, α26, rfl, hI27, hG28, v24, rfl, hv24⟩
      have hF29 : qFr [(86, 56), (86, 57), (86, 58)] [120] σ α σ25 α26 := qFr_t hF17 hG28 (by decide) (by decide)
      show qr_W (qe L xs vb) (d + 6) qx_e255 _ (69, _, [.int (qz v24)], qw σ25 α26 κ ρ, 0, 0)
      refine qr_retI rfl rfl (by decide) (by decide) ?_
      exact ⟨_, _, rfl, hI27, hF29, v24, rfl, hv24⟩
    · skip
      refine qr_tabIn 70 rfl r2 (by rw [h18]; decide) (by rw [h18]; rfl) rfl ?_
      refine qr_aload_n 71 rfl rfl rfl ?_
      refine qr_aload_n 72 rfl rfl rfl ?_
      refine qr_get 75 rfl rfl rfl (by decide) rfl ?_
      refine qy_v v9 ((congrFun (congrFun e15 86) 57).trans ((congrFun (congrFun e11 86) 57).trans rfl)) ?_
      refine qr_iload_n 76 rfl rfl rfl ?_
      have hs30 : (-2147483648) ≤ σ14 86 56 ∧ σ14 86 56 ≤ 2147483647 := hI16.1 86 56
      have hs31 : σ14 86 56 = 0 := (congrFun (congrFun e15 86) 56).trans ((congrFun (congrFun e11 86) 56).trans ((congrFun (congrFun e2 86) 56).trans rfl))
      have hs32 : (-2147483648) ≤ σ14 86 57 ∧ σ14 86 57 ≤ 2147483647 := hI16.1 86 57
      have hs33 : σ14 86 57 = v9 := (congrFun (congrFun e15 86) 57).trans ((congrFun (congrFun e11 86) 57).trans rfl)
      refine qr_callN 79 rfl rfl rfl (sf_259_86any (d := d + 1) hI16 hv9 r3 (by omega) (by omega)) ?_
      rintro _ _ ⟨σ35, α36, rfl, hI37, hG38, v34, rfl, hv34⟩
      have hF39 : qFr [(86, 56), (86, 57), (86, 58)] [120] σ α σ35 α36 := qFr_t hF17 hG38 (by decide) (by decide)
      show qr_W (qe L xs vb) (d + 6) qx_e255 _ (79, _, [.int (qz v34)], qw σ35 α36 κ ρ, 0, 0)
      refine qr_retI rfl rfl (by decide) (by decide) ?_
      exact ⟨_, _, rfl, hI37, hF39, v34, rfl, hv34⟩
    · skip
      refine qr_tabIn 80 rfl r2 (by rw [h18]; decide) (by rw [h18]; rfl) rfl ?_
      refine qr_aload_n 81 rfl rfl rfl ?_
      refine qr_aload_n 82 rfl rfl rfl ?_
      refine qr_get 85 rfl rfl rfl (by decide) rfl ?_
      refine qy_v v9 ((congrFun (congrFun e15 86) 57).trans ((congrFun (congrFun e11 86) 57).trans rfl)) ?_
      refine qr_iload_n 86 rfl rfl rfl ?_
      have hs40 : (-2147483648) ≤ σ14 86 56 ∧ σ14 86 56 ≤ 2147483647 := hI16.1 86 56
      have hs41 : σ14 86 56 = 0 := (congrFun (congrFun e15 86) 56).trans ((congrFun (congrFun e11 86) 56).trans ((congrFun (congrFun e2 86) 56).trans rfl))
      have hs42 : (-2147483648) ≤ σ14 86 57 ∧ σ14 86 57 ≤ 2147483647 := hI16.1 86 57
      have hs43 : σ14 86 57 = v9 := (congrFun (congrFun e15 86) 57).trans ((congrFun (congrFun e11 86) 57).trans rfl)
      refine qr_callN 89 rfl rfl rfl (sf_258_86any (d := d + 3) hI16 hv9 r3 (by omega) (by omega)) ?_
      rintro _ _ ⟨σ45, α46, rfl, hI47, hG48, v44, rfl, hv44⟩
      have hF49 : qFr [(86, 56), (86, 57), (86, 58)] [120] σ α σ45 α46 := qFr_t hF17 hG48 (by decide) (by decide)
      show qr_W (qe L xs vb) (d + 6) qx_e255 _ (89, _, [.int (qz v44)], qw σ45 α46 κ ρ, 0, 0)
      refine qr_retI rfl rfl (by decide) (by decide) ?_
      exact ⟨_, _, rfl, hI47, hF49, v44, rfl, hv44⟩
    · skip
      refine qr_tabIn 90 rfl r2 (by rw [h18]; decide) (by rw [h18]; rfl) rfl ?_
      refine qr_aload_n 91 rfl rfl rfl ?_
      refine qr_aload_n 92 rfl rfl rfl ?_
      refine qr_get 95 rfl rfl rfl (by decide) rfl ?_
      refine qy_v v9 ((congrFun (congrFun e15 86) 57).trans ((congrFun (congrFun e11 86) 57).trans rfl)) ?_
      refine qr_iload_n 96 rfl rfl rfl ?_
      have hs50 : (-2147483648) ≤ σ14 86 56 ∧ σ14 86 56 ≤ 2147483647 := hI16.1 86 56
      have hs51 : σ14 86 56 = 0 := (congrFun (congrFun e15 86) 56).trans ((congrFun (congrFun e11 86) 56).trans ((congrFun (congrFun e2 86) 56).trans rfl))
      have hs52 : (-2147483648) ≤ σ14 86 57 ∧ σ14 86 57 ≤ 2147483647 := hI16.1 86 57
      have hs53 : σ14 86 57 = v9 := (congrFun (congrFun e15 86) 57).trans ((congrFun (congrFun e11 86) 57).trans rfl)
      refine qr_callN 99 rfl rfl rfl (sf_260_86any (d := d + 0) hI16 hv9 r3 (by omega) (by omega)) ?_
      rintro _ _ ⟨σ55, α56, rfl, hI57, hG58, v54, rfl, hv54⟩
      have hF59 : qFr [(86, 56), (86, 57), (86, 58)] [120] σ α σ55 α56 := qFr_t hF17 hG58 (by decide) (by decide)
      show qr_W (qe L xs vb) (d + 6) qx_e255 _ (99, _, [.int (qz v54)], qw σ55 α56 κ ρ, 0, 0)
      refine qr_retI rfl rfl (by decide) (by decide) ?_
      exact ⟨_, _, rfl, hI57, hF59, v54, rfl, hv54⟩
    · skip
      refine qr_tabOut 100 rfl r2 (by omega) rfl ?_
      refine qr_iconst 101 rfl rfl ?_
      refine qr_retI rfl rfl (by decide) (by decide) ?_
      exact ⟨_, _, rfl, hI16, hF17, 0, rfl, (by decide)⟩
  · skip
    refine qr_iconst 14 rfl rfl ?_
    refine qr_retI rfl rfl (by decide) (by decide) ?_
    exact ⟨_, _, rfl, hI3, hF4, 0, rfl, (by decide)⟩
end
section
/-! custom: a text read anew, the customs exchanged -/
set_option maxHeartbeats 4000000 in
set_option maxRecDepth 20000 in
theorem sp_lines2 {L : Nat} {xs : Nat → Int} {vb : Bool} {d : Nat} {w : qm_W} {a : Nat} {ln at_ sz nm sk : Int} {t cd : Nat → Int} (hi : qc_in w a) (ht : ∀ j, -2147483648 ≤ t j ∧ t j ≤ 2147483647) (hl : 0 ≤ ln ∧ ln ≤ 120)   : qm_T (qe L xs vb) (d + 56) 18 [.ref a] (qc w a ln at_ sz nm sk t cd) (fun r w' => ∃ (v at2 sz2 nm2 sk2 : Int) (cd2 : Nat → Int), r = some (.int (qz v)) ∧ w' = qc w a ln at2 sz2 nm2 sk2 t cd2 ∧ (0 ≤ at2 ∧ at2 ≤ ln ∧ 0 ≤ sz2 ∧ sz2 ≤ 122 ∧ -2147483648 ≤ nm2 ∧ nm2 ≤ 2147483647 ∧ (sk2 = 0 ∨ sk2 = 1) ∧ -1 ≤ v ∧ v ≤ 120 ∧ (sk2 = 0 → v = -1) ∧ (ln = 0 → sk2 = 1 ∧ v = 0))) := by
  refine qr_start (d := d + 55) qv_e18 (Nat.le_of_ble_eq_true rfl) ?_
  show qr_W (qe L xs vb) (d + 55) qx_e18 _ (0, [(0, .ref a)], [], qc w a ln at_ sz nm sk t cd, 0, 0)
  have loop : ∀ (n : Nat) (i at1 sz1 nm1 sk1 : Int) (cd1 : Nat → Int), (0 ≤ i ∧ i ≤ 121 ∧ 121 - i < n) → (0 ≤ at1 ∧ at1 ≤ ln ∧ 0 ≤ sz1 ∧ sz1 ≤ 122 ∧ -2147483648 ≤ nm1 ∧ nm1 ≤ 2147483647 ∧ (sk1 = 0 ∨ sk1 = 1)) → (ln = 0 → (i = 0 ∧ at1 = 0) ∨ sk1 = 1) → qr_W (qe L xs vb) (d + 55) qx_e18 (fun r w' => ∃ (v at2 sz2 nm2 sk2 : Int) (cd2 : Nat → Int), r = some (.int (qz v)) ∧ w' = qc w a ln at2 sz2 nm2 sk2 t cd2 ∧ (0 ≤ at2 ∧ at2 ≤ ln ∧ 0 ≤ sz2 ∧ sz2 ≤ 122 ∧ -2147483648 ≤ nm2 ∧ nm2 ≤ 2147483647 ∧ (sk2 = 0 ∨ sk2 = 1) ∧ -1 ≤ v ∧ v ≤ 120 ∧ (sk2 = 0 → v = -1) ∧ (ln = 0 → sk2 = 1 ∧ v = 0))) (22, [(1, .int (qz i)), (0, .ref a)], [], qc w a ln at1 sz1 nm1 sk1 t cd1, 0, 0) := by
    intro n
    induction n with
    | zero => intro i at1 sz1 nm1 sk1 cd1 h1 h2 h3; exact absurd h1 (by omega)
    | succ n ih =>
      intro i at1 sz1 nm1 sk1 cd1 h1 h2 h3
      refine qr_iload_n 23 rfl rfl rfl ?_
      refine qr_bipush 25 rfl (by decide) rfl ?_
      refine qr_icmp_gt 72 28 rfl rfl rfl (by omega) (by omega) (fun h1 => ?_) (fun h1 => ?_)
      · skip
        refine qr_aload_n 73 rfl rfl rfl ?_
        refine qr_cget7 hi 76 rfl rfl ?_
        refine qr_if_eq 86 79 rfl rfl rfl (by omega) (fun h2 => ?_) (fun h2 => ?_)
        · skip
          refine qr_iconst 87 rfl rfl ?_
          refine qr_retI rfl rfl (Nat.zero_le _) (Nat.zero_le _) ?_
          exact ⟨_, _, _, _, _, _, rfl, rfl, by omega⟩
        · skip
          refine qr_aload_n 80 rfl rfl rfl ?_
          refine qr_cget4 hi 83 rfl rfl ?_
          refine qr_goto 87 rfl rfl ?_
          refine qr_retI rfl rfl (Nat.zero_le _) (Nat.zero_le _) ?_
          exact ⟨_, _, _, _, _, _, rfl, rfl, by omega⟩
      · skip
        refine qr_aload_n 29 rfl rfl rfl ?_
        refine qr_cget7 hi 32 rfl rfl ?_
        refine qr_if_ne 72 35 rfl rfl rfl (by omega) (fun h3 => ?_) (fun h3 => ?_)
        · skip
          refine qr_aload_n 73 rfl rfl rfl ?_
          refine qr_cget7 hi 76 rfl rfl ?_
          refine qr_if_eq 86 79 rfl rfl rfl (by omega) (fun h4 => ?_) (fun h4 => ?_)
          · skip
            refine qr_iconst 87 rfl rfl ?_
            refine qr_retI rfl rfl (Nat.zero_le _) (Nat.zero_le _) ?_
            exact ⟨_, _, _, _, _, _, rfl, rfl, by omega⟩
          · skip
            refine qr_aload_n 80 rfl rfl rfl ?_
            refine qr_cget4 hi 83 rfl rfl ?_
            refine qr_goto 87 rfl rfl ?_
            refine qr_retI rfl rfl (Nat.zero_le _) (Nat.zero_le _) ?_
            exact ⟨_, _, _, _, _, _, rfl, rfl, by omega⟩
        · skip
          refine qr_aload_n 36 rfl rfl rfl ?_
          refine qr_ccall (as := []) (rest := []) hi 39 rfl rfl (Nat.le_of_ble_eq_true rfl) rfl rfl (sp_line hi ht hl (by omega)) ?_
          rintro _ _ ⟨rfl, at5, sz6, nm7, sk8, cd9, rfl, hb10⟩
          simp only [Option.toList, List.cons_append, List.nil_append]
          refine qr_aload_n 40 rfl rfl rfl ?_
          refine qr_cget7 hi 43 rfl rfl ?_
          refine qr_if_ne 72 46 rfl rfl rfl (by omega) (fun h11 => ?_) (fun h11 => ?_)
          · skip
            refine qr_aload_n 73 rfl rfl rfl ?_
            refine qr_cget7 hi 76 rfl rfl ?_
            refine qr_if_eq 86 79 rfl rfl rfl (by omega) (fun h12 => ?_) (fun h12 => ?_)
            · skip
              refine qr_iconst 87 rfl rfl ?_
              refine qr_retI rfl rfl (Nat.zero_le _) (Nat.zero_le _) ?_
              exact ⟨_, _, _, _, _, _, rfl, rfl, by omega⟩
            · skip
              refine qr_aload_n 80 rfl rfl rfl ?_
              refine qr_cget4 hi 83 rfl rfl ?_
              refine qr_goto 87 rfl rfl ?_
              refine qr_retI rfl rfl (Nat.zero_le _) (Nat.zero_le _) ?_
              exact ⟨_, _, _, _, _, _, rfl, rfl, by omega⟩
          · skip
            refine qr_aload_n 47 rfl rfl rfl ?_
            refine qr_cget4 hi 50 rfl rfl ?_
            refine qr_aload_n 51 rfl rfl rfl ?_
            refine qr_cget3 hi 54 rfl rfl ?_
            refine qr_icmp_lt 60 57 rfl rfl rfl (by omega) (by omega) (fun h13 => ?_) (fun h13 => ?_)
            · skip
              refine qr_aload_n 61 rfl rfl rfl ?_
              refine qr_bipush 63 rfl (by decide) rfl ?_
              refine qr_ccall (as := [.int (qz 59)]) (rest := []) hi 66 rfl rfl (Nat.le_of_ble_eq_true rfl) rfl rfl (sp_pass hi ht hl (by omega) (by omega)) ?_
              rintro _ _ ⟨rfl, at14, sz15, nm16, sk17, cd18, rfl, hb19⟩
              simp only [Option.toList, List.cons_append, List.nil_append]
              refine qr_iincG (fun v20 => [(1, .int (qz v20)), (0, .ref a)]) 69 rfl rfl (by decide) (fun _ => rfl) rfl (fun v20 hv20 => ?_)
              refine qr_goto 22 rfl rfl ?_
              exact ih v20 at14 sz15 nm16 sk17 cd18 (by omega) (by omega) (by omega)
            · skip
              refine qr_goto 72 rfl rfl ?_
              refine qr_aload_n 73 rfl rfl rfl ?_
              refine qr_cget7 hi 76 rfl rfl ?_
              refine qr_if_eq 86 79 rfl rfl rfl (by omega) (fun h21 => ?_) (fun h21 => ?_)
              · skip
                refine qr_iconst 87 rfl rfl ?_
                refine qr_retI rfl rfl (Nat.zero_le _) (Nat.zero_le _) ?_
                exact ⟨_, _, _, _, _, _, rfl, rfl, by omega⟩
              · skip
                refine qr_aload_n 80 rfl rfl rfl ?_
                refine qr_cget4 hi 83 rfl rfl ?_
                refine qr_goto 87 rfl rfl ?_
                refine qr_retI rfl rfl (Nat.zero_le _) (Nat.zero_le _) ?_
                exact ⟨_, _, _, _, _, _, rfl, rfl, by omega⟩
  refine qr_aload_n 1 rfl rfl rfl ?_
  refine qr_iconst 2 rfl rfl ?_
  refine qr_cput4 hi 5 rfl rfl ?_
  refine qr_aload_n 6 rfl rfl rfl ?_
  refine qr_iconst 7 rfl rfl ?_
  refine qr_cput5 hi 10 rfl rfl ?_
  refine qr_aload_n 11 rfl rfl rfl ?_
  refine qr_iconst 12 rfl rfl ?_
  refine qr_cput6 hi 15 rfl rfl ?_
  refine qr_aload_n 16 rfl rfl rfl ?_
  refine qr_iconst 17 rfl rfl ?_
  refine qr_cput7 hi (by omega) 20 rfl rfl ?_
  refine qr_iconst 21 rfl rfl ?_
  refine qr_istore_n [(1, .int (qz 0)), (0, .ref a)] 22 rfl (by decide) rfl rfl ?_
  exact loop 123 0 0 0 0 0 cd (by omega) (by omega) (by omega)
theorem qzf_can (f : Nat → Int) : qzf f = qzf (fun j => (qz (f j)).toInt) := funext fun j => qz_of (qz (f j))
theorem qI_rw {σ α : Nat → Nat → Int} {κ : Nat → Option Nat} {ρ : Nat} (h : qI σ α κ ρ) (a : Nat) (g : Nat → Int) (hsp : [65, 71, 74, 77, 78, 91, 94, 95, 96].contains a = false) (hg : ∀ j, j < (qI_rr a).1 → (qI_rr a).2.1 ≤ g j ∧ g j ≤ (qI_rr a).2.2) : qI σ (qw_r α a g) κ ρ := by
  refine ⟨h.1, fun a' j hj => ?_, h.2.2.1, qIx_r h.2.2.2 a _ hsp⟩
  by_cases h1 : a' = a
  · subst h1
    rw [qw_r_eq]
    exact hg j hj
  · rw [qw_r_ne h1]
    exact h.2.1 a' j hj
theorem qI_sw {σ α : Nat → Nat → Int} {κ : Nat → Option Nat} {ρ : Nat} (h : qI σ α κ ρ) (i x : Nat) (hx : x = 50 ∨ x = 54 ∨ x = 82) : qI σ α (va_up κ i (some ρ)) x := by
  refine ⟨h.1, h.2.1, ⟨?_, ?_, hx⟩, h.2.2.2⟩
  · by_cases e : 0 = i
    · exact ⟨ρ, if_pos e, h.2.2.1.2.2⟩
    · obtain ⟨y, h1, h2⟩ := h.2.2.1.1
      exact ⟨y, (if_neg e).trans h1, h2⟩
  · by_cases e : 1 = i
    · exact ⟨ρ, if_pos e, h.2.2.1.2.2⟩
    · obtain ⟨y, h1, h2⟩ := h.2.2.1.2.1
      exact ⟨y, (if_neg e).trans h1, h2⟩
set_option maxHeartbeats 4000000 in
set_option maxRecDepth 20000 in
theorem sf_18_50 {L : Nat} {xs : Nat → Int} {vb : Bool} {d : Nat} {σ α : Nat → Nat → Int} {κ : Nat → Option Nat} {ρ : Nat} (hI : qI σ α κ ρ) : qm_T (qe L xs vb) (d + 56) 18 [.ref 50] (qw σ α κ ρ) (fun r w' => ∃ σ' α', w' = qw σ' α' κ ρ ∧ qI σ' α' κ ρ ∧ qFr [(50, 4), (50, 5), (50, 6), (50, 7)] [52] σ α σ' α' ∧ ∃ v : Int, r = some (.int (qz v)) ∧ (-1 ≤ v ∧ v ≤ 120)) := by
  have e : qw σ α κ ρ = qc (qw σ α κ ρ) 50 (σ 50 3) (σ 50 4) (σ 50 5) (σ 50 6) (σ 50 7) (fun j => (qz (α 51 j)).toInt) (α 52) := by
    unfold qc
    rw [← qzf_can (α 51)]
    rfl
  have hl : 0 ≤ σ 50 3 ∧ σ 50 3 ≤ 120 := hI.1 50 3
  rw [e]
  refine qr_mono (sp_lines2 (a := 50) ⟨by decide, Nat.le_of_ble_eq_true rfl⟩ (fun j => qz_rng _) hl) ?_
  rintro r w' ⟨v, at2, sz2, nm2, sk2, cd2, rfl, rfl, h1⟩
  refine ⟨qw_s (qw_s (qw_s (qw_s σ 50 4 at2) 50 5 sz2) 50 6 nm2) 50 7 sk2, qw_r α 52 (fun j => (qz (cd2 j)).toInt), ?_, ?_, ?_, v, rfl, by omega⟩
  · unfold qc
    rw [← qzf_can (α 51), qzf_can cd2]
    rfl
  · refine qI_rw ?_ 52 _ rfl (fun j _ => qz_rng _)
    refine qI_s ?_ 50 7 rfl (show 0 ≤ sk2 ∧ sk2 ≤ 1 by omega)
    refine qI_s ?_ 50 6 rfl (show -2147483648 ≤ nm2 ∧ nm2 ≤ 2147483647 by omega)
    refine qI_s ?_ 50 5 rfl (show 0 ≤ sz2 ∧ sz2 ≤ 122 by omega)
    exact qI_s hI 50 4 rfl (show 0 ≤ at2 ∧ at2 ≤ 120 by omega)
  · refine qFr_r ?_ 52 _ (by decide)
    refine qFr_s ?_ 50 7 _ (by decide)
    refine qFr_s ?_ 50 6 _ (by decide)
    refine qFr_s ?_ 50 5 _ (by decide)
    exact qFr_s (qFr_rf _ _ _ _) 50 4 _ (by decide)
set_option maxHeartbeats 4000000 in
set_option maxRecDepth 20000 in
theorem sf_18_54 {L : Nat} {xs : Nat → Int} {vb : Bool} {d : Nat} {σ α : Nat → Nat → Int} {κ : Nat → Option Nat} {ρ : Nat} (hI : qI σ α κ ρ) : qm_T (qe L xs vb) (d + 56) 18 [.ref 54] (qw σ α κ ρ) (fun r w' => ∃ σ' α', w' = qw σ' α' κ ρ ∧ qI σ' α' κ ρ ∧ qFr [(54, 4), (54, 5), (54, 6), (54, 7)] [56] σ α σ' α' ∧ ∃ v : Int, r = some (.int (qz v)) ∧ (-1 ≤ v ∧ v ≤ 120)) := by
  have e : qw σ α κ ρ = qc (qw σ α κ ρ) 54 (σ 54 3) (σ 54 4) (σ 54 5) (σ 54 6) (σ 54 7) (fun j => (qz (α 55 j)).toInt) (α 56) := by
    unfold qc
    rw [← qzf_can (α 55)]
    rfl
  have hl : 0 ≤ σ 54 3 ∧ σ 54 3 ≤ 120 := hI.1 54 3
  rw [e]
  refine qr_mono (sp_lines2 (a := 54) ⟨by decide, Nat.le_of_ble_eq_true rfl⟩ (fun j => qz_rng _) hl) ?_
  rintro r w' ⟨v, at2, sz2, nm2, sk2, cd2, rfl, rfl, h1⟩
  refine ⟨qw_s (qw_s (qw_s (qw_s σ 54 4 at2) 54 5 sz2) 54 6 nm2) 54 7 sk2, qw_r α 56 (fun j => (qz (cd2 j)).toInt), ?_, ?_, ?_, v, rfl, by omega⟩
  · unfold qc
    rw [← qzf_can (α 55), qzf_can cd2]
    rfl
  · refine qI_rw ?_ 56 _ rfl (fun j _ => qz_rng _)
    refine qI_s ?_ 54 7 rfl (show 0 ≤ sk2 ∧ sk2 ≤ 1 by omega)
    refine qI_s ?_ 54 6 rfl (show -2147483648 ≤ nm2 ∧ nm2 ≤ 2147483647 by omega)
    refine qI_s ?_ 54 5 rfl (show 0 ≤ sz2 ∧ sz2 ≤ 122 by omega)
    exact qI_s hI 54 4 rfl (show 0 ≤ at2 ∧ at2 ≤ 120 by omega)
  · refine qFr_r ?_ 56 _ (by decide)
    refine qFr_s ?_ 54 7 _ (by decide)
    refine qFr_s ?_ 54 6 _ (by decide)
    refine qFr_s ?_ 54 5 _ (by decide)
    exact qFr_s (qFr_rf _ _ _ _) 54 4 _ (by decide)
set_option maxHeartbeats 4000000 in
set_option maxRecDepth 20000 in
theorem sf_18_82 {L : Nat} {xs : Nat → Int} {vb : Bool} {d : Nat} {σ α : Nat → Nat → Int} {κ : Nat → Option Nat} {ρ : Nat} (hI : qI σ α κ ρ) : qm_T (qe L xs vb) (d + 56) 18 [.ref 82] (qw σ α κ ρ) (fun r w' => ∃ σ' α', w' = qw σ' α' κ ρ ∧ qI σ' α' κ ρ ∧ qFr [(82, 4), (82, 5), (82, 6), (82, 7)] [84] σ α σ' α' ∧ ∃ v : Int, r = some (.int (qz v)) ∧ (-1 ≤ v ∧ v ≤ 120)) := by
  have e : qw σ α κ ρ = qc (qw σ α κ ρ) 82 (σ 82 3) (σ 82 4) (σ 82 5) (σ 82 6) (σ 82 7) (fun j => (qz (α 83 j)).toInt) (α 84) := by
    unfold qc
    rw [← qzf_can (α 83)]
    rfl
  have hl : 0 ≤ σ 82 3 ∧ σ 82 3 ≤ 120 := hI.1 82 3
  rw [e]
  refine qr_mono (sp_lines2 (a := 82) ⟨by decide, Nat.le_of_ble_eq_true rfl⟩ (fun j => qz_rng _) hl) ?_
  rintro r w' ⟨v, at2, sz2, nm2, sk2, cd2, rfl, rfl, h1⟩
  refine ⟨qw_s (qw_s (qw_s (qw_s σ 82 4 at2) 82 5 sz2) 82 6 nm2) 82 7 sk2, qw_r α 84 (fun j => (qz (cd2 j)).toInt), ?_, ?_, ?_, v, rfl, by omega⟩
  · unfold qc
    rw [← qzf_can (α 83), qzf_can cd2]
    rfl
  · refine qI_rw ?_ 84 _ rfl (fun j _ => qz_rng _)
    refine qI_s ?_ 82 7 rfl (show 0 ≤ sk2 ∧ sk2 ≤ 1 by omega)
    refine qI_s ?_ 82 6 rfl (show -2147483648 ≤ nm2 ∧ nm2 ≤ 2147483647 by omega)
    refine qI_s ?_ 82 5 rfl (show 0 ≤ sz2 ∧ sz2 ≤ 122 by omega)
    exact qI_s hI 82 4 rfl (show 0 ≤ at2 ∧ at2 ≤ 120 by omega)
  · refine qFr_r ?_ 84 _ (by decide)
    refine qFr_s ?_ 82 7 _ (by decide)
    refine qFr_s ?_ 82 6 _ (by decide)
    refine qFr_s ?_ 82 5 _ (by decide)
    exact qFr_s (qFr_rf _ _ _ _) 82 4 _ (by decide)

set_option maxHeartbeats 4000000 in
set_option maxRecDepth 20000 in
/-- OneRoof$Custom.read -/
theorem sf_86_50_81 {L : Nat} {xs : Nat → Int} {vb : Bool} {d : Nat} {σ α : Nat → Nat → Int} {κ : Nat → Option Nat} {ρ : Nat} {x2 : Int} (hI : qI σ α κ ρ) (r2 : 0 ≤ x2 ∧ x2 ≤ 120) : qm_T (qe L xs vb) (d + 57) 86 [.ref 50, .ref 81, .int (qz x2)] (qw σ α κ ρ) (fun r w' => ∃ σ' α', w' = qw σ' α' κ ρ ∧ qI σ' α' κ ρ ∧ qFr [(50, 3), (50, 4), (50, 5), (50, 6), (50, 7)] [51, 52] σ α σ' α' ∧ ∃ v : Int, r = some (.int (qz v)) ∧ ((-1) ≤ v ∧ v ≤ 120)) := by
  refine qr_start (d := d + 56) qv_e86 (Nat.le_of_ble_eq_true rfl) ?_
  show qr_W (qe L xs vb) (d + 56) qx_e86 _ (0, [(0, .ref 50), (1, .ref 81), (2, .int (qz x2))], [], _, 0, 0)
  have hF0 := qFr_rf [(50, 3), (50, 4), (50, 5), (50, 6), (50, 7)] [51, 52] σ α
  refine qr_aload_n 1 rfl rfl rfl ?_
  refine qr_iload_n 2 rfl rfl rfl ?_
  refine qr_aload_n 3 rfl rfl rfl ?_
  refine qr_alen 4 rfl rfl (by first | exact Or.inl (by decide) | exact Or.inr (Or.inl rfl) | exact Or.inr (Or.inr (Or.inl rfl)) | exact Or.inr (Or.inr (Or.inr (Or.inl rfl)))) rfl ?_
  refine qy_v 120 rfl ?_
  refine qr_callN 7 rfl rfl rfl (sf_12 (d := d + 55) hI (qrg r2 (by decide) (by decide)) (by decide)) ?_
  rintro _ _ ⟨rfl, v1, rfl, hv1, hp2⟩
  show qr_W (qe L xs vb) (d + 56) qx_e86 _ (7, _, [.int (qz v1), .ref 50], qw σ α κ ρ, 0, 0)
  refine qr_aload_n 8 rfl rfl rfl ?_
  refine qr_get 11 rfl rfl rfl (by decide) rfl ?_
  refine qr_alen 12 rfl rfl (by first | exact Or.inl (by decide) | exact Or.inr (Or.inl rfl) | exact Or.inr (Or.inr (Or.inl rfl)) | exact Or.inr (Or.inr (Or.inr (Or.inl rfl)))) rfl ?_
  refine qy_v 120 rfl ?_
  refine qr_callN 15 rfl rfl rfl (sf_12 (d := d + 55) hI hv1 (by decide)) ?_
  rintro _ _ ⟨rfl, v3, rfl, hv3, hp4⟩
  show qr_W (qe L xs vb) (d + 56) qx_e86 _ (15, _, [.int (qz v3), .ref 50], qw σ α κ ρ, 0, 0)
  refine qr_put 18 rfl (by decide) rfl (Nat.le_of_ble_eq_true rfl) (Nat.le_of_ble_eq_true rfl) (Or.inl rfl) (qr_fitI rfl _) rfl ?_
  refine qy_wS (qw_s σ 50 3 v3) rfl (fun σ5 e6 => ?_)
  have hI7 : qI σ5 α κ ρ := by rw [e6]; exact qI_s hI 50 3 rfl (show 0 ≤ v3 ∧ v3 ≤ 120 by omega)
  have hF8 : qFr [(50, 3), (50, 4), (50, 5), (50, 6), (50, 7)] [51, 52] σ α σ5 α := by rw [e6]; exact qFr_s hF0 50 3 _ (by decide)
  refine qr_aload_n 19 rfl rfl rfl ?_
  refine qr_iconst 20 rfl rfl ?_
  refine qr_aload_n 21 rfl rfl rfl ?_
  refine qr_get 24 rfl rfl rfl (by decide) rfl ?_
  refine qr_iconst 25 rfl rfl ?_
  refine qr_aload_n 26 rfl rfl rfl ?_
  refine qr_get 29 rfl rfl rfl (by decide) rfl ?_
  refine qy_v v3 ((congrFun (congrFun e6 50) 3).trans rfl) ?_
  refine qy_copyi 32 rfl (by decide) (by decide) rfl rfl (by omega) (by omega) (by omega) (by omega) (by omega) (by decide) (by decide) rfl ?_
  refine qy_wA (qw_r α 51 (va_cpy (α 81) (α 51) (0 : Int).toNat (0 : Int).toNat (v3 : Int).toNat)) rfl (fun α9 e10 => ?_)
  have hI11 : qI σ5 α9 κ ρ := by rw [e10]; exact qI_cpy hI7 81 51 rfl rfl (show _ ≤ 120 by omega)
  have hF12 : qFr [(50, 3), (50, 4), (50, 5), (50, 6), (50, 7)] [51, 52] σ α σ5 α9 := by rw [e10]; exact qFr_r hF8 51 _ (by decide)
  refine qr_aload_n 33 rfl rfl rfl ?_
  refine qr_callN 36 rfl rfl rfl (sf_18_50 (d := d + 0) hI11 ) ?_
  rintro _ _ ⟨σ14, α15, rfl, hI16, hG17, v13, rfl, hv13⟩
  have hF18 : qFr [(50, 3), (50, 4), (50, 5), (50, 6), (50, 7)] [51, 52] σ α σ14 α15 := qFr_t hF12 hG17 (by decide) (by decide)
  show qr_W (qe L xs vb) (d + 56) qx_e86 _ (36, _, [.int (qz v13)], qw σ14 α15 κ ρ, 0, 0)
  refine qr_retI rfl rfl (by decide) (by decide) ?_
  exact ⟨_, _, rfl, hI16, hF18, v13, rfl, hv13⟩

set_option maxHeartbeats 4000000 in
set_option maxRecDepth 20000 in
/-- OneRoof$Custom.read -/
theorem sf_86_54_81 {L : Nat} {xs : Nat → Int} {vb : Bool} {d : Nat} {σ α : Nat → Nat → Int} {κ : Nat → Option Nat} {ρ : Nat} {x2 : Int} (hI : qI σ α κ ρ) (r2 : 0 ≤ x2 ∧ x2 ≤ 120) : qm_T (qe L xs vb) (d + 57) 86 [.ref 54, .ref 81, .int (qz x2)] (qw σ α κ ρ) (fun r w' => ∃ σ' α', w' = qw σ' α' κ ρ ∧ qI σ' α' κ ρ ∧ qFr [(54, 3), (54, 4), (54, 5), (54, 6), (54, 7)] [55, 56] σ α σ' α' ∧ ∃ v : Int, r = some (.int (qz v)) ∧ ((-1) ≤ v ∧ v ≤ 120)) := by
  refine qr_start (d := d + 56) qv_e86 (Nat.le_of_ble_eq_true rfl) ?_
  show qr_W (qe L xs vb) (d + 56) qx_e86 _ (0, [(0, .ref 54), (1, .ref 81), (2, .int (qz x2))], [], _, 0, 0)
  have hF0 := qFr_rf [(54, 3), (54, 4), (54, 5), (54, 6), (54, 7)] [55, 56] σ α
  refine qr_aload_n 1 rfl rfl rfl ?_
  refine qr_iload_n 2 rfl rfl rfl ?_
  refine qr_aload_n 3 rfl rfl rfl ?_
  refine qr_alen 4 rfl rfl (by first | exact Or.inl (by decide) | exact Or.inr (Or.inl rfl) | exact Or.inr (Or.inr (Or.inl rfl)) | exact Or.inr (Or.inr (Or.inr (Or.inl rfl)))) rfl ?_
  refine qy_v 120 rfl ?_
  refine qr_callN 7 rfl rfl rfl (sf_12 (d := d + 55) hI (qrg r2 (by decide) (by decide)) (by decide)) ?_
  rintro _ _ ⟨rfl, v1, rfl, hv1, hp2⟩
  show qr_W (qe L xs vb) (d + 56) qx_e86 _ (7, _, [.int (qz v1), .ref 54], qw σ α κ ρ, 0, 0)
  refine qr_aload_n 8 rfl rfl rfl ?_
  refine qr_get 11 rfl rfl rfl (by decide) rfl ?_
  refine qr_alen 12 rfl rfl (by first | exact Or.inl (by decide) | exact Or.inr (Or.inl rfl) | exact Or.inr (Or.inr (Or.inl rfl)) | exact Or.inr (Or.inr (Or.inr (Or.inl rfl)))) rfl ?_
  refine qy_v 120 rfl ?_
  refine qr_callN 15 rfl rfl rfl (sf_12 (d := d + 55) hI hv1 (by decide)) ?_
  rintro _ _ ⟨rfl, v3, rfl, hv3, hp4⟩
  show qr_W (qe L xs vb) (d + 56) qx_e86 _ (15, _, [.int (qz v3), .ref 54], qw σ α κ ρ, 0, 0)
  refine qr_put 18 rfl (by decide) rfl (Nat.le_of_ble_eq_true rfl) (Nat.le_of_ble_eq_true rfl) (Or.inl rfl) (qr_fitI rfl _) rfl ?_
  refine qy_wS (qw_s σ 54 3 v3) rfl (fun σ5 e6 => ?_)
  have hI7 : qI σ5 α κ ρ := by rw [e6]; exact qI_s hI 54 3 rfl (show 0 ≤ v3 ∧ v3 ≤ 120 by omega)
  have hF8 : qFr [(54, 3), (54, 4), (54, 5), (54, 6), (54, 7)] [55, 56] σ α σ5 α := by rw [e6]; exact qFr_s hF0 54 3 _ (by decide)
  refine qr_aload_n 19 rfl rfl rfl ?_
  refine qr_iconst 20 rfl rfl ?_
  refine qr_aload_n 21 rfl rfl rfl ?_
  refine qr_get 24 rfl rfl rfl (by decide) rfl ?_
  refine qr_iconst 25 rfl rfl ?_
  refine qr_aload_n 26 rfl rfl rfl ?_
  refine qr_get 29 rfl rfl rfl (by decide) rfl ?_
  refine qy_v v3 ((congrFun (congrFun e6 54) 3).trans rfl) ?_
  refine qy_copyi 32 rfl (by decide) (by decide) rfl rfl (by omega) (by omega) (by omega) (by omega) (by omega) (by decide) (by decide) rfl ?_
  refine qy_wA (qw_r α 55 (va_cpy (α 81) (α 55) (0 : Int).toNat (0 : Int).toNat (v3 : Int).toNat)) rfl (fun α9 e10 => ?_)
  have hI11 : qI σ5 α9 κ ρ := by rw [e10]; exact qI_cpy hI7 81 55 rfl rfl (show _ ≤ 120 by omega)
  have hF12 : qFr [(54, 3), (54, 4), (54, 5), (54, 6), (54, 7)] [55, 56] σ α σ5 α9 := by rw [e10]; exact qFr_r hF8 55 _ (by decide)
  refine qr_aload_n 33 rfl rfl rfl ?_
  refine qr_callN 36 rfl rfl rfl (sf_18_54 (d := d + 0) hI11 ) ?_
  rintro _ _ ⟨σ14, α15, rfl, hI16, hG17, v13, rfl, hv13⟩
  have hF18 : qFr [(54, 3), (54, 4), (54, 5), (54, 6), (54, 7)] [55, 56] σ α σ14 α15 := qFr_t hF12 hG17 (by decide) (by decide)
  show qr_W (qe L xs vb) (d + 56) qx_e86 _ (36, _, [.int (qz v13)], qw σ14 α15 κ ρ, 0, 0)
  refine qr_retI rfl rfl (by decide) (by decide) ?_
  exact ⟨_, _, rfl, hI16, hF18, v13, rfl, hv13⟩

set_option maxHeartbeats 4000000 in
set_option maxRecDepth 20000 in
/-- OneRoof$Custom.read -/
theorem sf_86_82_81 {L : Nat} {xs : Nat → Int} {vb : Bool} {d : Nat} {σ α : Nat → Nat → Int} {κ : Nat → Option Nat} {ρ : Nat} {x2 : Int} (hI : qI σ α κ ρ) (r2 : 0 ≤ x2 ∧ x2 ≤ 120) : qm_T (qe L xs vb) (d + 57) 86 [.ref 82, .ref 81, .int (qz x2)] (qw σ α κ ρ) (fun r w' => ∃ σ' α', w' = qw σ' α' κ ρ ∧ qI σ' α' κ ρ ∧ qFr [(82, 3), (82, 4), (82, 5), (82, 6), (82, 7)] [83, 84] σ α σ' α' ∧ ∃ v : Int, r = some (.int (qz v)) ∧ ((-1) ≤ v ∧ v ≤ 120)) := by
  refine qr_start (d := d + 56) qv_e86 (Nat.le_of_ble_eq_true rfl) ?_
  show qr_W (qe L xs vb) (d + 56) qx_e86 _ (0, [(0, .ref 82), (1, .ref 81), (2, .int (qz x2))], [], _, 0, 0)
  have hF0 := qFr_rf [(82, 3), (82, 4), (82, 5), (82, 6), (82, 7)] [83, 84] σ α
  refine qr_aload_n 1 rfl rfl rfl ?_
  refine qr_iload_n 2 rfl rfl rfl ?_
  refine qr_aload_n 3 rfl rfl rfl ?_
  refine qr_alen 4 rfl rfl (by first | exact Or.inl (by decide) | exact Or.inr (Or.inl rfl) | exact Or.inr (Or.inr (Or.inl rfl)) | exact Or.inr (Or.inr (Or.inr (Or.inl rfl)))) rfl ?_
  refine qy_v 120 rfl ?_
  refine qr_callN 7 rfl rfl rfl (sf_12 (d := d + 55) hI (qrg r2 (by decide) (by decide)) (by decide)) ?_
  rintro _ _ ⟨rfl, v1, rfl, hv1, hp2⟩
  show qr_W (qe L xs vb) (d + 56) qx_e86 _ (7, _, [.int (qz v1), .ref 82], qw σ α κ ρ, 0, 0)
  refine qr_aload_n 8 rfl rfl rfl ?_
  refine qr_get 11 rfl rfl rfl (by decide) rfl ?_
  refine qr_alen 12 rfl rfl (by first | exact Or.inl (by decide) | exact Or.inr (Or.inl rfl) | exact Or.inr (Or.inr (Or.inl rfl)) | exact Or.inr (Or.inr (Or.inr (Or.inl rfl)))) rfl ?_
  refine qy_v 120 rfl ?_
  refine qr_callN 15 rfl rfl rfl (sf_12 (d := d + 55) hI hv1 (by decide)) ?_
  rintro _ _ ⟨rfl, v3, rfl, hv3, hp4⟩
  show qr_W (qe L xs vb) (d + 56) qx_e86 _ (15, _, [.int (qz v3), .ref 82], qw σ α κ ρ, 0, 0)
  refine qr_put 18 rfl (by decide) rfl (Nat.le_of_ble_eq_true rfl) (Nat.le_of_ble_eq_true rfl) (Or.inl rfl) (qr_fitI rfl _) rfl ?_
  refine qy_wS (qw_s σ 82 3 v3) rfl (fun σ5 e6 => ?_)
  have hI7 : qI σ5 α κ ρ := by rw [e6]; exact qI_s hI 82 3 rfl (show 0 ≤ v3 ∧ v3 ≤ 120 by omega)
  have hF8 : qFr [(82, 3), (82, 4), (82, 5), (82, 6), (82, 7)] [83, 84] σ α σ5 α := by rw [e6]; exact qFr_s hF0 82 3 _ (by decide)
  refine qr_aload_n 19 rfl rfl rfl ?_
  refine qr_iconst 20 rfl rfl ?_
  refine qr_aload_n 21 rfl rfl rfl ?_
  refine qr_get 24 rfl rfl rfl (by decide) rfl ?_
  refine qr_iconst 25 rfl rfl ?_
  refine qr_aload_n 26 rfl rfl rfl ?_
  refine qr_get 29 rfl rfl rfl (by decide) rfl ?_
  refine qy_v v3 ((congrFun (congrFun e6 82) 3).trans rfl) ?_
  refine qy_copyi 32 rfl (by decide) (by decide) rfl rfl (by omega) (by omega) (by omega) (by omega) (by omega) (by decide) (by decide) rfl ?_
  refine qy_wA (qw_r α 83 (va_cpy (α 81) (α 83) (0 : Int).toNat (0 : Int).toNat (v3 : Int).toNat)) rfl (fun α9 e10 => ?_)
  have hI11 : qI σ5 α9 κ ρ := by rw [e10]; exact qI_cpy hI7 81 83 rfl rfl (show _ ≤ 120 by omega)
  have hF12 : qFr [(82, 3), (82, 4), (82, 5), (82, 6), (82, 7)] [83, 84] σ α σ5 α9 := by rw [e10]; exact qFr_r hF8 83 _ (by decide)
  refine qr_aload_n 33 rfl rfl rfl ?_
  refine qr_callN 36 rfl rfl rfl (sf_18_82 (d := d + 0) hI11 ) ?_
  rintro _ _ ⟨σ14, α15, rfl, hI16, hG17, v13, rfl, hv13⟩
  have hF18 : qFr [(82, 3), (82, 4), (82, 5), (82, 6), (82, 7)] [83, 84] σ α σ14 α15 := qFr_t hF12 hG17 (by decide) (by decide)
  show qr_W (qe L xs vb) (d + 56) qx_e86 _ (36, _, [.int (qz v13)], qw σ14 α15 κ ρ, 0, 0)
  refine qr_retI rfl rfl (by decide) (by decide) ?_
  exact ⟨_, _, rfl, hI16, hF18, v13, rfl, hv13⟩

set_option maxHeartbeats 4000000 in
set_option maxRecDepth 20000 in
/-- OneRoof.custom -/
theorem sf_85_16q50 {L : Nat} {xs : Nat → Int} {vb : Bool} {d : Nat} {σ α : Nat → Nat → Int} {κ : Nat → Option Nat} {x1 : Int} (hI : qI σ α κ 50) (r1 : (-2147483648) ≤ x1 ∧ x1 ≤ 2147483647) : qm_T (qe L xs vb) (d + 58) 85 [.ref 16, .int (qz x1)] (qw σ α κ 50) (fun r w' => ∃ σ' α' κ' ρ', w' = qw σ' α' κ' ρ' ∧ qI σ' α' κ' ρ' ∧ qFr [(16, 15), (50, 3), (50, 4), (50, 5), (50, 6), (50, 7), (54, 3), (54, 4), (54, 5), (54, 6), (54, 7), (82, 3), (82, 4), (82, 5), (82, 6), (82, 7)] [51, 52, 55, 56, 83, 84] σ α σ' α' ∧ ∃ v : Int, r = some (.int (qz v)) ∧ (-2147483648 ≤ v ∧ v ≤ 2147483647) ∧ (((x1 = 0 ∨ x1 = 1) ∧ σ' 16 15 = 0) ∨ (¬ (x1 = 0 ∨ x1 = 1) ∧ σ' 16 15 = σ 16 15))) := by
  refine qr_start (d := d + 57) qv_e85 (Nat.le_of_ble_eq_true rfl) ?_
  show qr_W (qe L xs vb) (d + 57) qx_e85 _ (0, [(0, .ref 16), (1, .int (qz x1))], [], _, 0, 0)
  have hF0 := qFr_rf [(16, 15), (50, 3), (50, 4), (50, 5), (50, 6), (50, 7), (54, 3), (54, 4), (54, 5), (54, 6), (54, 7), (82, 3), (82, 4), (82, 5), (82, 6), (82, 7)] [51, 52, 55, 56, 83, 84] σ α
  have hz16_15 : 0 ≤ σ 16 15 ∧ σ 16 15 ≤ 120 := hI.1 16 15
  refine qr_iload_n 1 rfl rfl rfl ?_
  refine qr_if_eq 11 4 rfl rfl rfl r1 (fun h1 => ?_) (fun h1 => ?_)
  · skip
    refine qr_aload_n 12 rfl rfl rfl ?_
    refine qr_get 15 rfl rfl rfl (by decide) rfl ?_
    refine qr_aload_n 16 rfl rfl rfl ?_
    refine qr_get 19 rfl rfl rfl (by decide) rfl ?_
    refine qr_aload_n 20 rfl rfl rfl ?_
    refine qr_get 23 rfl rfl rfl (by decide) rfl ?_
    refine qr_callN 26 rfl rfl rfl (sf_86_50_81 (d := d + 0) hI hz16_15) ?_
    rintro _ _ ⟨σ3, α4, rfl, hI5, hG6, v2, rfl, hv2⟩
    have hF7 : qFr [(16, 15), (50, 3), (50, 4), (50, 5), (50, 6), (50, 7), (54, 3), (54, 4), (54, 5), (54, 6), (54, 7), (82, 3), (82, 4), (82, 5), (82, 6), (82, 7)] [51, 52, 55, 56, 83, 84] σ α σ3 α4 := qFr_t hF0 hG6 (by decide) (by decide)
    show qr_W (qe L xs vb) (d + 57) qx_e85 _ (26, _, [.int (qz v2)], qw σ3 α4 κ 50, 0, 0)
    refine qr_istore_n _ 27 rfl (by decide) rfl rfl ?_
    refine qr_aload_n 28 rfl rfl rfl ?_
    refine qr_iconst 29 rfl rfl ?_
    refine qr_put 32 rfl (by decide) rfl (Nat.le_of_ble_eq_true rfl) (Nat.le_of_ble_eq_true rfl) (Or.inl rfl) (qr_fitI rfl _) rfl ?_
    refine qy_wS (qw_s σ3 16 15 0) rfl (fun σ8 e9 => ?_)
    have hI10 : qI σ8 α4 κ 50 := by rw [e9]; exact qI_s hI5 16 15 rfl (show 0 ≤ 0 ∧ 0 ≤ 120 by omega)
    have hF11 : qFr [(16, 15), (50, 3), (50, 4), (50, 5), (50, 6), (50, 7), (54, 3), (54, 4), (54, 5), (54, 6), (54, 7), (82, 3), (82, 4), (82, 5), (82, 6), (82, 7)] [51, 52, 55, 56, 83, 84] σ α σ8 α4 := by rw [e9]; exact qFr_s hF7 16 15 _ (by decide)
    refine qr_iload_n 33 rfl rfl rfl ?_
    refine qr_if_lt 41 36 rfl rfl rfl (qrg hv2 (by decide) (by decide)) (fun h12 => ?_) (fun h12 => ?_)
    · skip
      refine qr_aload_n 42 rfl rfl rfl ?_
      refine qr_get 45 rfl rfl rfl (by decide) rfl ?_
      refine qr_iload_n 46 rfl rfl rfl ?_
      obtain ⟨c13, hc14, hq15⟩ := qI_k hI10 (y := x1) (by omega)
      refine qr_aaload 47 rfl (by decide) rfl (by omega) (by decide) hc14 rfl ?_
      rcases hq15 with rfl | rfl | rfl
      · skip
        refine qr_astore_n _ 48 rfl (by decide) rfl rfl ?_
        refine qr_aload_n 49 rfl rfl rfl ?_
        refine qr_get 52 rfl rfl rfl (by decide) rfl ?_
        refine qr_iload_n 53 rfl rfl rfl ?_
        refine qr_aload_n 54 rfl rfl rfl ?_
        refine qr_get 57 rfl rfl rfl (by decide) rfl ?_
        refine qr_aastore 58 rfl (by decide) (by decide) rfl rfl (by omega) (by decide) rfl ?_
        show qr_W (qe L xs vb) (d + 57) qx_e85 _ (58, _, [], qw σ8 α4 (va_up κ (x1 : Int).toNat (some 50)) 50, 0, 0)
        refine qr_aload_n 59 rfl rfl rfl ?_
        refine qr_aload_n 60 rfl rfl rfl ?_
        refine qr_put 63 rfl (by decide) rfl (Nat.le_of_ble_eq_true rfl) (Nat.le_of_ble_eq_true rfl) (Or.inl rfl) (qr_fitR (Or.inl ⟨_, rfl⟩) _) rfl ?_
        show qr_W (qe L xs vb) (d + 57) qx_e85 _ (63, _, [], qw σ8 α4 (va_up κ (x1 : Int).toNat (some 50)) 50, 0, 0)
        refine qr_iconst 64 rfl rfl ?_
        have hw16 : σ8 16 15 = 0 := (congrFun (congrFun e9 16) 15).trans rfl
        refine qr_retI rfl rfl (by decide) (by decide) ?_
        exact ⟨_, _, _, _, rfl, qI_sw hI10 (x1 : Int).toNat 50 (Or.inl rfl), hF11, 1, rfl, by omega, by omega⟩
      · skip
        refine qr_astore_n _ 48 rfl (by decide) rfl rfl ?_
        refine qr_aload_n 49 rfl rfl rfl ?_
        refine qr_get 52 rfl rfl rfl (by decide) rfl ?_
        refine qr_iload_n 53 rfl rfl rfl ?_
        refine qr_aload_n 54 rfl rfl rfl ?_
        refine qr_get 57 rfl rfl rfl (by decide) rfl ?_
        refine qr_aastore 58 rfl (by decide) (by decide) rfl rfl (by omega) (by decide) rfl ?_
        show qr_W (qe L xs vb) (d + 57) qx_e85 _ (58, _, [], qw σ8 α4 (va_up κ (x1 : Int).toNat (some 50)) 50, 0, 0)
        refine qr_aload_n 59 rfl rfl rfl ?_
        refine qr_aload_n 60 rfl rfl rfl ?_
        refine qr_put 63 rfl (by decide) rfl (Nat.le_of_ble_eq_true rfl) (Nat.le_of_ble_eq_true rfl) (Or.inl rfl) (qr_fitR (Or.inl ⟨_, rfl⟩) _) rfl ?_
        show qr_W (qe L xs vb) (d + 57) qx_e85 _ (63, _, [], qw σ8 α4 (va_up κ (x1 : Int).toNat (some 50)) 54, 0, 0)
        refine qr_iconst 64 rfl rfl ?_
        have hw17 : σ8 16 15 = 0 := (congrFun (congrFun e9 16) 15).trans rfl
        refine qr_retI rfl rfl (by decide) (by decide) ?_
        exact ⟨_, _, _, _, rfl, qI_sw hI10 (x1 : Int).toNat 54 (Or.inr (Or.inl rfl)), hF11, 1, rfl, by omega, by omega⟩
      · skip
        refine qr_astore_n _ 48 rfl (by decide) rfl rfl ?_
        refine qr_aload_n 49 rfl rfl rfl ?_
        refine qr_get 52 rfl rfl rfl (by decide) rfl ?_
        refine qr_iload_n 53 rfl rfl rfl ?_
        refine qr_aload_n 54 rfl rfl rfl ?_
        refine qr_get 57 rfl rfl rfl (by decide) rfl ?_
        refine qr_aastore 58 rfl (by decide) (by decide) rfl rfl (by omega) (by decide) rfl ?_
        show qr_W (qe L xs vb) (d + 57) qx_e85 _ (58, _, [], qw σ8 α4 (va_up κ (x1 : Int).toNat (some 50)) 50, 0, 0)
        refine qr_aload_n 59 rfl rfl rfl ?_
        refine qr_aload_n 60 rfl rfl rfl ?_
        refine qr_put 63 rfl (by decide) rfl (Nat.le_of_ble_eq_true rfl) (Nat.le_of_ble_eq_true rfl) (Or.inl rfl) (qr_fitR (Or.inl ⟨_, rfl⟩) _) rfl ?_
        show qr_W (qe L xs vb) (d + 57) qx_e85 _ (63, _, [], qw σ8 α4 (va_up κ (x1 : Int).toNat (some 50)) 82, 0, 0)
        refine qr_iconst 64 rfl rfl ?_
        have hw18 : σ8 16 15 = 0 := (congrFun (congrFun e9 16) 15).trans rfl
        refine qr_retI rfl rfl (by decide) (by decide) ?_
        exact ⟨_, _, _, _, rfl, qI_sw hI10 (x1 : Int).toNat 82 (Or.inr (Or.inr rfl)), hF11, 1, rfl, by omega, by omega⟩
    · skip
      refine qr_bipush 38 rfl (by decide) rfl ?_
      refine qr_iload_n 39 rfl rfl rfl ?_
      refine qr_isub 40 rfl rfl ?_
      have hw19 : σ8 16 15 = 0 := (congrFun (congrFun e9 16) 15).trans rfl
      refine qr_retI rfl rfl (by decide) (by decide) ?_
      exact ⟨_, _, _, _, rfl, hI10, hF11, ((-100) - v2), rfl, by omega, by omega⟩
  · skip
    refine qr_iload_n 5 rfl rfl rfl ?_
    refine qr_iconst 6 rfl rfl ?_
    refine qr_icmp_eq 11 9 rfl rfl rfl r1 (by decide) (fun h20 => ?_) (fun h20 => ?_)
    · skip
      refine qr_aload_n 12 rfl rfl rfl ?_
      refine qr_get 15 rfl rfl rfl (by decide) rfl ?_
      refine qr_aload_n 16 rfl rfl rfl ?_
      refine qr_get 19 rfl rfl rfl (by decide) rfl ?_
      refine qr_aload_n 20 rfl rfl rfl ?_
      refine qr_get 23 rfl rfl rfl (by decide) rfl ?_
      refine qr_callN 26 rfl rfl rfl (sf_86_50_81 (d := d + 0) hI hz16_15) ?_
      rintro _ _ ⟨σ22, α23, rfl, hI24, hG25, v21, rfl, hv21⟩
      have hF26 : qFr [(16, 15), (50, 3), (50, 4), (50, 5), (50, 6), (50, 7), (54, 3), (54, 4), (54, 5), (54, 6), (54, 7), (82, 3), (82, 4), (82, 5), (82, 6), (82, 7)] [51, 52, 55, 56, 83, 84] σ α σ22 α23 := qFr_t hF0 hG25 (by decide) (by decide)
      show qr_W (qe L xs vb) (d + 57) qx_e85 _ (26, _, [.int (qz v21)], qw σ22 α23 κ 50, 0, 0)
      refine qr_istore_n _ 27 rfl (by decide) rfl rfl ?_
      refine qr_aload_n 28 rfl rfl rfl ?_
      refine qr_iconst 29 rfl rfl ?_
      refine qr_put 32 rfl (by decide) rfl (Nat.le_of_ble_eq_true rfl) (Nat.le_of_ble_eq_true rfl) (Or.inl rfl) (qr_fitI rfl _) rfl ?_
      refine qy_wS (qw_s σ22 16 15 0) rfl (fun σ27 e28 => ?_)
      have hI29 : qI σ27 α23 κ 50 := by rw [e28]; exact qI_s hI24 16 15 rfl (show 0 ≤ 0 ∧ 0 ≤ 120 by omega)
      have hF30 : qFr [(16, 15), (50, 3), (50, 4), (50, 5), (50, 6), (50, 7), (54, 3), (54, 4), (54, 5), (54, 6), (54, 7), (82, 3), (82, 4), (82, 5), (82, 6), (82, 7)] [51, 52, 55, 56, 83, 84] σ α σ27 α23 := by rw [e28]; exact qFr_s hF26 16 15 _ (by decide)
      refine qr_iload_n 33 rfl rfl rfl ?_
      refine qr_if_lt 41 36 rfl rfl rfl (qrg hv21 (by decide) (by decide)) (fun h31 => ?_) (fun h31 => ?_)
      · skip
        refine qr_aload_n 42 rfl rfl rfl ?_
        refine qr_get 45 rfl rfl rfl (by decide) rfl ?_
        refine qr_iload_n 46 rfl rfl rfl ?_
        obtain ⟨c32, hc33, hq34⟩ := qI_k hI29 (y := x1) (by omega)
        refine qr_aaload 47 rfl (by decide) rfl (by omega) (by decide) hc33 rfl ?_
        rcases hq34 with rfl | rfl | rfl
        · skip
          refine qr_astore_n _ 48 rfl (by decide) rfl rfl ?_
          refine qr_aload_n 49 rfl rfl rfl ?_
          refine qr_get 52 rfl rfl rfl (by decide) rfl ?_
          refine qr_iload_n 53 rfl rfl rfl ?_
          refine qr_aload_n 54 rfl rfl rfl ?_
          refine qr_get 57 rfl rfl rfl (by decide) rfl ?_
          refine qr_aastore 58 rfl (by decide) (by decide) rfl rfl (by omega) (by decide) rfl ?_
          show qr_W (qe L xs vb) (d + 57) qx_e85 _ (58, _, [], qw σ27 α23 (va_up κ (x1 : Int).toNat (some 50)) 50, 0, 0)
          refine qr_aload_n 59 rfl rfl rfl ?_
          refine qr_aload_n 60 rfl rfl rfl ?_
          refine qr_put 63 rfl (by decide) rfl (Nat.le_of_ble_eq_true rfl) (Nat.le_of_ble_eq_true rfl) (Or.inl rfl) (qr_fitR (Or.inl ⟨_, rfl⟩) _) rfl ?_
          show qr_W (qe L xs vb) (d + 57) qx_e85 _ (63, _, [], qw σ27 α23 (va_up κ (x1 : Int).toNat (some 50)) 50, 0, 0)
          refine qr_iconst 64 rfl rfl ?_
          have hw35 : σ27 16 15 = 0 := (congrFun (congrFun e28 16) 15).trans rfl
          refine qr_retI rfl rfl (by decide) (by decide) ?_
          exact ⟨_, _, _, _, rfl, qI_sw hI29 (x1 : Int).toNat 50 (Or.inl rfl), hF30, 1, rfl, by omega, by omega⟩
        · skip
          refine qr_astore_n _ 48 rfl (by decide) rfl rfl ?_
          refine qr_aload_n 49 rfl rfl rfl ?_
          refine qr_get 52 rfl rfl rfl (by decide) rfl ?_
          refine qr_iload_n 53 rfl rfl rfl ?_
          refine qr_aload_n 54 rfl rfl rfl ?_
          refine qr_get 57 rfl rfl rfl (by decide) rfl ?_
          refine qr_aastore 58 rfl (by decide) (by decide) rfl rfl (by omega) (by decide) rfl ?_
          show qr_W (qe L xs vb) (d + 57) qx_e85 _ (58, _, [], qw σ27 α23 (va_up κ (x1 : Int).toNat (some 50)) 50, 0, 0)
          refine qr_aload_n 59 rfl rfl rfl ?_
          refine qr_aload_n 60 rfl rfl rfl ?_
          refine qr_put 63 rfl (by decide) rfl (Nat.le_of_ble_eq_true rfl) (Nat.le_of_ble_eq_true rfl) (Or.inl rfl) (qr_fitR (Or.inl ⟨_, rfl⟩) _) rfl ?_
          show qr_W (qe L xs vb) (d + 57) qx_e85 _ (63, _, [], qw σ27 α23 (va_up κ (x1 : Int).toNat (some 50)) 54, 0, 0)
          refine qr_iconst 64 rfl rfl ?_
          have hw36 : σ27 16 15 = 0 := (congrFun (congrFun e28 16) 15).trans rfl
          refine qr_retI rfl rfl (by decide) (by decide) ?_
          exact ⟨_, _, _, _, rfl, qI_sw hI29 (x1 : Int).toNat 54 (Or.inr (Or.inl rfl)), hF30, 1, rfl, by omega, by omega⟩
        · skip
          refine qr_astore_n _ 48 rfl (by decide) rfl rfl ?_
          refine qr_aload_n 49 rfl rfl rfl ?_
          refine qr_get 52 rfl rfl rfl (by decide) rfl ?_
          refine qr_iload_n 53 rfl rfl rfl ?_
          refine qr_aload_n 54 rfl rfl rfl ?_
          refine qr_get 57 rfl rfl rfl (by decide) rfl ?_
          refine qr_aastore 58 rfl (by decide) (by decide) rfl rfl (by omega) (by decide) rfl ?_
          show qr_W (qe L xs vb) (d + 57) qx_e85 _ (58, _, [], qw σ27 α23 (va_up κ (x1 : Int).toNat (some 50)) 50, 0, 0)
          refine qr_aload_n 59 rfl rfl rfl ?_
          refine qr_aload_n 60 rfl rfl rfl ?_
          refine qr_put 63 rfl (by decide) rfl (Nat.le_of_ble_eq_true rfl) (Nat.le_of_ble_eq_true rfl) (Or.inl rfl) (qr_fitR (Or.inl ⟨_, rfl⟩) _) rfl ?_
          show qr_W (qe L xs vb) (d + 57) qx_e85 _ (63, _, [], qw σ27 α23 (va_up κ (x1 : Int).toNat (some 50)) 82, 0, 0)
          refine qr_iconst 64 rfl rfl ?_
          have hw37 : σ27 16 15 = 0 := (congrFun (congrFun e28 16) 15).trans rfl
          refine qr_retI rfl rfl (by decide) (by decide) ?_
          exact ⟨_, _, _, _, rfl, qI_sw hI29 (x1 : Int).toNat 82 (Or.inr (Or.inr rfl)), hF30, 1, rfl, by omega, by omega⟩
      · skip
        refine qr_bipush 38 rfl (by decide) rfl ?_
        refine qr_iload_n 39 rfl rfl rfl ?_
        refine qr_isub 40 rfl rfl ?_
        have hw38 : σ27 16 15 = 0 := (congrFun (congrFun e28 16) 15).trans rfl
        refine qr_retI rfl rfl (by decide) (by decide) ?_
        exact ⟨_, _, _, _, rfl, hI29, hF30, ((-100) - v21), rfl, by omega, by omega⟩
    · skip
      refine qr_iconst 10 rfl rfl ?_
      have hw39 : σ 16 15 = (σ 16 15) := rfl
      refine qr_retI rfl rfl (by decide) (by decide) ?_
      exact ⟨_, _, _, _, rfl, hI, hF0, (-1), rfl, by omega, by omega⟩

set_option maxHeartbeats 4000000 in
set_option maxRecDepth 20000 in
/-- OneRoof.custom -/
theorem sf_85_16q54 {L : Nat} {xs : Nat → Int} {vb : Bool} {d : Nat} {σ α : Nat → Nat → Int} {κ : Nat → Option Nat} {x1 : Int} (hI : qI σ α κ 54) (r1 : (-2147483648) ≤ x1 ∧ x1 ≤ 2147483647) : qm_T (qe L xs vb) (d + 58) 85 [.ref 16, .int (qz x1)] (qw σ α κ 54) (fun r w' => ∃ σ' α' κ' ρ', w' = qw σ' α' κ' ρ' ∧ qI σ' α' κ' ρ' ∧ qFr [(16, 15), (50, 3), (50, 4), (50, 5), (50, 6), (50, 7), (54, 3), (54, 4), (54, 5), (54, 6), (54, 7), (82, 3), (82, 4), (82, 5), (82, 6), (82, 7)] [51, 52, 55, 56, 83, 84] σ α σ' α' ∧ ∃ v : Int, r = some (.int (qz v)) ∧ (-2147483648 ≤ v ∧ v ≤ 2147483647) ∧ (((x1 = 0 ∨ x1 = 1) ∧ σ' 16 15 = 0) ∨ (¬ (x1 = 0 ∨ x1 = 1) ∧ σ' 16 15 = σ 16 15))) := by
  refine qr_start (d := d + 57) qv_e85 (Nat.le_of_ble_eq_true rfl) ?_
  show qr_W (qe L xs vb) (d + 57) qx_e85 _ (0, [(0, .ref 16), (1, .int (qz x1))], [], _, 0, 0)
  have hF0 := qFr_rf [(16, 15), (50, 3), (50, 4), (50, 5), (50, 6), (50, 7), (54, 3), (54, 4), (54, 5), (54, 6), (54, 7), (82, 3), (82, 4), (82, 5), (82, 6), (82, 7)] [51, 52, 55, 56, 83, 84] σ α
  have hz16_15 : 0 ≤ σ 16 15 ∧ σ 16 15 ≤ 120 := hI.1 16 15
  refine qr_iload_n 1 rfl rfl rfl ?_
  refine qr_if_eq 11 4 rfl rfl rfl r1 (fun h1 => ?_) (fun h1 => ?_)
  · skip
    refine qr_aload_n 12 rfl rfl rfl ?_
    refine qr_get 15 rfl rfl rfl (by decide) rfl ?_
    refine qr_aload_n 16 rfl rfl rfl ?_
    refine qr_get 19 rfl rfl rfl (by decide) rfl ?_
    refine qr_aload_n 20 rfl rfl rfl ?_
    refine qr_get 23 rfl rfl rfl (by decide) rfl ?_
    refine qr_callN 26 rfl rfl rfl (sf_86_54_81 (d := d + 0) hI hz16_15) ?_
    rintro _ _ ⟨σ3, α4, rfl, hI5, hG6, v2, rfl, hv2⟩
    have hF7 : qFr [(16, 15), (50, 3), (50, 4), (50, 5), (50, 6), (50, 7), (54, 3), (54, 4), (54, 5), (54, 6), (54, 7), (82, 3), (82, 4), (82, 5), (82, 6), (82, 7)] [51, 52, 55, 56, 83, 84] σ α σ3 α4 := qFr_t hF0 hG6 (by decide) (by decide)
    show qr_W (qe L xs vb) (d + 57) qx_e85 _ (26, _, [.int (qz v2)], qw σ3 α4 κ 54, 0, 0)
    refine qr_istore_n _ 27 rfl (by decide) rfl rfl ?_
    refine qr_aload_n 28 rfl rfl rfl ?_
    refine qr_iconst 29 rfl rfl ?_
    refine qr_put 32 rfl (by decide) rfl (Nat.le_of_ble_eq_true rfl) (Nat.le_of_ble_eq_true rfl) (Or.inl rfl) (qr_fitI rfl _) rfl ?_
    refine qy_wS (qw_s σ3 16 15 0) rfl (fun σ8 e9 => ?_)
    have hI10 : qI σ8 α4 κ 54 := by rw [e9]; exact qI_s hI5 16 15 rfl (show 0 ≤ 0 ∧ 0 ≤ 120 by omega)
    have hF11 : qFr [(16, 15), (50, 3), (50, 4), (50, 5), (50, 6), (50, 7), (54, 3), (54, 4), (54, 5), (54, 6), (54, 7), (82, 3), (82, 4), (82, 5), (82, 6), (82, 7)] [51, 52, 55, 56, 83, 84] σ α σ8 α4 := by rw [e9]; exact qFr_s hF7 16 15 _ (by decide)
    refine qr_iload_n 33 rfl rfl rfl ?_
    refine qr_if_lt 41 36 rfl rfl rfl (qrg hv2 (by decide) (by decide)) (fun h12 => ?_) (fun h12 => ?_)
    · skip
      refine qr_aload_n 42 rfl rfl rfl ?_
      refine qr_get 45 rfl rfl rfl (by decide) rfl ?_
      refine qr_iload_n 46 rfl rfl rfl ?_
      obtain ⟨c13, hc14, hq15⟩ := qI_k hI10 (y := x1) (by omega)
      refine qr_aaload 47 rfl (by decide) rfl (by omega) (by decide) hc14 rfl ?_
      rcases hq15 with rfl | rfl | rfl
      · skip
        refine qr_astore_n _ 48 rfl (by decide) rfl rfl ?_
        refine qr_aload_n 49 rfl rfl rfl ?_
        refine qr_get 52 rfl rfl rfl (by decide) rfl ?_
        refine qr_iload_n 53 rfl rfl rfl ?_
        refine qr_aload_n 54 rfl rfl rfl ?_
        refine qr_get 57 rfl rfl rfl (by decide) rfl ?_
        refine qr_aastore 58 rfl (by decide) (by decide) rfl rfl (by omega) (by decide) rfl ?_
        show qr_W (qe L xs vb) (d + 57) qx_e85 _ (58, _, [], qw σ8 α4 (va_up κ (x1 : Int).toNat (some 54)) 54, 0, 0)
        refine qr_aload_n 59 rfl rfl rfl ?_
        refine qr_aload_n 60 rfl rfl rfl ?_
        refine qr_put 63 rfl (by decide) rfl (Nat.le_of_ble_eq_true rfl) (Nat.le_of_ble_eq_true rfl) (Or.inl rfl) (qr_fitR (Or.inl ⟨_, rfl⟩) _) rfl ?_
        show qr_W (qe L xs vb) (d + 57) qx_e85 _ (63, _, [], qw σ8 α4 (va_up κ (x1 : Int).toNat (some 54)) 50, 0, 0)
        refine qr_iconst 64 rfl rfl ?_
        have hw16 : σ8 16 15 = 0 := (congrFun (congrFun e9 16) 15).trans rfl
        refine qr_retI rfl rfl (by decide) (by decide) ?_
        exact ⟨_, _, _, _, rfl, qI_sw hI10 (x1 : Int).toNat 50 (Or.inl rfl), hF11, 1, rfl, by omega, by omega⟩
      · skip
        refine qr_astore_n _ 48 rfl (by decide) rfl rfl ?_
        refine qr_aload_n 49 rfl rfl rfl ?_
        refine qr_get 52 rfl rfl rfl (by decide) rfl ?_
        refine qr_iload_n 53 rfl rfl rfl ?_
        refine qr_aload_n 54 rfl rfl rfl ?_
        refine qr_get 57 rfl rfl rfl (by decide) rfl ?_
        refine qr_aastore 58 rfl (by decide) (by decide) rfl rfl (by omega) (by decide) rfl ?_
        show qr_W (qe L xs vb) (d + 57) qx_e85 _ (58, _, [], qw σ8 α4 (va_up κ (x1 : Int).toNat (some 54)) 54, 0, 0)
        refine qr_aload_n 59 rfl rfl rfl ?_
        refine qr_aload_n 60 rfl rfl rfl ?_
        refine qr_put 63 rfl (by decide) rfl (Nat.le_of_ble_eq_true rfl) (Nat.le_of_ble_eq_true rfl) (Or.inl rfl) (qr_fitR (Or.inl ⟨_, rfl⟩) _) rfl ?_
        show qr_W (qe L xs vb) (d + 57) qx_e85 _ (63, _, [], qw σ8 α4 (va_up κ (x1 : Int).toNat (some 54)) 54, 0, 0)
        refine qr_iconst 64 rfl rfl ?_
        have hw17 : σ8 16 15 = 0 := (congrFun (congrFun e9 16) 15).trans rfl
        refine qr_retI rfl rfl (by decide) (by decide) ?_
        exact ⟨_, _, _, _, rfl, qI_sw hI10 (x1 : Int).toNat 54 (Or.inr (Or.inl rfl)), hF11, 1, rfl, by omega, by omega⟩
      · skip
        refine qr_astore_n _ 48 rfl (by decide) rfl rfl ?_
        refine qr_aload_n 49 rfl rfl rfl ?_
        refine qr_get 52 rfl rfl rfl (by decide) rfl ?_
        refine qr_iload_n 53 rfl rfl rfl ?_
        refine qr_aload_n 54 rfl rfl rfl ?_
        refine qr_get 57 rfl rfl rfl (by decide) rfl ?_
        refine qr_aastore 58 rfl (by decide) (by decide) rfl rfl (by omega) (by decide) rfl ?_
        show qr_W (qe L xs vb) (d + 57) qx_e85 _ (58, _, [], qw σ8 α4 (va_up κ (x1 : Int).toNat (some 54)) 54, 0, 0)
        refine qr_aload_n 59 rfl rfl rfl ?_
        refine qr_aload_n 60 rfl rfl rfl ?_
        refine qr_put 63 rfl (by decide) rfl (Nat.le_of_ble_eq_true rfl) (Nat.le_of_ble_eq_true rfl) (Or.inl rfl) (qr_fitR (Or.inl ⟨_, rfl⟩) _) rfl ?_
        show qr_W (qe L xs vb) (d + 57) qx_e85 _ (63, _, [], qw σ8 α4 (va_up κ (x1 : Int).toNat (some 54)) 82, 0, 0)
        refine qr_iconst 64 rfl rfl ?_
        have hw18 : σ8 16 15 = 0 := (congrFun (congrFun e9 16) 15).trans rfl
        refine qr_retI rfl rfl (by decide) (by decide) ?_
        exact ⟨_, _, _, _, rfl, qI_sw hI10 (x1 : Int).toNat 82 (Or.inr (Or.inr rfl)), hF11, 1, rfl, by omega, by omega⟩
    · skip
      refine qr_bipush 38 rfl (by decide) rfl ?_
      refine qr_iload_n 39 rfl rfl rfl ?_
      refine qr_isub 40 rfl rfl ?_
      have hw19 : σ8 16 15 = 0 := (congrFun (congrFun e9 16) 15).trans rfl
      refine qr_retI rfl rfl (by decide) (by decide) ?_
      exact ⟨_, _, _, _, rfl, hI10, hF11, ((-100) - v2), rfl, by omega, by omega⟩
  · skip
    refine qr_iload_n 5 rfl rfl rfl ?_
    refine qr_iconst 6 rfl rfl ?_
    refine qr_icmp_eq 11 9 rfl rfl rfl r1 (by decide) (fun h20 => ?_) (fun h20 => ?_)
    · skip
      refine qr_aload_n 12 rfl rfl rfl ?_
      refine qr_get 15 rfl rfl rfl (by decide) rfl ?_
      refine qr_aload_n 16 rfl rfl rfl ?_
      refine qr_get 19 rfl rfl rfl (by decide) rfl ?_
      refine qr_aload_n 20 rfl rfl rfl ?_
      refine qr_get 23 rfl rfl rfl (by decide) rfl ?_
      refine qr_callN 26 rfl rfl rfl (sf_86_54_81 (d := d + 0) hI hz16_15) ?_
      rintro _ _ ⟨σ22, α23, rfl, hI24, hG25, v21, rfl, hv21⟩
      have hF26 : qFr [(16, 15), (50, 3), (50, 4), (50, 5), (50, 6), (50, 7), (54, 3), (54, 4), (54, 5), (54, 6), (54, 7), (82, 3), (82, 4), (82, 5), (82, 6), (82, 7)] [51, 52, 55, 56, 83, 84] σ α σ22 α23 := qFr_t hF0 hG25 (by decide) (by decide)
      show qr_W (qe L xs vb) (d + 57) qx_e85 _ (26, _, [.int (qz v21)], qw σ22 α23 κ 54, 0, 0)
      refine qr_istore_n _ 27 rfl (by decide) rfl rfl ?_
      refine qr_aload_n 28 rfl rfl rfl ?_
      refine qr_iconst 29 rfl rfl ?_
      refine qr_put 32 rfl (by decide) rfl (Nat.le_of_ble_eq_true rfl) (Nat.le_of_ble_eq_true rfl) (Or.inl rfl) (qr_fitI rfl _) rfl ?_
      refine qy_wS (qw_s σ22 16 15 0) rfl (fun σ27 e28 => ?_)
      have hI29 : qI σ27 α23 κ 54 := by rw [e28]; exact qI_s hI24 16 15 rfl (show 0 ≤ 0 ∧ 0 ≤ 120 by omega)
      have hF30 : qFr [(16, 15), (50, 3), (50, 4), (50, 5), (50, 6), (50, 7), (54, 3), (54, 4), (54, 5), (54, 6), (54, 7), (82, 3), (82, 4), (82, 5), (82, 6), (82, 7)] [51, 52, 55, 56, 83, 84] σ α σ27 α23 := by rw [e28]; exact qFr_s hF26 16 15 _ (by decide)
      refine qr_iload_n 33 rfl rfl rfl ?_
      refine qr_if_lt 41 36 rfl rfl rfl (qrg hv21 (by decide) (by decide)) (fun h31 => ?_) (fun h31 => ?_)
      · skip
        refine qr_aload_n 42 rfl rfl rfl ?_
        refine qr_get 45 rfl rfl rfl (by decide) rfl ?_
        refine qr_iload_n 46 rfl rfl rfl ?_
        obtain ⟨c32, hc33, hq34⟩ := qI_k hI29 (y := x1) (by omega)
        refine qr_aaload 47 rfl (by decide) rfl (by omega) (by decide) hc33 rfl ?_
        rcases hq34 with rfl | rfl | rfl
        · skip
          refine qr_astore_n _ 48 rfl (by decide) rfl rfl ?_
          refine qr_aload_n 49 rfl rfl rfl ?_
          refine qr_get 52 rfl rfl rfl (by decide) rfl ?_
          refine qr_iload_n 53 rfl rfl rfl ?_
          refine qr_aload_n 54 rfl rfl rfl ?_
          refine qr_get 57 rfl rfl rfl (by decide) rfl ?_
          refine qr_aastore 58 rfl (by decide) (by decide) rfl rfl (by omega) (by decide) rfl ?_
          show qr_W (qe L xs vb) (d + 57) qx_e85 _ (58, _, [], qw σ27 α23 (va_up κ (x1 : Int).toNat (some 54)) 54, 0, 0)
          refine qr_aload_n 59 rfl rfl rfl ?_
          refine qr_aload_n 60 rfl rfl rfl ?_
          refine qr_put 63 rfl (by decide) rfl (Nat.le_of_ble_eq_true rfl) (Nat.le_of_ble_eq_true rfl) (Or.inl rfl) (qr_fitR (Or.inl ⟨_, rfl⟩) _) rfl ?_
          show qr_W (qe L xs vb) (d + 57) qx_e85 _ (63, _, [], qw σ27 α23 (va_up κ (x1 : Int).toNat (some 54)) 50, 0, 0)
          refine qr_iconst 64 rfl rfl ?_
          have hw35 : σ27 16 15 = 0 := (congrFun (congrFun e28 16) 15).trans rfl
          refine qr_retI rfl rfl (by decide) (by decide) ?_
          exact ⟨_, _, _, _, rfl, qI_sw hI29 (x1 : Int).toNat 50 (Or.inl rfl), hF30, 1, rfl, by omega, by omega⟩
        · skip
          refine qr_astore_n _ 48 rfl (by decide) rfl rfl ?_
          refine qr_aload_n 49 rfl rfl rfl ?_
          refine qr_get 52 rfl rfl rfl (by decide) rfl ?_
          refine qr_iload_n 53 rfl rfl rfl ?_
          refine qr_aload_n 54 rfl rfl rfl ?_
          refine qr_get 57 rfl rfl rfl (by decide) rfl ?_
          refine qr_aastore 58 rfl (by decide) (by decide) rfl rfl (by omega) (by decide) rfl ?_
          show qr_W (qe L xs vb) (d + 57) qx_e85 _ (58, _, [], qw σ27 α23 (va_up κ (x1 : Int).toNat (some 54)) 54, 0, 0)
          refine qr_aload_n 59 rfl rfl rfl ?_
          refine qr_aload_n 60 rfl rfl rfl ?_
          refine qr_put 63 rfl (by decide) rfl (Nat.le_of_ble_eq_true rfl) (Nat.le_of_ble_eq_true rfl) (Or.inl rfl) (qr_fitR (Or.inl ⟨_, rfl⟩) _) rfl ?_
          show qr_W (qe L xs vb) (d + 57) qx_e85 _ (63, _, [], qw σ27 α23 (va_up κ (x1 : Int).toNat (some 54)) 54, 0, 0)
          refine qr_iconst 64 rfl rfl ?_
          have hw36 : σ27 16 15 = 0 := (congrFun (congrFun e28 16) 15).trans rfl
          refine qr_retI rfl rfl (by decide) (by decide) ?_
          exact ⟨_, _, _, _, rfl, qI_sw hI29 (x1 : Int).toNat 54 (Or.inr (Or.inl rfl)), hF30, 1, rfl, by omega, by omega⟩
        · skip
          refine qr_astore_n _ 48 rfl (by decide) rfl rfl ?_
          refine qr_aload_n 49 rfl rfl rfl ?_
          refine qr_get 52 rfl rfl rfl (by decide) rfl ?_
          refine qr_iload_n 53 rfl rfl rfl ?_
          refine qr_aload_n 54 rfl rfl rfl ?_
          refine qr_get 57 rfl rfl rfl (by decide) rfl ?_
          refine qr_aastore 58 rfl (by decide) (by decide) rfl rfl (by omega) (by decide) rfl ?_
          show qr_W (qe L xs vb) (d + 57) qx_e85 _ (58, _, [], qw σ27 α23 (va_up κ (x1 : Int).toNat (some 54)) 54, 0, 0)
          refine qr_aload_n 59 rfl rfl rfl ?_
          refine qr_aload_n 60 rfl rfl rfl ?_
          refine qr_put 63 rfl (by decide) rfl (Nat.le_of_ble_eq_true rfl) (Nat.le_of_ble_eq_true rfl) (Or.inl rfl) (qr_fitR (Or.inl ⟨_, rfl⟩) _) rfl ?_
          show qr_W (qe L xs vb) (d + 57) qx_e85 _ (63, _, [], qw σ27 α23 (va_up κ (x1 : Int).toNat (some 54)) 82, 0, 0)
          refine qr_iconst 64 rfl rfl ?_
          have hw37 : σ27 16 15 = 0 := (congrFun (congrFun e28 16) 15).trans rfl
          refine qr_retI rfl rfl (by decide) (by decide) ?_
          exact ⟨_, _, _, _, rfl, qI_sw hI29 (x1 : Int).toNat 82 (Or.inr (Or.inr rfl)), hF30, 1, rfl, by omega, by omega⟩
      · skip
        refine qr_bipush 38 rfl (by decide) rfl ?_
        refine qr_iload_n 39 rfl rfl rfl ?_
        refine qr_isub 40 rfl rfl ?_
        have hw38 : σ27 16 15 = 0 := (congrFun (congrFun e28 16) 15).trans rfl
        refine qr_retI rfl rfl (by decide) (by decide) ?_
        exact ⟨_, _, _, _, rfl, hI29, hF30, ((-100) - v21), rfl, by omega, by omega⟩
    · skip
      refine qr_iconst 10 rfl rfl ?_
      have hw39 : σ 16 15 = (σ 16 15) := rfl
      refine qr_retI rfl rfl (by decide) (by decide) ?_
      exact ⟨_, _, _, _, rfl, hI, hF0, (-1), rfl, by omega, by omega⟩

set_option maxHeartbeats 4000000 in
set_option maxRecDepth 20000 in
/-- OneRoof.custom -/
theorem sf_85_16q82 {L : Nat} {xs : Nat → Int} {vb : Bool} {d : Nat} {σ α : Nat → Nat → Int} {κ : Nat → Option Nat} {x1 : Int} (hI : qI σ α κ 82) (r1 : (-2147483648) ≤ x1 ∧ x1 ≤ 2147483647) : qm_T (qe L xs vb) (d + 58) 85 [.ref 16, .int (qz x1)] (qw σ α κ 82) (fun r w' => ∃ σ' α' κ' ρ', w' = qw σ' α' κ' ρ' ∧ qI σ' α' κ' ρ' ∧ qFr [(16, 15), (50, 3), (50, 4), (50, 5), (50, 6), (50, 7), (54, 3), (54, 4), (54, 5), (54, 6), (54, 7), (82, 3), (82, 4), (82, 5), (82, 6), (82, 7)] [51, 52, 55, 56, 83, 84] σ α σ' α' ∧ ∃ v : Int, r = some (.int (qz v)) ∧ (-2147483648 ≤ v ∧ v ≤ 2147483647) ∧ (((x1 = 0 ∨ x1 = 1) ∧ σ' 16 15 = 0) ∨ (¬ (x1 = 0 ∨ x1 = 1) ∧ σ' 16 15 = σ 16 15))) := by
  refine qr_start (d := d + 57) qv_e85 (Nat.le_of_ble_eq_true rfl) ?_
  show qr_W (qe L xs vb) (d + 57) qx_e85 _ (0, [(0, .ref 16), (1, .int (qz x1))], [], _, 0, 0)
  have hF0 := qFr_rf [(16, 15), (50, 3), (50, 4), (50, 5), (50, 6), (50, 7), (54, 3), (54, 4), (54, 5), (54, 6), (54, 7), (82, 3), (82, 4), (82, 5), (82, 6), (82, 7)] [51, 52, 55, 56, 83, 84] σ α
  have hz16_15 : 0 ≤ σ 16 15 ∧ σ 16 15 ≤ 120 := hI.1 16 15
  refine qr_iload_n 1 rfl rfl rfl ?_
  refine qr_if_eq 11 4 rfl rfl rfl r1 (fun h1 => ?_) (fun h1 => ?_)
  · skip
    refine qr_aload_n 12 rfl rfl rfl ?_
    refine qr_get 15 rfl rfl rfl (by decide) rfl ?_
    refine qr_aload_n 16 rfl rfl rfl ?_
    refine qr_get 19 rfl rfl rfl (by decide) rfl ?_
    refine qr_aload_n 20 rfl rfl rfl ?_
    refine qr_get 23 rfl rfl rfl (by decide) rfl ?_
    refine qr_callN 26 rfl rfl rfl (sf_86_82_81 (d := d + 0) hI hz16_15) ?_
    rintro _ _ ⟨σ3, α4, rfl, hI5, hG6, v2, rfl, hv2⟩
    have hF7 : qFr [(16, 15), (50, 3), (50, 4), (50, 5), (50, 6), (50, 7), (54, 3), (54, 4), (54, 5), (54, 6), (54, 7), (82, 3), (82, 4), (82, 5), (82, 6), (82, 7)] [51, 52, 55, 56, 83, 84] σ α σ3 α4 := qFr_t hF0 hG6 (by decide) (by decide)
    show qr_W (qe L xs vb) (d + 57) qx_e85 _ (26, _, [.int (qz v2)], qw σ3 α4 κ 82, 0, 0)
    refine qr_istore_n _ 27 rfl (by decide) rfl rfl ?_
    refine qr_aload_n 28 rfl rfl rfl ?_
    refine qr_iconst 29 rfl rfl ?_
    refine qr_put 32 rfl (by decide) rfl (Nat.le_of_ble_eq_true rfl) (Nat.le_of_ble_eq_true rfl) (Or.inl rfl) (qr_fitI rfl _) rfl ?_
    refine qy_wS (qw_s σ3 16 15 0) rfl (fun σ8 e9 => ?_)
    have hI10 : qI σ8 α4 κ 82 := by rw [e9]; exact qI_s hI5 16 15 rfl (show 0 ≤ 0 ∧ 0 ≤ 120 by omega)
    have hF11 : qFr [(16, 15), (50, 3), (50, 4), (50, 5), (50, 6), (50, 7), (54, 3), (54, 4), (54, 5), (54, 6), (54, 7), (82, 3), (82, 4), (82, 5), (82, 6), (82, 7)] [51, 52, 55, 56, 83, 84] σ α σ8 α4 := by rw [e9]; exact qFr_s hF7 16 15 _ (by decide)
    refine qr_iload_n 33 rfl rfl rfl ?_
    refine qr_if_lt 41 36 rfl rfl rfl (qrg hv2 (by decide) (by decide)) (fun h12 => ?_) (fun h12 => ?_)
    · skip
      refine qr_aload_n 42 rfl rfl rfl ?_
      refine qr_get 45 rfl rfl rfl (by decide) rfl ?_
      refine qr_iload_n 46 rfl rfl rfl ?_
      obtain ⟨c13, hc14, hq15⟩ := qI_k hI10 (y := x1) (by omega)
      refine qr_aaload 47 rfl (by decide) rfl (by omega) (by decide) hc14 rfl ?_
      rcases hq15 with rfl | rfl | rfl
      · skip
        refine qr_astore_n _ 48 rfl (by decide) rfl rfl ?_
        refine qr_aload_n 49 rfl rfl rfl ?_
        refine qr_get 52 rfl rfl rfl (by decide) rfl ?_
        refine qr_iload_n 53 rfl rfl rfl ?_
        refine qr_aload_n 54 rfl rfl rfl ?_
        refine qr_get 57 rfl rfl rfl (by decide) rfl ?_
        refine qr_aastore 58 rfl (by decide) (by decide) rfl rfl (by omega) (by decide) rfl ?_
        show qr_W (qe L xs vb) (d + 57) qx_e85 _ (58, _, [], qw σ8 α4 (va_up κ (x1 : Int).toNat (some 82)) 82, 0, 0)
        refine qr_aload_n 59 rfl rfl rfl ?_
        refine qr_aload_n 60 rfl rfl rfl ?_
        refine qr_put 63 rfl (by decide) rfl (Nat.le_of_ble_eq_true rfl) (Nat.le_of_ble_eq_true rfl) (Or.inl rfl) (qr_fitR (Or.inl ⟨_, rfl⟩) _) rfl ?_
        show qr_W (qe L xs vb) (d + 57) qx_e85 _ (63, _, [], qw σ8 α4 (va_up κ (x1 : Int).toNat (some 82)) 50, 0, 0)
        refine qr_iconst 64 rfl rfl ?_
        have hw16 : σ8 16 15 = 0 := (congrFun (congrFun e9 16) 15).trans rfl
        refine qr_retI rfl rfl (by decide) (by decide) ?_
        exact ⟨_, _, _, _, rfl, qI_sw hI10 (x1 : Int).toNat 50 (Or.inl rfl), hF11, 1, rfl, by omega, by omega⟩
      · skip
        refine qr_astore_n _ 48 rfl (by decide) rfl rfl ?_
        refine qr_aload_n 49 rfl rfl rfl ?_
        refine qr_get 52 rfl rfl rfl (by decide) rfl ?_
        refine qr_iload_n 53 rfl rfl rfl ?_
        refine qr_aload_n 54 rfl rfl rfl ?_
        refine qr_get 57 rfl rfl rfl (by decide) rfl ?_
        refine qr_aastore 58 rfl (by decide) (by decide) rfl rfl (by omega) (by decide) rfl ?_
        show qr_W (qe L xs vb) (d + 57) qx_e85 _ (58, _, [], qw σ8 α4 (va_up κ (x1 : Int).toNat (some 82)) 82, 0, 0)
        refine qr_aload_n 59 rfl rfl rfl ?_
        refine qr_aload_n 60 rfl rfl rfl ?_
        refine qr_put 63 rfl (by decide) rfl (Nat.le_of_ble_eq_true rfl) (Nat.le_of_ble_eq_true rfl) (Or.inl rfl) (qr_fitR (Or.inl ⟨_, rfl⟩) _) rfl ?_
        show qr_W (qe L xs vb) (d + 57) qx_e85 _ (63, _, [], qw σ8 α4 (va_up κ (x1 : Int).toNat (some 82)) 54, 0, 0)
        refine qr_iconst 64 rfl rfl ?_
        have hw17 : σ8 16 15 = 0 := (congrFun (congrFun e9 16) 15).trans rfl
        refine qr_retI rfl rfl (by decide) (by decide) ?_
        exact ⟨_, _, _, _, rfl, qI_sw hI10 (x1 : Int).toNat 54 (Or.inr (Or.inl rfl)), hF11, 1, rfl, by omega, by omega⟩
      · skip
        refine qr_astore_n _ 48 rfl (by decide) rfl rfl ?_
        refine qr_aload_n 49 rfl rfl rfl ?_
        refine qr_get 52 rfl rfl rfl (by decide) rfl ?_
        refine qr_iload_n 53 rfl rfl rfl ?_
        refine qr_aload_n 54 rfl rfl rfl ?_
        refine qr_get 57 rfl rfl rfl (by decide) rfl ?_
        refine qr_aastore 58 rfl (by decide) (by decide) rfl rfl (by omega) (by decide) rfl ?_
        show qr_W (qe L xs vb) (d + 57) qx_e85 _ (58, _, [], qw σ8 α4 (va_up κ (x1 : Int).toNat (some 82)) 82, 0, 0)
        refine qr_aload_n 59 rfl rfl rfl ?_
        refine qr_aload_n 60 rfl rfl rfl ?_
        refine qr_put 63 rfl (by decide) rfl (Nat.le_of_ble_eq_true rfl) (Nat.le_of_ble_eq_true rfl) (Or.inl rfl) (qr_fitR (Or.inl ⟨_, rfl⟩) _) rfl ?_
        show qr_W (qe L xs vb) (d + 57) qx_e85 _ (63, _, [], qw σ8 α4 (va_up κ (x1 : Int).toNat (some 82)) 82, 0, 0)
        refine qr_iconst 64 rfl rfl ?_
        have hw18 : σ8 16 15 = 0 := (congrFun (congrFun e9 16) 15).trans rfl
        refine qr_retI rfl rfl (by decide) (by decide) ?_
        exact ⟨_, _, _, _, rfl, qI_sw hI10 (x1 : Int).toNat 82 (Or.inr (Or.inr rfl)), hF11, 1, rfl, by omega, by omega⟩
    · skip
      refine qr_bipush 38 rfl (by decide) rfl ?_
      refine qr_iload_n 39 rfl rfl rfl ?_
      refine qr_isub 40 rfl rfl ?_
      have hw19 : σ8 16 15 = 0 := (congrFun (congrFun e9 16) 15).trans rfl
      refine qr_retI rfl rfl (by decide) (by decide) ?_
      exact ⟨_, _, _, _, rfl, hI10, hF11, ((-100) - v2), rfl, by omega, by omega⟩
  · skip
    refine qr_iload_n 5 rfl rfl rfl ?_
    refine qr_iconst 6 rfl rfl ?_
    refine qr_icmp_eq 11 9 rfl rfl rfl r1 (by decide) (fun h20 => ?_) (fun h20 => ?_)
    · skip
      refine qr_aload_n 12 rfl rfl rfl ?_
      refine qr_get 15 rfl rfl rfl (by decide) rfl ?_
      refine qr_aload_n 16 rfl rfl rfl ?_
      refine qr_get 19 rfl rfl rfl (by decide) rfl ?_
      refine qr_aload_n 20 rfl rfl rfl ?_
      refine qr_get 23 rfl rfl rfl (by decide) rfl ?_
      refine qr_callN 26 rfl rfl rfl (sf_86_82_81 (d := d + 0) hI hz16_15) ?_
      rintro _ _ ⟨σ22, α23, rfl, hI24, hG25, v21, rfl, hv21⟩
      have hF26 : qFr [(16, 15), (50, 3), (50, 4), (50, 5), (50, 6), (50, 7), (54, 3), (54, 4), (54, 5), (54, 6), (54, 7), (82, 3), (82, 4), (82, 5), (82, 6), (82, 7)] [51, 52, 55, 56, 83, 84] σ α σ22 α23 := qFr_t hF0 hG25 (by decide) (by decide)
      show qr_W (qe L xs vb) (d + 57) qx_e85 _ (26, _, [.int (qz v21)], qw σ22 α23 κ 82, 0, 0)
      refine qr_istore_n _ 27 rfl (by decide) rfl rfl ?_
      refine qr_aload_n 28 rfl rfl rfl ?_
      refine qr_iconst 29 rfl rfl ?_
      refine qr_put 32 rfl (by decide) rfl (Nat.le_of_ble_eq_true rfl) (Nat.le_of_ble_eq_true rfl) (Or.inl rfl) (qr_fitI rfl _) rfl ?_
      refine qy_wS (qw_s σ22 16 15 0) rfl (fun σ27 e28 => ?_)
      have hI29 : qI σ27 α23 κ 82 := by rw [e28]; exact qI_s hI24 16 15 rfl (show 0 ≤ 0 ∧ 0 ≤ 120 by omega)
      have hF30 : qFr [(16, 15), (50, 3), (50, 4), (50, 5), (50, 6), (50, 7), (54, 3), (54, 4), (54, 5), (54, 6), (54, 7), (82, 3), (82, 4), (82, 5), (82, 6), (82, 7)] [51, 52, 55, 56, 83, 84] σ α σ27 α23 := by rw [e28]; exact qFr_s hF26 16 15 _ (by decide)
      refine qr_iload_n 33 rfl rfl rfl ?_
      refine qr_if_lt 41 36 rfl rfl rfl (qrg hv21 (by decide) (by decide)) (fun h31 => ?_) (fun h31 => ?_)
      · skip
        refine qr_aload_n 42 rfl rfl rfl ?_
        refine qr_get 45 rfl rfl rfl (by decide) rfl ?_
        refine qr_iload_n 46 rfl rfl rfl ?_
        obtain ⟨c32, hc33, hq34⟩ := qI_k hI29 (y := x1) (by omega)
        refine qr_aaload 47 rfl (by decide) rfl (by omega) (by decide) hc33 rfl ?_
        rcases hq34 with rfl | rfl | rfl
        · skip
          refine qr_astore_n _ 48 rfl (by decide) rfl rfl ?_
          refine qr_aload_n 49 rfl rfl rfl ?_
          refine qr_get 52 rfl rfl rfl (by decide) rfl ?_
          refine qr_iload_n 53 rfl rfl rfl ?_
          refine qr_aload_n 54 rfl rfl rfl ?_
          refine qr_get 57 rfl rfl rfl (by decide) rfl ?_
          refine qr_aastore 58 rfl (by decide) (by decide) rfl rfl (by omega) (by decide) rfl ?_
          show qr_W (qe L xs vb) (d + 57) qx_e85 _ (58, _, [], qw σ27 α23 (va_up κ (x1 : Int).toNat (some 82)) 82, 0, 0)
          refine qr_aload_n 59 rfl rfl rfl ?_
          refine qr_aload_n 60 rfl rfl rfl ?_
          refine qr_put 63 rfl (by decide) rfl (Nat.le_of_ble_eq_true rfl) (Nat.le_of_ble_eq_true rfl) (Or.inl rfl) (qr_fitR (Or.inl ⟨_, rfl⟩) _) rfl ?_
          show qr_W (qe L xs vb) (d + 57) qx_e85 _ (63, _, [], qw σ27 α23 (va_up κ (x1 : Int).toNat (some 82)) 50, 0, 0)
          refine qr_iconst 64 rfl rfl ?_
          have hw35 : σ27 16 15 = 0 := (congrFun (congrFun e28 16) 15).trans rfl
          refine qr_retI rfl rfl (by decide) (by decide) ?_
          exact ⟨_, _, _, _, rfl, qI_sw hI29 (x1 : Int).toNat 50 (Or.inl rfl), hF30, 1, rfl, by omega, by omega⟩
        · skip
          refine qr_astore_n _ 48 rfl (by decide) rfl rfl ?_
          refine qr_aload_n 49 rfl rfl rfl ?_
          refine qr_get 52 rfl rfl rfl (by decide) rfl ?_
          refine qr_iload_n 53 rfl rfl rfl ?_
          refine qr_aload_n 54 rfl rfl rfl ?_
          refine qr_get 57 rfl rfl rfl (by decide) rfl ?_
          refine qr_aastore 58 rfl (by decide) (by decide) rfl rfl (by omega) (by decide) rfl ?_
          show qr_W (qe L xs vb) (d + 57) qx_e85 _ (58, _, [], qw σ27 α23 (va_up κ (x1 : Int).toNat (some 82)) 82, 0, 0)
          refine qr_aload_n 59 rfl rfl rfl ?_
          refine qr_aload_n 60 rfl rfl rfl ?_
          refine qr_put 63 rfl (by decide) rfl (Nat.le_of_ble_eq_true rfl) (Nat.le_of_ble_eq_true rfl) (Or.inl rfl) (qr_fitR (Or.inl ⟨_, rfl⟩) _) rfl ?_
          show qr_W (qe L xs vb) (d + 57) qx_e85 _ (63, _, [], qw σ27 α23 (va_up κ (x1 : Int).toNat (some 82)) 54, 0, 0)
          refine qr_iconst 64 rfl rfl ?_
          have hw36 : σ27 16 15 = 0 := (congrFun (congrFun e28 16) 15).trans rfl
          refine qr_retI rfl rfl (by decide) (by decide) ?_
          exact ⟨_, _, _, _, rfl, qI_sw hI29 (x1 : Int).toNat 54 (Or.inr (Or.inl rfl)), hF30, 1, rfl, by omega, by omega⟩
        · skip
          refine qr_astore_n _ 48 rfl (by decide) rfl rfl ?_
          refine qr_aload_n 49 rfl rfl rfl ?_
          refine qr_get 52 rfl rfl rfl (by decide) rfl ?_
          refine qr_iload_n 53 rfl rfl rfl ?_
          refine qr_aload_n 54 rfl rfl rfl ?_
          refine qr_get 57 rfl rfl rfl (by decide) rfl ?_
          refine qr_aastore 58 rfl (by decide) (by decide) rfl rfl (by omega) (by decide) rfl ?_
          show qr_W (qe L xs vb) (d + 57) qx_e85 _ (58, _, [], qw σ27 α23 (va_up κ (x1 : Int).toNat (some 82)) 82, 0, 0)
          refine qr_aload_n 59 rfl rfl rfl ?_
          refine qr_aload_n 60 rfl rfl rfl ?_
          refine qr_put 63 rfl (by decide) rfl (Nat.le_of_ble_eq_true rfl) (Nat.le_of_ble_eq_true rfl) (Or.inl rfl) (qr_fitR (Or.inl ⟨_, rfl⟩) _) rfl ?_
          show qr_W (qe L xs vb) (d + 57) qx_e85 _ (63, _, [], qw σ27 α23 (va_up κ (x1 : Int).toNat (some 82)) 82, 0, 0)
          refine qr_iconst 64 rfl rfl ?_
          have hw37 : σ27 16 15 = 0 := (congrFun (congrFun e28 16) 15).trans rfl
          refine qr_retI rfl rfl (by decide) (by decide) ?_
          exact ⟨_, _, _, _, rfl, qI_sw hI29 (x1 : Int).toNat 82 (Or.inr (Or.inr rfl)), hF30, 1, rfl, by omega, by omega⟩
      · skip
        refine qr_bipush 38 rfl (by decide) rfl ?_
        refine qr_iload_n 39 rfl rfl rfl ?_
        refine qr_isub 40 rfl rfl ?_
        have hw38 : σ27 16 15 = 0 := (congrFun (congrFun e28 16) 15).trans rfl
        refine qr_retI rfl rfl (by decide) (by decide) ?_
        exact ⟨_, _, _, _, rfl, hI29, hF30, ((-100) - v21), rfl, by omega, by omega⟩
    · skip
      refine qr_iconst 10 rfl rfl ?_
      have hw39 : σ 16 15 = (σ 16 15) := rfl
      refine qr_retI rfl rfl (by decide) (by decide) ?_
      exact ⟨_, _, _, _, rfl, hI, hF0, (-1), rfl, by omega, by omega⟩

set_option maxHeartbeats 4000000 in
theorem sf_85_16 {L : Nat} {xs : Nat → Int} {vb : Bool} {d : Nat} {σ α : Nat → Nat → Int} {κ : Nat → Option Nat} {ρ : Nat} {x1 : Int} (hI : qI σ α κ ρ) (r1 : (-2147483648) ≤ x1 ∧ x1 ≤ 2147483647) : qm_T (qe L xs vb) (d + 58) 85 [.ref 16, .int (qz x1)] (qw σ α κ ρ) (fun r w' => ∃ σ' α' κ' ρ', w' = qw σ' α' κ' ρ' ∧ qI σ' α' κ' ρ' ∧ qFr [(16, 15), (50, 3), (50, 4), (50, 5), (50, 6), (50, 7), (54, 3), (54, 4), (54, 5), (54, 6), (54, 7), (82, 3), (82, 4), (82, 5), (82, 6), (82, 7)] [51, 52, 55, 56, 83, 84] σ α σ' α' ∧ ∃ v : Int, r = some (.int (qz v)) ∧ (-2147483648 ≤ v ∧ v ≤ 2147483647) ∧ (((x1 = 0 ∨ x1 = 1) ∧ σ' 16 15 = 0) ∨ (¬ (x1 = 0 ∨ x1 = 1) ∧ σ' 16 15 = σ 16 15))) := by
  have h := hI.2.2.1.2.2
  unfold qI_c at h
  rcases h with rfl | rfl | rfl
  · exact sf_85_16q50 hI r1
  · exact sf_85_16q54 hI r1
  · exact sf_85_16q82 hI r1

set_option maxHeartbeats 4000000 in
set_option maxRecDepth 20000 in
/-- OneRoof.feed -/
theorem sf_84_16f {L : Nat} {xs : Nat → Int} {vb : Bool} {d : Nat} {σ α : Nat → Nat → Int} {κ : Nat → Option Nat} {ρ : Nat} {x1 : Int} {x2 : Int} (hI : qI σ α κ ρ) (r1 : (-2147483648) ≤ x1 ∧ x1 ≤ 2147483647) (r2 : (-2147483648) ≤ x2 ∧ x2 ≤ 2147483647) : qm_T (qe L xs vb) (d + 1) 84 [.ref 16, .int (qz x1), .int (qz x2)] (qw σ α κ ρ) (fun r w' => ∃ σ' α', w' = qw σ' α' κ ρ ∧ qI σ' α' κ ρ ∧ qFr [(16, 15)] [81] σ α σ' α' ∧ ∃ v : Int, r = some (.int (qz v)) ∧ ((-2147483648) ≤ v ∧ v ≤ 2147483647) ∧ ((v = -1 ∧ ¬ (1 ≤ x1 ∧ x1 ≤ 4) ∧ σ' 16 15 = σ 16 15) ∨ (v = -3 ∧ (1 ≤ x1 ∧ x1 ≤ 4) ∧ 120 < σ 16 15 + x1 ∧ σ' 16 15 = σ 16 15) ∨ ((1 ≤ x1 ∧ x1 ≤ 4) ∧ σ 16 15 + x1 ≤ 120 ∧ v = σ 16 15 + x1 ∧ σ' 16 15 = v))) := by
  refine qr_start (d := d + 0) qv_e84 (Nat.le_of_ble_eq_true rfl) ?_
  show qr_W (qe L xs vb) (d + 0) qx_e84 _ (0, [(0, .ref 16), (1, .int (qz x1)), (2, .int (qz x2))], [], _, 0, 0)
  have hF0 := qFr_rf [(16, 15)] [81] σ α
  have hz16_15 : 0 ≤ σ 16 15 ∧ σ 16 15 ≤ 120 := hI.1 16 15
  refine qr_iload_n 1 rfl rfl rfl ?_
  refine qr_iconst 2 rfl rfl ?_
  refine qr_icmp_lt 10 5 rfl rfl rfl r1 (by decide) (fun h1 => ?_) (fun h1 => ?_)
  · skip
    refine qr_iconst 11 rfl rfl ?_
    refine qr_retI rfl rfl (by decide) (by decide) ?_
    have hw2 : σ 16 15 = (σ 16 15) := rfl
    exact ⟨_, _, rfl, hI, hF0, (-1), rfl, (by decide), by omega⟩
  · skip
    refine qr_iload_n 6 rfl rfl rfl ?_
    refine qr_iconst 7 rfl rfl ?_
    refine qr_icmp_le 12 10 rfl rfl rfl r1 (by decide) (fun h3 => ?_) (fun h3 => ?_)
    · skip
      refine qr_aload_n 13 rfl rfl rfl ?_
      refine qr_get 16 rfl rfl rfl (by decide) rfl ?_
      refine qr_iload_n 17 rfl rfl rfl ?_
      refine qr_iadd 18 rfl rfl ?_
      refine qr_bipush 20 rfl (by decide) rfl ?_
      refine qr_icmp_le 26 23 rfl rfl rfl (by omega) (by decide) (fun h4 => ?_) (fun h4 => ?_)
      · skip
        refine qr_iconst 27 rfl rfl ?_
        refine qr_istore_n _ 28 rfl (by decide) rfl rfl ?_
        have hL109 : ∀ (n : Nat) (ls : qm_L) (u103 : Int) (α105 : Nat → Nat → Int), 4 - u103 < (n : Int) → qm_get ls 0 = some (.ref 16) → qm_get ls 1 = some (.int (qz x1)) → qm_get ls 2 = some (.int (qz x2)) → qm_get ls 3 = some (.int (qz u103)) → (0 ≤ u103 ∧ u103 ≤ 4) → qI σ α105 κ ρ → qFr [(16, 15)] [81] σ α σ α105 → qr_W (qe L xs vb) (d + 0) qx_e84 (fun r w' => ∃ σ' α', w' = qw σ' α' κ ρ ∧ qI σ' α' κ ρ ∧ qFr [(16, 15)] [81] σ α σ' α' ∧ ∃ v : Int, r = some (.int (qz v)) ∧ ((-2147483648) ≤ v ∧ v ≤ 2147483647) ∧ ((v = -1 ∧ ¬ (1 ≤ x1 ∧ x1 ≤ 4) ∧ σ' 16 15 = σ 16 15) ∨ (v = -3 ∧ (1 ≤ x1 ∧ x1 ≤ 4) ∧ 120 < σ 16 15 + x1 ∧ σ' 16 15 = σ 16 15) ∨ ((1 ≤ x1 ∧ x1 ≤ 4) ∧ σ 16 15 + x1 ≤ 120 ∧ v = σ 16 15 + x1 ∧ σ' 16 15 = v))) (28, ls, [], qw σ α105 κ ρ, 0, 0) := by
          intro n
          induction n with
          | zero => intro ls u103 α105 hm g99 g100 g101 g102 hf108 hI106 hF107; exact False.elim (by omega)
          | succ n ih110 =>
            intro ls u103 α105 hm g99 g100 g101 g102 hf108 hI106 hF107
            refine qr_iload_n 29 rfl g102 rfl ?_
            refine qr_iload_n 30 rfl g100 rfl ?_
            refine qr_icmp_ge 60 33 rfl rfl rfl (qrg hf108 (by decide) (by decide)) r1 (fun h111 => ?_) (fun h111 => ?_)
            · skip
              refine qr_aload_n 61 rfl g99 rfl ?_
              refine qr_dup 62 rfl rfl rfl ?_
              refine qr_get 65 rfl rfl rfl (by decide) rfl ?_
              refine qr_iload_n 66 rfl g100 rfl ?_
              refine qr_iadd 67 rfl rfl ?_
              refine qr_put 70 rfl (by decide) rfl (Nat.le_of_ble_eq_true rfl) (Nat.le_of_ble_eq_true rfl) (Or.inl rfl) (qr_fitI rfl _) rfl ?_
              refine qy_wS (qw_s σ 16 15 ((σ 16 15) + x1)) rfl (fun σ112 e113 => ?_)
              have hI114 : qI σ112 α105 κ ρ := by rw [e113]; exact qI_s hI106 16 15 rfl (show 0 ≤ ((σ 16 15) + x1) ∧ ((σ 16 15) + x1) ≤ 120 by omega)
              have hF115 : qFr [(16, 15)] [81] σ α σ112 α105 := by rw [e113]; exact qFr_s hF107 16 15 _ (by decide)
              refine qr_aload_n 71 rfl g99 rfl ?_
              refine qr_get 74 rfl rfl rfl (by decide) rfl ?_
              refine qy_v ((σ 16 15) + x1) ((congrFun (congrFun e113 16) 15).trans rfl) ?_
              refine qr_retI rfl rfl (by decide) (by decide) ?_
              have hw116 : σ112 16 15 = ((σ 16 15) + x1) := (congrFun (congrFun e113 16) 15).trans rfl
              exact ⟨_, _, rfl, hI114, hF115, ((σ 16 15) + x1), rfl, (by omega), by omega⟩
            · skip
              refine qr_aload_n 34 rfl g99 rfl ?_
              refine qr_get 37 rfl rfl rfl (by decide) rfl ?_
              refine qr_aload_n 38 rfl g99 rfl ?_
              refine qr_get 41 rfl rfl rfl (by decide) rfl ?_
              refine qr_iload_n 42 rfl g102 rfl ?_
              refine qr_iadd 43 rfl rfl ?_
              refine qr_iload_n 44 rfl g101 rfl ?_
              refine qr_bipush 46 rfl (by decide) rfl ?_
              refine qr_iload_n 47 rfl g102 rfl ?_
              refine qr_imul 48 rfl rfl ?_
              refine qr_iushr 49 rfl rfl ?_
              refine qy_can (fun v117 hv117 => ?_)
              refine qr_sipush 52 rfl (by decide) rfl ?_
              refine qr_iand 53 rfl rfl ?_
              refine qy_andr (by omega) (fun v118 hv118 => ?_)
              refine qr_iastore 54 rfl (by decide) rfl (by omega) (by decide) rfl ?_
              refine qy_wA (qw_r α105 81 (qzu (α105 81) (((σ 16 15) + u103) : Int).toNat v118)) rfl (fun α119 e120 => ?_)
              have hI121 : qI σ α119 κ ρ := by rw [e120]; exact qI_r hI106 81 _ rfl (show (-2147483648) ≤ v118 ∧ v118 ≤ 2147483647 by omega)
              have hF122 : qFr [(16, 15)] [81] σ α σ α119 := by rw [e120]; exact qFr_r hF107 81 _ (by decide)
              refine qr_iinc _ 57 rfl g102 (by decide) rfl rfl ?_
              refine qr_goto 28 rfl rfl ?_
              exact ih110 _ (u103 + 1) α119 (by omega) (qm_gk g99 (by decide) (Or.inl (by decide))) (qm_gk g100 (by decide) (Or.inl (by decide))) (qm_gk g101 (by decide) (Or.inr rfl)) (qm_ge _ _ _) (by omega) hI121 hF122
        exact hL109 ((4 - 0 + 1 : Int)).toNat _ 0 α (by omega) rfl rfl rfl rfl (by decide) hI hF0
      · skip
        refine qr_bipush 25 rfl (by decide) rfl ?_
        refine qr_retI rfl rfl (by decide) (by decide) ?_
        have hw123 : σ 16 15 = (σ 16 15) := rfl
        exact ⟨_, _, rfl, hI, hF0, (-3), rfl, (by decide), by omega⟩
    · skip
      refine qr_iconst 11 rfl rfl ?_
      refine qr_retI rfl rfl (by decide) (by decide) ?_
      have hw124 : σ 16 15 = (σ 16 15) := rfl
      exact ⟨_, _, rfl, hI, hF0, (-1), rfl, (by decide), by omega⟩
end
section
set_option maxHeartbeats 4000000 in
set_option maxRecDepth 20000 in
/-- OneRoofModel.feed -/
theorem sf_211_86f {L : Nat} {xs : Nat → Int} {vb : Bool} {d : Nat} {σ α : Nat → Nat → Int} {κ : Nat → Option Nat} {ρ : Nat} {x1 : Int} {x2 : Int} (hI : qI σ α κ ρ) (r1 : (-2147483648) ≤ x1 ∧ x1 ≤ 2147483647) (r2 : (-2147483648) ≤ x2 ∧ x2 ≤ 2147483647) : qm_T (qe L xs vb) (d + 2) 211 [.ref 86, .int (qz x1), .int (qz x2)] (qw σ α κ ρ) (fun r w' => ∃ σ' α', w' = qw σ' α' κ ρ ∧ qI σ' α' κ ρ ∧ qFr [(86, 32)] [106] σ α σ' α' ∧ ∃ v : Int, r = some (.int (qz v)) ∧ ((-2147483648) ≤ v ∧ v ≤ 2147483647) ∧ ((v = -1 ∧ ¬ (1 ≤ x1 ∧ x1 ≤ 4) ∧ σ' 86 32 = σ 86 32) ∨ (v = -3 ∧ (1 ≤ x1 ∧ x1 ≤ 4) ∧ 120 < σ 86 32 + x1 ∧ σ' 86 32 = σ 86 32) ∨ ((1 ≤ x1 ∧ x1 ≤ 4) ∧ σ 86 32 + x1 ≤ 120 ∧ v = σ 86 32 + x1 ∧ σ' 86 32 = v))) := by
  refine qr_start (d := d + 1) qv_e211 (Nat.le_of_ble_eq_true rfl) ?_
  show qr_W (qe L xs vb) (d + 1) qx_e211 _ (0, [(0, .ref 86), (1, .int (qz x1)), (2, .int (qz x2))], [], _, 0, 0)
  have hF0 := qFr_rf [(86, 32)] [106] σ α
  have hz86_32 : 0 ≤ σ 86 32 ∧ σ 86 32 ≤ 120 := hI.1 86 32
  have hz86_6 : 0 ≤ σ 86 6 ∧ σ 86 6 ≤ 32 := hI.1 86 6
  refine qr_iload_n 1 rfl rfl rfl ?_
  refine qr_i2l 2 rfl r1 rfl ?_
  refine qr_lconst 3 rfl rfl ?_
  refine qy_vl 1 rfl ?_
  refine qr_ldc2 4 6 rfl (by decide) rfl ?_
  refine qr_callN 9 rfl rfl rfl (sf_176 (d := d + 0) hI (qrg r1 (by decide) (by decide)) (by decide) (by decide)) ?_
  rintro _ _ ⟨rfl, v1, rfl, hv1, hp2⟩
  show qr_W (qe L xs vb) (d + 1) qx_e211 _ (9, _, [.int (qz v1)], qw σ α κ ρ, 0, 0)
  refine qr_if_ne 14 12 rfl rfl rfl (qrg hv1 (by decide) (by decide)) (fun h3 => ?_) (fun h3 => ?_)
  · skip
    refine qr_aload_n 15 rfl rfl rfl ?_
    refine qr_get 18 rfl rfl rfl (by decide) rfl ?_
    refine qr_iload_n 19 rfl rfl rfl ?_
    refine qr_iadd 20 rfl rfl ?_
    refine qr_bipush 22 rfl (by decide) rfl ?_
    refine qr_icmp_le 28 25 rfl rfl rfl (by omega) (by decide) (fun h4 => ?_) (fun h4 => ?_)
    · skip
      refine qr_iconst 29 rfl rfl ?_
      refine qr_istore_n _ 30 rfl (by decide) rfl rfl ?_
      have hL123 : ∀ (n : Nat) (ls : qm_L) (u114 : Int) (σ115 α116 : Nat → Nat → Int), 4 - u114 < (n : Int) → qm_get ls 0 = some (.ref 86) → qm_get ls 1 = some (.int (qz x1)) → qm_get ls 2 = some (.int (qz x2)) → qm_get ls 3 = some (.int (qz u114)) → (0 ≤ u114 ∧ u114 ≤ 4) → qI σ115 α116 κ ρ → qFr [(86, 32)] [106] σ α σ115 α116 → σ115 86 6 = (σ 86 6) → σ115 86 32 = σ 86 32 + u114 → u114 ≤ x1 → qr_W (qe L xs vb) (d + 1) qx_e211 (fun r w' => ∃ σ' α', w' = qw σ' α' κ ρ ∧ qI σ' α' κ ρ ∧ qFr [(86, 32)] [106] σ α σ' α' ∧ ∃ v : Int, r = some (.int (qz v)) ∧ ((-2147483648) ≤ v ∧ v ≤ 2147483647) ∧ ((v = -1 ∧ ¬ (1 ≤ x1 ∧ x1 ≤ 4) ∧ σ' 86 32 = σ 86 32) ∨ (v = -3 ∧ (1 ≤ x1 ∧ x1 ≤ 4) ∧ 120 < σ 86 32 + x1 ∧ σ' 86 32 = σ 86 32) ∨ ((1 ≤ x1 ∧ x1 ≤ 4) ∧ σ 86 32 + x1 ≤ 120 ∧ v = σ 86 32 + x1 ∧ σ' 86 32 = v))) (30, ls, [], qw σ115 α116 κ ρ, 0, 0) := by
        intro n
        induction n with
        | zero => intro ls u114 σ115 α116 hm g110 g111 g112 g113 hf120 hI117 hF118 hk119 hx121 hx122; exact False.elim (by omega)
        | succ n ih124 =>
          intro ls u114 σ115 α116 hm g110 g111 g112 g113 hf120 hI117 hF118 hk119 hx121 hx122
          have hs125 : 0 ≤ σ115 86 32 ∧ σ115 86 32 ≤ 120 := hI117.1 86 32
          refine qr_iload_n 31 rfl g113 rfl ?_
          refine qr_iload_n 32 rfl g111 rfl ?_
          refine qr_icmp_ge 70 35 rfl rfl rfl (qrg hf120 (by decide) (by decide)) r1 (fun h126 => ?_) (fun h126 => ?_)
          · skip
            refine qr_aload_n 71 rfl g110 rfl ?_
            refine qr_get 74 rfl rfl rfl (by decide) rfl ?_
            refine qr_retI rfl rfl (by decide) (by decide) ?_
            have hw127 : σ115 86 32 = (σ115 86 32) := rfl
            exact ⟨_, _, rfl, hI117, hF118, (σ115 86 32), rfl, (by omega), by omega⟩
          · skip
            refine qr_aload_n 36 rfl g110 rfl ?_
            refine qr_get 39 rfl rfl rfl (by decide) rfl ?_
            refine qr_aload_n 40 rfl g110 rfl ?_
            refine qr_get 43 rfl rfl rfl (by decide) rfl ?_
            refine qr_iload_n 44 rfl g112 rfl ?_
            refine qr_bipush 46 rfl (by decide) rfl ?_
            refine qr_iload_n 47 rfl g113 rfl ?_
            refine qr_imul 48 rfl rfl ?_
            refine qr_ishr 49 rfl rfl ?_
            refine qy_can (fun v128 hv128 => ?_)
            refine qr_sipush 52 rfl (by decide) rfl ?_
            refine qr_iand 53 rfl rfl ?_
            refine qy_andr (by omega) (fun v129 hv129 => ?_)
            refine qr_iastore 54 rfl (by decide) rfl (by omega) (by decide) rfl ?_
            refine qy_wA (qw_r α116 106 (qzu (α116 106) ((σ115 86 32) : Int).toNat v129)) rfl (fun α130 e131 => ?_)
            have hI132 : qI σ115 α130 κ ρ := by rw [e131]; exact qI_r hI117 106 _ rfl (show (-2147483648) ≤ v129 ∧ v129 ≤ 2147483647 by omega)
            have hF133 : qFr [(86, 32)] [106] σ α σ115 α130 := by rw [e131]; exact qFr_r hF118 106 _ (by decide)
            refine qr_aload_n 55 rfl g110 rfl ?_
            refine qr_dup 56 rfl rfl rfl ?_
            refine qr_get 59 rfl rfl rfl (by decide) rfl ?_
            refine qr_iconst 60 rfl rfl ?_
            refine qr_iadd 61 rfl rfl ?_
            refine qr_put 64 rfl (by decide) rfl (Nat.le_of_ble_eq_true rfl) (Nat.le_of_ble_eq_true rfl) (Or.inl rfl) (qr_fitI rfl _) rfl ?_
            refine qy_wS (qw_s σ115 86 32 ((σ115 86 32) + 1)) rfl (fun σ134 e135 => ?_)
            have hI136 : qI σ134 α130 κ ρ := by rw [e135]; exact qI_s hI132 86 32 rfl (show 0 ≤ ((σ115 86 32) + 1) ∧ ((σ115 86 32) + 1) ≤ 120 by omega)
            have hF137 : qFr [(86, 32)] [106] σ α σ134 α130 := by rw [e135]; exact qFr_s hF133 86 32 _ (by decide)
            refine qr_iinc _ 67 rfl g113 (by decide) rfl rfl ?_
            refine qr_goto 30 rfl rfl ?_
            exact ih124 _ (u114 + 1) σ134 α130 (by omega) (qm_gk g110 (by decide) (Or.inl (by decide))) (qm_gk g111 (by decide) (Or.inl (by decide))) (qm_gk g112 (by decide) (Or.inr rfl)) (qm_ge _ _ _) (by omega) hI136 hF137 ((congrFun (congrFun e135 86) 6).trans ((hk119).trans rfl)) (by have hw : σ134 86 32 = ((σ115 86 32) + 1) := (congrFun (congrFun e135 86) 32).trans rfl; omega) (by have hw : σ134 86 32 = ((σ115 86 32) + 1) := (congrFun (congrFun e135 86) 32).trans rfl; omega)
      exact hL123 ((4 - 0 + 1 : Int)).toNat _ 0 σ α (by omega) rfl rfl rfl rfl (by decide) hI hF0 (rfl) (by have hw : σ 86 32 = (σ 86 32) := rfl; omega) (by have hw : σ 86 32 = (σ 86 32) := rfl; omega)
    · skip
      refine qr_bipush 27 rfl (by decide) rfl ?_
      refine qr_retI rfl rfl (by decide) (by decide) ?_
      have hw138 : σ 86 32 = (σ 86 32) := rfl
      exact ⟨_, _, rfl, hI, hF0, (-3), rfl, (by decide), by omega⟩
  · skip
    refine qr_iconst 13 rfl rfl ?_
    refine qr_retI rfl rfl (by decide) (by decide) ?_
    have hw139 : σ 86 32 = (σ 86 32) := rfl
    exact ⟨_, _, rfl, hI, hF0, (-1), rfl, (by decide), by omega⟩

set_option maxHeartbeats 4000000 in
set_option maxRecDepth 20000 in
/-- OneRoofModel.custom -/
theorem sf_212_86f {L : Nat} {xs : Nat → Int} {vb : Bool} {d : Nat} {σ α : Nat → Nat → Int} {κ : Nat → Option Nat} {ρ : Nat} {x1 : Int} (hI : qI σ α κ ρ) (r1 : (-2147483648) ≤ x1 ∧ x1 ≤ 2147483647) : qm_T (qe L xs vb) (d + 45) 212 [.ref 86, .int (qz x1)] (qw σ α κ ρ) (fun r w' => ∃ σ' α', w' = qw σ' α' κ ρ ∧ qI σ' α' κ ρ ∧ qFr [(86, 32), (86, 35), (86, 36), (86, 37), (86, 38), (86, 39)] [107, 108] σ α σ' α' ∧ ∃ v : Int, r = some (.int (qz v)) ∧ ((-2147483648) ≤ v ∧ v ≤ 2147483647) ∧ (((x1 = 0 ∨ x1 = 1) ∧ σ' 86 32 = 0) ∨ (¬ (x1 = 0 ∨ x1 = 1) ∧ σ' 86 32 = σ 86 32))) := by
  refine qr_start (d := d + 44) qv_e212 (Nat.le_of_ble_eq_true rfl) ?_
  show qr_W (qe L xs vb) (d + 44) qx_e212 _ (0, [(0, .ref 86), (1, .int (qz x1))], [], _, 0, 0)
  have hF0 := qFr_rf [(86, 32), (86, 35), (86, 36), (86, 37), (86, 38), (86, 39)] [107, 108] σ α
  have hz86_32 : 0 ≤ σ 86 32 ∧ σ 86 32 ≤ 120 := hI.1 86 32
  have hz86_6 : 0 ≤ σ 86 6 ∧ σ 86 6 ≤ 32 := hI.1 86 6
  refine qr_iload_n 1 rfl rfl rfl ?_
  refine qr_i2l 2 rfl r1 rfl ?_
  refine qr_lconst 3 rfl rfl ?_
  refine qy_vl 0 rfl ?_
  refine qr_lconst 4 rfl rfl ?_
  refine qy_vl 1 rfl ?_
  refine qr_callN 7 rfl rfl rfl (sf_176 (d := d + 43) hI (qrg r1 (by decide) (by decide)) (by decide) (by decide)) ?_
  rintro _ _ ⟨rfl, v1, rfl, hv1, hp2⟩
  show qr_W (qe L xs vb) (d + 44) qx_e212 _ (7, _, [.int (qz v1)], qw σ α κ ρ, 0, 0)
  refine qr_if_ne 12 10 rfl rfl rfl (qrg hv1 (by decide) (by decide)) (fun h3 => ?_) (fun h3 => ?_)
  · skip
    refine qr_aload_n 13 rfl rfl rfl ?_
    refine qr_iconst 14 rfl rfl ?_
    refine qr_aload_n 15 rfl rfl rfl ?_
    refine qr_get 18 rfl rfl rfl (by decide) rfl ?_
    refine qr_callN 21 rfl rfl rfl (sf_213_86 (d := d + 0) hI (by decide) hz86_32) ?_
    rintro _ _ ⟨σ5, rfl, hI6, hG7, v4, rfl, hv4⟩
    have hF8 : qFr [(86, 32), (86, 35), (86, 36), (86, 37), (86, 38), (86, 39)] [107, 108] σ α σ5 α := qFr_t hF0 hG7 (by decide) (by decide)
    show qr_W (qe L xs vb) (d + 44) qx_e212 _ (21, _, [.int (qz v4)], qw σ5 α κ ρ, 0, 0)
    refine qr_istore_n _ 22 rfl (by decide) rfl rfl ?_
    refine qr_aload_n 23 rfl rfl rfl ?_
    refine qr_get 26 rfl rfl rfl (by decide) rfl ?_
    refine qy_v (σ 86 32) ((hG7.1 86 32 (by decide)).trans rfl) ?_
    refine qr_istore_n _ 27 rfl (by decide) rfl rfl ?_
    refine qr_aload_n 28 rfl rfl rfl ?_
    refine qr_iconst 29 rfl rfl ?_
    refine qr_put 32 rfl (by decide) rfl (Nat.le_of_ble_eq_true rfl) (Nat.le_of_ble_eq_true rfl) (Or.inl rfl) (qr_fitI rfl _) rfl ?_
    refine qy_wS (qw_s σ5 86 32 0) rfl (fun σ9 e10 => ?_)
    have hI11 : qI σ9 α κ ρ := by rw [e10]; exact qI_s hI6 86 32 rfl (show 0 ≤ 0 ∧ 0 ≤ 120 by omega)
    have hF12 : qFr [(86, 32), (86, 35), (86, 36), (86, 37), (86, 38), (86, 39)] [107, 108] σ α σ9 α := by rw [e10]; exact qFr_s hF8 86 32 _ (by decide)
    refine qr_aload_n 33 rfl rfl rfl ?_
    refine qr_get 36 rfl rfl rfl (by decide) rfl ?_
    have hs13 : (-1) ≤ σ9 86 38 ∧ σ9 86 38 ≤ 120 := hI11.1 86 38
    refine qr_if_lt 47 39 rfl rfl rfl (qrg hs13 (by decide) (by decide)) (fun h14 => ?_) (fun h14 => ?_)
    · skip
      refine qr_iconst 48 rfl rfl ?_
      refine qr_istore _ 50 rfl (by decide) rfl rfl ?_
      have hL645 : ∀ (n : Nat) (ls : qm_L) (u639 : Int) (α641 : Nat → Nat → Int), 120 - u639 < (n : Int) → qm_get ls 0 = some (.ref 86) → qm_get ls 1 = some (.int (qz x1)) → qm_get ls 3 = some (.int (qz (σ 86 32))) → qm_get ls 4 = some (.int (qz u639)) → (0 ≤ u639 ∧ u639 ≤ 120) → qI σ9 α641 κ ρ → qFr [(86, 32), (86, 35), (86, 36), (86, 37), (86, 38), (86, 39)] [107, 108] σ α σ9 α641 → qr_W (qe L xs vb) (d + 44) qx_e212 (fun r w' => ∃ σ' α', w' = qw σ' α' κ ρ ∧ qI σ' α' κ ρ ∧ qFr [(86, 32), (86, 35), (86, 36), (86, 37), (86, 38), (86, 39)] [107, 108] σ α σ' α' ∧ ∃ v : Int, r = some (.int (qz v)) ∧ ((-2147483648) ≤ v ∧ v ≤ 2147483647) ∧ (((x1 = 0 ∨ x1 = 1) ∧ σ' 86 32 = 0) ∨ (¬ (x1 = 0 ∨ x1 = 1) ∧ σ' 86 32 = σ 86 32))) (50, ls, [], qw σ9 α641 κ ρ, 0, 0) := by
        intro n
        induction n with
        | zero => intro ls u639 α641 hm g635 g636 g637 g638 hf644 hI642 hF643; exact False.elim (by omega)
        | succ n ih646 =>
          intro ls u639 α641 hm g635 g636 g637 g638 hf644 hI642 hF643
          refine qr_iload 52 rfl g638 rfl ?_
          refine qr_iload_n 53 rfl g637 rfl ?_
          refine qr_icmp_ge 81 56 rfl rfl rfl (qrg hf644 (by decide) (by decide)) (qrg hz86_32 (by decide) (by decide)) (fun h653 => ?_) (fun h653 => ?_)
          · skip
            refine qr_aload_n 82 rfl g635 rfl ?_
            refine qr_get 85 rfl rfl rfl (by decide) rfl ?_
            refine qr_iload_n 86 rfl g636 rfl ?_
            refine qr_iload_n 87 rfl g637 rfl ?_
            refine qr_iastore 88 rfl (by decide) rfl (by omega) (by decide) rfl ?_
            refine qy_wA (qw_r α641 108 (qzu (α641 108) (x1 : Int).toNat (σ 86 32))) rfl (fun α654 e655 => ?_)
            have hI656 : qI σ9 α654 κ ρ := by rw [e655]; exact qI_r hI642 108 _ rfl (show (-1) ≤ (σ 86 32) ∧ (σ 86 32) ≤ 120 by omega)
            have hF657 : qFr [(86, 32), (86, 35), (86, 36), (86, 37), (86, 38), (86, 39)] [107, 108] σ α σ9 α654 := by rw [e655]; exact qFr_r hF643 108 _ (by decide)
            refine qr_iconst 89 rfl rfl ?_
            refine qr_retI rfl rfl (by decide) (by decide) ?_
            have hw658 : σ9 86 32 = 0 := (congrFun (congrFun e10 86) 32).trans rfl
            exact ⟨_, _, rfl, hI656, hF657, 1, rfl, (by decide), by omega⟩
          · skip
            refine qr_aload_n 57 rfl g635 rfl ?_
            refine qr_get 60 rfl rfl rfl (by decide) rfl ?_
            refine qr_bipush 62 rfl (by decide) rfl ?_
            refine qr_iload_n 63 rfl g636 rfl ?_
            refine qr_imul 64 rfl rfl ?_
            refine qr_iload 66 rfl g638 rfl ?_
            refine qr_iadd 67 rfl rfl ?_
            refine qr_aload_n 68 rfl g635 rfl ?_
            refine qr_get 71 rfl rfl rfl (by decide) rfl ?_
            refine qr_iload 73 rfl g638 rfl ?_
            refine qr_iaload 74 rfl rfl (by omega) (by decide) rfl ?_
            refine qr_topI (fun v659 hv659 => ?_)
            have hs660 : (-2147483648) ≤ v659 ∧ v659 ≤ 2147483647 := by rw [hv659]; exact hI642.2.1 106 _ (show _ < 120 by omega)
            refine qr_iastore 75 rfl (by decide) rfl (by omega) (by decide) rfl ?_
            refine qy_wA (qw_r α641 107 (qzu (α641 107) (((120 * x1) + u639) : Int).toNat v659)) rfl (fun α661 e662 => ?_)
            have hI663 : qI σ9 α661 κ ρ := by rw [e662]; exact qI_r hI642 107 _ rfl (show (-2147483648) ≤ v659 ∧ v659 ≤ 2147483647 by omega)
            have hF664 : qFr [(86, 32), (86, 35), (86, 36), (86, 37), (86, 38), (86, 39)] [107, 108] σ α σ9 α661 := by rw [e662]; exact qFr_r hF643 107 _ (by decide)
            refine qr_iinc _ 78 rfl g638 (by decide) rfl rfl ?_
            refine qr_goto 50 rfl rfl ?_
            exact ih646 _ (u639 + 1) α661 (by omega) (qm_gk g635 (by decide) (Or.inl (by decide))) (qm_gk g636 (by decide) (Or.inl (by decide))) (qm_gk g637 (by decide) (Or.inr rfl)) (qm_ge _ _ _) (by omega) hI663 hF664
      exact hL645 ((120 - 0 + 1 : Int)).toNat _ 0 α (by omega) rfl rfl rfl rfl (by decide) hI11 hF12
    · skip
      refine qr_bipush 41 rfl (by decide) rfl ?_
      refine qr_aload_n 42 rfl rfl rfl ?_
      refine qr_get 45 rfl rfl rfl (by decide) rfl ?_
      refine qr_isub 46 rfl rfl ?_
      refine qr_retI rfl rfl (by decide) (by decide) ?_
      have hw665 : σ9 86 32 = 0 := (congrFun (congrFun e10 86) 32).trans rfl
      exact ⟨_, _, rfl, hI11, hF12, ((-100) - (σ9 86 38)), rfl, (by omega), by omega⟩
  · skip
    refine qr_iconst 11 rfl rfl ?_
    refine qr_retI rfl rfl (by decide) (by decide) ?_
    have hw666 : σ 86 32 = (σ 86 32) := rfl
    exact ⟨_, _, rfl, hI, hF0, (-1), rfl, (by decide), by omega⟩
end
section
/-! the fresh objects keep the ranges -/
theorem qI_st0 : qI_st.all (fun q => decide (q.2.2.1 ≤ 0 ∧ 0 ≤ q.2.2.2)) = true := by decide +kernel
theorem qI_rt0 : qI_rt.all (fun q => decide (q.2.2.1 ≤ 0 ∧ 0 ≤ q.2.2.2)) = true := by decide +kernel
theorem qI_sr0 (a k : Nat) : (qI_sr a k).1 ≤ 0 ∧ 0 ≤ (qI_sr a k).2 := by
  unfold qI_sr
  cases h : qI_st.find? (fun q => q.1 == a && q.2.1 == k) with
  | none => exact ⟨by decide, by decide⟩
  | some q => exact of_decide_eq_true (List.all_eq_true.mp qI_st0 q (List.mem_of_find?_eq_some h))
theorem qI_rr0 (a : Nat) : (qI_rr a).2.1 ≤ 0 ∧ 0 ≤ (qI_rr a).2.2 := by
  unfold qI_rr
  cases h : qI_rt.find? (fun q => q.1 == a) with
  | none => exact ⟨by decide, by decide⟩
  | some q => exact of_decide_eq_true (List.all_eq_true.mp qI_rt0 q (List.mem_of_find?_eq_some h))
/-- numbers and rows of the fresh objects, with what nothing reads at 0 -/
def qJ_s (s : Nat → Nat → Int) : Nat → Nat → Int := fun a k => if (a = 50 ∨ a = 54 ∨ a = 82) ∧ ¬ (3 ≤ k ∧ k ≤ 7) then 0 else qo_s s a k
def qJ_r (g : Nat → Nat → Int) : Nat → Nat → Int := fun a => if a = 52 ∨ a = 56 ∨ a = 84 then (fun j => (qz (qo_r g a j)).toInt) else qo_r g a
theorem qJ_w (s g : Nat → Nat → Int) : qw (qo_s s) (qo_r g) qo_k 82 = qw (qJ_s s) (qJ_r g) qo_k 82 := by
  have e1 : qzf (qo_r g 52) = qzf (qJ_r g 52) := qzf_can _
  have e2 : qzf (qo_r g 56) = qzf (qJ_r g 56) := qzf_can _
  have e3 : qzf (qo_r g 84) = qzf (qJ_r g 84) := qzf_can _
  unfold qw
  rw [e1, e2, e3]
  rfl
theorem qJ_so {s : Nat → Nat → Int} (a k : Nat) (h : ¬ (a = 50 ∨ a = 54 ∨ a = 82)) : qJ_s s a k = if a = 86 ∧ k = 51 then -1 else 0 := by
  unfold qJ_s qo_s
  rw [if_neg (fun q => h q.1), if_neg (fun q => h (Or.inl q)), if_neg (fun q => h (Or.inr (Or.inl q))), if_neg (fun q => h (Or.inr (Or.inr q)))]
  by_cases h1 : a = 86 <;> by_cases h2 : k = 51 <;> simp [h1, h2]
theorem qJ_ro {g : Nat → Nat → Int} (a : Nat) (h : ¬ (a = 24 ∨ a = 26 ∨ a = 51 ∨ a = 52 ∨ a = 55 ∨ a = 56 ∨ a = 83 ∨ a = 84 ∨ a = 45 ∨ a = 108 ∨ a = 121)) (j : Nat) : qJ_r g a j = 0 := by
  unfold qJ_r
  rw [if_neg (by omega)]
  unfold qo_r
  rw [if_neg (by omega), if_neg (by omega), if_neg (by omega), if_neg (by omega), if_neg (by omega), if_neg (by omega), if_neg (by omega), if_neg (by omega), if_neg (by omega), if_neg (by omega), if_neg (by omega)]
theorem qJ_I {s g : Nat → Nat → Int} (h : qo_ok s g) : qI (qJ_s s) (qJ_r g) qo_k 82 := by
  have z : ∀ a k, ¬ (a = 50 ∨ a = 54 ∨ a = 82) → ¬ (a = 86 ∧ k = 51) → qJ_s s a k = 0 := fun a k h1 h2 => (qJ_so a k h1).trans (if_neg h2)
  refine ⟨fun a k => ?_, fun a j hj => ?_, ⟨⟨50, rfl, Or.inl rfl⟩, ⟨54, rfl, Or.inr (Or.inl rfl)⟩, Or.inr (Or.inr rfl)⟩, ?_, ?_, ?_, ?_, ?_, ?_, ?_⟩
  · by_cases h1 : a = 50 ∨ a = 54 ∨ a = 82
    · by_cases h2 : 3 ≤ k ∧ k ≤ 7
      · have hk : k = 3 ∨ k = 4 ∨ k = 5 ∨ k = 6 ∨ k = 7 := by omega
        have h3 := h.1
        have h40 := h.2.1 0 (by decide)
        have h41 := h.2.1 1 (by decide)
        have h42 := h.2.1 2 (by decide)
        rcases h1 with rfl | rfl | rfl <;> rcases hk with rfl | rfl | rfl | rfl | rfl
        · show 0 ≤ s 0 3 ∧ s 0 3 ≤ 120; omega
        · show 0 ≤ s 0 4 ∧ s 0 4 ≤ 120; omega
        · show 0 ≤ s 0 5 ∧ s 0 5 ≤ 122; omega
        · show -2147483648 ≤ s 0 6 ∧ s 0 6 ≤ 2147483647; omega
        · show 0 ≤ s 0 7 ∧ s 0 7 ≤ 1; omega
        · show 0 ≤ s 1 3 ∧ s 1 3 ≤ 120; omega
        · show 0 ≤ s 1 4 ∧ s 1 4 ≤ 120; omega
        · show 0 ≤ s 1 5 ∧ s 1 5 ≤ 122; omega
        · show -2147483648 ≤ s 1 6 ∧ s 1 6 ≤ 2147483647; omega
        · show 0 ≤ s 1 7 ∧ s 1 7 ≤ 1; omega
        · show 0 ≤ s 2 3 ∧ s 2 3 ≤ 120; omega
        · show 0 ≤ s 2 4 ∧ s 2 4 ≤ 120; omega
        · show 0 ≤ s 2 5 ∧ s 2 5 ≤ 122; omega
        · show -2147483648 ≤ s 2 6 ∧ s 2 6 ≤ 2147483647; omega
        · show 0 ≤ s 2 7 ∧ s 2 7 ≤ 1; omega
      · have e : qJ_s s a k = 0 := if_pos ⟨h1, h2⟩
        rw [e]
        exact qI_sr0 a k
    · by_cases h2 : a = 86 ∧ k = 51
      · obtain ⟨rfl, rfl⟩ := h2
        show -9223372036854775808 ≤ (-1 : Int) ∧ (-1 : Int) ≤ 9223372036854775807
        decide
      · rw [z a k h1 h2]
        exact qI_sr0 a k
  · by_cases h1 : a = 24 ∨ a = 26 ∨ a = 51 ∨ a = 52 ∨ a = 55 ∨ a = 56 ∨ a = 83 ∨ a = 84 ∨ a = 45 ∨ a = 108 ∨ a = 121
    · rcases h1 with rfl | rfl | rfl | rfl | rfl | rfl | rfl | rfl | rfl | rfl | rfl
      · have e := h.2.2.1 24 (Or.inl rfl) j hj
        show 0 ≤ g 24 j ∧ g 24 j ≤ 99
        rw [e]
        split <;> omega
      · have e := h.2.2.1 26 (Or.inr rfl) j hj
        show 0 ≤ g 26 j ∧ g 26 j ≤ 99
        rw [e]
        split <;> omega
      · exact h.2.2.2 51 (Or.inl rfl) j
      · exact qz_rng _
      · exact h.2.2.2 55 (Or.inr (Or.inl rfl)) j
      · exact qz_rng _
      · exact h.2.2.2 83 (Or.inr (Or.inr rfl)) j
      · exact qz_rng _
      · show 0 ≤ (qzu (qzu (qzu (qzu (qzu (qzu (fun _ => (0 : Int)) 0 6) 1 6) 2 6) 3 6) 4 6) 5 6) j ∧ (qzu (qzu (qzu (qzu (qzu (qzu (fun _ => (0 : Int)) 0 6) 1 6) 2 6) 3 6) 4 6) 5 6) j ≤ 6
        unfold qzu
        repeat' split
        all_goals first | omega | (dsimp only; omega)
      · show -1 ≤ (qzu (qzu (fun _ => (0 : Int)) 0 (-1)) 1 (-1)) j ∧ (qzu (qzu (fun _ => (0 : Int)) 0 (-1)) 1 (-1)) j ≤ 120
        unfold qzu
        repeat' split
        all_goals first | omega | (dsimp only; omega)
      · show -1 ≤ (qzu (qzu (qzu (qzu (qzu (qzu (fun _ => (0 : Int)) 0 (-1)) 1 (-1)) 2 (-1)) 3 (-1)) 4 (-1)) 5 (-1)) j ∧ (qzu (qzu (qzu (qzu (qzu (qzu (fun _ => (0 : Int)) 0 (-1)) 1 (-1)) 2 (-1)) 3 (-1)) 4 (-1)) 5 (-1)) j ≤ 64
        unfold qzu
        repeat' split
        all_goals first | omega | (dsimp only; omega)
    · rw [qJ_ro a h1 j]
      exact qI_rr0 a
  · intro i j _ hj
    have e : qJ_s s 64 2 = 0 := rfl
    rw [e] at hj
    omega
  · rintro a (rfl | rfl) j _
    · show (0 : Int) % 100 ≤ 31; decide
    · show (0 : Int) % 100 ≤ 31; decide
  · intro j _
    show ((0 : Int) = 0 → (0 : Int) ≤ 39) ∧ ((0 : Int) = 2 → (0 : Int) ≤ 31) ∧ (¬ (0 : Int) = 0 → ¬ (0 : Int) = 1 → ¬ (0 : Int) = 2 → (0 : Int) ≤ 59)
    omega
  · intro j _
    show (0 : Int) < (j : Int) ∨ (j = 0 ∧ (0 : Int) = 0)
    omega
  · show (0 : Int) ≤ 0
    decide
  · intro j hj
    have e : qJ_s s 86 11 = 0 := rfl
    rw [e] at hj
    omega
  · intro hk
    have e : qJ_s s 86 15 = 0 := rfl
    rw [e] at hk
    exact absurd hk (by decide)
end
