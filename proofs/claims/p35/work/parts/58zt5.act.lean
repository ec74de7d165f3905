set_option maxHeartbeats 4000000 in
set_option maxRecDepth 20000 in
/-- OneRoofModel.coversAs -/
theorem sf_259_86e1_1 {L : Nat} {xs : Nat → Int} {vb : Bool} {d : Nat} {σ α : Nat → Nat → Int} {κ : Nat → Option Nat} {ρ : Nat} {x2 : Int} (hI : qI σ α κ ρ) (r2 : (-2147483648) ≤ x2 ∧ x2 ≤ 2147483647) (p0 : 0 ≤ σ 86 56 ∧ σ 86 56 ≤ 21) (p1 : σ 86 57 = 1) : qm_T (qe L xs vb) (d + 4) 259 [.ref 86, .int (qz 1), .int (qz x2)] (qw σ α κ ρ) (fun r w' => ∃ σ' α', w' = qw σ' α' κ ρ ∧ qI σ' α' κ ρ ∧ qFr [(86, 56)] [120] σ α σ' α' ∧ σ' 86 56 = σ 86 56 + 3 ∧ ∃ v : Int, r = some (.int (qz v)) ∧ ((-2147483648) ≤ v ∧ v ≤ 2147483647) ∧ v = qac_m (qac_a (qac_a x2 (σ 86 58)) 3) 2 ∧ α' 120 = qac_t [10, 20, 1] (α 120) (σ 86 56)) := by
  refine qr_start (d := d + 3) qv_e259 (Nat.le_of_ble_eq_true rfl) ?_
  show qr_W (qe L xs vb) (d + 3) qx_e259 _ (0, [(0, .ref 86), (1, .int (qz 1)), (2, .int (qz x2))], [], _, 0, 0)
  have hF0 := qFr_rf [(86, 56)] [120] σ α
  have hz86_56 : (-2147483648) ≤ σ 86 56 ∧ σ 86 56 ≤ 2147483647 := hI.1 86 56
  have hz86_57 : (-2147483648) ≤ σ 86 57 ∧ σ 86 57 ≤ 2147483647 := hI.1 86 57
  have hz86_58 : (-2147483648) ≤ σ 86 58 ∧ σ 86 58 ≤ 2147483647 := hI.1 86 58
  refine qr_iload_n 1 rfl rfl rfl ?_
  refine qr_iconst 2 rfl rfl ?_
  refine qr_icmp_ne 19 5 rfl rfl rfl (by decide) (by decide) (fun h1 => ?_) (fun h => False.elim (by omega))
  refine qr_iload_n 20 rfl rfl rfl ?_
  refine qr_bipush 22 rfl (by decide) rfl ?_
  refine qr_icmp_ne 40 25 rfl rfl rfl (by decide) (by decide) (fun h2 => ?_) (fun h => False.elim (by omega))
  refine qr_aload_n 41 rfl rfl rfl ?_
  refine qr_bipush 43 rfl (by decide) rfl ?_
  have hs3 : (-2147483648) ≤ σ 86 56 ∧ σ 86 56 ≤ 2147483647 := hI.1 86 56
  refine qr_callN 46 rfl rfl rfl (sf_257_86e (d := d + 2) hI (by decide) (by omega)) ?_
  rintro _ _ ⟨σ6, α7, rfl, hI8, hG9, hw5, rfl, hx4⟩
  have hF10 : qFr [(86, 56)] [120] σ α σ6 α7 := qFr_t hF0 hG9 (by decide) (by decide)
  have hs11 : (-2147483648) ≤ σ6 86 56 ∧ σ6 86 56 ≤ 2147483647 := hI8.1 86 56
  show qr_W (qe L xs vb) (d + 3) qx_e259 _ (46, _, [], qw σ6 α7 κ ρ, 0, 0)
  refine qr_aload_n 47 rfl rfl rfl ?_
  refine qr_aload_n 48 rfl rfl rfl ?_
  refine qr_get 51 rfl rfl rfl (by decide) rfl ?_
  refine qy_v (σ 86 57) ((hG9.1 86 57 (by decide)).trans rfl) ?_
  refine qr_iload_n 52 rfl rfl rfl ?_
  have hr12 : σ6 86 56 = (σ6 86 56) := rfl
  have hc13 : (σ 86 57) = 1 := by omega
  rw [hc13]
  have hs14 : (-2147483648) ≤ σ6 86 56 ∧ σ6 86 56 ≤ 2147483647 := hI8.1 86 56
  have hs15 : (-2147483648) ≤ σ6 86 57 ∧ σ6 86 57 ≤ 2147483647 := hI8.1 86 57
  have hs16 : σ6 86 57 = (σ 86 57) := (hG9.1 86 57 (by decide)).trans rfl
  refine qr_callN 55 rfl rfl rfl (sf_256_86e1_1 (d := d + 0) hI8 r2 (by omega) (by omega)) ?_
  rintro _ _ ⟨σ21, α22, rfl, hI23, hG24, hw20, v17, rfl, hv17, hx18, hx19⟩
  have hF25 : qFr [(86, 56)] [120] σ α σ21 α22 := qFr_t hF10 hG24 (by decide) (by decide)
  have hs26 : (-2147483648) ≤ σ21 86 56 ∧ σ21 86 56 ≤ 2147483647 := hI23.1 86 56
  show qr_W (qe L xs vb) (d + 3) qx_e259 _ (55, _, [.int (qz v17)], qw σ21 α22 κ ρ, 0, 0)
  rw [hF10.1 86 58 (by decide)] at hx18
  refine qr_iconst 56 rfl rfl ?_
  refine qr_imul 57 rfl rfl ?_
  refine qy_canE (fun v27 hv27 hev27 => ?_)
  refine qr_retI rfl rfl (by decide) (by decide) ?_
  exact ⟨_, _, rfl, hI23, hF25, (by have hw : σ21 86 56 = (σ21 86 56) := rfl; omega), v27, rfl, hv27, ((qac_v hev27 (by omega)).trans (by rw [hx18]; rfl)), (by rw [hx19, show α7 120 = qzu (α 120) (σ 86 56 : Int).toNat 10 from (hx4.trans (congrArg (fun f => qzu (f) (σ 86 56 : Int).toNat (10)) rfl)), show σ6 86 56 = σ 86 56 + 1 by omega]; rfl)⟩

set_option maxHeartbeats 4000000 in
set_option maxRecDepth 20000 in
/-- OneRoofModel.coversAs -/
theorem sf_259_86e2_2 {L : Nat} {xs : Nat → Int} {vb : Bool} {d : Nat} {σ α : Nat → Nat → Int} {κ : Nat → Option Nat} {ρ : Nat} {x2 : Int} (hI : qI σ α κ ρ) (r2 : (-2147483648) ≤ x2 ∧ x2 ≤ 2147483647) (p0 : 0 ≤ σ 86 56 ∧ σ 86 56 ≤ 20) (p1 : σ 86 57 = 2) : qm_T (qe L xs vb) (d + 5) 259 [.ref 86, .int (qz 2), .int (qz x2)] (qw σ α κ ρ) (fun r w' => ∃ σ' α', w' = qw σ' α' κ ρ ∧ qI σ' α' κ ρ ∧ qFr [(86, 56)] [120] σ α σ' α' ∧ σ' 86 56 = σ 86 56 + 4 ∧ ∃ v : Int, r = some (.int (qz v)) ∧ ((-2147483648) ≤ v ∧ v ≤ 2147483647) ∧ v = qac_m (qac_a (qac_a (qac_a x2 1) (σ 86 58)) 3) 2 ∧ α' 120 = qac_t [10, 31, 20, 1] (α 120) (σ 86 56)) := by
  refine qr_start (d := d + 4) qv_e259 (Nat.le_of_ble_eq_true rfl) ?_
  show qr_W (qe L xs vb) (d + 4) qx_e259 _ (0, [(0, .ref 86), (1, .int (qz 2)), (2, .int (qz x2))], [], _, 0, 0)
  have hF0 := qFr_rf [(86, 56)] [120] σ α
  have hz86_56 : (-2147483648) ≤ σ 86 56 ∧ σ 86 56 ≤ 2147483647 := hI.1 86 56
  have hz86_57 : (-2147483648) ≤ σ 86 57 ∧ σ 86 57 ≤ 2147483647 := hI.1 86 57
  have hz86_58 : (-2147483648) ≤ σ 86 58 ∧ σ 86 58 ≤ 2147483647 := hI.1 86 58
  refine qr_iload_n 1 rfl rfl rfl ?_
  refine qr_iconst 2 rfl rfl ?_
  refine qr_icmp_ne 19 5 rfl rfl rfl (by decide) (by decide) (fun h1 => ?_) (fun h => False.elim (by omega))
  refine qr_iload_n 20 rfl rfl rfl ?_
  refine qr_bipush 22 rfl (by decide) rfl ?_
  refine qr_icmp_ne 40 25 rfl rfl rfl (by decide) (by decide) (fun h2 => ?_) (fun h => False.elim (by omega))
  refine qr_aload_n 41 rfl rfl rfl ?_
  refine qr_bipush 43 rfl (by decide) rfl ?_
  have hs3 : (-2147483648) ≤ σ 86 56 ∧ σ 86 56 ≤ 2147483647 := hI.1 86 56
  refine qr_callN 46 rfl rfl rfl (sf_257_86e (d := d + 3) hI (by decide) (by omega)) ?_
  rintro _ _ ⟨σ6, α7, rfl, hI8, hG9, hw5, rfl, hx4⟩
  have hF10 : qFr [(86, 56)] [120] σ α σ6 α7 := qFr_t hF0 hG9 (by decide) (by decide)
  have hs11 : (-2147483648) ≤ σ6 86 56 ∧ σ6 86 56 ≤ 2147483647 := hI8.1 86 56
  show qr_W (qe L xs vb) (d + 4) qx_e259 _ (46, _, [], qw σ6 α7 κ ρ, 0, 0)
  refine qr_aload_n 47 rfl rfl rfl ?_
  refine qr_aload_n 48 rfl rfl rfl ?_
  refine qr_get 51 rfl rfl rfl (by decide) rfl ?_
  refine qy_v (σ 86 57) ((hG9.1 86 57 (by decide)).trans rfl) ?_
  refine qr_iload_n 52 rfl rfl rfl ?_
  have hr12 : σ6 86 56 = (σ6 86 56) := rfl
  have hc13 : (σ 86 57) = 2 := by omega
  rw [hc13]
  have hs14 : (-2147483648) ≤ σ6 86 56 ∧ σ6 86 56 ≤ 2147483647 := hI8.1 86 56
  have hs15 : (-2147483648) ≤ σ6 86 57 ∧ σ6 86 57 ≤ 2147483647 := hI8.1 86 57
  have hs16 : σ6 86 57 = (σ 86 57) := (hG9.1 86 57 (by decide)).trans rfl
  refine qr_callN 55 rfl rfl rfl (sf_256_86e2_2 (d := d + 0) hI8 r2 (by omega) (by omega)) ?_
  rintro _ _ ⟨σ21, α22, rfl, hI23, hG24, hw20, v17, rfl, hv17, hx18, hx19⟩
  have hF25 : qFr [(86, 56)] [120] σ α σ21 α22 := qFr_t hF10 hG24 (by decide) (by decide)
  have hs26 : (-2147483648) ≤ σ21 86 56 ∧ σ21 86 56 ≤ 2147483647 := hI23.1 86 56
  show qr_W (qe L xs vb) (d + 4) qx_e259 _ (55, _, [.int (qz v17)], qw σ21 α22 κ ρ, 0, 0)
  rw [hF10.1 86 58 (by decide)] at hx18
  refine qr_iconst 56 rfl rfl ?_
  refine qr_imul 57 rfl rfl ?_
  refine qy_canE (fun v27 hv27 hev27 => ?_)
  refine qr_retI rfl rfl (by decide) (by decide) ?_
  exact ⟨_, _, rfl, hI23, hF25, (by have hw : σ21 86 56 = (σ21 86 56) := rfl; omega), v27, rfl, hv27, ((qac_v hev27 (by omega)).trans (by rw [hx18]; rfl)), (by rw [hx19, show α7 120 = qzu (α 120) (σ 86 56 : Int).toNat 10 from (hx4.trans (congrArg (fun f => qzu (f) (σ 86 56 : Int).toNat (10)) rfl)), show σ6 86 56 = σ 86 56 + 1 by omega]; rfl)⟩

set_option maxHeartbeats 4000000 in
set_option maxRecDepth 20000 in
/-- OneRoofModel.coversAs -/
theorem sf_259_86e0_3 {L : Nat} {xs : Nat → Int} {vb : Bool} {d : Nat} {σ α : Nat → Nat → Int} {κ : Nat → Option Nat} {ρ : Nat} {x2 : Int} (hI : qI σ α κ ρ) (r2 : (-2147483648) ≤ x2 ∧ x2 ≤ 2147483647) (p0 : 0 ≤ σ 86 56 ∧ σ 86 56 ≤ 22) (p1 : σ 86 57 = 3) : qm_T (qe L xs vb) (d + 3) 259 [.ref 86, .int (qz 0), .int (qz x2)] (qw σ α κ ρ) (fun r w' => ∃ σ' α', w' = qw σ' α' κ ρ ∧ qI σ' α' κ ρ ∧ qFr [(86, 56)] [120] σ α σ' α' ∧ σ' 86 56 = σ 86 56 + 2 ∧ ∃ v : Int, r = some (.int (qz v)) ∧ ((-2147483648) ≤ v ∧ v ≤ 2147483647) ∧ v = qac_m (qac_a x2 (σ 86 58)) 2 ∧ α' 120 = qac_t [10, 1] (α 120) (σ 86 56)) := by
  refine qr_start (d := d + 2) qv_e259 (Nat.le_of_ble_eq_true rfl) ?_
  show qr_W (qe L xs vb) (d + 2) qx_e259 _ (0, [(0, .ref 86), (1, .int (qz 0)), (2, .int (qz x2))], [], _, 0, 0)
  have hF0 := qFr_rf [(86, 56)] [120] σ α
  have hz86_56 : (-2147483648) ≤ σ 86 56 ∧ σ 86 56 ≤ 2147483647 := hI.1 86 56
  have hz86_57 : (-2147483648) ≤ σ 86 57 ∧ σ 86 57 ≤ 2147483647 := hI.1 86 57
  have hz86_58 : (-2147483648) ≤ σ 86 58 ∧ σ 86 58 ≤ 2147483647 := hI.1 86 58
  refine qr_iload_n 1 rfl rfl rfl ?_
  refine qr_iconst 2 rfl rfl ?_
  refine qr_icmp_ne 19 5 rfl rfl rfl (by decide) (by decide) (fun h1 => ?_) (fun h => False.elim (by omega))
  refine qr_iload_n 20 rfl rfl rfl ?_
  refine qr_bipush 22 rfl (by decide) rfl ?_
  refine qr_icmp_ne 40 25 rfl rfl rfl (by decide) (by decide) (fun h2 => ?_) (fun h => False.elim (by omega))
  refine qr_aload_n 41 rfl rfl rfl ?_
  refine qr_bipush 43 rfl (by decide) rfl ?_
  have hs3 : (-2147483648) ≤ σ 86 56 ∧ σ 86 56 ≤ 2147483647 := hI.1 86 56
  refine qr_callN 46 rfl rfl rfl (sf_257_86e (d := d + 1) hI (by decide) (by omega)) ?_
  rintro _ _ ⟨σ6, α7, rfl, hI8, hG9, hw5, rfl, hx4⟩
  have hF10 : qFr [(86, 56)] [120] σ α σ6 α7 := qFr_t hF0 hG9 (by decide) (by decide)
  have hs11 : (-2147483648) ≤ σ6 86 56 ∧ σ6 86 56 ≤ 2147483647 := hI8.1 86 56
  show qr_W (qe L xs vb) (d + 2) qx_e259 _ (46, _, [], qw σ6 α7 κ ρ, 0, 0)
  refine qr_aload_n 47 rfl rfl rfl ?_
  refine qr_aload_n 48 rfl rfl rfl ?_
  refine qr_get 51 rfl rfl rfl (by decide) rfl ?_
  refine qy_v (σ 86 57) ((hG9.1 86 57 (by decide)).trans rfl) ?_
  refine qr_iload_n 52 rfl rfl rfl ?_
  have hr12 : σ6 86 56 = (σ6 86 56) := rfl
  have hc13 : (σ 86 57) = 3 := by omega
  rw [hc13]
  have hs14 : (-2147483648) ≤ σ6 86 56 ∧ σ6 86 56 ≤ 2147483647 := hI8.1 86 56
  have hs15 : (-2147483648) ≤ σ6 86 57 ∧ σ6 86 57 ≤ 2147483647 := hI8.1 86 57
  have hs16 : σ6 86 57 = (σ 86 57) := (hG9.1 86 57 (by decide)).trans rfl
  refine qr_callN 55 rfl rfl rfl (sf_256_86e3_3 (d := d + 0) hI8 r2 (by omega) (by omega)) ?_
  rintro _ _ ⟨σ21, α22, rfl, hI23, hG24, hw20, v17, rfl, hv17, hx18, hx19⟩
  have hF25 : qFr [(86, 56)] [120] σ α σ21 α22 := qFr_t hF10 hG24 (by decide) (by decide)
  have hs26 : (-2147483648) ≤ σ21 86 56 ∧ σ21 86 56 ≤ 2147483647 := hI23.1 86 56
  show qr_W (qe L xs vb) (d + 2) qx_e259 _ (55, _, [.int (qz v17)], qw σ21 α22 κ ρ, 0, 0)
  rw [hF10.1 86 58 (by decide)] at hx18
  refine qr_iconst 56 rfl rfl ?_
  refine qr_imul 57 rfl rfl ?_
  refine qy_canE (fun v27 hv27 hev27 => ?_)
  refine qr_retI rfl rfl (by decide) (by decide) ?_
  exact ⟨_, _, rfl, hI23, hF25, (by have hw : σ21 86 56 = (σ21 86 56) := rfl; omega), v27, rfl, hv27, ((qac_v hev27 (by omega)).trans (by rw [hx18]; rfl)), (by rw [hx19, show α7 120 = qzu (α 120) (σ 86 56 : Int).toNat 10 from (hx4.trans (congrArg (fun f => qzu (f) (σ 86 56 : Int).toNat (10)) rfl)), show σ6 86 56 = σ 86 56 + 1 by omega]; rfl)⟩

set_option maxHeartbeats 4000000 in
set_option maxRecDepth 20000 in
/-- OneRoofModel.coversAs -/
theorem sf_259_86e3_3 {L : Nat} {xs : Nat → Int} {vb : Bool} {d : Nat} {σ α : Nat → Nat → Int} {κ : Nat → Option Nat} {ρ : Nat} {x2 : Int} (hI : qI σ α κ ρ) (r2 : (-2147483648) ≤ x2 ∧ x2 ≤ 2147483647) (p0 : 0 ≤ σ 86 56 ∧ σ 86 56 ≤ 21) (p1 : σ 86 57 = 3) : qm_T (qe L xs vb) (d + 4) 259 [.ref 86, .int (qz 3), .int (qz x2)] (qw σ α κ ρ) (fun r w' => ∃ σ' α', w' = qw σ' α' κ ρ ∧ qI σ' α' κ ρ ∧ qFr [(86, 56)] [120] σ α σ' α' ∧ σ' 86 56 = σ 86 56 + 3 ∧ ∃ v : Int, r = some (.int (qz v)) ∧ ((-2147483648) ≤ v ∧ v ≤ 2147483647) ∧ v = qac_n (qac_m (qac_a x2 (σ 86 58)) 2) ∧ α' 120 = qac_t [40, 10, 1] (α 120) (σ 86 56)) := by
  refine qr_start (d := d + 3) qv_e259 (Nat.le_of_ble_eq_true rfl) ?_
  show qr_W (qe L xs vb) (d + 3) qx_e259 _ (0, [(0, .ref 86), (1, .int (qz 3)), (2, .int (qz x2))], [], _, 0, 0)
  have hF0 := qFr_rf [(86, 56)] [120] σ α
  have hz86_56 : (-2147483648) ≤ σ 86 56 ∧ σ 86 56 ≤ 2147483647 := hI.1 86 56
  have hz86_57 : (-2147483648) ≤ σ 86 57 ∧ σ 86 57 ≤ 2147483647 := hI.1 86 57
  have hz86_58 : (-2147483648) ≤ σ 86 58 ∧ σ 86 58 ≤ 2147483647 := hI.1 86 58
  refine qr_iload_n 1 rfl rfl rfl ?_
  refine qr_iconst 2 rfl rfl ?_
  refine qr_icmp_ne 19 5 rfl rfl rfl (by decide) (by decide) (fun h => False.elim (by omega)) (fun h1 => ?_)
  refine qr_aload_n 6 rfl rfl rfl ?_
  refine qr_bipush 8 rfl (by decide) rfl ?_
  have hs2 : (-2147483648) ≤ σ 86 56 ∧ σ 86 56 ≤ 2147483647 := hI.1 86 56
  refine qr_callN 11 rfl rfl rfl (sf_257_86e (d := d + 2) hI (by decide) (by omega)) ?_
  rintro _ _ ⟨σ5, α6, rfl, hI7, hG8, hw4, rfl, hx3⟩
  have hF9 : qFr [(86, 56)] [120] σ α σ5 α6 := qFr_t hF0 hG8 (by decide) (by decide)
  have hs10 : (-2147483648) ≤ σ5 86 56 ∧ σ5 86 56 ≤ 2147483647 := hI7.1 86 56
  show qr_W (qe L xs vb) (d + 3) qx_e259 _ (11, _, [], qw σ5 α6 κ ρ, 0, 0)
  refine qr_aload_n 12 rfl rfl rfl ?_
  refine qr_iconst 13 rfl rfl ?_
  refine qr_iload_n 14 rfl rfl rfl ?_
  have hr11 : σ5 86 56 = (σ5 86 56) := rfl
  have hs12 : (-2147483648) ≤ σ5 86 56 ∧ σ5 86 56 ≤ 2147483647 := hI7.1 86 56
  have hs13 : (-2147483648) ≤ σ5 86 57 ∧ σ5 86 57 ≤ 2147483647 := hI7.1 86 57
  have hs14 : σ5 86 57 = (σ 86 57) := (hG8.1 86 57 (by decide)).trans rfl
  refine qr_callN 17 rfl rfl rfl (sf_259_86e0_3 (d := d + 0) hI7 r2 (by omega) (by omega)) ?_
  rintro _ _ ⟨σ19, α20, rfl, hI21, hG22, hw18, v15, rfl, hv15, hx16, hx17⟩
  have hF23 : qFr [(86, 56)] [120] σ α σ19 α20 := qFr_t hF9 hG22 (by decide) (by decide)
  have hs24 : (-2147483648) ≤ σ19 86 56 ∧ σ19 86 56 ≤ 2147483647 := hI21.1 86 56
  show qr_W (qe L xs vb) (d + 3) qx_e259 _ (17, _, [.int (qz v15)], qw σ19 α20 κ ρ, 0, 0)
  rw [hF9.1 86 58 (by decide)] at hx16
  refine qr_ineg 18 rfl rfl ?_
  refine qy_canE (fun v25 hv25 hev25 => ?_)
  refine qr_retI rfl rfl (by decide) (by decide) ?_
  exact ⟨_, _, rfl, hI21, hF23, (by have hw : σ19 86 56 = (σ19 86 56) := rfl; omega), v25, rfl, hv25, ((qac_v hev25 (by omega)).trans (by rw [hx16]; rfl)), (by rw [hx17, show α6 120 = qzu (α 120) (σ 86 56 : Int).toNat 40 from (hx3.trans (congrArg (fun f => qzu (f) (σ 86 56 : Int).toNat (40)) rfl)), show σ5 86 56 = σ 86 56 + 1 by omega]; rfl)⟩

set_option maxHeartbeats 4000000 in
set_option maxRecDepth 20000 in
/-- OneRoofModel.coversAs -/
theorem sf_259_86e4_4 {L : Nat} {xs : Nat → Int} {vb : Bool} {d : Nat} {σ α : Nat → Nat → Int} {κ : Nat → Option Nat} {ρ : Nat} {x2 : Int} (hI : qI σ α κ ρ) (r2 : (-2147483648) ≤ x2 ∧ x2 ≤ 2147483647) (p0 : 0 ≤ σ 86 56 ∧ σ 86 56 ≤ 22) (p1 : σ 86 57 = 4) : qm_T (qe L xs vb) (d + 3) 259 [.ref 86, .int (qz 4), .int (qz x2)] (qw σ α κ ρ) (fun r w' => ∃ σ' α', w' = qw σ' α' κ ρ ∧ qI σ' α' κ ρ ∧ qFr [(86, 56)] [120] σ α σ' α' ∧ σ' 86 56 = σ 86 56 + 2 ∧ ∃ v : Int, r = some (.int (qz v)) ∧ ((-2147483648) ≤ v ∧ v ≤ 2147483647) ∧ v = qac_m (qac_a x2 (σ 86 58)) 2 ∧ α' 120 = qac_t [10, 1] (α 120) (σ 86 56)) := by
  refine qr_start (d := d + 2) qv_e259 (Nat.le_of_ble_eq_true rfl) ?_
  show qr_W (qe L xs vb) (d + 2) qx_e259 _ (0, [(0, .ref 86), (1, .int (qz 4)), (2, .int (qz x2))], [], _, 0, 0)
  have hF0 := qFr_rf [(86, 56)] [120] σ α
  have hz86_56 : (-2147483648) ≤ σ 86 56 ∧ σ 86 56 ≤ 2147483647 := hI.1 86 56
  have hz86_57 : (-2147483648) ≤ σ 86 57 ∧ σ 86 57 ≤ 2147483647 := hI.1 86 57
  have hz86_58 : (-2147483648) ≤ σ 86 58 ∧ σ 86 58 ≤ 2147483647 := hI.1 86 58
  refine qr_iload_n 1 rfl rfl rfl ?_
  refine qr_iconst 2 rfl rfl ?_
  refine qr_icmp_ne 19 5 rfl rfl rfl (by decide) (by decide) (fun h1 => ?_) (fun h => False.elim (by omega))
  refine qr_iload_n 20 rfl rfl rfl ?_
  refine qr_bipush 22 rfl (by decide) rfl ?_
  refine qr_icmp_ne 40 25 rfl rfl rfl (by decide) (by decide) (fun h2 => ?_) (fun h => False.elim (by omega))
  refine qr_aload_n 41 rfl rfl rfl ?_
  refine qr_bipush 43 rfl (by decide) rfl ?_
  have hs3 : (-2147483648) ≤ σ 86 56 ∧ σ 86 56 ≤ 2147483647 := hI.1 86 56
  refine qr_callN 46 rfl rfl rfl (sf_257_86e (d := d + 1) hI (by decide) (by omega)) ?_
  rintro _ _ ⟨σ6, α7, rfl, hI8, hG9, hw5, rfl, hx4⟩
  have hF10 : qFr [(86, 56)] [120] σ α σ6 α7 := qFr_t hF0 hG9 (by decide) (by decide)
  have hs11 : (-2147483648) ≤ σ6 86 56 ∧ σ6 86 56 ≤ 2147483647 := hI8.1 86 56
  show qr_W (qe L xs vb) (d + 2) qx_e259 _ (46, _, [], qw σ6 α7 κ ρ, 0, 0)
  refine qr_aload_n 47 rfl rfl rfl ?_
  refine qr_aload_n 48 rfl rfl rfl ?_
  refine qr_get 51 rfl rfl rfl (by decide) rfl ?_
  refine qy_v (σ 86 57) ((hG9.1 86 57 (by decide)).trans rfl) ?_
  refine qr_iload_n 52 rfl rfl rfl ?_
  have hr12 : σ6 86 56 = (σ6 86 56) := rfl
  have hc13 : (σ 86 57) = 4 := by omega
  rw [hc13]
  have hs14 : (-2147483648) ≤ σ6 86 56 ∧ σ6 86 56 ≤ 2147483647 := hI8.1 86 56
  have hs15 : (-2147483648) ≤ σ6 86 57 ∧ σ6 86 57 ≤ 2147483647 := hI8.1 86 57
  have hs16 : σ6 86 57 = (σ 86 57) := (hG9.1 86 57 (by decide)).trans rfl
  refine qr_callN 55 rfl rfl rfl (sf_256_86e4_4 (d := d + 0) hI8 r2 (by omega) (by omega)) ?_
  rintro _ _ ⟨σ21, α22, rfl, hI23, hG24, hw20, v17, rfl, hv17, hx18, hx19⟩
  have hF25 : qFr [(86, 56)] [120] σ α σ21 α22 := qFr_t hF10 hG24 (by decide) (by decide)
  have hs26 : (-2147483648) ≤ σ21 86 56 ∧ σ21 86 56 ≤ 2147483647 := hI23.1 86 56
  show qr_W (qe L xs vb) (d + 2) qx_e259 _ (55, _, [.int (qz v17)], qw σ21 α22 κ ρ, 0, 0)
  rw [hF10.1 86 58 (by decide)] at hx18
  refine qr_iconst 56 rfl rfl ?_
  refine qr_imul 57 rfl rfl ?_
  refine qy_canE (fun v27 hv27 hev27 => ?_)
  refine qr_retI rfl rfl (by decide) (by decide) ?_
  exact ⟨_, _, rfl, hI23, hF25, (by have hw : σ21 86 56 = (σ21 86 56) := rfl; omega), v27, rfl, hv27, ((qac_v hev27 (by omega)).trans (by rw [hx18]; rfl)), (by rw [hx19, show α7 120 = qzu (α 120) (σ 86 56 : Int).toNat 10 from (hx4.trans (congrArg (fun f => qzu (f) (σ 86 56 : Int).toNat (10)) rfl)), show σ6 86 56 = σ 86 56 + 1 by omega]; rfl)⟩

set_option maxHeartbeats 4000000 in
set_option maxRecDepth 20000 in
/-- OneRoofModel.coversAs -/
theorem sf_259_86e5_5 {L : Nat} {xs : Nat → Int} {vb : Bool} {d : Nat} {σ α : Nat → Nat → Int} {κ : Nat → Option Nat} {ρ : Nat} {x2 : Int} (hI : qI σ α κ ρ) (r2 : (-2147483648) ≤ x2 ∧ x2 ≤ 2147483647) (p0 : 0 ≤ σ 86 56 ∧ σ 86 56 ≤ 20) (p1 : σ 86 57 = 5) : qm_T (qe L xs vb) (d + 4) 259 [.ref 86, .int (qz 5), .int (qz x2)] (qw σ α κ ρ) (fun r w' => ∃ σ' α', w' = qw σ' α' κ ρ ∧ qI σ' α' κ ρ ∧ qFr [(86, 56)] [120] σ α σ' α' ∧ σ' 86 56 = σ 86 56 + 4 ∧ ∃ v : Int, r = some (.int (qz v)) ∧ ((-2147483648) ≤ v ∧ v ≤ 2147483647) ∧ v = qac_m (qac_s (qac_a x2 (σ 86 58)) (qac_x 2 (σ 86 58))) 2 ∧ α' 120 = qac_t [10, 60, 1, 11] (α 120) (σ 86 56)) := by
  refine qr_start (d := d + 3) qv_e259 (Nat.le_of_ble_eq_true rfl) ?_
  show qr_W (qe L xs vb) (d + 3) qx_e259 _ (0, [(0, .ref 86), (1, .int (qz 5)), (2, .int (qz x2))], [], _, 0, 0)
  have hF0 := qFr_rf [(86, 56)] [120] σ α
  have hz86_56 : (-2147483648) ≤ σ 86 56 ∧ σ 86 56 ≤ 2147483647 := hI.1 86 56
  have hz86_57 : (-2147483648) ≤ σ 86 57 ∧ σ 86 57 ≤ 2147483647 := hI.1 86 57
  have hz86_58 : (-2147483648) ≤ σ 86 58 ∧ σ 86 58 ≤ 2147483647 := hI.1 86 58
  refine qr_iload_n 1 rfl rfl rfl ?_
  refine qr_iconst 2 rfl rfl ?_
  refine qr_icmp_ne 19 5 rfl rfl rfl (by decide) (by decide) (fun h1 => ?_) (fun h => False.elim (by omega))
  refine qr_iload_n 20 rfl rfl rfl ?_
  refine qr_bipush 22 rfl (by decide) rfl ?_
  refine qr_icmp_ne 40 25 rfl rfl rfl (by decide) (by decide) (fun h2 => ?_) (fun h => False.elim (by omega))
  refine qr_aload_n 41 rfl rfl rfl ?_
  refine qr_bipush 43 rfl (by decide) rfl ?_
  have hs3 : (-2147483648) ≤ σ 86 56 ∧ σ 86 56 ≤ 2147483647 := hI.1 86 56
  refine qr_callN 46 rfl rfl rfl (sf_257_86e (d := d + 2) hI (by decide) (by omega)) ?_
  rintro _ _ ⟨σ6, α7, rfl, hI8, hG9, hw5, rfl, hx4⟩
  have hF10 : qFr [(86, 56)] [120] σ α σ6 α7 := qFr_t hF0 hG9 (by decide) (by decide)
  have hs11 : (-2147483648) ≤ σ6 86 56 ∧ σ6 86 56 ≤ 2147483647 := hI8.1 86 56
  show qr_W (qe L xs vb) (d + 3) qx_e259 _ (46, _, [], qw σ6 α7 κ ρ, 0, 0)
  refine qr_aload_n 47 rfl rfl rfl ?_
  refine qr_aload_n 48 rfl rfl rfl ?_
  refine qr_get 51 rfl rfl rfl (by decide) rfl ?_
  refine qy_v (σ 86 57) ((hG9.1 86 57 (by decide)).trans rfl) ?_
  refine qr_iload_n 52 rfl rfl rfl ?_
  have hr12 : σ6 86 56 = (σ6 86 56) := rfl
  have hc13 : (σ 86 57) = 5 := by omega
  rw [hc13]
  have hs14 : (-2147483648) ≤ σ6 86 56 ∧ σ6 86 56 ≤ 2147483647 := hI8.1 86 56
  have hs15 : (-2147483648) ≤ σ6 86 57 ∧ σ6 86 57 ≤ 2147483647 := hI8.1 86 57
  have hs16 : σ6 86 57 = (σ 86 57) := (hG9.1 86 57 (by decide)).trans rfl
  refine qr_callN 55 rfl rfl rfl (sf_256_86e5_5 (d := d + 0) hI8 r2 (by omega) (by omega)) ?_
  rintro _ _ ⟨σ21, α22, rfl, hI23, hG24, hw20, v17, rfl, hv17, hx18, hx19⟩
  have hF25 : qFr [(86, 56)] [120] σ α σ21 α22 := qFr_t hF10 hG24 (by decide) (by decide)
  have hs26 : (-2147483648) ≤ σ21 86 56 ∧ σ21 86 56 ≤ 2147483647 := hI23.1 86 56
  show qr_W (qe L xs vb) (d + 3) qx_e259 _ (55, _, [.int (qz v17)], qw σ21 α22 κ ρ, 0, 0)
  rw [hF10.1 86 58 (by decide)] at hx18
  refine qr_iconst 56 rfl rfl ?_
  refine qr_imul 57 rfl rfl ?_
  refine qy_canE (fun v27 hv27 hev27 => ?_)
  refine qr_retI rfl rfl (by decide) (by decide) ?_
  exact ⟨_, _, rfl, hI23, hF25, (by have hw : σ21 86 56 = (σ21 86 56) := rfl; omega), v27, rfl, hv27, ((qac_v hev27 (by omega)).trans (by rw [hx18]; rfl)), (by rw [hx19, show α7 120 = qzu (α 120) (σ 86 56 : Int).toNat 10 from (hx4.trans (congrArg (fun f => qzu (f) (σ 86 56 : Int).toNat (10)) rfl)), show σ6 86 56 = σ 86 56 + 1 by omega]; rfl)⟩

set_option maxHeartbeats 4000000 in
set_option maxRecDepth 20000 in
/-- OneRoofModel.coversAs -/
theorem sf_259_86e0_6 {L : Nat} {xs : Nat → Int} {vb : Bool} {d : Nat} {σ α : Nat → Nat → Int} {κ : Nat → Option Nat} {ρ : Nat} {x2 : Int} (hI : qI σ α κ ρ) (r2 : (-2147483648) ≤ x2 ∧ x2 ≤ 2147483647) (p0 : 0 ≤ σ 86 56 ∧ σ 86 56 ≤ 22) (p1 : σ 86 57 = 6) : qm_T (qe L xs vb) (d + 3) 259 [.ref 86, .int (qz 0), .int (qz x2)] (qw σ α κ ρ) (fun r w' => ∃ σ' α', w' = qw σ' α' κ ρ ∧ qI σ' α' κ ρ ∧ qFr [(86, 56)] [120] σ α σ' α' ∧ σ' 86 56 = σ 86 56 + 2 ∧ ∃ v : Int, r = some (.int (qz v)) ∧ ((-2147483648) ≤ v ∧ v ≤ 2147483647) ∧ v = qac_m (qac_a x2 (σ 86 58)) 2 ∧ α' 120 = qac_t [10, 1] (α 120) (σ 86 56)) := by
  refine qr_start (d := d + 2) qv_e259 (Nat.le_of_ble_eq_true rfl) ?_
  show qr_W (qe L xs vb) (d + 2) qx_e259 _ (0, [(0, .ref 86), (1, .int (qz 0)), (2, .int (qz x2))], [], _, 0, 0)
  have hF0 := qFr_rf [(86, 56)] [120] σ α
  have hz86_56 : (-2147483648) ≤ σ 86 56 ∧ σ 86 56 ≤ 2147483647 := hI.1 86 56
  have hz86_57 : (-2147483648) ≤ σ 86 57 ∧ σ 86 57 ≤ 2147483647 := hI.1 86 57
  have hz86_58 : (-2147483648) ≤ σ 86 58 ∧ σ 86 58 ≤ 2147483647 := hI.1 86 58
  refine qr_iload_n 1 rfl rfl rfl ?_
  refine qr_iconst 2 rfl rfl ?_
  refine qr_icmp_ne 19 5 rfl rfl rfl (by decide) (by decide) (fun h1 => ?_) (fun h => False.elim (by omega))
  refine qr_iload_n 20 rfl rfl rfl ?_
  refine qr_bipush 22 rfl (by decide) rfl ?_
  refine qr_icmp_ne 40 25 rfl rfl rfl (by decide) (by decide) (fun h2 => ?_) (fun h => False.elim (by omega))
  refine qr_aload_n 41 rfl rfl rfl ?_
  refine qr_bipush 43 rfl (by decide) rfl ?_
  have hs3 : (-2147483648) ≤ σ 86 56 ∧ σ 86 56 ≤ 2147483647 := hI.1 86 56
  refine qr_callN 46 rfl rfl rfl (sf_257_86e (d := d + 1) hI (by decide) (by omega)) ?_
  rintro _ _ ⟨σ6, α7, rfl, hI8, hG9, hw5, rfl, hx4⟩
  have hF10 : qFr [(86, 56)] [120] σ α σ6 α7 := qFr_t hF0 hG9 (by decide) (by decide)
  have hs11 : (-2147483648) ≤ σ6 86 56 ∧ σ6 86 56 ≤ 2147483647 := hI8.1 86 56
  show qr_W (qe L xs vb) (d + 2) qx_e259 _ (46, _, [], qw σ6 α7 κ ρ, 0, 0)
  refine qr_aload_n 47 rfl rfl rfl ?_
  refine qr_aload_n 48 rfl rfl rfl ?_
  refine qr_get 51 rfl rfl rfl (by decide) rfl ?_
  refine qy_v (σ 86 57) ((hG9.1 86 57 (by decide)).trans rfl) ?_
  refine qr_iload_n 52 rfl rfl rfl ?_
  have hr12 : σ6 86 56 = (σ6 86 56) := rfl
  have hc13 : (σ 86 57) = 6 := by omega
  rw [hc13]
  have hs14 : (-2147483648) ≤ σ6 86 56 ∧ σ6 86 56 ≤ 2147483647 := hI8.1 86 56
  have hs15 : (-2147483648) ≤ σ6 86 57 ∧ σ6 86 57 ≤ 2147483647 := hI8.1 86 57
  have hs16 : σ6 86 57 = (σ 86 57) := (hG9.1 86 57 (by decide)).trans rfl
  refine qr_callN 55 rfl rfl rfl (sf_256_86e6_6 (d := d + 0) hI8 r2 (by omega) (by omega)) ?_
  rintro _ _ ⟨σ21, α22, rfl, hI23, hG24, hw20, v17, rfl, hv17, hx18, hx19⟩
  have hF25 : qFr [(86, 56)] [120] σ α σ21 α22 := qFr_t hF10 hG24 (by decide) (by decide)
  have hs26 : (-2147483648) ≤ σ21 86 56 ∧ σ21 86 56 ≤ 2147483647 := hI23.1 86 56
  show qr_W (qe L xs vb) (d + 2) qx_e259 _ (55, _, [.int (qz v17)], qw σ21 α22 κ ρ, 0, 0)
  rw [hF10.1 86 58 (by decide)] at hx18
  refine qr_iconst 56 rfl rfl ?_
  refine qr_imul 57 rfl rfl ?_
  refine qy_canE (fun v27 hv27 hev27 => ?_)
  refine qr_retI rfl rfl (by decide) (by decide) ?_
  exact ⟨_, _, rfl, hI23, hF25, (by have hw : σ21 86 56 = (σ21 86 56) := rfl; omega), v27, rfl, hv27, ((qac_v hev27 (by omega)).trans (by rw [hx18]; rfl)), (by rw [hx19, show α7 120 = qzu (α 120) (σ 86 56 : Int).toNat 10 from (hx4.trans (congrArg (fun f => qzu (f) (σ 86 56 : Int).toNat (10)) rfl)), show σ6 86 56 = σ 86 56 + 1 by omega]; rfl)⟩

set_option maxHeartbeats 4000000 in
set_option maxRecDepth 20000 in
/-- OneRoofModel.coversAs -/
theorem sf_259_86e6_6 {L : Nat} {xs : Nat → Int} {vb : Bool} {d : Nat} {σ α : Nat → Nat → Int} {κ : Nat → Option Nat} {ρ : Nat} {x2 : Int} (hI : qI σ α κ ρ) (r2 : (-2147483648) ≤ x2 ∧ x2 ≤ 2147483647) (p0 : 0 ≤ σ 86 56 ∧ σ 86 56 ≤ 21) (p1 : σ 86 57 = 6) : qm_T (qe L xs vb) (d + 4) 259 [.ref 86, .int (qz 6), .int (qz x2)] (qw σ α κ ρ) (fun r w' => ∃ σ' α', w' = qw σ' α' κ ρ ∧ qI σ' α' κ ρ ∧ qFr [(86, 56)] [120] σ α σ' α' ∧ σ' 86 56 = σ 86 56 + 3 ∧ ∃ v : Int, r = some (.int (qz v)) ∧ ((-2147483648) ≤ v ∧ v ≤ 2147483647) ∧ v = qac_m (qac_m (qac_a x2 (σ 86 58)) 2) 2 ∧ α' 120 = qac_t [71, 10, 1] (α 120) (σ 86 56)) := by
  refine qr_start (d := d + 3) qv_e259 (Nat.le_of_ble_eq_true rfl) ?_
  show qr_W (qe L xs vb) (d + 3) qx_e259 _ (0, [(0, .ref 86), (1, .int (qz 6)), (2, .int (qz x2))], [], _, 0, 0)
  have hF0 := qFr_rf [(86, 56)] [120] σ α
  have hz86_56 : (-2147483648) ≤ σ 86 56 ∧ σ 86 56 ≤ 2147483647 := hI.1 86 56
  have hz86_57 : (-2147483648) ≤ σ 86 57 ∧ σ 86 57 ≤ 2147483647 := hI.1 86 57
  have hz86_58 : (-2147483648) ≤ σ 86 58 ∧ σ 86 58 ≤ 2147483647 := hI.1 86 58
  refine qr_iload_n 1 rfl rfl rfl ?_
  refine qr_iconst 2 rfl rfl ?_
  refine qr_icmp_ne 19 5 rfl rfl rfl (by decide) (by decide) (fun h1 => ?_) (fun h => False.elim (by omega))
  refine qr_iload_n 20 rfl rfl rfl ?_
  refine qr_bipush 22 rfl (by decide) rfl ?_
  refine qr_icmp_ne 40 25 rfl rfl rfl (by decide) (by decide) (fun h => False.elim (by omega)) (fun h2 => ?_)
  refine qr_aload_n 26 rfl rfl rfl ?_
  refine qr_bipush 28 rfl (by decide) rfl ?_
  have hs3 : (-2147483648) ≤ σ 86 56 ∧ σ 86 56 ≤ 2147483647 := hI.1 86 56
  refine qr_callN 31 rfl rfl rfl (sf_257_86e (d := d + 2) hI (by decide) (by omega)) ?_
  rintro _ _ ⟨σ6, α7, rfl, hI8, hG9, hw5, rfl, hx4⟩
  have hF10 : qFr [(86, 56)] [120] σ α σ6 α7 := qFr_t hF0 hG9 (by decide) (by decide)
  have hs11 : (-2147483648) ≤ σ6 86 56 ∧ σ6 86 56 ≤ 2147483647 := hI8.1 86 56
  show qr_W (qe L xs vb) (d + 3) qx_e259 _ (31, _, [], qw σ6 α7 κ ρ, 0, 0)
  refine qr_aload_n 32 rfl rfl rfl ?_
  refine qr_iconst 33 rfl rfl ?_
  refine qr_iload_n 34 rfl rfl rfl ?_
  have hr12 : σ6 86 56 = (σ6 86 56) := rfl
  have hs13 : (-2147483648) ≤ σ6 86 56 ∧ σ6 86 56 ≤ 2147483647 := hI8.1 86 56
  have hs14 : (-2147483648) ≤ σ6 86 57 ∧ σ6 86 57 ≤ 2147483647 := hI8.1 86 57
  have hs15 : σ6 86 57 = (σ 86 57) := (hG9.1 86 57 (by decide)).trans rfl
  refine qr_callN 37 rfl rfl rfl (sf_259_86e0_6 (d := d + 0) hI8 r2 (by omega) (by omega)) ?_
  rintro _ _ ⟨σ20, α21, rfl, hI22, hG23, hw19, v16, rfl, hv16, hx17, hx18⟩
  have hF24 : qFr [(86, 56)] [120] σ α σ20 α21 := qFr_t hF10 hG23 (by decide) (by decide)
  have hs25 : (-2147483648) ≤ σ20 86 56 ∧ σ20 86 56 ≤ 2147483647 := hI22.1 86 56
  show qr_W (qe L xs vb) (d + 3) qx_e259 _ (37, _, [.int (qz v16)], qw σ20 α21 κ ρ, 0, 0)
  rw [hF10.1 86 58 (by decide)] at hx17
  refine qr_iconst 38 rfl rfl ?_
  refine qr_imul 39 rfl rfl ?_
  refine qy_canE (fun v26 hv26 hev26 => ?_)
  refine qr_retI rfl rfl (by decide) (by decide) ?_
  exact ⟨_, _, rfl, hI22, hF24, (by have hw : σ20 86 56 = (σ20 86 56) := rfl; omega), v26, rfl, hv26, ((qac_v hev26 (by omega)).trans (by rw [hx17]; rfl)), (by rw [hx18, show α7 120 = qzu (α 120) (σ 86 56 : Int).toNat 71 from (hx4.trans (congrArg (fun f => qzu (f) (σ 86 56 : Int).toNat (71)) rfl)), show σ6 86 56 = σ 86 56 + 1 by omega]; rfl)⟩

set_option maxHeartbeats 4000000 in
set_option maxRecDepth 20000 in
/-- OneRoofModel.coversAs -/
theorem sf_259_86ex {L : Nat} {xs : Nat → Int} {vb : Bool} {d : Nat} {σ α : Nat → Nat → Int} {κ : Nat → Option Nat} {ρ : Nat} {x1 : Int} {x2 : Int} (hI : qI σ α κ ρ) (r1 : (-2147483648) ≤ x1 ∧ x1 ≤ 2147483647) (r2 : (-2147483648) ≤ x2 ∧ x2 ≤ 2147483647) (p0 : 0 ≤ x1 ∧ x1 ≤ 6) (p1 : x1 = σ 86 57) (p2 : 0 ≤ σ 86 56 ∧ σ 86 56 ≤ 16) : qm_T (qe L xs vb) (d + 5) 259 [.ref 86, .int (qz x1), .int (qz x2)] (qw σ α κ ρ) (fun r w' => ∃ σ' α', w' = qw σ' α' κ ρ ∧ qI σ' α' κ ρ ∧ qFr [(86, 56)] [120] σ α σ' α' ∧ ∃ v : Int, r = some (.int (qz v)) ∧ ((-2147483648) ≤ v ∧ v ≤ 2147483647) ∧ v = qAE x1 1 x2 (σ 86 58) ∧ σ' 86 56 = σ 86 56 + ((qAT x1 1).length : Int) ∧ α' 120 = qac_t (qAT x1 1) (α 120) (σ 86 56)) := by
  have h1 : x1 = 0 ∨ x1 = 1 ∨ x1 = 2 ∨ x1 = 3 ∨ x1 = 4 ∨ x1 = 5 ∨ x1 = 6 := by omega
  rcases h1 with rfl | rfl | rfl | rfl | rfl | rfl | rfl
  · refine qr_mono (sf_259_86e0_0 (d := d + 2) hI (by omega) (by omega) p1.symm) ?_
    rintro r w' ⟨σ2, α2, h2, h3, h4, hw, v, h5, h6, h7, h8⟩
    exact ⟨σ2, α2, h2, h3, h4, v, h5, h6, h7, hw, h8⟩
  · refine qr_mono (sf_259_86e1_1 (d := d + 1) hI (by omega) (by omega) p1.symm) ?_
    rintro r w' ⟨σ2, α2, h2, h3, h4, hw, v, h5, h6, h7, h8⟩
    exact ⟨σ2, α2, h2, h3, h4, v, h5, h6, h7, hw, h8⟩
  · refine qr_mono (sf_259_86e2_2 (d := d + 0) hI (by omega) (by omega) p1.symm) ?_
    rintro r w' ⟨σ2, α2, h2, h3, h4, hw, v, h5, h6, h7, h8⟩
    exact ⟨σ2, α2, h2, h3, h4, v, h5, h6, h7, hw, h8⟩
  · refine qr_mono (sf_259_86e3_3 (d := d + 1) hI (by omega) (by omega) p1.symm) ?_
    rintro r w' ⟨σ2, α2, h2, h3, h4, hw, v, h5, h6, h7, h8⟩
    exact ⟨σ2, α2, h2, h3, h4, v, h5, h6, h7, hw, h8⟩
  · refine qr_mono (sf_259_86e4_4 (d := d + 2) hI (by omega) (by omega) p1.symm) ?_
    rintro r w' ⟨σ2, α2, h2, h3, h4, hw, v, h5, h6, h7, h8⟩
    exact ⟨σ2, α2, h2, h3, h4, v, h5, h6, h7, hw, h8⟩
  · refine qr_mono (sf_259_86e5_5 (d := d + 1) hI (by omega) (by omega) p1.symm) ?_
    rintro r w' ⟨σ2, α2, h2, h3, h4, hw, v, h5, h6, h7, h8⟩
    exact ⟨σ2, α2, h2, h3, h4, v, h5, h6, h7, hw, h8⟩
  · refine qr_mono (sf_259_86e6_6 (d := d + 1) hI (by omega) (by omega) p1.symm) ?_
    rintro r w' ⟨σ2, α2, h2, h3, h4, hw, v, h5, h6, h7, h8⟩
    exact ⟨σ2, α2, h2, h3, h4, v, h5, h6, h7, hw, h8⟩

set_option maxHeartbeats 4000000 in
set_option maxRecDepth 20000 in
/-- OneRoofModel.endsAs -/
theorem sf_258_86e0_0 {L : Nat} {xs : Nat → Int} {vb : Bool} {d : Nat} {σ α : Nat → Nat → Int} {κ : Nat → Option Nat} {ρ : Nat} {x2 : Int} (hI : qI σ α κ ρ) (r2 : (-2147483648) ≤ x2 ∧ x2 ≤ 2147483647) (p0 : 0 ≤ σ 86 56 ∧ σ 86 56 ≤ 23) (p1 : σ 86 57 = 0) : qm_T (qe L xs vb) (d + 2) 258 [.ref 86, .int (qz 0), .int (qz x2)] (qw σ α κ ρ) (fun r w' => ∃ σ' α', w' = qw σ' α' κ ρ ∧ qI σ' α' κ ρ ∧ qFr [(86, 56)] [120] σ α σ' α' ∧ σ' 86 56 = σ 86 56 + 1 ∧ ∃ v : Int, r = some (.int (qz v)) ∧ ((-2147483648) ≤ v ∧ v ≤ 2147483647) ∧ v = qac_x x2 (σ 86 58) ∧ α' 120 = qac_t [11] (α 120) (σ 86 56)) := by
  refine qr_start (d := d + 1) qv_e258 (Nat.le_of_ble_eq_true rfl) ?_
  show qr_W (qe L xs vb) (d + 1) qx_e258 _ (0, [(0, .ref 86), (1, .int (qz 0)), (2, .int (qz x2))], [], _, 0, 0)
  have hF0 := qFr_rf [(86, 56)] [120] σ α
  have hz86_56 : (-2147483648) ≤ σ 86 56 ∧ σ 86 56 ≤ 2147483647 := hI.1 86 56
  have hz86_57 : (-2147483648) ≤ σ 86 57 ∧ σ 86 57 ≤ 2147483647 := hI.1 86 57
  have hz86_58 : (-2147483648) ≤ σ 86 58 ∧ σ 86 58 ≤ 2147483647 := hI.1 86 58
  refine qr_iload_n 1 rfl rfl rfl ?_
  refine qr_iconst 2 rfl rfl ?_
  refine qr_icmp_ne 20 5 rfl rfl rfl (by decide) (by decide) (fun h1 => ?_) (fun h => False.elim (by omega))
  refine qr_iload_n 21 rfl rfl rfl ?_
  refine qr_bipush 23 rfl (by decide) rfl ?_
  refine qr_icmp_ne 51 26 rfl rfl rfl (by decide) (by decide) (fun h2 => ?_) (fun h => False.elim (by omega))
  refine qr_aload_n 52 rfl rfl rfl ?_
  refine qr_bipush 54 rfl (by decide) rfl ?_
  have hs3 : (-2147483648) ≤ σ 86 56 ∧ σ 86 56 ≤ 2147483647 := hI.1 86 56
  refine qr_callN 57 rfl rfl rfl (sf_257_86e (d := d + 0) hI (by decide) (by omega)) ?_
  rintro _ _ ⟨σ6, α7, rfl, hI8, hG9, hw5, rfl, hx4⟩
  have hF10 : qFr [(86, 56)] [120] σ α σ6 α7 := qFr_t hF0 hG9 (by decide) (by decide)
  have hs11 : (-2147483648) ≤ σ6 86 56 ∧ σ6 86 56 ≤ 2147483647 := hI8.1 86 56
  show qr_W (qe L xs vb) (d + 1) qx_e258 _ (57, _, [], qw σ6 α7 κ ρ, 0, 0)
  refine qr_iload_n 58 rfl rfl rfl ?_
  refine qr_aload_n 59 rfl rfl rfl ?_
  refine qr_get 62 rfl rfl rfl (by decide) rfl ?_
  refine qy_v (σ 86 58) ((hG9.1 86 58 (by decide)).trans rfl) ?_
  refine qr_ixor 63 rfl rfl ?_
  refine qy_canE (fun v12 hv12 hev12 => ?_)
  refine qr_retI rfl rfl (by decide) (by decide) ?_
  exact ⟨_, _, rfl, hI8, hF10, (by have hw : σ6 86 56 = (σ6 86 56) := rfl; omega), v12, rfl, hv12, (qac_v hev12 (by omega)), ((hx4.trans (congrArg (fun f => qzu (f) (σ 86 56 : Int).toNat (11)) rfl)))⟩

set_option maxHeartbeats 4000000 in
set_option maxRecDepth 20000 in
/-- OneRoofModel.endsAs -/
theorem sf_258_86e1_1 {L : Nat} {xs : Nat → Int} {vb : Bool} {d : Nat} {σ α : Nat → Nat → Int} {κ : Nat → Option Nat} {ρ : Nat} {x2 : Int} (hI : qI σ α κ ρ) (r2 : (-2147483648) ≤ x2 ∧ x2 ≤ 2147483647) (p0 : 0 ≤ σ 86 56 ∧ σ 86 56 ≤ 23) (p1 : σ 86 57 = 1) : qm_T (qe L xs vb) (d + 2) 258 [.ref 86, .int (qz 1), .int (qz x2)] (qw σ α κ ρ) (fun r w' => ∃ σ' α', w' = qw σ' α' κ ρ ∧ qI σ' α' κ ρ ∧ qFr [(86, 56)] [120] σ α σ' α' ∧ σ' 86 56 = σ 86 56 + 1 ∧ ∃ v : Int, r = some (.int (qz v)) ∧ ((-2147483648) ≤ v ∧ v ≤ 2147483647) ∧ v = qac_x x2 (σ 86 58) ∧ α' 120 = qac_t [11] (α 120) (σ 86 56)) := by
  refine qr_start (d := d + 1) qv_e258 (Nat.le_of_ble_eq_true rfl) ?_
  show qr_W (qe L xs vb) (d + 1) qx_e258 _ (0, [(0, .ref 86), (1, .int (qz 1)), (2, .int (qz x2))], [], _, 0, 0)
  have hF0 := qFr_rf [(86, 56)] [120] σ α
  have hz86_56 : (-2147483648) ≤ σ 86 56 ∧ σ 86 56 ≤ 2147483647 := hI.1 86 56
  have hz86_57 : (-2147483648) ≤ σ 86 57 ∧ σ 86 57 ≤ 2147483647 := hI.1 86 57
  have hz86_58 : (-2147483648) ≤ σ 86 58 ∧ σ 86 58 ≤ 2147483647 := hI.1 86 58
  refine qr_iload_n 1 rfl rfl rfl ?_
  refine qr_iconst 2 rfl rfl ?_
  refine qr_icmp_ne 20 5 rfl rfl rfl (by decide) (by decide) (fun h1 => ?_) (fun h => False.elim (by omega))
  refine qr_iload_n 21 rfl rfl rfl ?_
  refine qr_bipush 23 rfl (by decide) rfl ?_
  refine qr_icmp_ne 51 26 rfl rfl rfl (by decide) (by decide) (fun h2 => ?_) (fun h => False.elim (by omega))
  refine qr_aload_n 52 rfl rfl rfl ?_
  refine qr_bipush 54 rfl (by decide) rfl ?_
  have hs3 : (-2147483648) ≤ σ 86 56 ∧ σ 86 56 ≤ 2147483647 := hI.1 86 56
  refine qr_callN 57 rfl rfl rfl (sf_257_86e (d := d + 0) hI (by decide) (by omega)) ?_
  rintro _ _ ⟨σ6, α7, rfl, hI8, hG9, hw5, rfl, hx4⟩
  have hF10 : qFr [(86, 56)] [120] σ α σ6 α7 := qFr_t hF0 hG9 (by decide) (by decide)
  have hs11 : (-2147483648) ≤ σ6 86 56 ∧ σ6 86 56 ≤ 2147483647 := hI8.1 86 56
  show qr_W (qe L xs vb) (d + 1) qx_e258 _ (57, _, [], qw σ6 α7 κ ρ, 0, 0)
  refine qr_iload_n 58 rfl rfl rfl ?_
  refine qr_aload_n 59 rfl rfl rfl ?_
  refine qr_get 62 rfl rfl rfl (by decide) rfl ?_
  refine qy_v (σ 86 58) ((hG9.1 86 58 (by decide)).trans rfl) ?_
  refine qr_ixor 63 rfl rfl ?_
  refine qy_canE (fun v12 hv12 hev12 => ?_)
  refine qr_retI rfl rfl (by decide) (by decide) ?_
  exact ⟨_, _, rfl, hI8, hF10, (by have hw : σ6 86 56 = (σ6 86 56) := rfl; omega), v12, rfl, hv12, (qac_v hev12 (by omega)), ((hx4.trans (congrArg (fun f => qzu (f) (σ 86 56 : Int).toNat (11)) rfl)))⟩

set_option maxHeartbeats 4000000 in
set_option maxRecDepth 20000 in
/-- OneRoofModel.endsAs -/
theorem sf_258_86e1_2 {L : Nat} {xs : Nat → Int} {vb : Bool} {d : Nat} {σ α : Nat → Nat → Int} {κ : Nat → Option Nat} {ρ : Nat} {x2 : Int} (hI : qI σ α κ ρ) (r2 : (-2147483648) ≤ x2 ∧ x2 ≤ 2147483647) (p0 : 0 ≤ σ 86 56 ∧ σ 86 56 ≤ 23) (p1 : σ 86 57 = 2) : qm_T (qe L xs vb) (d + 2) 258 [.ref 86, .int (qz 1), .int (qz x2)] (qw σ α κ ρ) (fun r w' => ∃ σ' α', w' = qw σ' α' κ ρ ∧ qI σ' α' κ ρ ∧ qFr [(86, 56)] [120] σ α σ' α' ∧ σ' 86 56 = σ 86 56 + 1 ∧ ∃ v : Int, r = some (.int (qz v)) ∧ ((-2147483648) ≤ v ∧ v ≤ 2147483647) ∧ v = qac_x x2 (σ 86 58) ∧ α' 120 = qac_t [11] (α 120) (σ 86 56)) := by
  refine qr_start (d := d + 1) qv_e258 (Nat.le_of_ble_eq_true rfl) ?_
  show qr_W (qe L xs vb) (d + 1) qx_e258 _ (0, [(0, .ref 86), (1, .int (qz 1)), (2, .int (qz x2))], [], _, 0, 0)
  have hF0 := qFr_rf [(86, 56)] [120] σ α
  have hz86_56 : (-2147483648) ≤ σ 86 56 ∧ σ 86 56 ≤ 2147483647 := hI.1 86 56
  have hz86_57 : (-2147483648) ≤ σ 86 57 ∧ σ 86 57 ≤ 2147483647 := hI.1 86 57
  have hz86_58 : (-2147483648) ≤ σ 86 58 ∧ σ 86 58 ≤ 2147483647 := hI.1 86 58
  refine qr_iload_n 1 rfl rfl rfl ?_
  refine qr_iconst 2 rfl rfl ?_
  refine qr_icmp_ne 20 5 rfl rfl rfl (by decide) (by decide) (fun h1 => ?_) (fun h => False.elim (by omega))
  refine qr_iload_n 21 rfl rfl rfl ?_
  refine qr_bipush 23 rfl (by decide) rfl ?_
  refine qr_icmp_ne 51 26 rfl rfl rfl (by decide) (by decide) (fun h2 => ?_) (fun h => False.elim (by omega))
  refine qr_aload_n 52 rfl rfl rfl ?_
  refine qr_bipush 54 rfl (by decide) rfl ?_
  have hs3 : (-2147483648) ≤ σ 86 56 ∧ σ 86 56 ≤ 2147483647 := hI.1 86 56
  refine qr_callN 57 rfl rfl rfl (sf_257_86e (d := d + 0) hI (by decide) (by omega)) ?_
  rintro _ _ ⟨σ6, α7, rfl, hI8, hG9, hw5, rfl, hx4⟩
  have hF10 : qFr [(86, 56)] [120] σ α σ6 α7 := qFr_t hF0 hG9 (by decide) (by decide)
  have hs11 : (-2147483648) ≤ σ6 86 56 ∧ σ6 86 56 ≤ 2147483647 := hI8.1 86 56
  show qr_W (qe L xs vb) (d + 1) qx_e258 _ (57, _, [], qw σ6 α7 κ ρ, 0, 0)
  refine qr_iload_n 58 rfl rfl rfl ?_
  refine qr_aload_n 59 rfl rfl rfl ?_
  refine qr_get 62 rfl rfl rfl (by decide) rfl ?_
  refine qy_v (σ 86 58) ((hG9.1 86 58 (by decide)).trans rfl) ?_
  refine qr_ixor 63 rfl rfl ?_
  refine qy_canE (fun v12 hv12 hev12 => ?_)
  refine qr_retI rfl rfl (by decide) (by decide) ?_
  exact ⟨_, _, rfl, hI8, hF10, (by have hw : σ6 86 56 = (σ6 86 56) := rfl; omega), v12, rfl, hv12, (qac_v hev12 (by omega)), ((hx4.trans (congrArg (fun f => qzu (f) (σ 86 56 : Int).toNat (11)) rfl)))⟩

set_option maxHeartbeats 4000000 in
set_option maxRecDepth 20000 in
/-- OneRoofModel.endsAs -/
theorem sf_258_86e2_2 {L : Nat} {xs : Nat → Int} {vb : Bool} {d : Nat} {σ α : Nat → Nat → Int} {κ : Nat → Option Nat} {ρ : Nat} {x2 : Int} (hI : qI σ α κ ρ) (r2 : (-2147483648) ≤ x2 ∧ x2 ≤ 2147483647) (p0 : 0 ≤ σ 86 56 ∧ σ 86 56 ≤ 22) (p1 : σ 86 57 = 2) : qm_T (qe L xs vb) (d + 3) 258 [.ref 86, .int (qz 2), .int (qz x2)] (qw σ α κ ρ) (fun r w' => ∃ σ' α', w' = qw σ' α' κ ρ ∧ qI σ' α' κ ρ ∧ qFr [(86, 56)] [120] σ α σ' α' ∧ σ' 86 56 = σ 86 56 + 2 ∧ ∃ v : Int, r = some (.int (qz v)) ∧ ((-2147483648) ≤ v ∧ v ≤ 2147483647) ∧ v = qac_m (qac_x x2 (σ 86 58)) 3 ∧ α' 120 = qac_t [30, 11] (α 120) (σ 86 56)) := by
  refine qr_start (d := d + 2) qv_e258 (Nat.le_of_ble_eq_true rfl) ?_
  show qr_W (qe L xs vb) (d + 2) qx_e258 _ (0, [(0, .ref 86), (1, .int (qz 2)), (2, .int (qz x2))], [], _, 0, 0)
  have hF0 := qFr_rf [(86, 56)] [120] σ α
  have hz86_56 : (-2147483648) ≤ σ 86 56 ∧ σ 86 56 ≤ 2147483647 := hI.1 86 56
  have hz86_57 : (-2147483648) ≤ σ 86 57 ∧ σ 86 57 ≤ 2147483647 := hI.1 86 57
  have hz86_58 : (-2147483648) ≤ σ 86 58 ∧ σ 86 58 ≤ 2147483647 := hI.1 86 58
  refine qr_iload_n 1 rfl rfl rfl ?_
  refine qr_iconst 2 rfl rfl ?_
  refine qr_icmp_ne 20 5 rfl rfl rfl (by decide) (by decide) (fun h => False.elim (by omega)) (fun h1 => ?_)
  refine qr_aload_n 6 rfl rfl rfl ?_
  refine qr_bipush 8 rfl (by decide) rfl ?_
  have hs2 : (-2147483648) ≤ σ 86 56 ∧ σ 86 56 ≤ 2147483647 := hI.1 86 56
  refine qr_callN 11 rfl rfl rfl (sf_257_86e (d := d + 1) hI (by decide) (by omega)) ?_
  rintro _ _ ⟨σ5, α6, rfl, hI7, hG8, hw4, rfl, hx3⟩
  have hF9 : qFr [(86, 56)] [120] σ α σ5 α6 := qFr_t hF0 hG8 (by decide) (by decide)
  have hs10 : (-2147483648) ≤ σ5 86 56 ∧ σ5 86 56 ≤ 2147483647 := hI7.1 86 56
  show qr_W (qe L xs vb) (d + 2) qx_e258 _ (11, _, [], qw σ5 α6 κ ρ, 0, 0)
  refine qr_aload_n 12 rfl rfl rfl ?_
  refine qr_iconst 13 rfl rfl ?_
  refine qr_iload_n 14 rfl rfl rfl ?_
  have hr11 : σ5 86 56 = (σ5 86 56) := rfl
  have hs12 : (-2147483648) ≤ σ5 86 56 ∧ σ5 86 56 ≤ 2147483647 := hI7.1 86 56
  have hs13 : (-2147483648) ≤ σ5 86 57 ∧ σ5 86 57 ≤ 2147483647 := hI7.1 86 57
  have hs14 : σ5 86 57 = (σ 86 57) := (hG8.1 86 57 (by decide)).trans rfl
  refine qr_callN 17 rfl rfl rfl (sf_258_86e1_2 (d := d + 0) hI7 r2 (by omega) (by omega)) ?_
  rintro _ _ ⟨σ19, α20, rfl, hI21, hG22, hw18, v15, rfl, hv15, hx16, hx17⟩
  have hF23 : qFr [(86, 56)] [120] σ α σ19 α20 := qFr_t hF9 hG22 (by decide) (by decide)
  have hs24 : (-2147483648) ≤ σ19 86 56 ∧ σ19 86 56 ≤ 2147483647 := hI21.1 86 56
  show qr_W (qe L xs vb) (d + 2) qx_e258 _ (17, _, [.int (qz v15)], qw σ19 α20 κ ρ, 0, 0)
  rw [hF9.1 86 58 (by decide)] at hx16
  refine qr_iconst 18 rfl rfl ?_
  refine qr_imul 19 rfl rfl ?_
  refine qy_canE (fun v25 hv25 hev25 => ?_)
  refine qr_retI rfl rfl (by decide) (by decide) ?_
  exact ⟨_, _, rfl, hI21, hF23, (by have hw : σ19 86 56 = (σ19 86 56) := rfl; omega), v25, rfl, hv25, ((qac_v hev25 (by omega)).trans (by rw [hx16]; rfl)), (by rw [hx17, show α6 120 = qzu (α 120) (σ 86 56 : Int).toNat 30 from (hx3.trans (congrArg (fun f => qzu (f) (σ 86 56 : Int).toNat (30)) rfl)), show σ5 86 56 = σ 86 56 + 1 by omega]; rfl)⟩

set_option maxHeartbeats 4000000 in
set_option maxRecDepth 20000 in
/-- OneRoofModel.endsAs -/
theorem sf_258_86e3_3 {L : Nat} {xs : Nat → Int} {vb : Bool} {d : Nat} {σ α : Nat → Nat → Int} {κ : Nat → Option Nat} {ρ : Nat} {x2 : Int} (hI : qI σ α κ ρ) (r2 : (-2147483648) ≤ x2 ∧ x2 ≤ 2147483647) (p0 : 0 ≤ σ 86 56 ∧ σ 86 56 ≤ 23) (p1 : σ 86 57 = 3) : qm_T (qe L xs vb) (d + 2) 258 [.ref 86, .int (qz 3), .int (qz x2)] (qw σ α κ ρ) (fun r w' => ∃ σ' α', w' = qw σ' α' κ ρ ∧ qI σ' α' κ ρ ∧ qFr [(86, 56)] [120] σ α σ' α' ∧ σ' 86 56 = σ 86 56 + 1 ∧ ∃ v : Int, r = some (.int (qz v)) ∧ ((-2147483648) ≤ v ∧ v ≤ 2147483647) ∧ v = qac_x x2 (σ 86 58) ∧ α' 120 = qac_t [11] (α 120) (σ 86 56)) := by
  refine qr_start (d := d + 1) qv_e258 (Nat.le_of_ble_eq_true rfl) ?_
  show qr_W (qe L xs vb) (d + 1) qx_e258 _ (0, [(0, .ref 86), (1, .int (qz 3)), (2, .int (qz x2))], [], _, 0, 0)
  have hF0 := qFr_rf [(86, 56)] [120] σ α
  have hz86_56 : (-2147483648) ≤ σ 86 56 ∧ σ 86 56 ≤ 2147483647 := hI.1 86 56
  have hz86_57 : (-2147483648) ≤ σ 86 57 ∧ σ 86 57 ≤ 2147483647 := hI.1 86 57
  have hz86_58 : (-2147483648) ≤ σ 86 58 ∧ σ 86 58 ≤ 2147483647 := hI.1 86 58
  refine qr_iload_n 1 rfl rfl rfl ?_
  refine qr_iconst 2 rfl rfl ?_
  refine qr_icmp_ne 20 5 rfl rfl rfl (by decide) (by decide) (fun h1 => ?_) (fun h => False.elim (by omega))
  refine qr_iload_n 21 rfl rfl rfl ?_
  refine qr_bipush 23 rfl (by decide) rfl ?_
  refine qr_icmp_ne 51 26 rfl rfl rfl (by decide) (by decide) (fun h2 => ?_) (fun h => False.elim (by omega))
  refine qr_aload_n 52 rfl rfl rfl ?_
  refine qr_bipush 54 rfl (by decide) rfl ?_
  have hs3 : (-2147483648) ≤ σ 86 56 ∧ σ 86 56 ≤ 2147483647 := hI.1 86 56
  refine qr_callN 57 rfl rfl rfl (sf_257_86e (d := d + 0) hI (by decide) (by omega)) ?_
  rintro _ _ ⟨σ6, α7, rfl, hI8, hG9, hw5, rfl, hx4⟩
  have hF10 : qFr [(86, 56)] [120] σ α σ6 α7 := qFr_t hF0 hG9 (by decide) (by decide)
  have hs11 : (-2147483648) ≤ σ6 86 56 ∧ σ6 86 56 ≤ 2147483647 := hI8.1 86 56
  show qr_W (qe L xs vb) (d + 1) qx_e258 _ (57, _, [], qw σ6 α7 κ ρ, 0, 0)
  refine qr_iload_n 58 rfl rfl rfl ?_
  refine qr_aload_n 59 rfl rfl rfl ?_
  refine qr_get 62 rfl rfl rfl (by decide) rfl ?_
  refine qy_v (σ 86 58) ((hG9.1 86 58 (by decide)).trans rfl) ?_
  refine qr_ixor 63 rfl rfl ?_
  refine qy_canE (fun v12 hv12 hev12 => ?_)
  refine qr_retI rfl rfl (by decide) (by decide) ?_
  exact ⟨_, _, rfl, hI8, hF10, (by have hw : σ6 86 56 = (σ6 86 56) := rfl; omega), v12, rfl, hv12, (qac_v hev12 (by omega)), ((hx4.trans (congrArg (fun f => qzu (f) (σ 86 56 : Int).toNat (11)) rfl)))⟩

set_option maxHeartbeats 4000000 in
set_option maxRecDepth 20000 in
/-- OneRoofModel.endsAs -/
theorem sf_258_86e4_4 {L : Nat} {xs : Nat → Int} {vb : Bool} {d : Nat} {σ α : Nat → Nat → Int} {κ : Nat → Option Nat} {ρ : Nat} {x2 : Int} (hI : qI σ α κ ρ) (r2 : (-2147483648) ≤ x2 ∧ x2 ≤ 2147483647) (p0 : 0 ≤ σ 86 56 ∧ σ 86 56 ≤ 23) (p1 : σ 86 57 = 4) : qm_T (qe L xs vb) (d + 2) 258 [.ref 86, .int (qz 4), .int (qz x2)] (qw σ α κ ρ) (fun r w' => ∃ σ' α', w' = qw σ' α' κ ρ ∧ qI σ' α' κ ρ ∧ qFr [(86, 56)] [120] σ α σ' α' ∧ σ' 86 56 = σ 86 56 + 1 ∧ ∃ v : Int, r = some (.int (qz v)) ∧ ((-2147483648) ≤ v ∧ v ≤ 2147483647) ∧ v = qac_x x2 (σ 86 58) ∧ α' 120 = qac_t [11] (α 120) (σ 86 56)) := by
  refine qr_start (d := d + 1) qv_e258 (Nat.le_of_ble_eq_true rfl) ?_
  show qr_W (qe L xs vb) (d + 1) qx_e258 _ (0, [(0, .ref 86), (1, .int (qz 4)), (2, .int (qz x2))], [], _, 0, 0)
  have hF0 := qFr_rf [(86, 56)] [120] σ α
  have hz86_56 : (-2147483648) ≤ σ 86 56 ∧ σ 86 56 ≤ 2147483647 := hI.1 86 56
  have hz86_57 : (-2147483648) ≤ σ 86 57 ∧ σ 86 57 ≤ 2147483647 := hI.1 86 57
  have hz86_58 : (-2147483648) ≤ σ 86 58 ∧ σ 86 58 ≤ 2147483647 := hI.1 86 58
  refine qr_iload_n 1 rfl rfl rfl ?_
  refine qr_iconst 2 rfl rfl ?_
  refine qr_icmp_ne 20 5 rfl rfl rfl (by decide) (by decide) (fun h1 => ?_) (fun h => False.elim (by omega))
  refine qr_iload_n 21 rfl rfl rfl ?_
  refine qr_bipush 23 rfl (by decide) rfl ?_
  refine qr_icmp_ne 51 26 rfl rfl rfl (by decide) (by decide) (fun h2 => ?_) (fun h => False.elim (by omega))
  refine qr_aload_n 52 rfl rfl rfl ?_
  refine qr_bipush 54 rfl (by decide) rfl ?_
  have hs3 : (-2147483648) ≤ σ 86 56 ∧ σ 86 56 ≤ 2147483647 := hI.1 86 56
  refine qr_callN 57 rfl rfl rfl (sf_257_86e (d := d + 0) hI (by decide) (by omega)) ?_
  rintro _ _ ⟨σ6, α7, rfl, hI8, hG9, hw5, rfl, hx4⟩
  have hF10 : qFr [(86, 56)] [120] σ α σ6 α7 := qFr_t hF0 hG9 (by decide) (by decide)
  have hs11 : (-2147483648) ≤ σ6 86 56 ∧ σ6 86 56 ≤ 2147483647 := hI8.1 86 56
  show qr_W (qe L xs vb) (d + 1) qx_e258 _ (57, _, [], qw σ6 α7 κ ρ, 0, 0)
  refine qr_iload_n 58 rfl rfl rfl ?_
  refine qr_aload_n 59 rfl rfl rfl ?_
  refine qr_get 62 rfl rfl rfl (by decide) rfl ?_
  refine qy_v (σ 86 58) ((hG9.1 86 58 (by decide)).trans rfl) ?_
  refine qr_ixor 63 rfl rfl ?_
  refine qy_canE (fun v12 hv12 hev12 => ?_)
  refine qr_retI rfl rfl (by decide) (by decide) ?_
  exact ⟨_, _, rfl, hI8, hF10, (by have hw : σ6 86 56 = (σ6 86 56) := rfl; omega), v12, rfl, hv12, (qac_v hev12 (by omega)), ((hx4.trans (congrArg (fun f => qzu (f) (σ 86 56 : Int).toNat (11)) rfl)))⟩

set_option maxHeartbeats 4000000 in
set_option maxRecDepth 20000 in
/-- OneRoofModel.endsAs -/
theorem sf_258_86e0_6 {L : Nat} {xs : Nat → Int} {vb : Bool} {d : Nat} {σ α : Nat → Nat → Int} {κ : Nat → Option Nat} {ρ : Nat} {x2 : Int} (hI : qI σ α κ ρ) (r2 : (-2147483648) ≤ x2 ∧ x2 ≤ 2147483647) (p0 : 0 ≤ σ 86 56 ∧ σ 86 56 ≤ 23) (p1 : σ 86 57 = 6) : qm_T (qe L xs vb) (d + 2) 258 [.ref 86, .int (qz 0), .int (qz x2)] (qw σ α κ ρ) (fun r w' => ∃ σ' α', w' = qw σ' α' κ ρ ∧ qI σ' α' κ ρ ∧ qFr [(86, 56)] [120] σ α σ' α' ∧ σ' 86 56 = σ 86 56 + 1 ∧ ∃ v : Int, r = some (.int (qz v)) ∧ ((-2147483648) ≤ v ∧ v ≤ 2147483647) ∧ v = qac_x x2 (σ 86 58) ∧ α' 120 = qac_t [11] (α 120) (σ 86 56)) := by
  refine qr_start (d := d + 1) qv_e258 (Nat.le_of_ble_eq_true rfl) ?_
  show qr_W (qe L xs vb) (d + 1) qx_e258 _ (0, [(0, .ref 86), (1, .int (qz 0)), (2, .int (qz x2))], [], _, 0, 0)
  have hF0 := qFr_rf [(86, 56)] [120] σ α
  have hz86_56 : (-2147483648) ≤ σ 86 56 ∧ σ 86 56 ≤ 2147483647 := hI.1 86 56
  have hz86_57 : (-2147483648) ≤ σ 86 57 ∧ σ 86 57 ≤ 2147483647 := hI.1 86 57
  have hz86_58 : (-2147483648) ≤ σ 86 58 ∧ σ 86 58 ≤ 2147483647 := hI.1 86 58
  refine qr_iload_n 1 rfl rfl rfl ?_
  refine qr_iconst 2 rfl rfl ?_
  refine qr_icmp_ne 20 5 rfl rfl rfl (by decide) (by decide) (fun h1 => ?_) (fun h => False.elim (by omega))
  refine qr_iload_n 21 rfl rfl rfl ?_
  refine qr_bipush 23 rfl (by decide) rfl ?_
  refine qr_icmp_ne 51 26 rfl rfl rfl (by decide) (by decide) (fun h2 => ?_) (fun h => False.elim (by omega))
  refine qr_aload_n 52 rfl rfl rfl ?_
  refine qr_bipush 54 rfl (by decide) rfl ?_
  have hs3 : (-2147483648) ≤ σ 86 56 ∧ σ 86 56 ≤ 2147483647 := hI.1 86 56
  refine qr_callN 57 rfl rfl rfl (sf_257_86e (d := d + 0) hI (by decide) (by omega)) ?_
  rintro _ _ ⟨σ6, α7, rfl, hI8, hG9, hw5, rfl, hx4⟩
  have hF10 : qFr [(86, 56)] [120] σ α σ6 α7 := qFr_t hF0 hG9 (by decide) (by decide)
  have hs11 : (-2147483648) ≤ σ6 86 56 ∧ σ6 86 56 ≤ 2147483647 := hI8.1 86 56
  show qr_W (qe L xs vb) (d + 1) qx_e258 _ (57, _, [], qw σ6 α7 κ ρ, 0, 0)
  refine qr_iload_n 58 rfl rfl rfl ?_
  refine qr_aload_n 59 rfl rfl rfl ?_
  refine qr_get 62 rfl rfl rfl (by decide) rfl ?_
  refine qy_v (σ 86 58) ((hG9.1 86 58 (by decide)).trans rfl) ?_
  refine qr_ixor 63 rfl rfl ?_
  refine qy_canE (fun v12 hv12 hev12 => ?_)
  refine qr_retI rfl rfl (by decide) (by decide) ?_
  exact ⟨_, _, rfl, hI8, hF10, (by have hw : σ6 86 56 = (σ6 86 56) := rfl; omega), v12, rfl, hv12, (qac_v hev12 (by omega)), ((hx4.trans (congrArg (fun f => qzu (f) (σ 86 56 : Int).toNat (11)) rfl)))⟩

set_option maxHeartbeats 4000000 in
set_option maxRecDepth 20000 in
/-- OneRoofModel.endsAs -/
theorem sf_258_86e6_6 {L : Nat} {xs : Nat → Int} {vb : Bool} {d : Nat} {σ α : Nat → Nat → Int} {κ : Nat → Option Nat} {ρ : Nat} {x2 : Int} (hI : qI σ α κ ρ) (r2 : (-2147483648) ≤ x2 ∧ x2 ≤ 2147483647) (p0 : 0 ≤ σ 86 56 ∧ σ 86 56 ≤ 21) (p1 : σ 86 57 = 6) : qm_T (qe L xs vb) (d + 3) 258 [.ref 86, .int (qz 6), .int (qz x2)] (qw σ α κ ρ) (fun r w' => ∃ σ' α', w' = qw σ' α' κ ρ ∧ qI σ' α' κ ρ ∧ qFr [(86, 56)] [120] σ α σ' α' ∧ σ' 86 56 = σ 86 56 + 3 ∧ ∃ v : Int, r = some (.int (qz v)) ∧ ((-2147483648) ≤ v ∧ v ≤ 2147483647) ∧ v = qac_a (qac_x x2 (σ 86 58)) (qac_a 1 (σ 86 58)) ∧ α' 120 = qac_t [70, 11, 1] (α 120) (σ 86 56)) := by
  refine qr_start (d := d + 2) qv_e258 (Nat.le_of_ble_eq_true rfl) ?_
  show qr_W (qe L xs vb) (d + 2) qx_e258 _ (0, [(0, .ref 86), (1, .int (qz 6)), (2, .int (qz x2))], [], _, 0, 0)
  have hF0 := qFr_rf [(86, 56)] [120] σ α
  have hz86_56 : (-2147483648) ≤ σ 86 56 ∧ σ 86 56 ≤ 2147483647 := hI.1 86 56
  have hz86_57 : (-2147483648) ≤ σ 86 57 ∧ σ 86 57 ≤ 2147483647 := hI.1 86 57
  have hz86_58 : (-2147483648) ≤ σ 86 58 ∧ σ 86 58 ≤ 2147483647 := hI.1 86 58
  refine qr_iload_n 1 rfl rfl rfl ?_
  refine qr_iconst 2 rfl rfl ?_
  refine qr_icmp_ne 20 5 rfl rfl rfl (by decide) (by decide) (fun h1 => ?_) (fun h => False.elim (by omega))
  refine qr_iload_n 21 rfl rfl rfl ?_
  refine qr_bipush 23 rfl (by decide) rfl ?_
  refine qr_icmp_ne 51 26 rfl rfl rfl (by decide) (by decide) (fun h => False.elim (by omega)) (fun h2 => ?_)
  refine qr_aload_n 27 rfl rfl rfl ?_
  refine qr_bipush 29 rfl (by decide) rfl ?_
  have hs3 : (-2147483648) ≤ σ 86 56 ∧ σ 86 56 ≤ 2147483647 := hI.1 86 56
  refine qr_callN 32 rfl rfl rfl (sf_257_86e (d := d + 1) hI (by decide) (by omega)) ?_
  rintro _ _ ⟨σ6, α7, rfl, hI8, hG9, hw5, rfl, hx4⟩
  have hF10 : qFr [(86, 56)] [120] σ α σ6 α7 := qFr_t hF0 hG9 (by decide) (by decide)
  have hs11 : (-2147483648) ≤ σ6 86 56 ∧ σ6 86 56 ≤ 2147483647 := hI8.1 86 56
  show qr_W (qe L xs vb) (d + 2) qx_e258 _ (32, _, [], qw σ6 α7 κ ρ, 0, 0)
  refine qr_aload_n 33 rfl rfl rfl ?_
  refine qr_iconst 34 rfl rfl ?_
  refine qr_iload_n 35 rfl rfl rfl ?_
  have hr12 : σ6 86 56 = (σ6 86 56) := rfl
  have hs13 : (-2147483648) ≤ σ6 86 56 ∧ σ6 86 56 ≤ 2147483647 := hI8.1 86 56
  have hs14 : (-2147483648) ≤ σ6 86 57 ∧ σ6 86 57 ≤ 2147483647 := hI8.1 86 57
  have hs15 : σ6 86 57 = (σ 86 57) := (hG9.1 86 57 (by decide)).trans rfl
  refine qr_callN 38 rfl rfl rfl (sf_258_86e0_6 (d := d + 0) hI8 r2 (by omega) (by omega)) ?_
  rintro _ _ ⟨σ20, α21, rfl, hI22, hG23, hw19, v16, rfl, hv16, hx17, hx18⟩
  have hF24 : qFr [(86, 56)] [120] σ α σ20 α21 := qFr_t hF10 hG23 (by decide) (by decide)
  have hs25 : (-2147483648) ≤ σ20 86 56 ∧ σ20 86 56 ≤ 2147483647 := hI22.1 86 56
  show qr_W (qe L xs vb) (d + 2) qx_e258 _ (38, _, [.int (qz v16)], qw σ20 α21 κ ρ, 0, 0)
  rw [hF10.1 86 58 (by decide)] at hx17
  refine qr_istore_n _ 39 rfl (by decide) rfl rfl ?_
  refine qr_iload_n 40 rfl rfl rfl ?_
  refine qr_aload_n 41 rfl rfl rfl ?_
  refine qr_aload_n 42 rfl rfl rfl ?_
  refine qr_get 45 rfl rfl rfl (by decide) rfl ?_
  refine qy_v (σ 86 57) ((hG23.1 86 57 (by decide)).trans ((hG9.1 86 57 (by decide)).trans rfl)) ?_
  refine qr_iconst 46 rfl rfl ?_
  have hr26 : σ20 86 56 = (σ20 86 56) := rfl
  have hc27 : (σ 86 57) = 6 := by omega
  rw [hc27]
  have hs28 : (-2147483648) ≤ σ20 86 56 ∧ σ20 86 56 ≤ 2147483647 := hI22.1 86 56
  have hs29 : (-2147483648) ≤ σ20 86 57 ∧ σ20 86 57 ≤ 2147483647 := hI22.1 86 57
  have hs30 : σ20 86 57 = (σ 86 57) := (hG23.1 86 57 (by decide)).trans ((hG9.1 86 57 (by decide)).trans rfl)
  refine qr_callN 49 rfl rfl rfl (sf_256_86e6_6 (d := d + 0) hI22 (by decide) (by omega) (by omega)) ?_
  rintro _ _ ⟨σ35, α36, rfl, hI37, hG38, hw34, v31, rfl, hv31, hx32, hx33⟩
  have hF39 : qFr [(86, 56)] [120] σ α σ35 α36 := qFr_t hF24 hG38 (by decide) (by decide)
  have hs40 : (-2147483648) ≤ σ35 86 56 ∧ σ35 86 56 ≤ 2147483647 := hI37.1 86 56
  show qr_W (qe L xs vb) (d + 2) qx_e258 _ (49, _, [.int (qz v31), .int (qz v16)], qw σ35 α36 κ ρ, 0, 0)
  rw [hF24.1 86 58 (by decide)] at hx32
  refine qr_iadd 50 rfl rfl ?_
  refine qy_canE (fun v41 hv41 hev41 => ?_)
  refine qr_retI rfl rfl (by decide) (by decide) ?_
  exact ⟨_, _, rfl, hI37, hF39, (by have hw : σ35 86 56 = (σ35 86 56) := rfl; omega), v41, rfl, hv41, ((qac_v hev41 (by omega)).trans (by rw [hx17, hx32]; rfl)), (by rw [hx33, hx18, show α7 120 = qzu (α 120) (σ 86 56 : Int).toNat 70 from (hx4.trans (congrArg (fun f => qzu (f) (σ 86 56 : Int).toNat (70)) rfl)), show σ6 86 56 = σ 86 56 + 1 by omega, show σ20 86 56 = σ 86 56 + 1 + 1 by omega]; exact (qac_t_app [11] [1] (qzu (α 120) (σ 86 56 : Int).toNat 70) (σ 86 56 + 1)).symm)⟩

set_option maxHeartbeats 4000000 in
set_option maxRecDepth 20000 in
/-- OneRoofModel.endsAs -/
theorem sf_258_86ex {L : Nat} {xs : Nat → Int} {vb : Bool} {d : Nat} {σ α : Nat → Nat → Int} {κ : Nat → Option Nat} {ρ : Nat} {x1 : Int} {x2 : Int} (hI : qI σ α κ ρ) (r1 : (-2147483648) ≤ x1 ∧ x1 ≤ 2147483647) (r2 : (-2147483648) ≤ x2 ∧ x2 ≤ 2147483647) (p0 : 0 ≤ x1 ∧ x1 ≤ 6) (p1 : x1 = σ 86 57) (p2 : 0 ≤ σ 86 56 ∧ σ 86 56 ≤ 16) : qm_T (qe L xs vb) (d + 3) 258 [.ref 86, .int (qz x1), .int (qz x2)] (qw σ α κ ρ) (fun r w' => ∃ σ' α', w' = qw σ' α' κ ρ ∧ qI σ' α' κ ρ ∧ qFr [(86, 56)] [120] σ α σ' α' ∧ ∃ v : Int, r = some (.int (qz v)) ∧ ((-2147483648) ≤ v ∧ v ≤ 2147483647) ∧ v = qAE x1 2 x2 (σ 86 58) ∧ σ' 86 56 = σ 86 56 + ((qAT x1 2).length : Int) ∧ α' 120 = qac_t (qAT x1 2) (α 120) (σ 86 56)) := by
  have h1 : x1 = 0 ∨ x1 = 1 ∨ x1 = 2 ∨ x1 = 3 ∨ x1 = 4 ∨ x1 = 5 ∨ x1 = 6 := by omega
  rcases h1 with rfl | rfl | rfl | rfl | rfl | rfl | rfl
  · refine qr_mono (sf_258_86e0_0 (d := d + 1) hI (by omega) (by omega) p1.symm) ?_
    rintro r w' ⟨σ2, α2, h2, h3, h4, hw, v, h5, h6, h7, h8⟩
    exact ⟨σ2, α2, h2, h3, h4, v, h5, h6, h7, hw, h8⟩
  · refine qr_mono (sf_258_86e1_1 (d := d + 1) hI (by omega) (by omega) p1.symm) ?_
    rintro r w' ⟨σ2, α2, h2, h3, h4, hw, v, h5, h6, h7, h8⟩
    exact ⟨σ2, α2, h2, h3, h4, v, h5, h6, h7, hw, h8⟩
  · refine qr_mono (sf_258_86e2_2 (d := d + 0) hI (by omega) (by omega) p1.symm) ?_
    rintro r w' ⟨σ2, α2, h2, h3, h4, hw, v, h5, h6, h7, h8⟩
    exact ⟨σ2, α2, h2, h3, h4, v, h5, h6, h7, hw, h8⟩
  · refine qr_mono (sf_258_86e3_3 (d := d + 1) hI (by omega) (by omega) p1.symm) ?_
    rintro r w' ⟨σ2, α2, h2, h3, h4, hw, v, h5, h6, h7, h8⟩
    exact ⟨σ2, α2, h2, h3, h4, v, h5, h6, h7, hw, h8⟩
  · refine qr_mono (sf_258_86e4_4 (d := d + 1) hI (by omega) (by omega) p1.symm) ?_
    rintro r w' ⟨σ2, α2, h2, h3, h4, hw, v, h5, h6, h7, h8⟩
    exact ⟨σ2, α2, h2, h3, h4, v, h5, h6, h7, hw, h8⟩
  · refine qr_mono (sf_258_86e5_5 (d := d + 1) hI (by omega) (by omega) p1.symm) ?_
    rintro r w' ⟨σ2, α2, h2, h3, h4, hw, v, h5, h6, h7, h8⟩
    exact ⟨σ2, α2, h2, h3, h4, v, h5, h6, h7, hw, h8⟩
  · refine qr_mono (sf_258_86e6_6 (d := d + 0) hI (by omega) (by omega) p1.symm) ?_
    rintro r w' ⟨σ2, α2, h2, h3, h4, hw, v, h5, h6, h7, h8⟩
    exact ⟨σ2, α2, h2, h3, h4, v, h5, h6, h7, hw, h8⟩

set_option maxHeartbeats 4000000 in
set_option maxRecDepth 20000 in
/-- OneRoofModel.tellsAs -/
theorem sf_260_86e0_0 {L : Nat} {xs : Nat → Int} {vb : Bool} {d : Nat} {σ α : Nat → Nat → Int} {κ : Nat → Option Nat} {ρ : Nat} {x2 : Int} (hI : qI σ α κ ρ) (r2 : (-2147483648) ≤ x2 ∧ x2 ≤ 2147483647) (p0 : 0 ≤ σ 86 56 ∧ σ 86 56 ≤ 20) (p1 : σ 86 57 = 0) : qm_T (qe L xs vb) (d + 4) 260 [.ref 86, .int (qz 0), .int (qz x2)] (qw σ α κ ρ) (fun r w' => ∃ σ' α', w' = qw σ' α' κ ρ ∧ qI σ' α' κ ρ ∧ qFr [(86, 56)] [120] σ α σ' α' ∧ σ' 86 56 = σ 86 56 + 4 ∧ ∃ v : Int, r = some (.int (qz v)) ∧ ((-2147483648) ≤ v ∧ v ≤ 2147483647) ∧ v = qac_s (qac_m (qac_a x2 (σ 86 58)) 2) (qac_x 1 (σ 86 58)) ∧ α' 120 = qac_t [2, 10, 1, 11] (α 120) (σ 86 56)) := by
  refine qr_start (d := d + 3) qv_e260 (Nat.le_of_ble_eq_true rfl) ?_
  show qr_W (qe L xs vb) (d + 3) qx_e260 _ (0, [(0, .ref 86), (1, .int (qz 0)), (2, .int (qz x2))], [], _, 0, 0)
  have hF0 := qFr_rf [(86, 56)] [120] σ α
  have hz86_56 : (-2147483648) ≤ σ 86 56 ∧ σ 86 56 ≤ 2147483647 := hI.1 86 56
  have hz86_57 : (-2147483648) ≤ σ 86 57 ∧ σ 86 57 ≤ 2147483647 := hI.1 86 57
  have hz86_58 : (-2147483648) ≤ σ 86 58 ∧ σ 86 58 ≤ 2147483647 := hI.1 86 58
  refine qr_iload_n 1 rfl rfl rfl ?_
  refine qr_iconst 2 rfl rfl ?_
  refine qr_icmp_eq 10 5 rfl rfl rfl (by decide) (by decide) (fun h => False.elim (by omega)) (fun h1 => ?_)
  refine qr_iload_n 6 rfl rfl rfl ?_
  refine qr_iconst 7 rfl rfl ?_
  refine qr_icmp_ne 25 10 rfl rfl rfl (by decide) (by decide) (fun h2 => ?_) (fun h => False.elim (by omega))
  refine qr_aload_n 26 rfl rfl rfl ?_
  refine qr_iconst 27 rfl rfl ?_
  have hs3 : (-2147483648) ≤ σ 86 56 ∧ σ 86 56 ≤ 2147483647 := hI.1 86 56
  refine qr_callN 30 rfl rfl rfl (sf_257_86e (d := d + 2) hI (by decide) (by omega)) ?_
  rintro _ _ ⟨σ6, α7, rfl, hI8, hG9, hw5, rfl, hx4⟩
  have hF10 : qFr [(86, 56)] [120] σ α σ6 α7 := qFr_t hF0 hG9 (by decide) (by decide)
  have hs11 : (-2147483648) ≤ σ6 86 56 ∧ σ6 86 56 ≤ 2147483647 := hI8.1 86 56
  show qr_W (qe L xs vb) (d + 3) qx_e260 _ (30, _, [], qw σ6 α7 κ ρ, 0, 0)
  refine qr_aload_n 31 rfl rfl rfl ?_
  refine qr_aload_n 32 rfl rfl rfl ?_
  refine qr_get 35 rfl rfl rfl (by decide) rfl ?_
  refine qy_v (σ 86 57) ((hG9.1 86 57 (by decide)).trans rfl) ?_
  refine qr_iload_n 36 rfl rfl rfl ?_
  have hr12 : σ6 86 56 = (σ6 86 56) := rfl
  have hc13 : (σ 86 57) = 0 := by omega
  rw [hc13]
  have hs14 : (-2147483648) ≤ σ6 86 56 ∧ σ6 86 56 ≤ 2147483647 := hI8.1 86 56
  have hs15 : (-2147483648) ≤ σ6 86 57 ∧ σ6 86 57 ≤ 2147483647 := hI8.1 86 57
  have hs16 : σ6 86 57 = (σ 86 57) := (hG9.1 86 57 (by decide)).trans rfl
  refine qr_callN 39 rfl rfl rfl (sf_259_86e0_0 (d := d + 0) hI8 r2 (by omega) (by omega)) ?_
  rintro _ _ ⟨σ21, α22, rfl, hI23, hG24, hw20, v17, rfl, hv17, hx18, hx19⟩
  have hF25 : qFr [(86, 56)] [120] σ α σ21 α22 := qFr_t hF10 hG24 (by decide) (by decide)
  have hs26 : (-2147483648) ≤ σ21 86 56 ∧ σ21 86 56 ≤ 2147483647 := hI23.1 86 56
  show qr_W (qe L xs vb) (d + 3) qx_e260 _ (39, _, [.int (qz v17)], qw σ21 α22 κ ρ, 0, 0)
  rw [hF10.1 86 58 (by decide)] at hx18
  refine qr_istore_n _ 40 rfl (by decide) rfl rfl ?_
  refine qr_iload_n 41 rfl rfl rfl ?_
  refine qr_aload_n 42 rfl rfl rfl ?_
  refine qr_aload_n 43 rfl rfl rfl ?_
  refine qr_get 46 rfl rfl rfl (by decide) rfl ?_
  refine qy_v (σ 86 57) ((hG24.1 86 57 (by decide)).trans ((hG9.1 86 57 (by decide)).trans rfl)) ?_
  refine qr_iconst 47 rfl rfl ?_
  have hr27 : σ21 86 56 = (σ21 86 56) := rfl
  have hc28 : (σ 86 57) = 0 := by omega
  rw [hc28]
  have hs29 : (-2147483648) ≤ σ21 86 56 ∧ σ21 86 56 ≤ 2147483647 := hI23.1 86 56
  have hs30 : (-2147483648) ≤ σ21 86 57 ∧ σ21 86 57 ≤ 2147483647 := hI23.1 86 57
  have hs31 : σ21 86 57 = (σ 86 57) := (hG24.1 86 57 (by decide)).trans ((hG9.1 86 57 (by decide)).trans rfl)
  refine qr_callN 50 rfl rfl rfl (sf_258_86e0_0 (d := d + 1) hI23 (by decide) (by omega) (by omega)) ?_
  rintro _ _ ⟨σ36, α37, rfl, hI38, hG39, hw35, v32, rfl, hv32, hx33, hx34⟩
  have hF40 : qFr [(86, 56)] [120] σ α σ36 α37 := qFr_t hF25 hG39 (by decide) (by decide)
  have hs41 : (-2147483648) ≤ σ36 86 56 ∧ σ36 86 56 ≤ 2147483647 := hI38.1 86 56
  show qr_W (qe L xs vb) (d + 3) qx_e260 _ (50, _, [.int (qz v32), .int (qz v17)], qw σ36 α37 κ ρ, 0, 0)
  rw [hF25.1 86 58 (by decide)] at hx33
  refine qr_isub 51 rfl rfl ?_
  refine qy_canE (fun v42 hv42 hev42 => ?_)
  refine qr_retI rfl rfl (by decide) (by decide) ?_
  exact ⟨_, _, rfl, hI38, hF40, (by have hw : σ36 86 56 = (σ36 86 56) := rfl; omega), v42, rfl, hv42, ((qac_v hev42 (by omega)).trans (by rw [hx18, hx33]; rfl)), (by rw [hx34, hx19, show α7 120 = qzu (α 120) (σ 86 56 : Int).toNat 2 from (hx4.trans (congrArg (fun f => qzu (f) (σ 86 56 : Int).toNat (2)) rfl)), show σ6 86 56 = σ 86 56 + 1 by omega, show σ21 86 56 = σ 86 56 + 1 + 2 by omega]; exact (qac_t_app [10, 1] [11] (qzu (α 120) (σ 86 56 : Int).toNat 2) (σ 86 56 + 1)).symm)⟩

set_option maxHeartbeats 4000000 in
set_option maxRecDepth 20000 in
/-- OneRoofModel.tellsAs -/
theorem sf_260_86e1_1 {L : Nat} {xs : Nat → Int} {vb : Bool} {d : Nat} {σ α : Nat → Nat → Int} {κ : Nat → Option Nat} {ρ : Nat} {x2 : Int} (hI : qI σ α κ ρ) (r2 : (-2147483648) ≤ x2 ∧ x2 ≤ 2147483647) (p0 : 0 ≤ σ 86 56 ∧ σ 86 56 ≤ 19) (p1 : σ 86 57 = 1) : qm_T (qe L xs vb) (d + 5) 260 [.ref 86, .int (qz 1), .int (qz x2)] (qw σ α κ ρ) (fun r w' => ∃ σ' α', w' = qw σ' α' κ ρ ∧ qI σ' α' κ ρ ∧ qFr [(86, 56)] [120] σ α σ' α' ∧ σ' 86 56 = σ 86 56 + 5 ∧ ∃ v : Int, r = some (.int (qz v)) ∧ ((-2147483648) ≤ v ∧ v ≤ 2147483647) ∧ v = qac_s (qac_m (qac_a (qac_a x2 (σ 86 58)) 3) 2) (qac_x 1 (σ 86 58)) ∧ α' 120 = qac_t [2, 10, 20, 1, 11] (α 120) (σ 86 56)) := by
  refine qr_start (d := d + 4) qv_e260 (Nat.le_of_ble_eq_true rfl) ?_
  show qr_W (qe L xs vb) (d + 4) qx_e260 _ (0, [(0, .ref 86), (1, .int (qz 1)), (2, .int (qz x2))], [], _, 0, 0)
  have hF0 := qFr_rf [(86, 56)] [120] σ α
  have hz86_56 : (-2147483648) ≤ σ 86 56 ∧ σ 86 56 ≤ 2147483647 := hI.1 86 56
  have hz86_57 : (-2147483648) ≤ σ 86 57 ∧ σ 86 57 ≤ 2147483647 := hI.1 86 57
  have hz86_58 : (-2147483648) ≤ σ 86 58 ∧ σ 86 58 ≤ 2147483647 := hI.1 86 58
  refine qr_iload_n 1 rfl rfl rfl ?_
  refine qr_iconst 2 rfl rfl ?_
  refine qr_icmp_eq 10 5 rfl rfl rfl (by decide) (by decide) (fun h => False.elim (by omega)) (fun h1 => ?_)
  refine qr_iload_n 6 rfl rfl rfl ?_
  refine qr_iconst 7 rfl rfl ?_
  refine qr_icmp_ne 25 10 rfl rfl rfl (by decide) (by decide) (fun h2 => ?_) (fun h => False.elim (by omega))
  refine qr_aload_n 26 rfl rfl rfl ?_
  refine qr_iconst 27 rfl rfl ?_
  have hs3 : (-2147483648) ≤ σ 86 56 ∧ σ 86 56 ≤ 2147483647 := hI.1 86 56
  refine qr_callN 30 rfl rfl rfl (sf_257_86e (d := d + 3) hI (by decide) (by omega)) ?_
  rintro _ _ ⟨σ6, α7, rfl, hI8, hG9, hw5, rfl, hx4⟩
  have hF10 : qFr [(86, 56)] [120] σ α σ6 α7 := qFr_t hF0 hG9 (by decide) (by decide)
  have hs11 : (-2147483648) ≤ σ6 86 56 ∧ σ6 86 56 ≤ 2147483647 := hI8.1 86 56
  show qr_W (qe L xs vb) (d + 4) qx_e260 _ (30, _, [], qw σ6 α7 κ ρ, 0, 0)
  refine qr_aload_n 31 rfl rfl rfl ?_
  refine qr_aload_n 32 rfl rfl rfl ?_
  refine qr_get 35 rfl rfl rfl (by decide) rfl ?_
  refine qy_v (σ 86 57) ((hG9.1 86 57 (by decide)).trans rfl) ?_
  refine qr_iload_n 36 rfl rfl rfl ?_
  have hr12 : σ6 86 56 = (σ6 86 56) := rfl
  have hc13 : (σ 86 57) = 1 := by omega
  rw [hc13]
  have hs14 : (-2147483648) ≤ σ6 86 56 ∧ σ6 86 56 ≤ 2147483647 := hI8.1 86 56
  have hs15 : (-2147483648) ≤ σ6 86 57 ∧ σ6 86 57 ≤ 2147483647 := hI8.1 86 57
  have hs16 : σ6 86 57 = (σ 86 57) := (hG9.1 86 57 (by decide)).trans rfl
  refine qr_callN 39 rfl rfl rfl (sf_259_86e1_1 (d := d + 0) hI8 r2 (by omega) (by omega)) ?_
  rintro _ _ ⟨σ21, α22, rfl, hI23, hG24, hw20, v17, rfl, hv17, hx18, hx19⟩
  have hF25 : qFr [(86, 56)] [120] σ α σ21 α22 := qFr_t hF10 hG24 (by decide) (by decide)
  have hs26 : (-2147483648) ≤ σ21 86 56 ∧ σ21 86 56 ≤ 2147483647 := hI23.1 86 56
  show qr_W (qe L xs vb) (d + 4) qx_e260 _ (39, _, [.int (qz v17)], qw σ21 α22 κ ρ, 0, 0)
  rw [hF10.1 86 58 (by decide)] at hx18
  refine qr_istore_n _ 40 rfl (by decide) rfl rfl ?_
  refine qr_iload_n 41 rfl rfl rfl ?_
  refine qr_aload_n 42 rfl rfl rfl ?_
  refine qr_aload_n 43 rfl rfl rfl ?_
  refine qr_get 46 rfl rfl rfl (by decide) rfl ?_
  refine qy_v (σ 86 57) ((hG24.1 86 57 (by decide)).trans ((hG9.1 86 57 (by decide)).trans rfl)) ?_
  refine qr_iconst 47 rfl rfl ?_
  have hr27 : σ21 86 56 = (σ21 86 56) := rfl
  have hc28 : (σ 86 57) = 1 := by omega
  rw [hc28]
  have hs29 : (-2147483648) ≤ σ21 86 56 ∧ σ21 86 56 ≤ 2147483647 := hI23.1 86 56
  have hs30 : (-2147483648) ≤ σ21 86 57 ∧ σ21 86 57 ≤ 2147483647 := hI23.1 86 57
  have hs31 : σ21 86 57 = (σ 86 57) := (hG24.1 86 57 (by decide)).trans ((hG9.1 86 57 (by decide)).trans rfl)
  refine qr_callN 50 rfl rfl rfl (sf_258_86e1_1 (d := d + 2) hI23 (by decide) (by omega) (by omega)) ?_
  rintro _ _ ⟨σ36, α37, rfl, hI38, hG39, hw35, v32, rfl, hv32, hx33, hx34⟩
  have hF40 : qFr [(86, 56)] [120] σ α σ36 α37 := qFr_t hF25 hG39 (by decide) (by decide)
  have hs41 : (-2147483648) ≤ σ36 86 56 ∧ σ36 86 56 ≤ 2147483647 := hI38.1 86 56
  show qr_W (qe L xs vb) (d + 4) qx_e260 _ (50, _, [.int (qz v32), .int (qz v17)], qw σ36 α37 κ ρ, 0, 0)
  rw [hF25.1 86 58 (by decide)] at hx33
  refine qr_isub 51 rfl rfl ?_
  refine qy_canE (fun v42 hv42 hev42 => ?_)
  refine qr_retI rfl rfl (by decide) (by decide) ?_
  exact ⟨_, _, rfl, hI38, hF40, (by have hw : σ36 86 56 = (σ36 86 56) := rfl; omega), v42, rfl, hv42, ((qac_v hev42 (by omega)).trans (by rw [hx18, hx33]; rfl)), (by rw [hx34, hx19, show α7 120 = qzu (α 120) (σ 86 56 : Int).toNat 2 from (hx4.trans (congrArg (fun f => qzu (f) (σ 86 56 : Int).toNat (2)) rfl)), show σ6 86 56 = σ 86 56 + 1 by omega, show σ21 86 56 = σ 86 56 + 1 + 3 by omega]; exact (qac_t_app [10, 20, 1] [11] (qzu (α 120) (σ 86 56 : Int).toNat 2) (σ 86 56 + 1)).symm)⟩

set_option maxHeartbeats 4000000 in
set_option maxRecDepth 20000 in
/-- OneRoofModel.tellsAs -/
theorem sf_260_86e2_2 {L : Nat} {xs : Nat → Int} {vb : Bool} {d : Nat} {σ α : Nat → Nat → Int} {κ : Nat → Option Nat} {ρ : Nat} {x2 : Int} (hI : qI σ α κ ρ) (r2 : (-2147483648) ≤ x2 ∧ x2 ≤ 2147483647) (p0 : 0 ≤ σ 86 56 ∧ σ 86 56 ≤ 17) (p1 : σ 86 57 = 2) : qm_T (qe L xs vb) (d + 6) 260 [.ref 86, .int (qz 2), .int (qz x2)] (qw σ α κ ρ) (fun r w' => ∃ σ' α', w' = qw σ' α' κ ρ ∧ qI σ' α' κ ρ ∧ qFr [(86, 56)] [120] σ α σ' α' ∧ σ' 86 56 = σ 86 56 + 7 ∧ ∃ v : Int, r = some (.int (qz v)) ∧ ((-2147483648) ≤ v ∧ v ≤ 2147483647) ∧ v = qac_s (qac_m (qac_a (qac_a (qac_a x2 1) (σ 86 58)) 3) 2) (qac_m (qac_x 1 (σ 86 58)) 3) ∧ α' 120 = qac_t [2, 10, 31, 20, 1, 30, 11] (α 120) (σ 86 56)) := by
  refine qr_start (d := d + 5) qv_e260 (Nat.le_of_ble_eq_true rfl) ?_
  show qr_W (qe L xs vb) (d + 5) qx_e260 _ (0, [(0, .ref 86), (1, .int (qz 2)), (2, .int (qz x2))], [], _, 0, 0)
  have hF0 := qFr_rf [(86, 56)] [120] σ α
  have hz86_56 : (-2147483648) ≤ σ 86 56 ∧ σ 86 56 ≤ 2147483647 := hI.1 86 56
  have hz86_57 : (-2147483648) ≤ σ 86 57 ∧ σ 86 57 ≤ 2147483647 := hI.1 86 57
  have hz86_58 : (-2147483648) ≤ σ 86 58 ∧ σ 86 58 ≤ 2147483647 := hI.1 86 58
  refine qr_iload_n 1 rfl rfl rfl ?_
  refine qr_iconst 2 rfl rfl ?_
  refine qr_icmp_eq 10 5 rfl rfl rfl (by decide) (by decide) (fun h => False.elim (by omega)) (fun h1 => ?_)
  refine qr_iload_n 6 rfl rfl rfl ?_
  refine qr_iconst 7 rfl rfl ?_
  refine qr_icmp_ne 25 10 rfl rfl rfl (by decide) (by decide) (fun h2 => ?_) (fun h => False.elim (by omega))
  refine qr_aload_n 26 rfl rfl rfl ?_
  refine qr_iconst 27 rfl rfl ?_
  have hs3 : (-2147483648) ≤ σ 86 56 ∧ σ 86 56 ≤ 2147483647 := hI.1 86 56
  refine qr_callN 30 rfl rfl rfl (sf_257_86e (d := d + 4) hI (by decide) (by omega)) ?_
  rintro _ _ ⟨σ6, α7, rfl, hI8, hG9, hw5, rfl, hx4⟩
  have hF10 : qFr [(86, 56)] [120] σ α σ6 α7 := qFr_t hF0 hG9 (by decide) (by decide)
  have hs11 : (-2147483648) ≤ σ6 86 56 ∧ σ6 86 56 ≤ 2147483647 := hI8.1 86 56
  show qr_W (qe L xs vb) (d + 5) qx_e260 _ (30, _, [], qw σ6 α7 κ ρ, 0, 0)
  refine qr_aload_n 31 rfl rfl rfl ?_
  refine qr_aload_n 32 rfl rfl rfl ?_
  refine qr_get 35 rfl rfl rfl (by decide) rfl ?_
  refine qy_v (σ 86 57) ((hG9.1 86 57 (by decide)).trans rfl) ?_
  refine qr_iload_n 36 rfl rfl rfl ?_
  have hr12 : σ6 86 56 = (σ6 86 56) := rfl
  have hc13 : (σ 86 57) = 2 := by omega
  rw [hc13]
  have hs14 : (-2147483648) ≤ σ6 86 56 ∧ σ6 86 56 ≤ 2147483647 := hI8.1 86 56
  have hs15 : (-2147483648) ≤ σ6 86 57 ∧ σ6 86 57 ≤ 2147483647 := hI8.1 86 57
  have hs16 : σ6 86 57 = (σ 86 57) := (hG9.1 86 57 (by decide)).trans rfl
  refine qr_callN 39 rfl rfl rfl (sf_259_86e2_2 (d := d + 0) hI8 r2 (by omega) (by omega)) ?_
  rintro _ _ ⟨σ21, α22, rfl, hI23, hG24, hw20, v17, rfl, hv17, hx18, hx19⟩
  have hF25 : qFr [(86, 56)] [120] σ α σ21 α22 := qFr_t hF10 hG24 (by decide) (by decide)
  have hs26 : (-2147483648) ≤ σ21 86 56 ∧ σ21 86 56 ≤ 2147483647 := hI23.1 86 56
  show qr_W (qe L xs vb) (d + 5) qx_e260 _ (39, _, [.int (qz v17)], qw σ21 α22 κ ρ, 0, 0)
  rw [hF10.1 86 58 (by decide)] at hx18
  refine qr_istore_n _ 40 rfl (by decide) rfl rfl ?_
  refine qr_iload_n 41 rfl rfl rfl ?_
  refine qr_aload_n 42 rfl rfl rfl ?_
  refine qr_aload_n 43 rfl rfl rfl ?_
  refine qr_get 46 rfl rfl rfl (by decide) rfl ?_
  refine qy_v (σ 86 57) ((hG24.1 86 57 (by decide)).trans ((hG9.1 86 57 (by decide)).trans rfl)) ?_
  refine qr_iconst 47 rfl rfl ?_
  have hr27 : σ21 86 56 = (σ21 86 56) := rfl
  have hc28 : (σ 86 57) = 2 := by omega
  rw [hc28]
  have hs29 : (-2147483648) ≤ σ21 86 56 ∧ σ21 86 56 ≤ 2147483647 := hI23.1 86 56
  have hs30 : (-2147483648) ≤ σ21 86 57 ∧ σ21 86 57 ≤ 2147483647 := hI23.1 86 57
  have hs31 : σ21 86 57 = (σ 86 57) := (hG24.1 86 57 (by decide)).trans ((hG9.1 86 57 (by decide)).trans rfl)
  refine qr_callN 50 rfl rfl rfl (sf_258_86e2_2 (d := d + 2) hI23 (by decide) (by omega) (by omega)) ?_
  rintro _ _ ⟨σ36, α37, rfl, hI38, hG39, hw35, v32, rfl, hv32, hx33, hx34⟩
  have hF40 : qFr [(86, 56)] [120] σ α σ36 α37 := qFr_t hF25 hG39 (by decide) (by decide)
  have hs41 : (-2147483648) ≤ σ36 86 56 ∧ σ36 86 56 ≤ 2147483647 := hI38.1 86 56
  show qr_W (qe L xs vb) (d + 5) qx_e260 _ (50, _, [.int (qz v32), .int (qz v17)], qw σ36 α37 κ ρ, 0, 0)
  rw [hF25.1 86 58 (by decide)] at hx33
  refine qr_isub 51 rfl rfl ?_
  refine qy_canE (fun v42 hv42 hev42 => ?_)
  refine qr_retI rfl rfl (by decide) (by decide) ?_
  exact ⟨_, _, rfl, hI38, hF40, (by have hw : σ36 86 56 = (σ36 86 56) := rfl; omega), v42, rfl, hv42, ((qac_v hev42 (by omega)).trans (by rw [hx18, hx33]; rfl)), (by rw [hx34, hx19, show α7 120 = qzu (α 120) (σ 86 56 : Int).toNat 2 from (hx4.trans (congrArg (fun f => qzu (f) (σ 86 56 : Int).toNat (2)) rfl)), show σ6 86 56 = σ 86 56 + 1 by omega, show σ21 86 56 = σ 86 56 + 1 + 4 by omega]; exact (qac_t_app [10, 31, 20, 1] [30, 11] (qzu (α 120) (σ 86 56 : Int).toNat 2) (σ 86 56 + 1)).symm)⟩

set_option maxHeartbeats 4000000 in
set_option maxRecDepth 20000 in
/-- OneRoofModel.tellsAs -/
theorem sf_260_86e3_3 {L : Nat} {xs : Nat → Int} {vb : Bool} {d : Nat} {σ α : Nat → Nat → Int} {κ : Nat → Option Nat} {ρ : Nat} {x2 : Int} (hI : qI σ α κ ρ) (r2 : (-2147483648) ≤ x2 ∧ x2 ≤ 2147483647) (p0 : 0 ≤ σ 86 56 ∧ σ 86 56 ≤ 19) (p1 : σ 86 57 = 3) : qm_T (qe L xs vb) (d + 5) 260 [.ref 86, .int (qz 3), .int (qz x2)] (qw σ α κ ρ) (fun r w' => ∃ σ' α', w' = qw σ' α' κ ρ ∧ qI σ' α' κ ρ ∧ qFr [(86, 56)] [120] σ α σ' α' ∧ σ' 86 56 = σ 86 56 + 5 ∧ ∃ v : Int, r = some (.int (qz v)) ∧ ((-2147483648) ≤ v ∧ v ≤ 2147483647) ∧ v = qac_s (qac_n (qac_m (qac_a x2 (σ 86 58)) 2)) (qac_x 1 (σ 86 58)) ∧ α' 120 = qac_t [2, 40, 10, 1, 11] (α 120) (σ 86 56)) := by
  refine qr_start (d := d + 4) qv_e260 (Nat.le_of_ble_eq_true rfl) ?_
  show qr_W (qe L xs vb) (d + 4) qx_e260 _ (0, [(0, .ref 86), (1, .int (qz 3)), (2, .int (qz x2))], [], _, 0, 0)
  have hF0 := qFr_rf [(86, 56)] [120] σ α
  have hz86_56 : (-2147483648) ≤ σ 86 56 ∧ σ 86 56 ≤ 2147483647 := hI.1 86 56
  have hz86_57 : (-2147483648) ≤ σ 86 57 ∧ σ 86 57 ≤ 2147483647 := hI.1 86 57
  have hz86_58 : (-2147483648) ≤ σ 86 58 ∧ σ 86 58 ≤ 2147483647 := hI.1 86 58
  refine qr_iload_n 1 rfl rfl rfl ?_
  refine qr_iconst 2 rfl rfl ?_
  refine qr_icmp_eq 10 5 rfl rfl rfl (by decide) (by decide) (fun h => False.elim (by omega)) (fun h1 => ?_)
  refine qr_iload_n 6 rfl rfl rfl ?_
  refine qr_iconst 7 rfl rfl ?_
  refine qr_icmp_ne 25 10 rfl rfl rfl (by decide) (by decide) (fun h2 => ?_) (fun h => False.elim (by omega))
  refine qr_aload_n 26 rfl rfl rfl ?_
  refine qr_iconst 27 rfl rfl ?_
  have hs3 : (-2147483648) ≤ σ 86 56 ∧ σ 86 56 ≤ 2147483647 := hI.1 86 56
  refine qr_callN 30 rfl rfl rfl (sf_257_86e (d := d + 3) hI (by decide) (by omega)) ?_
  rintro _ _ ⟨σ6, α7, rfl, hI8, hG9, hw5, rfl, hx4⟩
  have hF10 : qFr [(86, 56)] [120] σ α σ6 α7 := qFr_t hF0 hG9 (by decide) (by decide)
  have hs11 : (-2147483648) ≤ σ6 86 56 ∧ σ6 86 56 ≤ 2147483647 := hI8.1 86 56
  show qr_W (qe L xs vb) (d + 4) qx_e260 _ (30, _, [], qw σ6 α7 κ ρ, 0, 0)
  refine qr_aload_n 31 rfl rfl rfl ?_
  refine qr_aload_n 32 rfl rfl rfl ?_
  refine qr_get 35 rfl rfl rfl (by decide) rfl ?_
  refine qy_v (σ 86 57) ((hG9.1 86 57 (by decide)).trans rfl) ?_
  refine qr_iload_n 36 rfl rfl rfl ?_
  have hr12 : σ6 86 56 = (σ6 86 56) := rfl
  have hc13 : (σ 86 57) = 3 := by omega
  rw [hc13]
  have hs14 : (-2147483648) ≤ σ6 86 56 ∧ σ6 86 56 ≤ 2147483647 := hI8.1 86 56
  have hs15 : (-2147483648) ≤ σ6 86 57 ∧ σ6 86 57 ≤ 2147483647 := hI8.1 86 57
  have hs16 : σ6 86 57 = (σ 86 57) := (hG9.1 86 57 (by decide)).trans rfl
  refine qr_callN 39 rfl rfl rfl (sf_259_86e3_3 (d := d + 0) hI8 r2 (by omega) (by omega)) ?_
  rintro _ _ ⟨σ21, α22, rfl, hI23, hG24, hw20, v17, rfl, hv17, hx18, hx19⟩
  have hF25 : qFr [(86, 56)] [120] σ α σ21 α22 := qFr_t hF10 hG24 (by decide) (by decide)
  have hs26 : (-2147483648) ≤ σ21 86 56 ∧ σ21 86 56 ≤ 2147483647 := hI23.1 86 56
  show qr_W (qe L xs vb) (d + 4) qx_e260 _ (39, _, [.int (qz v17)], qw σ21 α22 κ ρ, 0, 0)
  rw [hF10.1 86 58 (by decide)] at hx18
  refine qr_istore_n _ 40 rfl (by decide) rfl rfl ?_
  refine qr_iload_n 41 rfl rfl rfl ?_
  refine qr_aload_n 42 rfl rfl rfl ?_
  refine qr_aload_n 43 rfl rfl rfl ?_
  refine qr_get 46 rfl rfl rfl (by decide) rfl ?_
  refine qy_v (σ 86 57) ((hG24.1 86 57 (by decide)).trans ((hG9.1 86 57 (by decide)).trans rfl)) ?_
  refine qr_iconst 47 rfl rfl ?_
  have hr27 : σ21 86 56 = (σ21 86 56) := rfl
  have hc28 : (σ 86 57) = 3 := by omega
  rw [hc28]
  have hs29 : (-2147483648) ≤ σ21 86 56 ∧ σ21 86 56 ≤ 2147483647 := hI23.1 86 56
  have hs30 : (-2147483648) ≤ σ21 86 57 ∧ σ21 86 57 ≤ 2147483647 := hI23.1 86 57
  have hs31 : σ21 86 57 = (σ 86 57) := (hG24.1 86 57 (by decide)).trans ((hG9.1 86 57 (by decide)).trans rfl)
  refine qr_callN 50 rfl rfl rfl (sf_258_86e3_3 (d := d + 2) hI23 (by decide) (by omega) (by omega)) ?_
  rintro _ _ ⟨σ36, α37, rfl, hI38, hG39, hw35, v32, rfl, hv32, hx33, hx34⟩
  have hF40 : qFr [(86, 56)] [120] σ α σ36 α37 := qFr_t hF25 hG39 (by decide) (by decide)
  have hs41 : (-2147483648) ≤ σ36 86 56 ∧ σ36 86 56 ≤ 2147483647 := hI38.1 86 56
  show qr_W (qe L xs vb) (d + 4) qx_e260 _ (50, _, [.int (qz v32), .int (qz v17)], qw σ36 α37 κ ρ, 0, 0)
  rw [hF25.1 86 58 (by decide)] at hx33
  refine qr_isub 51 rfl rfl ?_
  refine qy_canE (fun v42 hv42 hev42 => ?_)
  refine qr_retI rfl rfl (by decide) (by decide) ?_
  exact ⟨_, _, rfl, hI38, hF40, (by have hw : σ36 86 56 = (σ36 86 56) := rfl; omega), v42, rfl, hv42, ((qac_v hev42 (by omega)).trans (by rw [hx18, hx33]; rfl)), (by rw [hx34, hx19, show α7 120 = qzu (α 120) (σ 86 56 : Int).toNat 2 from (hx4.trans (congrArg (fun f => qzu (f) (σ 86 56 : Int).toNat (2)) rfl)), show σ6 86 56 = σ 86 56 + 1 by omega, show σ21 86 56 = σ 86 56 + 1 + 3 by omega]; exact (qac_t_app [40, 10, 1] [11] (qzu (α 120) (σ 86 56 : Int).toNat 2) (σ 86 56 + 1)).symm)⟩

set_option maxHeartbeats 4000000 in
set_option maxRecDepth 20000 in
/-- OneRoofModel.tellsAs -/
theorem sf_260_86e0_4 {L : Nat} {xs : Nat → Int} {vb : Bool} {d : Nat} {σ α : Nat → Nat → Int} {κ : Nat → Option Nat} {ρ : Nat} {x2 : Int} (hI : qI σ α κ ρ) (r2 : (-2147483648) ≤ x2 ∧ x2 ≤ 2147483647) (p0 : 0 ≤ σ 86 56 ∧ σ 86 56 ≤ 20) (p1 : σ 86 57 = 4) : qm_T (qe L xs vb) (d + 4) 260 [.ref 86, .int (qz 0), .int (qz x2)] (qw σ α κ ρ) (fun r w' => ∃ σ' α', w' = qw σ' α' κ ρ ∧ qI σ' α' κ ρ ∧ qFr [(86, 56)] [120] σ α σ' α' ∧ σ' 86 56 = σ 86 56 + 4 ∧ ∃ v : Int, r = some (.int (qz v)) ∧ ((-2147483648) ≤ v ∧ v ≤ 2147483647) ∧ v = qac_s (qac_m (qac_a x2 (σ 86 58)) 2) (qac_x 1 (σ 86 58)) ∧ α' 120 = qac_t [2, 10, 1, 11] (α 120) (σ 86 56)) := by
  refine qr_start (d := d + 3) qv_e260 (Nat.le_of_ble_eq_true rfl) ?_
  show qr_W (qe L xs vb) (d + 3) qx_e260 _ (0, [(0, .ref 86), (1, .int (qz 0)), (2, .int (qz x2))], [], _, 0, 0)
  have hF0 := qFr_rf [(86, 56)] [120] σ α
  have hz86_56 : (-2147483648) ≤ σ 86 56 ∧ σ 86 56 ≤ 2147483647 := hI.1 86 56
  have hz86_57 : (-2147483648) ≤ σ 86 57 ∧ σ 86 57 ≤ 2147483647 := hI.1 86 57
  have hz86_58 : (-2147483648) ≤ σ 86 58 ∧ σ 86 58 ≤ 2147483647 := hI.1 86 58
  refine qr_iload_n 1 rfl rfl rfl ?_
  refine qr_iconst 2 rfl rfl ?_
  refine qr_icmp_eq 10 5 rfl rfl rfl (by decide) (by decide) (fun h => False.elim (by omega)) (fun h1 => ?_)
  refine qr_iload_n 6 rfl rfl rfl ?_
  refine qr_iconst 7 rfl rfl ?_
  refine qr_icmp_ne 25 10 rfl rfl rfl (by decide) (by decide) (fun h2 => ?_) (fun h => False.elim (by omega))
  refine qr_aload_n 26 rfl rfl rfl ?_
  refine qr_iconst 27 rfl rfl ?_
  have hs3 : (-2147483648) ≤ σ 86 56 ∧ σ 86 56 ≤ 2147483647 := hI.1 86 56
  refine qr_callN 30 rfl rfl rfl (sf_257_86e (d := d + 2) hI (by decide) (by omega)) ?_
  rintro _ _ ⟨σ6, α7, rfl, hI8, hG9, hw5, rfl, hx4⟩
  have hF10 : qFr [(86, 56)] [120] σ α σ6 α7 := qFr_t hF0 hG9 (by decide) (by decide)
  have hs11 : (-2147483648) ≤ σ6 86 56 ∧ σ6 86 56 ≤ 2147483647 := hI8.1 86 56
  show qr_W (qe L xs vb) (d + 3) qx_e260 _ (30, _, [], qw σ6 α7 κ ρ, 0, 0)
  refine qr_aload_n 31 rfl rfl rfl ?_
  refine qr_aload_n 32 rfl rfl rfl ?_
  refine qr_get 35 rfl rfl rfl (by decide) rfl ?_
  refine qy_v (σ 86 57) ((hG9.1 86 57 (by decide)).trans rfl) ?_
  refine qr_iload_n 36 rfl rfl rfl ?_
  have hr12 : σ6 86 56 = (σ6 86 56) := rfl
  have hc13 : (σ 86 57) = 4 := by omega
  rw [hc13]
  have hs14 : (-2147483648) ≤ σ6 86 56 ∧ σ6 86 56 ≤ 2147483647 := hI8.1 86 56
  have hs15 : (-2147483648) ≤ σ6 86 57 ∧ σ6 86 57 ≤ 2147483647 := hI8.1 86 57
  have hs16 : σ6 86 57 = (σ 86 57) := (hG9.1 86 57 (by decide)).trans rfl
  refine qr_callN 39 rfl rfl rfl (sf_259_86e4_4 (d := d + 0) hI8 r2 (by omega) (by omega)) ?_
  rintro _ _ ⟨σ21, α22, rfl, hI23, hG24, hw20, v17, rfl, hv17, hx18, hx19⟩
  have hF25 : qFr [(86, 56)] [120] σ α σ21 α22 := qFr_t hF10 hG24 (by decide) (by decide)
  have hs26 : (-2147483648) ≤ σ21 86 56 ∧ σ21 86 56 ≤ 2147483647 := hI23.1 86 56
  show qr_W (qe L xs vb) (d + 3) qx_e260 _ (39, _, [.int (qz v17)], qw σ21 α22 κ ρ, 0, 0)
  rw [hF10.1 86 58 (by decide)] at hx18
  refine qr_istore_n _ 40 rfl (by decide) rfl rfl ?_
  refine qr_iload_n 41 rfl rfl rfl ?_
  refine qr_aload_n 42 rfl rfl rfl ?_
  refine qr_aload_n 43 rfl rfl rfl ?_
  refine qr_get 46 rfl rfl rfl (by decide) rfl ?_
  refine qy_v (σ 86 57) ((hG24.1 86 57 (by decide)).trans ((hG9.1 86 57 (by decide)).trans rfl)) ?_
  refine qr_iconst 47 rfl rfl ?_
  have hr27 : σ21 86 56 = (σ21 86 56) := rfl
  have hc28 : (σ 86 57) = 4 := by omega
  rw [hc28]
  have hs29 : (-2147483648) ≤ σ21 86 56 ∧ σ21 86 56 ≤ 2147483647 := hI23.1 86 56
  have hs30 : (-2147483648) ≤ σ21 86 57 ∧ σ21 86 57 ≤ 2147483647 := hI23.1 86 57
  have hs31 : σ21 86 57 = (σ 86 57) := (hG24.1 86 57 (by decide)).trans ((hG9.1 86 57 (by decide)).trans rfl)
  refine qr_callN 50 rfl rfl rfl (sf_258_86e4_4 (d := d + 1) hI23 (by decide) (by omega) (by omega)) ?_
  rintro _ _ ⟨σ36, α37, rfl, hI38, hG39, hw35, v32, rfl, hv32, hx33, hx34⟩
  have hF40 : qFr [(86, 56)] [120] σ α σ36 α37 := qFr_t hF25 hG39 (by decide) (by decide)
  have hs41 : (-2147483648) ≤ σ36 86 56 ∧ σ36 86 56 ≤ 2147483647 := hI38.1 86 56
  show qr_W (qe L xs vb) (d + 3) qx_e260 _ (50, _, [.int (qz v32), .int (qz v17)], qw σ36 α37 κ ρ, 0, 0)
  rw [hF25.1 86 58 (by decide)] at hx33
  refine qr_isub 51 rfl rfl ?_
  refine qy_canE (fun v42 hv42 hev42 => ?_)
  refine qr_retI rfl rfl (by decide) (by decide) ?_
  exact ⟨_, _, rfl, hI38, hF40, (by have hw : σ36 86 56 = (σ36 86 56) := rfl; omega), v42, rfl, hv42, ((qac_v hev42 (by omega)).trans (by rw [hx18, hx33]; rfl)), (by rw [hx34, hx19, show α7 120 = qzu (α 120) (σ 86 56 : Int).toNat 2 from (hx4.trans (congrArg (fun f => qzu (f) (σ 86 56 : Int).toNat (2)) rfl)), show σ6 86 56 = σ 86 56 + 1 by omega, show σ21 86 56 = σ 86 56 + 1 + 2 by omega]; exact (qac_t_app [10, 1] [11] (qzu (α 120) (σ 86 56 : Int).toNat 2) (σ 86 56 + 1)).symm)⟩

set_option maxHeartbeats 4000000 in
set_option maxRecDepth 20000 in
/-- OneRoofModel.tellsAs -/
theorem sf_260_86e4_4 {L : Nat} {xs : Nat → Int} {vb : Bool} {d : Nat} {σ α : Nat → Nat → Int} {κ : Nat → Option Nat} {ρ : Nat} {x2 : Int} (hI : qI σ α κ ρ) (r2 : (-2147483648) ≤ x2 ∧ x2 ≤ 2147483647) (p0 : 0 ≤ σ 86 56 ∧ σ 86 56 ≤ 19) (p1 : σ 86 57 = 4) : qm_T (qe L xs vb) (d + 5) 260 [.ref 86, .int (qz 4), .int (qz x2)] (qw σ α κ ρ) (fun r w' => ∃ σ' α', w' = qw σ' α' κ ρ ∧ qI σ' α' κ ρ ∧ qFr [(86, 56)] [120] σ α σ' α' ∧ σ' 86 56 = σ 86 56 + 5 ∧ ∃ v : Int, r = some (.int (qz v)) ∧ ((-2147483648) ≤ v ∧ v ≤ 2147483647) ∧ v = qac_x (qac_s (qac_m (qac_a x2 (σ 86 58)) 2) (qac_x 1 (σ 86 58))) 5 ∧ α' 120 = qac_t [50, 2, 10, 1, 11] (α 120) (σ 86 56)) := by
  refine qr_start (d := d + 4) qv_e260 (Nat.le_of_ble_eq_true rfl) ?_
  show qr_W (qe L xs vb) (d + 4) qx_e260 _ (0, [(0, .ref 86), (1, .int (qz 4)), (2, .int (qz x2))], [], _, 0, 0)
  have hF0 := qFr_rf [(86, 56)] [120] σ α
  have hz86_56 : (-2147483648) ≤ σ 86 56 ∧ σ 86 56 ≤ 2147483647 := hI.1 86 56
  have hz86_57 : (-2147483648) ≤ σ 86 57 ∧ σ 86 57 ≤ 2147483647 := hI.1 86 57
  have hz86_58 : (-2147483648) ≤ σ 86 58 ∧ σ 86 58 ≤ 2147483647 := hI.1 86 58
  refine qr_iload_n 1 rfl rfl rfl ?_
  refine qr_iconst 2 rfl rfl ?_
  refine qr_icmp_eq 10 5 rfl rfl rfl (by decide) (by decide) (fun h1 => ?_) (fun h => False.elim (by omega))
  refine qr_aload_n 11 rfl rfl rfl ?_
  refine qr_bipush 13 rfl (by decide) rfl ?_
  have hs2 : (-2147483648) ≤ σ 86 56 ∧ σ 86 56 ≤ 2147483647 := hI.1 86 56
  refine qr_callN 16 rfl rfl rfl (sf_257_86e (d := d + 3) hI (by decide) (by omega)) ?_
  rintro _ _ ⟨σ5, α6, rfl, hI7, hG8, hw4, rfl, hx3⟩
  have hF9 : qFr [(86, 56)] [120] σ α σ5 α6 := qFr_t hF0 hG8 (by decide) (by decide)
  have hs10 : (-2147483648) ≤ σ5 86 56 ∧ σ5 86 56 ≤ 2147483647 := hI7.1 86 56
  show qr_W (qe L xs vb) (d + 4) qx_e260 _ (16, _, [], qw σ5 α6 κ ρ, 0, 0)
  refine qr_aload_n 17 rfl rfl rfl ?_
  refine qr_iconst 18 rfl rfl ?_
  refine qr_iload_n 19 rfl rfl rfl ?_
  have hr11 : σ5 86 56 = (σ5 86 56) := rfl
  have hs12 : (-2147483648) ≤ σ5 86 56 ∧ σ5 86 56 ≤ 2147483647 := hI7.1 86 56
  have hs13 : (-2147483648) ≤ σ5 86 57 ∧ σ5 86 57 ≤ 2147483647 := hI7.1 86 57
  have hs14 : σ5 86 57 = (σ 86 57) := (hG8.1 86 57 (by decide)).trans rfl
  refine qr_callN 22 rfl rfl rfl (sf_260_86e0_4 (d := d + 0) hI7 r2 (by omega) (by omega)) ?_
  rintro _ _ ⟨σ19, α20, rfl, hI21, hG22, hw18, v15, rfl, hv15, hx16, hx17⟩
  have hF23 : qFr [(86, 56)] [120] σ α σ19 α20 := qFr_t hF9 hG22 (by decide) (by decide)
  have hs24 : (-2147483648) ≤ σ19 86 56 ∧ σ19 86 56 ≤ 2147483647 := hI21.1 86 56
  show qr_W (qe L xs vb) (d + 4) qx_e260 _ (22, _, [.int (qz v15)], qw σ19 α20 κ ρ, 0, 0)
  rw [hF9.1 86 58 (by decide)] at hx16
  refine qr_iconst 23 rfl rfl ?_
  refine qr_ixor 24 rfl rfl ?_
  refine qy_canE (fun v25 hv25 hev25 => ?_)
  refine qr_retI rfl rfl (by decide) (by decide) ?_
  exact ⟨_, _, rfl, hI21, hF23, (by have hw : σ19 86 56 = (σ19 86 56) := rfl; omega), v25, rfl, hv25, ((qac_v hev25 (by omega)).trans (by rw [hx16]; rfl)), (by rw [hx17, show α6 120 = qzu (α 120) (σ 86 56 : Int).toNat 50 from (hx3.trans (congrArg (fun f => qzu (f) (σ 86 56 : Int).toNat (50)) rfl)), show σ5 86 56 = σ 86 56 + 1 by omega]; rfl)⟩

set_option maxHeartbeats 4000000 in
set_option maxRecDepth 20000 in
/-- OneRoofModel.tellsAs -/
theorem sf_260_86e0_5 {L : Nat} {xs : Nat → Int} {vb : Bool} {d : Nat} {σ α : Nat → Nat → Int} {κ : Nat → Option Nat} {ρ : Nat} {x2 : Int} (hI : qI σ α κ ρ) (r2 : (-2147483648) ≤ x2 ∧ x2 ≤ 2147483647) (p0 : 0 ≤ σ 86 56 ∧ σ 86 56 ≤ 18) (p1 : σ 86 57 = 5) : qm_T (qe L xs vb) (d + 5) 260 [.ref 86, .int (qz 0), .int (qz x2)] (qw σ α κ ρ) (fun r w' => ∃ σ' α', w' = qw σ' α' κ ρ ∧ qI σ' α' κ ρ ∧ qFr [(86, 56)] [120] σ α σ' α' ∧ σ' 86 56 = σ 86 56 + 6 ∧ ∃ v : Int, r = some (.int (qz v)) ∧ ((-2147483648) ≤ v ∧ v ≤ 2147483647) ∧ v = qac_s (qac_m (qac_s (qac_a x2 (σ 86 58)) (qac_x 2 (σ 86 58))) 2) (qac_x 1 (σ 86 58)) ∧ α' 120 = qac_t [2, 10, 60, 1, 11, 11] (α 120) (σ 86 56)) := by
  refine qr_start (d := d + 4) qv_e260 (Nat.le_of_ble_eq_true rfl) ?_
  show qr_W (qe L xs vb) (d + 4) qx_e260 _ (0, [(0, .ref 86), (1, .int (qz 0)), (2, .int (qz x2))], [], _, 0, 0)
  have hF0 := qFr_rf [(86, 56)] [120] σ α
  have hz86_56 : (-2147483648) ≤ σ 86 56 ∧ σ 86 56 ≤ 2147483647 := hI.1 86 56
  have hz86_57 : (-2147483648) ≤ σ 86 57 ∧ σ 86 57 ≤ 2147483647 := hI.1 86 57
  have hz86_58 : (-2147483648) ≤ σ 86 58 ∧ σ 86 58 ≤ 2147483647 := hI.1 86 58
  refine qr_iload_n 1 rfl rfl rfl ?_
  refine qr_iconst 2 rfl rfl ?_
  refine qr_icmp_eq 10 5 rfl rfl rfl (by decide) (by decide) (fun h => False.elim (by omega)) (fun h1 => ?_)
  refine qr_iload_n 6 rfl rfl rfl ?_
  refine qr_iconst 7 rfl rfl ?_
  refine qr_icmp_ne 25 10 rfl rfl rfl (by decide) (by decide) (fun h2 => ?_) (fun h => False.elim (by omega))
  refine qr_aload_n 26 rfl rfl rfl ?_
  refine qr_iconst 27 rfl rfl ?_
  have hs3 : (-2147483648) ≤ σ 86 56 ∧ σ 86 56 ≤ 2147483647 := hI.1 86 56
  refine qr_callN 30 rfl rfl rfl (sf_257_86e (d := d + 3) hI (by decide) (by omega)) ?_
  rintro _ _ ⟨σ6, α7, rfl, hI8, hG9, hw5, rfl, hx4⟩
  have hF10 : qFr [(86, 56)] [120] σ α σ6 α7 := qFr_t hF0 hG9 (by decide) (by decide)
  have hs11 : (-2147483648) ≤ σ6 86 56 ∧ σ6 86 56 ≤ 2147483647 := hI8.1 86 56
  show qr_W (qe L xs vb) (d + 4) qx_e260 _ (30, _, [], qw σ6 α7 κ ρ, 0, 0)
  refine qr_aload_n 31 rfl rfl rfl ?_
  refine qr_aload_n 32 rfl rfl rfl ?_
  refine qr_get 35 rfl rfl rfl (by decide) rfl ?_
  refine qy_v (σ 86 57) ((hG9.1 86 57 (by decide)).trans rfl) ?_
  refine qr_iload_n 36 rfl rfl rfl ?_
  have hr12 : σ6 86 56 = (σ6 86 56) := rfl
  have hc13 : (σ 86 57) = 5 := by omega
  rw [hc13]
  have hs14 : (-2147483648) ≤ σ6 86 56 ∧ σ6 86 56 ≤ 2147483647 := hI8.1 86 56
  have hs15 : (-2147483648) ≤ σ6 86 57 ∧ σ6 86 57 ≤ 2147483647 := hI8.1 86 57
  have hs16 : σ6 86 57 = (σ 86 57) := (hG9.1 86 57 (by decide)).trans rfl
  refine qr_callN 39 rfl rfl rfl (sf_259_86e5_5 (d := d + 0) hI8 r2 (by omega) (by omega)) ?_
  rintro _ _ ⟨σ21, α22, rfl, hI23, hG24, hw20, v17, rfl, hv17, hx18, hx19⟩
  have hF25 : qFr [(86, 56)] [120] σ α σ21 α22 := qFr_t hF10 hG24 (by decide) (by decide)
  have hs26 : (-2147483648) ≤ σ21 86 56 ∧ σ21 86 56 ≤ 2147483647 := hI23.1 86 56
  show qr_W (qe L xs vb) (d + 4) qx_e260 _ (39, _, [.int (qz v17)], qw σ21 α22 κ ρ, 0, 0)
  rw [hF10.1 86 58 (by decide)] at hx18
  refine qr_istore_n _ 40 rfl (by decide) rfl rfl ?_
  refine qr_iload_n 41 rfl rfl rfl ?_
  refine qr_aload_n 42 rfl rfl rfl ?_
  refine qr_aload_n 43 rfl rfl rfl ?_
  refine qr_get 46 rfl rfl rfl (by decide) rfl ?_
  refine qy_v (σ 86 57) ((hG24.1 86 57 (by decide)).trans ((hG9.1 86 57 (by decide)).trans rfl)) ?_
  refine qr_iconst 47 rfl rfl ?_
  have hr27 : σ21 86 56 = (σ21 86 56) := rfl
  have hc28 : (σ 86 57) = 5 := by omega
  rw [hc28]
  have hs29 : (-2147483648) ≤ σ21 86 56 ∧ σ21 86 56 ≤ 2147483647 := hI23.1 86 56
  have hs30 : (-2147483648) ≤ σ21 86 57 ∧ σ21 86 57 ≤ 2147483647 := hI23.1 86 57
  have hs31 : σ21 86 57 = (σ 86 57) := (hG24.1 86 57 (by decide)).trans ((hG9.1 86 57 (by decide)).trans rfl)
  refine qr_callN 50 rfl rfl rfl (sf_258_86e5_5 (d := d + 2) hI23 (by decide) (by omega) (by omega)) ?_
  rintro _ _ ⟨σ36, α37, rfl, hI38, hG39, hw35, v32, rfl, hv32, hx33, hx34⟩
  have hF40 : qFr [(86, 56)] [120] σ α σ36 α37 := qFr_t hF25 hG39 (by decide) (by decide)
  have hs41 : (-2147483648) ≤ σ36 86 56 ∧ σ36 86 56 ≤ 2147483647 := hI38.1 86 56
  show qr_W (qe L xs vb) (d + 4) qx_e260 _ (50, _, [.int (qz v32), .int (qz v17)], qw σ36 α37 κ ρ, 0, 0)
  rw [hF25.1 86 58 (by decide)] at hx33
  refine qr_isub 51 rfl rfl ?_
  refine qy_canE (fun v42 hv42 hev42 => ?_)
  refine qr_retI rfl rfl (by decide) (by decide) ?_
  exact ⟨_, _, rfl, hI38, hF40, (by have hw : σ36 86 56 = (σ36 86 56) := rfl; omega), v42, rfl, hv42, ((qac_v hev42 (by omega)).trans (by rw [hx18, hx33]; rfl)), (by rw [hx34, hx19, show α7 120 = qzu (α 120) (σ 86 56 : Int).toNat 2 from (hx4.trans (congrArg (fun f => qzu (f) (σ 86 56 : Int).toNat (2)) rfl)), show σ6 86 56 = σ 86 56 + 1 by omega, show σ21 86 56 = σ 86 56 + 1 + 4 by omega]; exact (qac_t_app [10, 60, 1, 11] [11] (qzu (α 120) (σ 86 56 : Int).toNat 2) (σ 86 56 + 1)).symm)⟩

set_option maxHeartbeats 4000000 in
set_option maxRecDepth 20000 in
/-- OneRoofModel.tellsAs -/
theorem sf_260_86e5_5 {L : Nat} {xs : Nat → Int} {vb : Bool} {d : Nat} {σ α : Nat → Nat → Int} {κ : Nat → Option Nat} {ρ : Nat} {x2 : Int} (hI : qI σ α κ ρ) (r2 : (-2147483648) ≤ x2 ∧ x2 ≤ 2147483647) (p0 : 0 ≤ σ 86 56 ∧ σ 86 56 ≤ 17) (p1 : σ 86 57 = 5) : qm_T (qe L xs vb) (d + 6) 260 [.ref 86, .int (qz 5), .int (qz x2)] (qw σ α κ ρ) (fun r w' => ∃ σ' α', w' = qw σ' α' κ ρ ∧ qI σ' α' κ ρ ∧ qFr [(86, 56)] [120] σ α σ' α' ∧ σ' 86 56 = σ 86 56 + 7 ∧ ∃ v : Int, r = some (.int (qz v)) ∧ ((-2147483648) ≤ v ∧ v ≤ 2147483647) ∧ v = qac_x (qac_s (qac_m (qac_s (qac_a x2 (σ 86 58)) (qac_x 2 (σ 86 58))) 2) (qac_x 1 (σ 86 58))) 5 ∧ α' 120 = qac_t [50, 2, 10, 60, 1, 11, 11] (α 120) (σ 86 56)) := by
  refine qr_start (d := d + 5) qv_e260 (Nat.le_of_ble_eq_true rfl) ?_
  show qr_W (qe L xs vb) (d + 5) qx_e260 _ (0, [(0, .ref 86), (1, .int (qz 5)), (2, .int (qz x2))], [], _, 0, 0)
  have hF0 := qFr_rf [(86, 56)] [120] σ α
  have hz86_56 : (-2147483648) ≤ σ 86 56 ∧ σ 86 56 ≤ 2147483647 := hI.1 86 56
  have hz86_57 : (-2147483648) ≤ σ 86 57 ∧ σ 86 57 ≤ 2147483647 := hI.1 86 57
  have hz86_58 : (-2147483648) ≤ σ 86 58 ∧ σ 86 58 ≤ 2147483647 := hI.1 86 58
  refine qr_iload_n 1 rfl rfl rfl ?_
  refine qr_iconst 2 rfl rfl ?_
  refine qr_icmp_eq 10 5 rfl rfl rfl (by decide) (by decide) (fun h => False.elim (by omega)) (fun h1 => ?_)
  refine qr_iload_n 6 rfl rfl rfl ?_
  refine qr_iconst 7 rfl rfl ?_
  refine qr_icmp_ne 25 10 rfl rfl rfl (by decide) (by decide) (fun h => False.elim (by omega)) (fun h2 => ?_)
  refine qr_aload_n 11 rfl rfl rfl ?_
  refine qr_bipush 13 rfl (by decide) rfl ?_
  have hs3 : (-2147483648) ≤ σ 86 56 ∧ σ 86 56 ≤ 2147483647 := hI.1 86 56
  refine qr_callN 16 rfl rfl rfl (sf_257_86e (d := d + 4) hI (by decide) (by omega)) ?_
  rintro _ _ ⟨σ6, α7, rfl, hI8, hG9, hw5, rfl, hx4⟩
  have hF10 : qFr [(86, 56)] [120] σ α σ6 α7 := qFr_t hF0 hG9 (by decide) (by decide)
  have hs11 : (-2147483648) ≤ σ6 86 56 ∧ σ6 86 56 ≤ 2147483647 := hI8.1 86 56
  show qr_W (qe L xs vb) (d + 5) qx_e260 _ (16, _, [], qw σ6 α7 κ ρ, 0, 0)
  refine qr_aload_n 17 rfl rfl rfl ?_
  refine qr_iconst 18 rfl rfl ?_
  refine qr_iload_n 19 rfl rfl rfl ?_
  have hr12 : σ6 86 56 = (σ6 86 56) := rfl
  have hs13 : (-2147483648) ≤ σ6 86 56 ∧ σ6 86 56 ≤ 2147483647 := hI8.1 86 56
  have hs14 : (-2147483648) ≤ σ6 86 57 ∧ σ6 86 57 ≤ 2147483647 := hI8.1 86 57
  have hs15 : σ6 86 57 = (σ 86 57) := (hG9.1 86 57 (by decide)).trans rfl
  refine qr_callN 22 rfl rfl rfl (sf_260_86e0_5 (d := d + 0) hI8 r2 (by omega) (by omega)) ?_
  rintro _ _ ⟨σ20, α21, rfl, hI22, hG23, hw19, v16, rfl, hv16, hx17, hx18⟩
  have hF24 : qFr [(86, 56)] [120] σ α σ20 α21 := qFr_t hF10 hG23 (by decide) (by decide)
  have hs25 : (-2147483648) ≤ σ20 86 56 ∧ σ20 86 56 ≤ 2147483647 := hI22.1 86 56
  show qr_W (qe L xs vb) (d + 5) qx_e260 _ (22, _, [.int (qz v16)], qw σ20 α21 κ ρ, 0, 0)
  rw [hF10.1 86 58 (by decide)] at hx17
  refine qr_iconst 23 rfl rfl ?_
  refine qr_ixor 24 rfl rfl ?_
  refine qy_canE (fun v26 hv26 hev26 => ?_)
  refine qr_retI rfl rfl (by decide) (by decide) ?_
  exact ⟨_, _, rfl, hI22, hF24, (by have hw : σ20 86 56 = (σ20 86 56) := rfl; omega), v26, rfl, hv26, ((qac_v hev26 (by omega)).trans (by rw [hx17]; rfl)), (by rw [hx18, show α7 120 = qzu (α 120) (σ 86 56 : Int).toNat 50 from (hx4.trans (congrArg (fun f => qzu (f) (σ 86 56 : Int).toNat (50)) rfl)), show σ6 86 56 = σ 86 56 + 1 by omega]; rfl)⟩

set_option maxHeartbeats 4000000 in
set_option maxRecDepth 20000 in
/-- OneRoofModel.tellsAs -/
theorem sf_260_86e6_6 {L : Nat} {xs : Nat → Int} {vb : Bool} {d : Nat} {σ α : Nat → Nat → Int} {κ : Nat → Option Nat} {ρ : Nat} {x2 : Int} (hI : qI σ α κ ρ) (r2 : (-2147483648) ≤ x2 ∧ x2 ≤ 2147483647) (p0 : 0 ≤ σ 86 56 ∧ σ 86 56 ≤ 17) (p1 : σ 86 57 = 6) : qm_T (qe L xs vb) (d + 5) 260 [.ref 86, .int (qz 6), .int (qz x2)] (qw σ α κ ρ) (fun r w' => ∃ σ' α', w' = qw σ' α' κ ρ ∧ qI σ' α' κ ρ ∧ qFr [(86, 56)] [120] σ α σ' α' ∧ σ' 86 56 = σ 86 56 + 7 ∧ ∃ v : Int, r = some (.int (qz v)) ∧ ((-2147483648) ≤ v ∧ v ≤ 2147483647) ∧ v = qac_s (qac_m (qac_m (qac_a x2 (σ 86 58)) 2) 2) (qac_a (qac_x 1 (σ 86 58)) (qac_a 1 (σ 86 58))) ∧ α' 120 = qac_t [2, 71, 10, 1, 70, 11, 1] (α 120) (σ 86 56)) := by
  refine qr_start (d := d + 4) qv_e260 (Nat.le_of_ble_eq_true rfl) ?_
  show qr_W (qe L xs vb) (d + 4) qx_e260 _ (0, [(0, .ref 86), (1, .int (qz 6)), (2, .int (qz x2))], [], _, 0, 0)
  have hF0 := qFr_rf [(86, 56)] [120] σ α
  have hz86_56 : (-2147483648) ≤ σ 86 56 ∧ σ 86 56 ≤ 2147483647 := hI.1 86 56
  have hz86_57 : (-2147483648) ≤ σ 86 57 ∧ σ 86 57 ≤ 2147483647 := hI.1 86 57
  have hz86_58 : (-2147483648) ≤ σ 86 58 ∧ σ 86 58 ≤ 2147483647 := hI.1 86 58
  refine qr_iload_n 1 rfl rfl rfl ?_
  refine qr_iconst 2 rfl rfl ?_
  refine qr_icmp_eq 10 5 rfl rfl rfl (by decide) (by decide) (fun h => False.elim (by omega)) (fun h1 => ?_)
  refine qr_iload_n 6 rfl rfl rfl ?_
  refine qr_iconst 7 rfl rfl ?_
  refine qr_icmp_ne 25 10 rfl rfl rfl (by decide) (by decide) (fun h2 => ?_) (fun h => False.elim (by omega))
  refine qr_aload_n 26 rfl rfl rfl ?_
  refine qr_iconst 27 rfl rfl ?_
  have hs3 : (-2147483648) ≤ σ 86 56 ∧ σ 86 56 ≤ 2147483647 := hI.1 86 56
  refine qr_callN 30 rfl rfl rfl (sf_257_86e (d := d + 3) hI (by decide) (by omega)) ?_
  rintro _ _ ⟨σ6, α7, rfl, hI8, hG9, hw5, rfl, hx4⟩
  have hF10 : qFr [(86, 56)] [120] σ α σ6 α7 := qFr_t hF0 hG9 (by decide) (by decide)
  have hs11 : (-2147483648) ≤ σ6 86 56 ∧ σ6 86 56 ≤ 2147483647 := hI8.1 86 56
  show qr_W (qe L xs vb) (d + 4) qx_e260 _ (30, _, [], qw σ6 α7 κ ρ, 0, 0)
  refine qr_aload_n 31 rfl rfl rfl ?_
  refine qr_aload_n 32 rfl rfl rfl ?_
  refine qr_get 35 rfl rfl rfl (by decide) rfl ?_
  refine qy_v (σ 86 57) ((hG9.1 86 57 (by decide)).trans rfl) ?_
  refine qr_iload_n 36 rfl rfl rfl ?_
  have hr12 : σ6 86 56 = (σ6 86 56) := rfl
  have hc13 : (σ 86 57) = 6 := by omega
  rw [hc13]
  have hs14 : (-2147483648) ≤ σ6 86 56 ∧ σ6 86 56 ≤ 2147483647 := hI8.1 86 56
  have hs15 : (-2147483648) ≤ σ6 86 57 ∧ σ6 86 57 ≤ 2147483647 := hI8.1 86 57
  have hs16 : σ6 86 57 = (σ 86 57) := (hG9.1 86 57 (by decide)).trans rfl
  refine qr_callN 39 rfl rfl rfl (sf_259_86e6_6 (d := d + 0) hI8 r2 (by omega) (by omega)) ?_
  rintro _ _ ⟨σ21, α22, rfl, hI23, hG24, hw20, v17, rfl, hv17, hx18, hx19⟩
  have hF25 : qFr [(86, 56)] [120] σ α σ21 α22 := qFr_t hF10 hG24 (by decide) (by decide)
  have hs26 : (-2147483648) ≤ σ21 86 56 ∧ σ21 86 56 ≤ 2147483647 := hI23.1 86 56
  show qr_W (qe L xs vb) (d + 4) qx_e260 _ (39, _, [.int (qz v17)], qw σ21 α22 κ ρ, 0, 0)
  rw [hF10.1 86 58 (by decide)] at hx18
  refine qr_istore_n _ 40 rfl (by decide) rfl rfl ?_
  refine qr_iload_n 41 rfl rfl rfl ?_
  refine qr_aload_n 42 rfl rfl rfl ?_
  refine qr_aload_n 43 rfl rfl rfl ?_
  refine qr_get 46 rfl rfl rfl (by decide) rfl ?_
  refine qy_v (σ 86 57) ((hG24.1 86 57 (by decide)).trans ((hG9.1 86 57 (by decide)).trans rfl)) ?_
  refine qr_iconst 47 rfl rfl ?_
  have hr27 : σ21 86 56 = (σ21 86 56) := rfl
  have hc28 : (σ 86 57) = 6 := by omega
  rw [hc28]
  have hs29 : (-2147483648) ≤ σ21 86 56 ∧ σ21 86 56 ≤ 2147483647 := hI23.1 86 56
  have hs30 : (-2147483648) ≤ σ21 86 57 ∧ σ21 86 57 ≤ 2147483647 := hI23.1 86 57
  have hs31 : σ21 86 57 = (σ 86 57) := (hG24.1 86 57 (by decide)).trans ((hG9.1 86 57 (by decide)).trans rfl)
  refine qr_callN 50 rfl rfl rfl (sf_258_86e6_6 (d := d + 1) hI23 (by decide) (by omega) (by omega)) ?_
  rintro _ _ ⟨σ36, α37, rfl, hI38, hG39, hw35, v32, rfl, hv32, hx33, hx34⟩
  have hF40 : qFr [(86, 56)] [120] σ α σ36 α37 := qFr_t hF25 hG39 (by decide) (by decide)
  have hs41 : (-2147483648) ≤ σ36 86 56 ∧ σ36 86 56 ≤ 2147483647 := hI38.1 86 56
  show qr_W (qe L xs vb) (d + 4) qx_e260 _ (50, _, [.int (qz v32), .int (qz v17)], qw σ36 α37 κ ρ, 0, 0)
  rw [hF25.1 86 58 (by decide)] at hx33
  refine qr_isub 51 rfl rfl ?_
  refine qy_canE (fun v42 hv42 hev42 => ?_)
  refine qr_retI rfl rfl (by decide) (by decide) ?_
  exact ⟨_, _, rfl, hI38, hF40, (by have hw : σ36 86 56 = (σ36 86 56) := rfl; omega), v42, rfl, hv42, ((qac_v hev42 (by omega)).trans (by rw [hx18, hx33]; rfl)), (by rw [hx34, hx19, show α7 120 = qzu (α 120) (σ 86 56 : Int).toNat 2 from (hx4.trans (congrArg (fun f => qzu (f) (σ 86 56 : Int).toNat (2)) rfl)), show σ6 86 56 = σ 86 56 + 1 by omega, show σ21 86 56 = σ 86 56 + 1 + 3 by omega]; exact (qac_t_app [71, 10, 1] [70, 11, 1] (qzu (α 120) (σ 86 56 : Int).toNat 2) (σ 86 56 + 1)).symm)⟩

set_option maxHeartbeats 4000000 in
set_option maxRecDepth 20000 in
/-- OneRoofModel.tellsAs -/
theorem sf_260_86ex {L : Nat} {xs : Nat → Int} {vb : Bool} {d : Nat} {σ α : Nat → Nat → Int} {κ : Nat → Option Nat} {ρ : Nat} {x1 : Int} {x2 : Int} (hI : qI σ α κ ρ) (r1 : (-2147483648) ≤ x1 ∧ x1 ≤ 2147483647) (r2 : (-2147483648) ≤ x2 ∧ x2 ≤ 2147483647) (p0 : 0 ≤ x1 ∧ x1 ≤ 6) (p1 : x1 = σ 86 57) (p2 : 0 ≤ σ 86 56 ∧ σ 86 56 ≤ 16) : qm_T (qe L xs vb) (d + 6) 260 [.ref 86, .int (qz x1), .int (qz x2)] (qw σ α κ ρ) (fun r w' => ∃ σ' α', w' = qw σ' α' κ ρ ∧ qI σ' α' κ ρ ∧ qFr [(86, 56)] [120] σ α σ' α' ∧ ∃ v : Int, r = some (.int (qz v)) ∧ ((-2147483648) ≤ v ∧ v ≤ 2147483647) ∧ v = qAE x1 3 x2 (σ 86 58) ∧ σ' 86 56 = σ 86 56 + ((qAT x1 3).length : Int) ∧ α' 120 = qac_t (qAT x1 3) (α 120) (σ 86 56)) := by
  have h1 : x1 = 0 ∨ x1 = 1 ∨ x1 = 2 ∨ x1 = 3 ∨ x1 = 4 ∨ x1 = 5 ∨ x1 = 6 := by omega
  rcases h1 with rfl | rfl | rfl | rfl | rfl | rfl | rfl
  · refine qr_mono (sf_260_86e0_0 (d := d + 2) hI (by omega) (by omega) p1.symm) ?_
    rintro r w' ⟨σ2, α2, h2, h3, h4, hw, v, h5, h6, h7, h8⟩
    exact ⟨σ2, α2, h2, h3, h4, v, h5, h6, h7, hw, h8⟩
  · refine qr_mono (sf_260_86e1_1 (d := d + 1) hI (by omega) (by omega) p1.symm) ?_
    rintro r w' ⟨σ2, α2, h2, h3, h4, hw, v, h5, h6, h7, h8⟩
    exact ⟨σ2, α2, h2, h3, h4, v, h5, h6, h7, hw, h8⟩
  · refine qr_mono (sf_260_86e2_2 (d := d + 0) hI (by omega) (by omega) p1.symm) ?_
    rintro r w' ⟨σ2, α2, h2, h3, h4, hw, v, h5, h6, h7, h8⟩
    exact ⟨σ2, α2, h2, h3, h4, v, h5, h6, h7, hw, h8⟩
  · refine qr_mono (sf_260_86e3_3 (d := d + 1) hI (by omega) (by omega) p1.symm) ?_
    rintro r w' ⟨σ2, α2, h2, h3, h4, hw, v, h5, h6, h7, h8⟩
    exact ⟨σ2, α2, h2, h3, h4, v, h5, h6, h7, hw, h8⟩
  · refine qr_mono (sf_260_86e4_4 (d := d + 1) hI (by omega) (by omega) p1.symm) ?_
    rintro r w' ⟨σ2, α2, h2, h3, h4, hw, v, h5, h6, h7, h8⟩
    exact ⟨σ2, α2, h2, h3, h4, v, h5, h6, h7, hw, h8⟩
  · refine qr_mono (sf_260_86e5_5 (d := d + 0) hI (by omega) (by omega) p1.symm) ?_
    rintro r w' ⟨σ2, α2, h2, h3, h4, hw, v, h5, h6, h7, h8⟩
    exact ⟨σ2, α2, h2, h3, h4, v, h5, h6, h7, hw, h8⟩
  · refine qr_mono (sf_260_86e6_6 (d := d + 1) hI (by omega) (by omega) p1.symm) ?_
    rintro r w' ⟨σ2, α2, h2, h3, h4, hw, v, h5, h6, h7, h8⟩
    exact ⟨σ2, α2, h2, h3, h4, v, h5, h6, h7, hw, h8⟩

set_option maxHeartbeats 4000000 in
set_option maxRecDepth 20000 in
/-- OneRoofModel.act -/
theorem sf_255_86x {L : Nat} {xs : Nat → Int} {vb : Bool} {d : Nat} {σ α : Nat → Nat → Int} {κ : Nat → Option Nat} {ρ : Nat} {x1 : Int} {x2 : Int} {x3 : Int} (hI : qI σ α κ ρ) (r1 : (-2147483648) ≤ x1 ∧ x1 ≤ 2147483647) (r2 : (-2147483648) ≤ x2 ∧ x2 ≤ 2147483647) (r3 : (-2147483648) ≤ x3 ∧ x3 ≤ 2147483647) (p0 : ∀ k : Nat, (k : Int) < σ 86 24 → 0 ≤ qsh (α 87) 192 k ∧ qsh (α 87) 192 k ≤ 6) : qm_T (qe L xs vb) (d + 7) 255 [.ref 86, .int (qz x1), .int (qz x2), .int (qz x3)] (qw σ α κ ρ) (fun r w' => ∃ σ' α', w' = qw σ' α' κ ρ ∧ qI σ' α' κ ρ ∧ qFr [(86, 56), (86, 57), (86, 58)] [120] σ α σ' α' ∧ ∃ v : Int, r = some (.int (qz v)) ∧ ((-2147483648) ≤ v ∧ v ≤ 2147483647) ∧ ((v = 0 ∧ ¬ (0 ≤ x1 ∧ x1 < σ 86 24 ∧ 0 ≤ x2 ∧ x2 ≤ 3) ∧ σ' 86 56 = 0) ∨ ((0 ≤ x1 ∧ x1 < σ 86 24 ∧ 0 ≤ x2 ∧ x2 ≤ 3) ∧ v = qAE (qsh (α 87) 192 (x1 : Int).toNat) x2 x3 x1 ∧ σ' 86 56 = ((qAT (qsh (α 87) 192 (x1 : Int).toNat) x2).length : Int) ∧ α' 120 = qac_t (qAT (qsh (α 87) 192 (x1 : Int).toNat) x2) (α 120) 0))) := by
  refine qr_start (d := d + 6) qv_e255 (Nat.le_of_ble_eq_true rfl) ?_
  show qr_W (qe L xs vb) (d + 6) qx_e255 _ (0, [(0, .ref 86), (1, .int (qz x1)), (2, .int (qz x2)), (3, .int (qz x3))], [], _, 0, 0)
  have hF0 := qFr_rf [(86, 56), (86, 57), (86, 58)] [120] σ α
  have hz86_24 : 0 ≤ σ 86 24 ∧ σ 86 24 ≤ 60 := hI.1 86 24
  have hz86_56 : (-2147483648) ≤ σ 86 56 ∧ σ 86 56 ≤ 2147483647 := hI.1 86 56
  refine qr_aload_n 1 rfl rfl rfl ?_
  refine qr_iconst 2 rfl rfl ?_
  refine qr_put 5 rfl (by decide) rfl (Nat.le_of_ble_eq_true rfl) (Nat.le_of_ble_eq_true rfl) (Or.inl rfl) (qr_fitI rfl _) rfl ?_
  refine qy_wS (qw_s σ 86 56 0) rfl (fun σ1 e2 => ?_)
  have hI3 : qI σ1 α κ ρ := by rw [e2]; exact qI_s hI 86 56 rfl (show (-2147483648) ≤ 0 ∧ 0 ≤ 2147483647 by omega)
  have hF4 : qFr [(86, 56), (86, 57), (86, 58)] [120] σ α σ1 α := by rw [e2]; exact qFr_s hF0 86 56 _ (by decide)
  refine qr_aload_n 6 rfl rfl rfl ?_
  refine qr_iload_n 7 rfl rfl rfl ?_
  refine qr_callN 10 rfl rfl rfl (sf_200_86 (d := d + 4) hI3 r1) ?_
  have hs7 : 0 ≤ σ1 86 24 ∧ σ1 86 24 ≤ 60 := hI3.1 86 24
  have hs8 : σ1 86 24 = (σ 86 24) := (congrFun (congrFun e2 86) 24).trans rfl
  rintro _ _ ⟨rfl, v5, rfl, hv5, hp6⟩
  show qr_W (qe L xs vb) (d + 6) qx_e255 _ (10, _, [.int (qz v5)], qw σ1 α κ ρ, 0, 0)
  refine qr_if_ne 15 13 rfl rfl rfl (qrg hv5 (by decide) (by decide)) (fun h9 => ?_) (fun h9 => ?_)
  · skip
    refine qr_aload_n 16 rfl rfl rfl ?_
    refine qr_aload_n 17 rfl rfl rfl ?_
    refine qr_iload_n 18 rfl rfl rfl ?_
    refine qr_callN 21 rfl rfl rfl (sf_201_86x (d := d + 5) hI3 (by omega)) ?_
    rintro _ _ ⟨rfl, v10, rfl, hv10, hp11⟩
    show qr_W (qe L xs vb) (d + 6) qx_e255 _ (21, _, [.int (qz v10), .ref 86], qw σ1 α κ ρ, 0, 0)
    have hzk := p0 (x1 : Int).toNat (by omega)
    refine qr_put 24 rfl (by decide) rfl (Nat.le_of_ble_eq_true rfl) (Nat.le_of_ble_eq_true rfl) (Or.inl rfl) (qr_fitI rfl _) rfl ?_
    refine qy_wS (qw_s σ1 86 57 v10) rfl (fun σ12 e13 => ?_)
    have hI14 : qI σ12 α κ ρ := by rw [e13]; exact qI_s hI3 86 57 rfl (show (-2147483648) ≤ v10 ∧ v10 ≤ 2147483647 by omega)
    have hF15 : qFr [(86, 56), (86, 57), (86, 58)] [120] σ α σ12 α := by rw [e13]; exact qFr_s hF4 86 57 _ (by decide)
    refine qr_aload_n 25 rfl rfl rfl ?_
    refine qr_iload_n 26 rfl rfl rfl ?_
    refine qr_put 29 rfl (by decide) rfl (Nat.le_of_ble_eq_true rfl) (Nat.le_of_ble_eq_true rfl) (Or.inl rfl) (qr_fitI rfl _) rfl ?_
    refine qy_wS (qw_s σ12 86 58 x1) rfl (fun σ16 e17 => ?_)
    have hI18 : qI σ16 α κ ρ := by rw [e17]; exact qI_s hI14 86 58 rfl (show (-2147483648) ≤ x1 ∧ x1 ≤ 2147483647 by omega)
    have hF19 : qFr [(86, 56), (86, 57), (86, 58)] [120] σ α σ16 α := by rw [e17]; exact qFr_s hF15 86 58 _ (by decide)
    refine qr_iload_n 30 rfl rfl rfl ?_
    have h20 : x2 = 0 ∨ x2 = 1 ∨ x2 = 2 ∨ x2 = 3 ∨ (x2 < 0 ∨ 3 < x2) := by omega
    rcases h20 with h20 | h20 | h20 | h20 | h20
    · skip
      refine qr_tabIn 60 rfl r2 (by rw [h20]; decide) (by rw [h20]; rfl) rfl ?_
      refine qr_aload_n 61 rfl rfl rfl ?_
      refine qr_aload_n 62 rfl rfl rfl ?_
      refine qr_get 65 rfl rfl rfl (by decide) rfl ?_
      refine qy_v v10 ((congrFun (congrFun e17 86) 57).trans ((congrFun (congrFun e13 86) 57).trans rfl)) ?_
      refine qr_iload_n 66 rfl rfl rfl ?_
      have hr57 : σ16 86 57 = v10 := (congrFun (congrFun e17 86) 57).trans ((congrFun (congrFun e13 86) 57).trans rfl)
      have hr56 : σ16 86 56 = 0 := (congrFun (congrFun e17 86) 56).trans ((congrFun (congrFun e13 86) 56).trans ((congrFun (congrFun e2 86) 56).trans rfl))
      have hs22 : (-2147483648) ≤ σ16 86 56 ∧ σ16 86 56 ≤ 2147483647 := hI18.1 86 56
      have hs23 : σ16 86 56 = 0 := (congrFun (congrFun e17 86) 56).trans ((congrFun (congrFun e13 86) 56).trans ((congrFun (congrFun e2 86) 56).trans rfl))
      have hs24 : (-2147483648) ≤ σ16 86 57 ∧ σ16 86 57 ≤ 2147483647 := hI18.1 86 57
      have hs25 : σ16 86 57 = v10 := (congrFun (congrFun e17 86) 57).trans ((congrFun (congrFun e13 86) 57).trans rfl)
      refine qr_callN 69 rfl rfl rfl (sf_256_86ex (d := d + 2) hI18 hv10 r3 (by rw [← hp11] at hzk; omega) (by omega) (by omega)) ?_
      rintro _ _ ⟨σ30, α31, rfl, hI32, hG33, v26, rfl, hv26, hx27, hx28, hx29⟩
      have hF34 : qFr [(86, 56), (86, 57), (86, 58)] [120] σ α σ30 α31 := qFr_t hF19 hG33 (by decide) (by decide)
      show qr_W (qe L xs vb) (d + 6) qx_e255 _ (69, _, [.int (qz v26)], qw σ30 α31 κ ρ, 0, 0)
      refine qr_retI rfl rfl (by decide) (by decide) ?_
      exact ⟨_, _, rfl, hI32, hF34, v26, rfl, hv26, (Or.inr ⟨by omega, by have hq := hx27; rw [show σ16 86 58 = x1 from (congrFun (congrFun e17 86) 58).trans rfl, hp11] at hq; rw [show x2 = 0 by omega]; exact hq, by have hq := hx28; rw [hp11] at hq; rw [show x2 = 0 by omega]; omega, by have hq := hx29; rw [hp11, hr56] at hq; rw [show x2 = 0 by omega]; exact hq⟩)⟩
    · skip
      refine qr_tabIn 70 rfl r2 (by rw [h20]; decide) (by rw [h20]; rfl) rfl ?_
      refine qr_aload_n 71 rfl rfl rfl ?_
      refine qr_aload_n 72 rfl rfl rfl ?_
      refine qr_get 75 rfl rfl rfl (by decide) rfl ?_
      refine qy_v v10 ((congrFun (congrFun e17 86) 57).trans ((congrFun (congrFun e13 86) 57).trans rfl)) ?_
      refine qr_iload_n 76 rfl rfl rfl ?_
      have hr57 : σ16 86 57 = v10 := (congrFun (congrFun e17 86) 57).trans ((congrFun (congrFun e13 86) 57).trans rfl)
      have hr56 : σ16 86 56 = 0 := (congrFun (congrFun e17 86) 56).trans ((congrFun (congrFun e13 86) 56).trans ((congrFun (congrFun e2 86) 56).trans rfl))
      have hs35 : (-2147483648) ≤ σ16 86 56 ∧ σ16 86 56 ≤ 2147483647 := hI18.1 86 56
      have hs36 : σ16 86 56 = 0 := (congrFun (congrFun e17 86) 56).trans ((congrFun (congrFun e13 86) 56).trans ((congrFun (congrFun e2 86) 56).trans rfl))
      have hs37 : (-2147483648) ≤ σ16 86 57 ∧ σ16 86 57 ≤ 2147483647 := hI18.1 86 57
      have hs38 : σ16 86 57 = v10 := (congrFun (congrFun e17 86) 57).trans ((congrFun (congrFun e13 86) 57).trans rfl)
      refine qr_callN 79 rfl rfl rfl (sf_259_86ex (d := d + 1) hI18 hv10 r3 (by rw [← hp11] at hzk; omega) (by omega) (by omega)) ?_
      rintro _ _ ⟨σ43, α44, rfl, hI45, hG46, v39, rfl, hv39, hx40, hx41, hx42⟩
      have hF47 : qFr [(86, 56), (86, 57), (86, 58)] [120] σ α σ43 α44 := qFr_t hF19 hG46 (by decide) (by decide)
      show qr_W (qe L xs vb) (d + 6) qx_e255 _ (79, _, [.int (qz v39)], qw σ43 α44 κ ρ, 0, 0)
      refine qr_retI rfl rfl (by decide) (by decide) ?_
      exact ⟨_, _, rfl, hI45, hF47, v39, rfl, hv39, (Or.inr ⟨by omega, by have hq := hx40; rw [show σ16 86 58 = x1 from (congrFun (congrFun e17 86) 58).trans rfl, hp11] at hq; rw [show x2 = 1 by omega]; exact hq, by have hq := hx41; rw [hp11] at hq; rw [show x2 = 1 by omega]; omega, by have hq := hx42; rw [hp11, hr56] at hq; rw [show x2 = 1 by omega]; exact hq⟩)⟩
    · skip
      refine qr_tabIn 80 rfl r2 (by rw [h20]; decide) (by rw [h20]; rfl) rfl ?_
      refine qr_aload_n 81 rfl rfl rfl ?_
      refine qr_aload_n 82 rfl rfl rfl ?_
      refine qr_get 85 rfl rfl rfl (by decide) rfl ?_
      refine qy_v v10 ((congrFun (congrFun e17 86) 57).trans ((congrFun (congrFun e13 86) 57).trans rfl)) ?_
      refine qr_iload_n 86 rfl rfl rfl ?_
      have hr57 : σ16 86 57 = v10 := (congrFun (congrFun e17 86) 57).trans ((congrFun (congrFun e13 86) 57).trans rfl)
      have hr56 : σ16 86 56 = 0 := (congrFun (congrFun e17 86) 56).trans ((congrFun (congrFun e13 86) 56).trans ((congrFun (congrFun e2 86) 56).trans rfl))
      have hs48 : (-2147483648) ≤ σ16 86 56 ∧ σ16 86 56 ≤ 2147483647 := hI18.1 86 56
      have hs49 : σ16 86 56 = 0 := (congrFun (congrFun e17 86) 56).trans ((congrFun (congrFun e13 86) 56).trans ((congrFun (congrFun e2 86) 56).trans rfl))
      have hs50 : (-2147483648) ≤ σ16 86 57 ∧ σ16 86 57 ≤ 2147483647 := hI18.1 86 57
      have hs51 : σ16 86 57 = v10 := (congrFun (congrFun e17 86) 57).trans ((congrFun (congrFun e13 86) 57).trans rfl)
      refine qr_callN 89 rfl rfl rfl (sf_258_86ex (d := d + 3) hI18 hv10 r3 (by rw [← hp11] at hzk; omega) (by omega) (by omega)) ?_
      rintro _ _ ⟨σ56, α57, rfl, hI58, hG59, v52, rfl, hv52, hx53, hx54, hx55⟩
      have hF60 : qFr [(86, 56), (86, 57), (86, 58)] [120] σ α σ56 α57 := qFr_t hF19 hG59 (by decide) (by decide)
      show qr_W (qe L xs vb) (d + 6) qx_e255 _ (89, _, [.int (qz v52)], qw σ56 α57 κ ρ, 0, 0)
      refine qr_retI rfl rfl (by decide) (by decide) ?_
      exact ⟨_, _, rfl, hI58, hF60, v52, rfl, hv52, (Or.inr ⟨by omega, by have hq := hx53; rw [show σ16 86 58 = x1 from (congrFun (congrFun e17 86) 58).trans rfl, hp11] at hq; rw [show x2 = 2 by omega]; exact hq, by have hq := hx54; rw [hp11] at hq; rw [show x2 = 2 by omega]; omega, by have hq := hx55; rw [hp11, hr56] at hq; rw [show x2 = 2 by omega]; exact hq⟩)⟩
    · skip
      refine qr_tabIn 90 rfl r2 (by rw [h20]; decide) (by rw [h20]; rfl) rfl ?_
      refine qr_aload_n 91 rfl rfl rfl ?_
      refine qr_aload_n 92 rfl rfl rfl ?_
      refine qr_get 95 rfl rfl rfl (by decide) rfl ?_
      refine qy_v v10 ((congrFun (congrFun e17 86) 57).trans ((congrFun (congrFun e13 86) 57).trans rfl)) ?_
      refine qr_iload_n 96 rfl rfl rfl ?_
      have hr57 : σ16 86 57 = v10 := (congrFun (congrFun e17 86) 57).trans ((congrFun (congrFun e13 86) 57).trans rfl)
      have hr56 : σ16 86 56 = 0 := (congrFun (congrFun e17 86) 56).trans ((congrFun (congrFun e13 86) 56).trans ((congrFun (congrFun e2 86) 56).trans rfl))
      have hs61 : (-2147483648) ≤ σ16 86 56 ∧ σ16 86 56 ≤ 2147483647 := hI18.1 86 56
      have hs62 : σ16 86 56 = 0 := (congrFun (congrFun e17 86) 56).trans ((congrFun (congrFun e13 86) 56).trans ((congrFun (congrFun e2 86) 56).trans rfl))
      have hs63 : (-2147483648) ≤ σ16 86 57 ∧ σ16 86 57 ≤ 2147483647 := hI18.1 86 57
      have hs64 : σ16 86 57 = v10 := (congrFun (congrFun e17 86) 57).trans ((congrFun (congrFun e13 86) 57).trans rfl)
      refine qr_callN 99 rfl rfl rfl (sf_260_86ex (d := d + 0) hI18 hv10 r3 (by rw [← hp11] at hzk; omega) (by omega) (by omega)) ?_
      rintro _ _ ⟨σ69, α70, rfl, hI71, hG72, v65, rfl, hv65, hx66, hx67, hx68⟩
      have hF73 : qFr [(86, 56), (86, 57), (86, 58)] [120] σ α σ69 α70 := qFr_t hF19 hG72 (by decide) (by decide)
      show qr_W (qe L xs vb) (d + 6) qx_e255 _ (99, _, [.int (qz v65)], qw σ69 α70 κ ρ, 0, 0)
      refine qr_retI rfl rfl (by decide) (by decide) ?_
      exact ⟨_, _, rfl, hI71, hF73, v65, rfl, hv65, (Or.inr ⟨by omega, by have hq := hx66; rw [show σ16 86 58 = x1 from (congrFun (congrFun e17 86) 58).trans rfl, hp11] at hq; rw [show x2 = 3 by omega]; exact hq, by have hq := hx67; rw [hp11] at hq; rw [show x2 = 3 by omega]; omega, by have hq := hx68; rw [hp11, hr56] at hq; rw [show x2 = 3 by omega]; exact hq⟩)⟩
    · skip
      refine qr_tabOut 100 rfl r2 (by omega) rfl ?_
      refine qr_iconst 101 rfl rfl ?_
      refine qr_retI rfl rfl (by decide) (by decide) ?_
      exact ⟨_, _, rfl, hI18, hF19, 0, rfl, (by decide), (Or.inl ⟨by omega, by omega, by have hw : σ16 86 56 = 0 := (congrFun (congrFun e17 86) 56).trans ((congrFun (congrFun e13 86) 56).trans ((congrFun (congrFun e2 86) 56).trans rfl)); omega⟩)⟩
  · skip
    refine qr_iconst 14 rfl rfl ?_
    refine qr_retI rfl rfl (by decide) (by decide) ?_
    exact ⟨_, _, rfl, hI3, hF4, 0, rfl, (by decide), (Or.inl ⟨by omega, by omega, by have hw : σ1 86 56 = 0 := (congrFun (congrFun e2 86) 56).trans rfl; omega⟩)⟩

set_option maxHeartbeats 4000000 in
set_option maxRecDepth 20000 in
/-- OneRoof.trace -/
theorem sf_154_16x {L : Nat} {xs : Nat → Int} {vb : Bool} {d : Nat} {σ α : Nat → Nat → Int} {κ : Nat → Option Nat} {ρ : Nat} {x1 : Int} (hI : qI σ α κ ρ) (r1 : (-2147483648) ≤ x1 ∧ x1 ≤ 2147483647) : qm_T (qe L xs vb) (d + 1) 154 [.ref 16, .int (qz x1)] (qw σ α κ ρ) (fun r w' => w' = qw σ α κ ρ ∧ ∃ v : Int, r = some (.int (qz v)) ∧ ((-2147483648) ≤ v ∧ v ≤ 2147483647) ∧ ((v = -1 ∧ ¬ (0 ≤ x1 ∧ x1 < σ 42 1 ∧ x1 < 24)) ∨ ((0 ≤ x1 ∧ x1 < σ 42 1 ∧ x1 < 24) ∧ v = α 43 (x1 : Int).toNat))) := by
  refine qr_start (d := d + 0) qv_e154 (Nat.le_of_ble_eq_true rfl) ?_
  show qr_W (qe L xs vb) (d + 0) qx_e154 _ (0, [(0, .ref 16), (1, .int (qz x1))], [], _, 0, 0)
  have hz42_1 : (-2147483648) ≤ σ 42 1 ∧ σ 42 1 ≤ 2147483647 := hI.1 42 1
  refine qr_iload_n 1 rfl rfl rfl ?_
  refine qr_if_lt 27 4 rfl rfl rfl r1 (fun h1 => ?_) (fun h1 => ?_)
  · skip
    refine qr_iconst 28 rfl rfl ?_
    refine qr_retI rfl rfl (by decide) (by decide) ?_
    exact ⟨rfl, (-1), rfl, (by decide), by omega⟩
  · skip
    refine qr_iload_n 5 rfl rfl rfl ?_
    refine qr_aload_n 6 rfl rfl rfl ?_
    refine qr_get 9 rfl rfl rfl (by decide) rfl ?_
    refine qr_get 12 rfl rfl rfl (by decide) rfl ?_
    refine qr_icmp_ge 27 15 rfl rfl rfl r1 hz42_1 (fun h2 => ?_) (fun h2 => ?_)
    · skip
      refine qr_iconst 28 rfl rfl ?_
      refine qr_retI rfl rfl (by decide) (by decide) ?_
      exact ⟨rfl, (-1), rfl, (by decide), by omega⟩
    · skip
      refine qr_iload_n 16 rfl rfl rfl ?_
      refine qr_aload_n 17 rfl rfl rfl ?_
      refine qr_get 20 rfl rfl rfl (by decide) rfl ?_
      refine qr_get 23 rfl rfl rfl (by decide) rfl ?_
      refine qr_alen 24 rfl rfl (by first | exact Or.inl (by decide) | exact Or.inr (Or.inl rfl) | exact Or.inr (Or.inr (Or.inl rfl)) | exact Or.inr (Or.inr (Or.inr (Or.inl rfl)))) rfl ?_
      refine qy_v 24 rfl ?_
      refine qr_icmp_lt 29 27 rfl rfl rfl r1 (by decide) (fun h3 => ?_) (fun h3 => ?_)
      · skip
        refine qr_aload_n 30 rfl rfl rfl ?_
        refine qr_get 33 rfl rfl rfl (by decide) rfl ?_
        refine qr_get 36 rfl rfl rfl (by decide) rfl ?_
        refine qr_iload_n 37 rfl rfl rfl ?_
        refine qr_iaload 38 rfl rfl (by omega) (by decide) rfl ?_
        refine qr_topI (fun v4 hv4 => ?_)
        have hs5 : (-2147483648) ≤ v4 ∧ v4 ≤ 2147483647 := by rw [hv4]; exact hI.2.1 43 _ (show _ < 24 by omega)
        refine qr_retI rfl rfl (by decide) (by decide) ?_
        exact ⟨rfl, v4, rfl, hs5, by omega⟩
      · skip
        refine qr_iconst 28 rfl rfl ?_
        refine qr_retI rfl rfl (by decide) (by decide) ?_
        exact ⟨rfl, (-1), rfl, (by decide), by omega⟩

set_option maxHeartbeats 4000000 in
set_option maxRecDepth 20000 in
/-- OneRoofModel.trace -/
theorem sf_261_86x {L : Nat} {xs : Nat → Int} {vb : Bool} {d : Nat} {σ α : Nat → Nat → Int} {κ : Nat → Option Nat} {ρ : Nat} {x1 : Int} (hI : qI σ α κ ρ) (r1 : (-2147483648) ≤ x1 ∧ x1 ≤ 2147483647) : qm_T (qe L xs vb) (d + 1) 261 [.ref 86, .int (qz x1)] (qw σ α κ ρ) (fun r w' => w' = qw σ α κ ρ ∧ ∃ v : Int, r = some (.int (qz v)) ∧ ((-2147483648) ≤ v ∧ v ≤ 2147483647) ∧ ((v = -1 ∧ ¬ (0 ≤ x1 ∧ x1 < σ 86 56 ∧ x1 < 24)) ∨ ((0 ≤ x1 ∧ x1 < σ 86 56 ∧ x1 < 24) ∧ v = α 120 (x1 : Int).toNat))) := by
  refine qr_start (d := d + 0) qv_e261 (Nat.le_of_ble_eq_true rfl) ?_
  show qr_W (qe L xs vb) (d + 0) qx_e261 _ (0, [(0, .ref 86), (1, .int (qz x1))], [], _, 0, 0)
  have hz86_56 : (-2147483648) ≤ σ 86 56 ∧ σ 86 56 ≤ 2147483647 := hI.1 86 56
  refine qr_iload_n 1 rfl rfl rfl ?_
  refine qr_if_lt 27 4 rfl rfl rfl r1 (fun h1 => ?_) (fun h1 => ?_)
  · skip
    refine qr_iconst 28 rfl rfl ?_
    refine qr_retI rfl rfl (by decide) (by decide) ?_
    exact ⟨rfl, (-1), rfl, (by decide), by omega⟩
  · skip
    refine qr_iload_n 5 rfl rfl rfl ?_
    refine qr_aload_n 6 rfl rfl rfl ?_
    refine qr_get 9 rfl rfl rfl (by decide) rfl ?_
    refine qr_icmp_ge 27 12 rfl rfl rfl r1 hz86_56 (fun h2 => ?_) (fun h2 => ?_)
    · skip
      refine qr_iconst 28 rfl rfl ?_
      refine qr_retI rfl rfl (by decide) (by decide) ?_
      exact ⟨rfl, (-1), rfl, (by decide), by omega⟩
    · skip
      refine qr_iload_n 13 rfl rfl rfl ?_
      refine qr_bipush 15 rfl (by decide) rfl ?_
      refine qr_icmp_ge 27 18 rfl rfl rfl r1 (by decide) (fun h3 => ?_) (fun h3 => ?_)
      · skip
        refine qr_iconst 28 rfl rfl ?_
        refine qr_retI rfl rfl (by decide) (by decide) ?_
        exact ⟨rfl, (-1), rfl, (by decide), by omega⟩
      · skip
        refine qr_aload_n 19 rfl rfl rfl ?_
        refine qr_get 22 rfl rfl rfl (by decide) rfl ?_
        refine qr_iload_n 23 rfl rfl rfl ?_
        refine qr_iaload 24 rfl rfl (by omega) (by decide) rfl ?_
        refine qr_topI (fun v4 hv4 => ?_)
        have hs5 : (-2147483648) ≤ v4 ∧ v4 ≤ 2147483647 := by rw [hv4]; exact hI.2.1 120 _ (show _ < 24 by omega)
        refine qr_goto 28 rfl rfl ?_
        refine qr_retI rfl rfl (by decide) (by decide) ?_
        exact ⟨rfl, v4, rfl, hs5, by omega⟩

set_option maxHeartbeats 4000000 in
set_option maxRecDepth 20000 in
/-- OneRoof.count -/
theorem sf_170_16x {L : Nat} {xs : Nat → Int} {vb : Bool} {d : Nat} {σ α : Nat → Nat → Int} {κ : Nat → Option Nat} {ρ : Nat} {x1 : Int} (hI : qI σ α κ ρ) (r1 : (-2147483648) ≤ x1 ∧ x1 ≤ 2147483647) : qm_T (qe L xs vb) (d + 2) 170 [.ref 16, .int (qz x1)] (qw σ α κ ρ) (fun r w' => w' = qw σ α κ ρ ∧ ∃ v : Int, r = some (.int (qz v)) ∧ ((-2147483648) ≤ v ∧ v ≤ 2147483647) ∧ ((v = -1 ∧ ¬ (0 ≤ x1 ∧ x1 ≤ 7)) ∨ (x1 = 0 ∧ v = σ 17 6) ∨ (x1 = 1 ∧ v = σ 23 1) ∨ (x1 = 2 ∧ v = σ 27 7) ∨ (x1 = 3 ∧ v = σ 34 7) ∨ (x1 = 4 ∧ v = σ 16 15) ∨ (x1 = 5 ∧ v = σ 76 7) ∨ (x1 = 6 ∧ v = qcn (σ 17 5) 64) ∨ (x1 = 7 ∧ v = σ 42 1))) := by
  refine qr_start (d := d + 1) qv_e170 (Nat.le_of_ble_eq_true rfl) ?_
  show qr_W (qe L xs vb) (d + 1) qx_e170 _ (0, [(0, .ref 16), (1, .int (qz x1))], [], _, 0, 0)
  have hz17_6 : 0 ≤ σ 17 6 ∧ σ 17 6 ≤ 32 := hI.1 17 6
  have hz23_1 : (-2147483648) ≤ σ 23 1 ∧ σ 23 1 ≤ 2147483647 := hI.1 23 1
  have hz27_7 : 0 ≤ σ 27 7 ∧ σ 27 7 ≤ 40 := hI.1 27 7
  have hz34_7 : 0 ≤ σ 34 7 ∧ σ 34 7 ≤ 60 := hI.1 34 7
  have hz16_15 : 0 ≤ σ 16 15 ∧ σ 16 15 ≤ 120 := hI.1 16 15
  have hz76_7 : 0 ≤ σ 76 7 ∧ σ 76 7 ≤ 40 := hI.1 76 7
  have hz17_5 : (-9223372036854775808) ≤ σ 17 5 ∧ σ 17 5 ≤ 9223372036854775807 := hI.1 17 5
  have hz42_1 : (-2147483648) ≤ σ 42 1 ∧ σ 42 1 ≤ 2147483647 := hI.1 42 1
  refine qr_iload_n 1 rfl rfl rfl ?_
  have h1 : x1 = 0 ∨ x1 = 1 ∨ x1 = 2 ∨ x1 = 3 ∨ x1 = 4 ∨ x1 = 5 ∨ x1 = 6 ∨ x1 = 7 ∨ (x1 < 0 ∨ 7 < x1) := by omega
  rcases h1 with h1 | h1 | h1 | h1 | h1 | h1 | h1 | h1 | h1
  · skip
    refine qr_tabIn 48 rfl r1 (by rw [h1]; decide) (by rw [h1]; rfl) rfl ?_
    refine qr_aload_n 49 rfl rfl rfl ?_
    refine qr_get 52 rfl rfl rfl (by decide) rfl ?_
    refine qr_get 55 rfl rfl rfl (by decide) rfl ?_
    refine qr_retI rfl rfl (by decide) (by decide) ?_
    exact ⟨rfl, (σ 17 6), rfl, (qrg hz17_6 (by decide) (by decide)), by omega⟩
  · skip
    refine qr_tabIn 56 rfl r1 (by rw [h1]; decide) (by rw [h1]; rfl) rfl ?_
    refine qr_aload_n 57 rfl rfl rfl ?_
    refine qr_get 60 rfl rfl rfl (by decide) rfl ?_
    refine qr_get 63 rfl rfl rfl (by decide) rfl ?_
    refine qr_retI rfl rfl (by decide) (by decide) ?_
    exact ⟨rfl, (σ 23 1), rfl, hz23_1, by omega⟩
  · skip
    refine qr_tabIn 64 rfl r1 (by rw [h1]; decide) (by rw [h1]; rfl) rfl ?_
    refine qr_aload_n 65 rfl rfl rfl ?_
    refine qr_get 68 rfl rfl rfl (by decide) rfl ?_
    refine qr_get 71 rfl rfl rfl (by decide) rfl ?_
    refine qr_retI rfl rfl (by decide) (by decide) ?_
    exact ⟨rfl, (σ 27 7), rfl, (qrg hz27_7 (by decide) (by decide)), by omega⟩
  · skip
    refine qr_tabIn 72 rfl r1 (by rw [h1]; decide) (by rw [h1]; rfl) rfl ?_
    refine qr_aload_n 73 rfl rfl rfl ?_
    refine qr_get 76 rfl rfl rfl (by decide) rfl ?_
    refine qr_get 79 rfl rfl rfl (by decide) rfl ?_
    refine qr_retI rfl rfl (by decide) (by decide) ?_
    exact ⟨rfl, (σ 34 7), rfl, (qrg hz34_7 (by decide) (by decide)), by omega⟩
  · skip
    refine qr_tabIn 80 rfl r1 (by rw [h1]; decide) (by rw [h1]; rfl) rfl ?_
    refine qr_aload_n 81 rfl rfl rfl ?_
    refine qr_get 84 rfl rfl rfl (by decide) rfl ?_
    refine qr_retI rfl rfl (by decide) (by decide) ?_
    exact ⟨rfl, (σ 16 15), rfl, (qrg hz16_15 (by decide) (by decide)), by omega⟩
  · skip
    refine qr_tabIn 85 rfl r1 (by rw [h1]; decide) (by rw [h1]; rfl) rfl ?_
    refine qr_aload_n 86 rfl rfl rfl ?_
    refine qr_get 89 rfl rfl rfl (by decide) rfl ?_
    refine qr_get 92 rfl rfl rfl (by decide) rfl ?_
    refine qr_retI rfl rfl (by decide) (by decide) ?_
    exact ⟨rfl, (σ 76 7), rfl, (qrg hz76_7 (by decide) (by decide)), by omega⟩
  · skip
    refine qr_tabIn 93 rfl r1 (by rw [h1]; decide) (by rw [h1]; rfl) rfl ?_
    refine qr_aload_n 94 rfl rfl rfl ?_
    refine qr_get 97 rfl rfl rfl (by decide) rfl ?_
    refine qr_get 100 rfl rfl rfl (by decide) rfl ?_
    refine qr_callN 103 rfl rfl rfl (sf_74c (d := d + 0) hI hz17_5) ?_
    rintro _ _ ⟨rfl, v3, rfl, hv3, hp4⟩
    show qr_W (qe L xs vb) (d + 1) qx_e170 _ (103, _, [.int (qz v3)], qw σ α κ ρ, 0, 0)
    refine qr_retI rfl rfl (by decide) (by decide) ?_
    exact ⟨rfl, v3, rfl, (qrg hv3 (by decide) (by decide)), by omega⟩
  · skip
    refine qr_tabIn 104 rfl r1 (by rw [h1]; decide) (by rw [h1]; rfl) rfl ?_
    refine qr_aload_n 105 rfl rfl rfl ?_
    refine qr_get 108 rfl rfl rfl (by decide) rfl ?_
    refine qr_get 111 rfl rfl rfl (by decide) rfl ?_
    refine qr_retI rfl rfl (by decide) (by decide) ?_
    exact ⟨rfl, (σ 42 1), rfl, hz42_1, by omega⟩
  · skip
    refine qr_tabOut 112 rfl r1 (by omega) rfl ?_
    refine qr_iconst 113 rfl rfl ?_
    refine qr_retI rfl rfl (by decide) (by decide) ?_
    exact ⟨rfl, (-1), rfl, (by decide), by omega⟩

set_option maxHeartbeats 4000000 in
set_option maxRecDepth 20000 in
/-- OneRoofModel.count -/
theorem sf_271_86x {L : Nat} {xs : Nat → Int} {vb : Bool} {d : Nat} {σ α : Nat → Nat → Int} {κ : Nat → Option Nat} {ρ : Nat} {x1 : Int} (hI : qI σ α κ ρ) (r1 : (-2147483648) ≤ x1 ∧ x1 ≤ 2147483647) : qm_T (qe L xs vb) (d + 2) 271 [.ref 86, .int (qz x1)] (qw σ α κ ρ) (fun r w' => w' = qw σ α κ ρ ∧ ∃ v : Int, r = some (.int (qz v)) ∧ ((-2147483648) ≤ v ∧ v ≤ 2147483647) ∧ ((v = -1 ∧ ¬ (0 ≤ x1 ∧ x1 ≤ 7)) ∨ (x1 = 0 ∧ v = σ 86 6) ∨ (x1 = 1 ∧ v = σ 86 11) ∨ (x1 = 2 ∧ v = σ 86 16) ∨ (x1 = 3 ∧ v = σ 86 24) ∨ (x1 = 4 ∧ v = σ 86 32) ∨ (x1 = 5 ∧ v = σ 86 5) ∨ (x1 = 6 ∧ v = qcn (σ 86 10) 64) ∨ (x1 = 7 ∧ v = σ 86 56))) := by
  refine qr_start (d := d + 1) qv_e271 (Nat.le_of_ble_eq_true rfl) ?_
  show qr_W (qe L xs vb) (d + 1) qx_e271 _ (0, [(0, .ref 86), (1, .int (qz x1))], [], _, 0, 0)
  have hz86_6 : 0 ≤ σ 86 6 ∧ σ 86 6 ≤ 32 := hI.1 86 6
  have hz86_11 : 0 ≤ σ 86 11 ∧ σ 86 11 ≤ 61 := hI.1 86 11
  have hz86_16 : 0 ≤ σ 86 16 ∧ σ 86 16 ≤ 40 := hI.1 86 16
  have hz86_24 : 0 ≤ σ 86 24 ∧ σ 86 24 ≤ 60 := hI.1 86 24
  have hz86_32 : 0 ≤ σ 86 32 ∧ σ 86 32 ≤ 120 := hI.1 86 32
  have hz86_5 : 0 ≤ σ 86 5 ∧ σ 86 5 ≤ 40 := hI.1 86 5
  have hz86_10 : (-9223372036854775808) ≤ σ 86 10 ∧ σ 86 10 ≤ 9223372036854775807 := hI.1 86 10
  have hz86_56 : (-2147483648) ≤ σ 86 56 ∧ σ 86 56 ≤ 2147483647 := hI.1 86 56
  refine qr_iload_n 1 rfl rfl rfl ?_
  have h1 : x1 = 0 ∨ x1 = 1 ∨ x1 = 2 ∨ x1 = 3 ∨ x1 = 4 ∨ x1 = 5 ∨ x1 = 6 ∨ x1 = 7 ∨ (x1 < 0 ∨ 7 < x1) := by omega
  rcases h1 with h1 | h1 | h1 | h1 | h1 | h1 | h1 | h1 | h1
  · skip
    refine qr_tabIn 48 rfl r1 (by rw [h1]; decide) (by rw [h1]; rfl) rfl ?_
    refine qr_aload_n 49 rfl rfl rfl ?_
    refine qr_get 52 rfl rfl rfl (by decide) rfl ?_
    refine qr_retI rfl rfl (by decide) (by decide) ?_
    exact ⟨rfl, (σ 86 6), rfl, (qrg hz86_6 (by decide) (by decide)), by omega⟩
  · skip
    refine qr_tabIn 53 rfl r1 (by rw [h1]; decide) (by rw [h1]; rfl) rfl ?_
    refine qr_aload_n 54 rfl rfl rfl ?_
    refine qr_get 57 rfl rfl rfl (by decide) rfl ?_
    refine qr_retI rfl rfl (by decide) (by decide) ?_
    exact ⟨rfl, (σ 86 11), rfl, (qrg hz86_11 (by decide) (by decide)), by omega⟩
  · skip
    refine qr_tabIn 58 rfl r1 (by rw [h1]; decide) (by rw [h1]; rfl) rfl ?_
    refine qr_aload_n 59 rfl rfl rfl ?_
    refine qr_get 62 rfl rfl rfl (by decide) rfl ?_
    refine qr_retI rfl rfl (by decide) (by decide) ?_
    exact ⟨rfl, (σ 86 16), rfl, (qrg hz86_16 (by decide) (by decide)), by omega⟩
  · skip
    refine qr_tabIn 63 rfl r1 (by rw [h1]; decide) (by rw [h1]; rfl) rfl ?_
    refine qr_aload_n 64 rfl rfl rfl ?_
    refine qr_get 67 rfl rfl rfl (by decide) rfl ?_
    refine qr_retI rfl rfl (by decide) (by decide) ?_
    exact ⟨rfl, (σ 86 24), rfl, (qrg hz86_24 (by decide) (by decide)), by omega⟩
  · skip
    refine qr_tabIn 68 rfl r1 (by rw [h1]; decide) (by rw [h1]; rfl) rfl ?_
    refine qr_aload_n 69 rfl rfl rfl ?_
    refine qr_get 72 rfl rfl rfl (by decide) rfl ?_
    refine qr_retI rfl rfl (by decide) (by decide) ?_
    exact ⟨rfl, (σ 86 32), rfl, (qrg hz86_32 (by decide) (by decide)), by omega⟩
  · skip
    refine qr_tabIn 73 rfl r1 (by rw [h1]; decide) (by rw [h1]; rfl) rfl ?_
    refine qr_aload_n 74 rfl rfl rfl ?_
    refine qr_get 77 rfl rfl rfl (by decide) rfl ?_
    refine qr_retI rfl rfl (by decide) (by decide) ?_
    exact ⟨rfl, (σ 86 5), rfl, (qrg hz86_5 (by decide) (by decide)), by omega⟩
  · skip
    refine qr_tabIn 78 rfl r1 (by rw [h1]; decide) (by rw [h1]; rfl) rfl ?_
    refine qr_aload_n 79 rfl rfl rfl ?_
    refine qr_get 82 rfl rfl rfl (by decide) rfl ?_
    refine qr_callN 85 rfl rfl rfl (sf_253x (d := d + 0) hI hz86_10) ?_
    rintro _ _ ⟨rfl, v3, rfl, hv3, hp4⟩
    show qr_W (qe L xs vb) (d + 1) qx_e271 _ (85, _, [.int (qz v3)], qw σ α κ ρ, 0, 0)
    refine qr_retI rfl rfl (by decide) (by decide) ?_
    exact ⟨rfl, v3, rfl, hv3, by omega⟩
  · skip
    refine qr_tabIn 86 rfl r1 (by rw [h1]; decide) (by rw [h1]; rfl) rfl ?_
    refine qr_aload_n 87 rfl rfl rfl ?_
    refine qr_get 90 rfl rfl rfl (by decide) rfl ?_
    refine qr_retI rfl rfl (by decide) (by decide) ?_
    exact ⟨rfl, (σ 86 56), rfl, hz86_56, by omega⟩
  · skip
    refine qr_tabOut 91 rfl r1 (by omega) rfl ?_
    refine qr_iconst 92 rfl rfl ?_
    refine qr_retI rfl rfl (by decide) (by decide) ?_
    exact ⟨rfl, (-1), rfl, (by decide), by omega⟩

/-- the last act on both sides -/
def qRA (σ α : Nat → Nat → Int) : Prop := σ 42 1 = σ 86 56 ∧ (0 ≤ σ 42 1 ∧ σ 42 1 ≤ 7) ∧ ∀ i : Nat, (i : Int) < σ 42 1 → α 43 i = α 120 i
theorem qRA_fr {S : List (Nat × Nat)} {R : List Nat} {σ α σ' α' : Nat → Nat → Int} (hG : qFr S R σ α σ' α') (hs : [((42 : Nat), (1 : Nat)), (86, 56)].all (fun x => !S.contains x) = true) (hr : [43, 120].all (fun x => !R.contains x) = true) (h : qRA σ α) : qRA σ' α' := by
  have es : ∀ a k, (a, k) ∈ [((42 : Nat), (1 : Nat)), (86, 56)] → σ' a k = σ a k := fun a k hm => hG.1 a k (fun hn => by
    have h1 := List.all_eq_true.mp hs (a, k) hm
    rw [List.contains_iff_mem.mpr hn] at h1
    exact absurd h1 (by decide))
  have er : ∀ a, a ∈ [43, 120] → α' a = α a := fun a hm => hG.2 a (fun hn => by
    have h1 := List.all_eq_true.mp hr a hm
    rw [List.contains_iff_mem.mpr hn] at h1
    exact absurd h1 (by decide))
  unfold qRA at h ⊢
  rw [es 42 1 (by decide), es 86 56 (by decide), er 43 (by decide), er 120 (by decide)]
  exact h
theorem qRA_0 (s g : Nat → Nat → Int) : qRA (qJ_s s) (qJ_r g) := ⟨rfl, ⟨show (0 : Int) ≤ 0 by decide, show (0 : Int) ≤ 7 by decide⟩, fun i hi => by
  have h0 : (i : Int) < 0 := hi
  omega⟩
theorem ra_kd {σ α : Nat → Nat → Int} (hH : qRH σ α) : ∀ k : Nat, (k : Int) < σ 34 7 → 0 ≤ α 35 k ∧ α 35 k ≤ 6 := fun k hk => by
  have h := hH.1.1.2 k hk
  omega
theorem ra_km {σ α : Nat → Nat → Int} {κ : Nat → Option Nat} {ρ : Nat} (hI : qI σ α κ ρ) (hR : qR σ α) (hP : qRP σ α) (hH : qRH σ α) : ∀ k : Nat, (k : Int) < σ 86 24 → 0 ≤ qsh (α 87) 192 k ∧ qsh (α 87) 192 k ≤ 6 := fun k hk => (qrr_zk (hI.1 86 24) hR hP hH k hk).1
theorem qkm_fr {S : List (Nat × Nat)} {R : List Nat} {σ α σ' α' : Nat → Nat → Int} (hG : qFr S R σ α σ' α') (e1 : σ' 86 24 = σ 86 24) (e2 : α' 87 = α 87) (h : ∀ k : Nat, (k : Int) < σ 86 24 → 0 ≤ qsh (α 87) 192 k ∧ qsh (α 87) 192 k ≤ 6) : ∀ k : Nat, (k : Int) < σ' 86 24 → 0 ≤ qsh (α' 87) 192 k ∧ qsh (α' 87) 192 k ≤ 6 := by
  rw [e1, e2]
  exact h

set_option maxHeartbeats 4000000 in
theorem ro_act {σ α σ1 α1 σ2 α2 : Nat → Nat → Int} {κ : Nat → Option Nat} {ρ : Nat} {x1 x2 x3 v1 v2 : Int}  (hI : qI σ α κ ρ) (hR : qR σ α) (hH : qRH σ α) (hG1 : qFr [(42, 1)] [43] σ α σ1 α1) (hG2 : qFr [(86, 56), (86, 57), (86, 58)] [120] σ1 α1 σ2 α2) (hx0 : ((v1 = 0 ∧ ¬ (0 ≤ x1 ∧ x1 < σ 34 7 ∧ 0 ≤ x2 ∧ x2 ≤ 3) ∧ σ1 42 1 = 0) ∨ ((0 ≤ x1 ∧ x1 < σ 34 7 ∧ 0 ≤ x2 ∧ x2 ≤ 3) ∧ v1 = qAE (α 35 (x1 : Int).toNat) x2 x3 x1 ∧ σ1 42 1 = ((qAT (α 35 (x1 : Int).toNat) x2).length : Int) ∧ α1 43 = qac_t (qAT (α 35 (x1 : Int).toNat) x2) (α 43) 0))) (hy0 : ((v2 = 0 ∧ ¬ (0 ≤ x1 ∧ x1 < σ1 86 24 ∧ 0 ≤ x2 ∧ x2 ≤ 3) ∧ σ2 86 56 = 0) ∨ ((0 ≤ x1 ∧ x1 < σ1 86 24 ∧ 0 ≤ x2 ∧ x2 ≤ 3) ∧ v2 = qAE (qsh (α1 87) 192 (x1 : Int).toNat) x2 x3 x1 ∧ σ2 86 56 = ((qAT (qsh (α1 87) 192 (x1 : Int).toNat) x2).length : Int) ∧ α2 120 = qac_t (qAT (qsh (α1 87) 192 (x1 : Int).toNat) x2) (α1 120) 0)))  : v1 = v2 ∧ qRA σ2 α2 := by
  have b6 : 0 ≤ σ 86 6 ∧ σ 86 6 ≤ 32 := hI.1 86 6
  have b16 : 0 ≤ σ 86 16 ∧ σ 86 16 ≤ 40 := hI.1 86 16
  have b24 : 0 ≤ σ 86 24 ∧ σ 86 24 ≤ 60 := hI.1 86 24
  have e6 := hR.1
  have e16 := hR.2.1
  have e24 := hR.2.2.1
  have c24 : σ1 86 24 = σ 86 24 := hG1.1 86 24 (by decide)
  have c87 := hG1.2 87 (by decide)
  have d42 : σ2 42 1 = σ1 42 1 := hG2.1 42 1 (by decide)
  have d43 := hG2.2 43 (by decide)
  rw [c24, c87] at hy0
  rcases hx0 with ⟨a1, a2, a3⟩ | ⟨a1, a2, a3, a4⟩
  · rcases hy0 with ⟨b1, b2, b3⟩ | ⟨b1, b2, b3, b4⟩
    · exact ⟨by omega, by omega, by omega, fun i hi => False.elim (by omega)⟩
    · exact False.elim (by omega)
  · rcases hy0 with ⟨b1, b2, b3⟩ | ⟨b1, b2, b3, b4⟩
    · exact False.elim (by omega)
    · have k1 : α 35 (x1 : Int).toNat = qsh (α 87) 192 (x1 : Int).toNat := hH.1.1.1.2.2.1 _ (by omega)
      rw [k1] at a2 a3 a4
      have hl := qAT_b (qsh (α 87) 192 (x1 : Int).toNat) x2
      refine ⟨by omega, by omega, by omega, fun i hi => ?_⟩
      rw [d43, a4, b4]
      exact qac_t_eq _ _ _ 0 i (by omega) (by omega) (by omega)

set_option maxHeartbeats 4000000 in
theorem rl_trace {σ α : Nat → Nat → Int} {κ : Nat → Option Nat} {ρ : Nat} {x1 v1 v2 : Int} (hI : qI σ α κ ρ) (hZ : qRA σ α) (hx : ((v1 = -1 ∧ ¬ (0 ≤ x1 ∧ x1 < σ 42 1 ∧ x1 < 24)) ∨ ((0 ≤ x1 ∧ x1 < σ 42 1 ∧ x1 < 24) ∧ v1 = α 43 (x1 : Int).toNat))) (hy : ((v2 = -1 ∧ ¬ (0 ≤ x1 ∧ x1 < σ 86 56 ∧ x1 < 24)) ∨ ((0 ≤ x1 ∧ x1 < σ 86 56 ∧ x1 < 24) ∧ v2 = α 120 (x1 : Int).toNat))) : v1 = v2 := by
  have b6 : 0 ≤ σ 86 6 ∧ σ 86 6 ≤ 32 := hI.1 86 6
  have b24 : 0 ≤ σ 86 24 ∧ σ 86 24 ≤ 60 := hI.1 86 24
  obtain ⟨q1, q2, q3⟩ := hZ
  by_cases c : 0 ≤ x1 ∧ x1 < σ 42 1
  · have h := q3 (x1 : Int).toNat (by omega)
    omega
  · omega
