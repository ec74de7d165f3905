/-! steps by the ties told -/
noncomputable def qds (A B : Nat → Int) (m x y : Int) : Int := @dite Int (∃ t, qDi A B m t x y) (Classical.propDecidable _) (fun h => Classical.choose h) (fun _ => 99)
theorem qds_of {A B : Nat → Int} {m t x y : Int} (h : qDi A B m t x y) : qds A B m x y = t := by
  have e : ∃ t, qDi A B m t x y := ⟨t, h⟩
  unfold qds
  rw [dif_pos e]
  exact qDi_un (Classical.choose_spec e) h
noncomputable def qd9 (A B : Nat → Int) (m x y : Int) : Int := if qds A B m x y ≤ 9 then qds A B m x y else 99
theorem qd9_of {A B : Nat → Int} {m t x y v : Int} (h : qDi A B m t x y) (hv : (v = t ∧ v ≤ 9) ∨ (v = 99 ∧ 9 < t)) : v = qd9 A B m x y := by
  unfold qd9
  rw [qds_of h]
  by_cases e : t ≤ 9
  · rw [if_pos e]; omega
  · rw [if_neg e]; omega
theorem qd9_r (A B : Nat → Int) (m x y : Int) : 0 ≤ qd9 A B m x y ∧ (qd9 A B m x y ≤ 9 ∨ qd9 A B m x y = 99) := by
  have h0 : 0 ≤ qds A B m x y := by
    unfold qds
    split
    · next e => exact (Classical.choose_spec e).1.1
    · decide
  unfold qd9
  split
  · next e => exact ⟨h0, Or.inl e⟩
  · exact ⟨by decide, Or.inr rfl⟩
theorem qst_of {σ α σ' α' : Nat → Nat → Int} {κ : Nat → Option Nat} {ρ : Nat} {x y v : Int} (hI : qI σ' α' κ ρ) (h15 : σ' 86 15 = 1) (e94 : α' 94 = α 94) (e95 : α' 95 = α 95) (e11 : σ' 86 11 = σ 86 11) (e6 : σ' 86 6 = σ 86 6) (hx : 0 ≤ x ∧ x < σ 86 6) (hy : 0 ≤ y ∧ y < σ 86 6) (hv : (v = α' 96 (32 * x + y : Int).toNat ∧ v ≤ 9) ∨ (v = 99 ∧ 9 < α' 96 (32 * x + y : Int).toNat)) : v = qd9 (α 94) (α 95) (σ 86 11) x y := by
  have h := hI.2.2.2.2.2.2.2.2.2 h15 x y (by rw [e6]; exact hx) (by rw [e6]; exact hy)
  rw [e94, e95, e11] at h
  refine qd9_of h ?_
  unfold qTb
  rw [show x * 32 + y = 32 * x + y by omega]
  exact hv

set_option maxHeartbeats 4000000 in
set_option maxRecDepth 20000 in
/-- OneRoofModel.stepsTo -/
theorem sf_187_86x {L : Nat} {xs : Nat → Int} {vb : Bool} {d : Nat} {σ α : Nat → Nat → Int} {κ : Nat → Option Nat} {ρ : Nat} {x1 : Int} {x2 : Int} (hI : qI σ α κ ρ) (r1 : 0 ≤ x1 ∧ x1 ≤ 31) (r2 : 0 ≤ x2 ∧ x2 ≤ 31) (p0 : x1 < σ 86 6 ∧ x2 < σ 86 6) : qm_T (qe L xs vb) (d + 3) 187 [.ref 86, .int (qz x1), .int (qz x2)] (qw σ α κ ρ) (fun r w' => ∃ σ' α', w' = qw σ' α' κ ρ ∧ qI σ' α' κ ρ ∧ qFr [(86, 15)] [96] σ α σ' α' ∧ ∃ v : Int, r = some (.int (qz v)) ∧ (0 ≤ v ∧ v ≤ 99) ∧ v = qd9 (α 94) (α 95) (σ 86 11) x1 x2) := by
  refine qr_start (d := d + 2) qv_e187 (Nat.le_of_ble_eq_true rfl) ?_
  show qr_W (qe L xs vb) (d + 2) qx_e187 _ (0, [(0, .ref 86), (1, .int (qz x1)), (2, .int (qz x2))], [], _, 0, 0)
  have hF0 := qFr_rf [(86, 15)] [96] σ α
  have hz86_6 : 0 ≤ σ 86 6 ∧ σ 86 6 ≤ 32 := hI.1 86 6
  have hz86_15 : 0 ≤ σ 86 15 ∧ σ 86 15 ≤ 1 := hI.1 86 15
  refine qr_aload_n 1 rfl rfl rfl ?_
  refine qr_get 4 rfl rfl rfl (by decide) rfl ?_
  refine qr_if_ne 11 7 rfl rfl rfl (by omega) (fun h1 => ?_) (fun h1 => ?_)
  · skip
    refine qr_aload_n 12 rfl rfl rfl ?_
    refine qr_get 15 rfl rfl rfl (by decide) rfl ?_
    refine qr_bipush 17 rfl (by decide) rfl ?_
    refine qr_iload_n 18 rfl rfl rfl ?_
    refine qr_imul 19 rfl rfl ?_
    refine qr_iload_n 20 rfl rfl rfl ?_
    refine qr_iadd 21 rfl rfl ?_
    refine qr_iaload 22 rfl rfl (by omega) (by decide) rfl ?_
    refine qr_topI (fun v2 hv2 => ?_)
    have hs3 : 0 ≤ v2 ∧ v2 ≤ 99 := by rw [hv2]; exact hI.2.1 96 _ (show _ < 1024 by omega)
    refine qr_istore_n _ 23 rfl (by decide) rfl rfl ?_
    refine qr_iload_n 24 rfl rfl rfl ?_
    refine qr_bipush 26 rfl (by decide) rfl ?_
    refine qr_icmp_le 34 29 rfl rfl rfl (by omega) (by omega) (fun h4 => ?_) (fun h4 => ?_)
    · skip
      refine qr_iload_n 35 rfl rfl rfl ?_
      refine qr_retI rfl rfl (by decide) (by decide) ?_
      exact ⟨_, _, rfl, hI, hF0, v2, rfl, by omega, (qst_of hI (by have hw : σ 86 15 = (σ 86 15) := rfl; omega) (hF0.2 94 (by decide)) (hF0.2 95 (by decide)) (hF0.1 86 11 (by decide)) (hF0.1 86 6 (by decide)) (by omega) (by omega) (by rw [← hv2]; omega))⟩
    · skip
      refine qr_bipush 31 rfl (by decide) rfl ?_
      refine qr_goto 35 rfl rfl ?_
      refine qr_retI rfl rfl (by decide) (by decide) ?_
      exact ⟨_, _, rfl, hI, hF0, 99, rfl, by omega, (qst_of hI (by have hw : σ 86 15 = (σ 86 15) := rfl; omega) (hF0.2 94 (by decide)) (hF0.2 95 (by decide)) (hF0.1 86 11 (by decide)) (hF0.1 86 6 (by decide)) (by omega) (by omega) (by rw [← hv2]; omega))⟩
  · skip
    refine qr_aload_n 8 rfl rfl rfl ?_
    have hs5 : 0 ≤ σ 86 15 ∧ σ 86 15 ≤ 1 := hI.1 86 15
    refine qr_callN 11 rfl rfl rfl (sf_188_86 (d := d + 0) hI (by omega)) ?_
    rintro _ _ ⟨σ7, α8, rfl, hI9, hG10, hw6, rfl⟩
    have hF11 : qFr [(86, 15)] [96] σ α σ7 α8 := qFr_t hF0 hG10 (by decide) (by decide)
    have hs12 : 0 ≤ σ7 86 15 ∧ σ7 86 15 ≤ 1 := hI9.1 86 15
    show qr_W (qe L xs vb) (d + 2) qx_e187 _ (11, _, [], qw σ7 α8 κ ρ, 0, 0)
    refine qr_aload_n 12 rfl rfl rfl ?_
    refine qr_get 15 rfl rfl rfl (by decide) rfl ?_
    refine qr_bipush 17 rfl (by decide) rfl ?_
    refine qr_iload_n 18 rfl rfl rfl ?_
    refine qr_imul 19 rfl rfl ?_
    refine qr_iload_n 20 rfl rfl rfl ?_
    refine qr_iadd 21 rfl rfl ?_
    refine qr_iaload 22 rfl rfl (by omega) (by decide) rfl ?_
    refine qr_topI (fun v13 hv13 => ?_)
    have hs14 : 0 ≤ v13 ∧ v13 ≤ 99 := by rw [hv13]; exact hI9.2.1 96 _ (show _ < 1024 by omega)
    refine qr_istore_n _ 23 rfl (by decide) rfl rfl ?_
    refine qr_iload_n 24 rfl rfl rfl ?_
    refine qr_bipush 26 rfl (by decide) rfl ?_
    refine qr_icmp_le 34 29 rfl rfl rfl (by omega) (by omega) (fun h15 => ?_) (fun h15 => ?_)
    · skip
      refine qr_iload_n 35 rfl rfl rfl ?_
      refine qr_retI rfl rfl (by decide) (by decide) ?_
      exact ⟨_, _, rfl, hI9, hF11, v13, rfl, by omega, (qst_of hI9 (by have hw : σ7 86 15 = (σ7 86 15) := rfl; omega) (hF11.2 94 (by decide)) (hF11.2 95 (by decide)) (hF11.1 86 11 (by decide)) (hF11.1 86 6 (by decide)) (by omega) (by omega) (by rw [← hv13]; omega))⟩
    · skip
      refine qr_bipush 31 rfl (by decide) rfl ?_
      refine qr_goto 35 rfl rfl ?_
      refine qr_retI rfl rfl (by decide) (by decide) ?_
      exact ⟨_, _, rfl, hI9, hF11, 99, rfl, by omega, (qst_of hI9 (by have hw : σ7 86 15 = (σ7 86 15) := rfl; omega) (hF11.2 94 (by decide)) (hF11.2 95 (by decide)) (hF11.1 86 11 (by decide)) (hF11.1 86 6 (by decide)) (by omega) (by omega) (by rw [← hv13]; omega))⟩

set_option maxHeartbeats 4000000 in
set_option maxRecDepth 20000 in
/-- OneRoof.steps -/
theorem sf_59_16x {L : Nat} {xs : Nat → Int} {vb : Bool} {d : Nat} {σ α : Nat → Nat → Int} {κ : Nat → Option Nat} {ρ : Nat} {x1 : Int} {x2 : Int} (hI : qI σ α κ ρ) (r1 : (-2147483648) ≤ x1 ∧ x1 ≤ 2147483647) (r2 : (-2147483648) ≤ x2 ∧ x2 ≤ 2147483647) : qm_T (qe L xs vb) (d + 2) 59 [.ref 16, .int (qz x1), .int (qz x2)] (qw σ α κ ρ) (fun r w' => w' = qw σ α κ ρ ∧ ∃ v : Int, r = some (.int (qz v)) ∧ ((-2147483648) ≤ v ∧ v ≤ 2147483647) ∧ ((v = -1 ∧ ¬ (0 ≤ x1 ∧ x1 < σ 17 6 ∧ 0 ≤ x2 ∧ x2 < σ 17 6)) ∨ ((0 ≤ x1 ∧ x1 < σ 17 6 ∧ 0 ≤ x2 ∧ x2 < σ 17 6) ∧ ((9 < α 24 (x1 * 32 + x2 : Int).toNat ∧ v = -2) ∨ (α 24 (x1 * 32 + x2 : Int).toNat ≤ 9 ∧ v = α 24 (x1 * 32 + x2 : Int).toNat))))) := by
  refine qr_start (d := d + 1) qv_e59 (Nat.le_of_ble_eq_true rfl) ?_
  show qr_W (qe L xs vb) (d + 1) qx_e59 _ (0, [(0, .ref 16), (1, .int (qz x1)), (2, .int (qz x2))], [], _, 0, 0)
  have hz17_6 : 0 ≤ σ 17 6 ∧ σ 17 6 ≤ 32 := hI.1 17 6
  refine qr_aload_n 1 rfl rfl rfl ?_
  refine qr_get 4 rfl rfl rfl (by decide) rfl ?_
  refine qr_iload_n 5 rfl rfl rfl ?_
  refine qr_callN 8 rfl rfl rfl (sf_40_17 (d := d + 0) hI (by omega)) ?_
  have hs3 : 0 ≤ σ 17 6 ∧ σ 17 6 ≤ 32 := hI.1 17 6
  rintro _ _ ⟨rfl, v1, rfl, hv1, hp2⟩
  show qr_W (qe L xs vb) (d + 1) qx_e59 _ (8, _, [.int (qz v1)], qw σ α κ ρ, 0, 0)
  refine qr_if_eq 22 11 rfl rfl rfl (by omega) (fun h4 => ?_) (fun h4 => ?_)
  · skip
    refine qr_iconst 23 rfl rfl ?_
    refine qr_retI rfl rfl (by decide) (by decide) ?_
    exact ⟨rfl, (-1), rfl, by omega, by omega⟩
  · skip
    refine qr_aload_n 12 rfl rfl rfl ?_
    refine qr_get 15 rfl rfl rfl (by decide) rfl ?_
    refine qr_iload_n 16 rfl rfl rfl ?_
    refine qr_callN 19 rfl rfl rfl (sf_40_17 (d := d + 0) hI (by omega)) ?_
    have hs7 : 0 ≤ σ 17 6 ∧ σ 17 6 ≤ 32 := hI.1 17 6
    rintro _ _ ⟨rfl, v5, rfl, hv5, hp6⟩
    show qr_W (qe L xs vb) (d + 1) qx_e59 _ (19, _, [.int (qz v5)], qw σ α κ ρ, 0, 0)
    refine qr_if_ne 24 22 rfl rfl rfl (by omega) (fun h8 => ?_) (fun h8 => ?_)
    · skip
      refine qr_aload_n 25 rfl rfl rfl ?_
      refine qr_get 28 rfl rfl rfl (by decide) rfl ?_
      refine qr_iload_n 29 rfl rfl rfl ?_
      refine qr_iload_n 30 rfl rfl rfl ?_
      refine qr_callN 33 rfl rfl rfl (sf_57_23x (d := d + 0) hI (by omega) (by omega)) ?_
      rintro _ _ ⟨rfl, v9, rfl, hv9, hp10⟩
      show qr_W (qe L xs vb) (d + 1) qx_e59 _ (33, _, [.int (qz v9)], qw σ α κ ρ, 0, 0)
      refine qr_istore_n _ 34 rfl (by decide) rfl rfl ?_
      refine qr_iload_n 35 rfl rfl rfl ?_
      refine qr_bipush 37 rfl (by decide) rfl ?_
      refine qr_icmp_le 45 40 rfl rfl rfl (by omega) (by omega) (fun h11 => ?_) (fun h11 => ?_)
      · skip
        refine qr_iload_n 46 rfl rfl rfl ?_
        refine qr_retI rfl rfl (by decide) (by decide) ?_
        exact ⟨rfl, v9, rfl, by omega, by omega⟩
      · skip
        refine qr_bipush 42 rfl (by decide) rfl ?_
        refine qr_goto 46 rfl rfl ?_
        refine qr_retI rfl rfl (by decide) (by decide) ?_
        exact ⟨rfl, (-2), rfl, by omega, by omega⟩
    · skip
      refine qr_iconst 23 rfl rfl ?_
      refine qr_retI rfl rfl (by decide) (by decide) ?_
      exact ⟨rfl, (-1), rfl, by omega, by omega⟩

set_option maxHeartbeats 4000000 in
set_option maxRecDepth 20000 in
/-- OneRoofModel.steps -/
theorem sf_186_86x {L : Nat} {xs : Nat → Int} {vb : Bool} {d : Nat} {σ α : Nat → Nat → Int} {κ : Nat → Option Nat} {ρ : Nat} {x1 : Int} {x2 : Int} (hI : qI σ α κ ρ) (r1 : (-2147483648) ≤ x1 ∧ x1 ≤ 2147483647) (r2 : (-2147483648) ≤ x2 ∧ x2 ≤ 2147483647) : qm_T (qe L xs vb) (d + 4) 186 [.ref 86, .int (qz x1), .int (qz x2)] (qw σ α κ ρ) (fun r w' => ∃ σ' α', w' = qw σ' α' κ ρ ∧ qI σ' α' κ ρ ∧ qFr [(86, 15)] [96] σ α σ' α' ∧ ∃ v : Int, r = some (.int (qz v)) ∧ ((-2147483648) ≤ v ∧ v ≤ 2147483647) ∧ ((v = -1 ∧ ¬ (0 ≤ x1 ∧ x1 < σ 86 6 ∧ 0 ≤ x2 ∧ x2 < σ 86 6)) ∨ ((0 ≤ x1 ∧ x1 < σ 86 6 ∧ 0 ≤ x2 ∧ x2 < σ 86 6) ∧ ((qd9 (α 94) (α 95) (σ 86 11) x1 x2 = 99 ∧ v = -2) ∨ (qd9 (α 94) (α 95) (σ 86 11) x1 x2 ≤ 9 ∧ v = qd9 (α 94) (α 95) (σ 86 11) x1 x2))))) := by
  refine qr_start (d := d + 3) qv_e186 (Nat.le_of_ble_eq_true rfl) ?_
  show qr_W (qe L xs vb) (d + 3) qx_e186 _ (0, [(0, .ref 86), (1, .int (qz x1)), (2, .int (qz x2))], [], _, 0, 0)
  have hF0 := qFr_rf [(86, 15)] [96] σ α
  have hz86_6 : 0 ≤ σ 86 6 ∧ σ 86 6 ≤ 32 := hI.1 86 6
  have hz86_11 : 0 ≤ σ 86 11 ∧ σ 86 11 ≤ 61 := hI.1 86 11
  refine qr_aload_n 1 rfl rfl rfl ?_
  refine qr_iload_n 2 rfl rfl rfl ?_
  refine qr_callN 5 rfl rfl rfl (sf_180_86 (d := d + 1) hI (by omega)) ?_
  have hs3 : 0 ≤ σ 86 6 ∧ σ 86 6 ≤ 32 := hI.1 86 6
  rintro _ _ ⟨rfl, v1, rfl, hv1, hp2⟩
  show qr_W (qe L xs vb) (d + 3) qx_e186 _ (5, _, [.int (qz v1)], qw σ α κ ρ, 0, 0)
  refine qr_if_eq 16 8 rfl rfl rfl (by omega) (fun h4 => ?_) (fun h4 => ?_)
  · skip
    refine qr_iconst 17 rfl rfl ?_
    refine qr_retI rfl rfl (by decide) (by decide) ?_
    exact ⟨_, _, rfl, hI, hF0, (-1), rfl, by omega, (by omega)⟩
  · skip
    refine qr_aload_n 9 rfl rfl rfl ?_
    refine qr_iload_n 10 rfl rfl rfl ?_
    refine qr_callN 13 rfl rfl rfl (sf_180_86 (d := d + 1) hI (by omega)) ?_
    have hs7 : 0 ≤ σ 86 6 ∧ σ 86 6 ≤ 32 := hI.1 86 6
    rintro _ _ ⟨rfl, v5, rfl, hv5, hp6⟩
    show qr_W (qe L xs vb) (d + 3) qx_e186 _ (13, _, [.int (qz v5)], qw σ α κ ρ, 0, 0)
    refine qr_if_ne 18 16 rfl rfl rfl (by omega) (fun h8 => ?_) (fun h8 => ?_)
    · skip
      refine qr_aload_n 19 rfl rfl rfl ?_
      refine qr_iload_n 20 rfl rfl rfl ?_
      refine qr_iload_n 21 rfl rfl rfl ?_
      have hs9 : 0 ≤ σ 86 6 ∧ σ 86 6 ≤ 32 := hI.1 86 6
      refine qr_callN 24 rfl rfl rfl (sf_187_86x (d := d + 0) hI (by omega) (by omega) (by omega)) ?_
      rintro _ _ ⟨σ12, α13, rfl, hI14, hG15, v10, rfl, hv10, hx11⟩
      have hF16 : qFr [(86, 15)] [96] σ α σ12 α13 := qFr_t hF0 hG15 (by decide) (by decide)
      show qr_W (qe L xs vb) (d + 3) qx_e186 _ (24, _, [.int (qz v10)], qw σ12 α13 κ ρ, 0, 0)
      refine qr_istore_n _ 25 rfl (by decide) rfl rfl ?_
      refine qr_iload_n 26 rfl rfl rfl ?_
      refine qr_bipush 28 rfl (by decide) rfl ?_
      refine qr_icmp_ne 36 31 rfl rfl rfl (by omega) (by omega) (fun h17 => ?_) (fun h17 => ?_)
      · skip
        refine qr_iload_n 37 rfl rfl rfl ?_
        refine qr_retI rfl rfl (by decide) (by decide) ?_
        exact ⟨_, _, rfl, hI14, hF16, v10, rfl, by omega, (by have hq := hx11; have hr := qd9_r (α 94) (α 95) (σ 86 11) x1 x2; omega)⟩
      · skip
        refine qr_bipush 33 rfl (by decide) rfl ?_
        refine qr_goto 37 rfl rfl ?_
        refine qr_retI rfl rfl (by decide) (by decide) ?_
        exact ⟨_, _, rfl, hI14, hF16, (-2), rfl, by omega, (by have hq := hx11; have hr := qd9_r (α 94) (α 95) (σ 86 11) x1 x2; omega)⟩
    · skip
      refine qr_iconst 17 rfl rfl ?_
      refine qr_retI rfl rfl (by decide) (by decide) ?_
      exact ⟨_, _, rfl, hI, hF0, (-1), rfl, by omega, (by omega)⟩
