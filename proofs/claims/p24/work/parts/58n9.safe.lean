section
/-! the reference's customs, safe: out of the exact contract -/
theorem sf_213_86 {L : Nat} {xs : Nat → Int} {vb : Bool} {d : Nat} {σ α : Nat → Nat → Int} {κ : Nat → Option Nat} {ρ : Nat} {x1 : Int} {x2 : Int} (hI : qI σ α κ ρ) (r1 : (-1) ≤ x1 ∧ x1 ≤ 120) (r2 : 0 ≤ x2 ∧ x2 ≤ 120) : qm_T (qe L xs vb) (d + 45) 213 [.ref 86, .int (qz x1), .int (qz x2)] (qw σ α κ ρ) (fun r w' => ∃ σ', w' = qw σ' α κ ρ ∧ qI σ' α κ ρ ∧ qFr [(86, 35), (86, 36), (86, 37), (86, 38), (86, 39)] [] σ α σ' α ∧ ∃ v : Int, r = some (.int (qz v)) ∧ ((-2147483648) ≤ v ∧ v ≤ 2147483647)) := by
  refine qr_mono (sf_213_86x (d := d) hI r1 r2) ?_
  rintro r w' ⟨σ', h1, h2, h3, v, h4, h5, h6, h7⟩
  exact ⟨σ', h1, h2, h3, v, h4, h5⟩

set_option maxHeartbeats 4000000 in
set_option maxRecDepth 20000 in
/-- OneRoofModel.gives -/
theorem sf_228_86 {L : Nat} {xs : Nat → Int} {vb : Bool} {d : Nat} {σ α : Nat → Nat → Int} {κ : Nat → Option Nat} {ρ : Nat} {x1 : Int} {x2 : Int} {x3 : Int} {x4 : Int} {x5 : Int} {x6 : Int} (hI : qI σ α κ ρ) (r1 : 0 ≤ x1 ∧ x1 ≤ 1) (r2 : 0 ≤ x2 ∧ x2 ≤ 31) (r3 : 0 ≤ x3 ∧ x3 ≤ 31) (r4 : (-1) ≤ x4 ∧ x4 ≤ 31) (r5 : (-9223372036854775808) ≤ x5 ∧ x5 ≤ 9223372036854775807) (r6 : (-2147483648) ≤ x6 ∧ x6 ≤ 2147483647) (p0 : 1 ≤ σ 86 6) : qm_T (qe L xs vb) (d + 46) 228 [.ref 86, .int (qz x1), .int (qz x2), .int (qz x3), .int (qz x4), .long (ql x5), .int (qz x6)] (qw σ α κ ρ) (fun r w' => ∃ σ' α', w' = qw σ' α' κ ρ ∧ qI σ' α' κ ρ ∧ qFr [(86, 15), (86, 23), (86, 30), (86, 35), (86, 36), (86, 37), (86, 38), (86, 39)] [96, 109] σ α σ' α' ∧ ∃ v : Int, r = some (.int (qz v)) ∧ ((-2147483648) ≤ v ∧ v ≤ 2147483647)) := by
  refine qr_start (d := d + 45) qv_e228 (Nat.le_of_ble_eq_true rfl) ?_
  show qr_W (qe L xs vb) (d + 45) qx_e228 _ (0, [(0, .ref 86), (1, .int (qz x1)), (2, .int (qz x2)), (3, .int (qz x3)), (4, .int (qz x4)), (5, .long (ql x5)), (7, .int (qz x6))], [], _, 0, 0)
  have hF0 := qFr_rf [(86, 15), (86, 23), (86, 30), (86, 35), (86, 36), (86, 37), (86, 38), (86, 39)] [96, 109] σ α
  have hz86_6 : 0 ≤ σ 86 6 ∧ σ 86 6 ≤ 32 := hI.1 86 6
  refine qr_aload_n 1 rfl rfl rfl ?_
  refine qr_iload_n 2 rfl rfl rfl ?_
  refine qr_iload_n 3 rfl rfl rfl ?_
  refine qr_iload 5 rfl rfl rfl ?_
  refine qr_callN 8 rfl rfl rfl (sf_195_86 (d := d + 40) hI r2 r3 r6) ?_
  rintro _ _ ⟨σ2, α3, rfl, hI4, hG5, v1, rfl, hv1⟩
  have hF6 : qFr [(86, 15), (86, 23), (86, 30), (86, 35), (86, 36), (86, 37), (86, 38), (86, 39)] [96, 109] σ α σ2 α3 := qFr_t hF0 hG5 (by decide) (by decide)
  show qr_W (qe L xs vb) (d + 45) qx_e228 _ (8, _, [.int (qz v1)], qw σ2 α3 κ ρ, 0, 0)
  refine qr_istore _ 10 rfl (by decide) rfl rfl ?_
  refine qr_aload_n 11 rfl rfl rfl ?_
  refine qr_get 14 rfl rfl rfl (by decide) rfl ?_
  refine qr_iconst 15 rfl rfl ?_
  refine qr_iload 17 rfl rfl rfl ?_
  refine qr_bipush 19 rfl (by decide) rfl ?_
  have hJ17 : ∀ (ls : qm_L) (u15 : Int), qm_get ls 0 = some (.ref 86) → qm_get ls 1 = some (.int (qz x1)) → qm_get ls 2 = some (.int (qz x2)) → qm_get ls 3 = some (.int (qz x3)) → qm_get ls 4 = some (.int (qz x4)) → qm_get ls 5 = some (.long (ql x5)) → qm_get ls 7 = some (.int (qz x6)) → qm_get ls 8 = some (.int (qz v1)) → (0 ≤ u15 ∧ u15 ≤ 1) → qr_W (qe L xs vb) (d + 45) qx_e228 (fun r w' => ∃ σ' α', w' = qw σ' α' κ ρ ∧ qI σ' α' κ ρ ∧ qFr [(86, 15), (86, 23), (86, 30), (86, 35), (86, 36), (86, 37), (86, 38), (86, 39)] [96, 109] σ α σ' α' ∧ ∃ v : Int, r = some (.int (qz v)) ∧ ((-2147483648) ≤ v ∧ v ≤ 2147483647)) (27, ls, [.int (qz u15), .int (qz 0), .ref 109], qw σ2 α3 κ ρ, 0, 0) := by
    intro ls u15 g7 g8 g9 g10 g11 g12 g13 g14 hf16
    refine qr_iastore 28 rfl (by decide) rfl (by decide) (by decide) rfl ?_
    refine qy_wA (qw_r α3 109 (qzu (α3 109) (0 : Int).toNat u15)) rfl (fun α18 e19 => ?_)
    have hI20 : qI σ2 α18 κ ρ := by rw [e19]; exact qI_r hI4 109 _ rfl (show (-2147483648) ≤ u15 ∧ u15 ≤ 2147483647 by omega)
    have hF21 : qFr [(86, 15), (86, 23), (86, 30), (86, 35), (86, 36), (86, 37), (86, 38), (86, 39)] [96, 109] σ α σ2 α18 := by rw [e19]; exact qFr_r hF6 109 _ (by decide)
    refine qr_aload_n 29 rfl g7 rfl ?_
    refine qr_get 32 rfl rfl rfl (by decide) rfl ?_
    refine qr_iconst 33 rfl rfl ?_
    refine qr_iload 35 rfl g14 rfl ?_
    refine qr_bipush 37 rfl (by decide) rfl ?_
    have hJ31 : ∀ (ls : qm_L) (u29 : Int), qm_get ls 0 = some (.ref 86) → qm_get ls 1 = some (.int (qz x1)) → qm_get ls 2 = some (.int (qz x2)) → qm_get ls 3 = some (.int (qz x3)) → qm_get ls 4 = some (.int (qz x4)) → qm_get ls 5 = some (.long (ql x5)) → qm_get ls 7 = some (.int (qz x6)) → ((-2147483648) ≤ u29 ∧ u29 ≤ 2147483647) → qr_W (qe L xs vb) (d + 45) qx_e228 (fun r w' => ∃ σ' α', w' = qw σ' α' κ ρ ∧ qI σ' α' κ ρ ∧ qFr [(86, 15), (86, 23), (86, 30), (86, 35), (86, 36), (86, 37), (86, 38), (86, 39)] [96, 109] σ α σ' α' ∧ ∃ v : Int, r = some (.int (qz v)) ∧ ((-2147483648) ≤ v ∧ v ≤ 2147483647)) (47, ls, [.int (qz u29), .int (qz 1), .ref 109], qw σ2 α18 κ ρ, 0, 0) := by
      intro ls u29 g22 g23 g24 g25 g26 g27 g28 hf30
      refine qr_iastore 48 rfl (by decide) rfl (by decide) (by decide) rfl ?_
      refine qy_wA (qw_r α18 109 (qzu (α18 109) (1 : Int).toNat u29)) rfl (fun α32 e33 => ?_)
      have hI34 : qI σ2 α32 κ ρ := by rw [e33]; exact qI_r hI20 109 _ rfl (show (-2147483648) ≤ u29 ∧ u29 ≤ 2147483647 by omega)
      have hF35 : qFr [(86, 15), (86, 23), (86, 30), (86, 35), (86, 36), (86, 37), (86, 38), (86, 39)] [96, 109] σ α σ2 α32 := by rw [e33]; exact qFr_r hF21 109 _ (by decide)
      refine qr_aload_n 49 rfl g22 rfl ?_
      refine qr_get 52 rfl rfl rfl (by decide) rfl ?_
      refine qr_iconst 53 rfl rfl ?_
      refine qr_aload_n 54 rfl g22 rfl ?_
      refine qr_iload_n 55 rfl g24 rfl ?_
      refine qr_iload_n 56 rfl g25 rfl ?_
      refine qr_iload 58 rfl g28 rfl ?_
      have hs36 : 0 ≤ σ2 86 6 ∧ σ2 86 6 ≤ 32 := hI34.1 86 6
      have hs37 : σ2 86 6 = (σ 86 6) := (hG5.1 86 6 (by decide)).trans rfl
      refine qr_callN 61 rfl rfl rfl (sf_209_86 (d := d + 41) hI34 r2 r3 r6 (by omega)) ?_
      rintro _ _ ⟨σ39, rfl, hI40, hG41, v38, rfl, hv38⟩
      have hF42 : qFr [(86, 15), (86, 23), (86, 30), (86, 35), (86, 36), (86, 37), (86, 38), (86, 39)] [96, 109] σ α σ39 α32 := qFr_t hF35 hG41 (by decide) (by decide)
      show qr_W (qe L xs vb) (d + 45) qx_e228 _ (61, _, [.int (qz v38), .int (qz 2), .ref 109], qw σ39 α32 κ ρ, 0, 0)
      refine qr_iastore 62 rfl (by decide) rfl (by decide) (by decide) rfl ?_
      refine qy_wA (qw_r α32 109 (qzu (α32 109) (2 : Int).toNat v38)) rfl (fun α43 e44 => ?_)
      have hI45 : qI σ39 α43 κ ρ := by rw [e44]; exact qI_r hI40 109 _ rfl (show (-2147483648) ≤ v38 ∧ v38 ≤ 2147483647 by omega)
      have hF46 : qFr [(86, 15), (86, 23), (86, 30), (86, 35), (86, 36), (86, 37), (86, 38), (86, 39)] [96, 109] σ α σ39 α43 := by rw [e44]; exact qFr_r hF42 109 _ (by decide)
      refine qr_aload_n 63 rfl g22 rfl ?_
      refine qr_get 66 rfl rfl rfl (by decide) rfl ?_
      refine qr_iconst 67 rfl rfl ?_
      refine qr_aload_n 68 rfl g22 rfl ?_
      refine qr_get 71 rfl rfl rfl (by decide) rfl ?_
      refine qr_iconst 72 rfl rfl ?_
      refine qr_iload_n 73 rfl g24 rfl ?_
      refine qr_iadd 74 rfl rfl ?_
      refine qr_iaload 75 rfl rfl (by omega) (by decide) rfl ?_
      refine qr_topI (fun v47 hv47 => ?_)
      have hs48 : (-2147483648) ≤ v47 ∧ v47 ≤ 2147483647 := by rw [hv47]; exact hI45.2.1 87 _ (show _ < 252 by omega)
      refine qr_iastore 76 rfl (by decide) rfl (by decide) (by decide) rfl ?_
      refine qy_wA (qw_r α43 109 (qzu (α43 109) (3 : Int).toNat v47)) rfl (fun α49 e50 => ?_)
      have hI51 : qI σ39 α49 κ ρ := by rw [e50]; exact qI_r hI45 109 _ rfl (show (-2147483648) ≤ v47 ∧ v47 ≤ 2147483647 by omega)
      have hF52 : qFr [(86, 15), (86, 23), (86, 30), (86, 35), (86, 36), (86, 37), (86, 38), (86, 39)] [96, 109] σ α σ39 α49 := by rw [e50]; exact qFr_r hF46 109 _ (by decide)
      refine qr_aload_n 77 rfl g22 rfl ?_
      refine qr_get 80 rfl rfl rfl (by decide) rfl ?_
      refine qr_iconst 81 rfl rfl ?_
      refine qr_aload_n 82 rfl g22 rfl ?_
      refine qr_get 85 rfl rfl rfl (by decide) rfl ?_
      refine qr_iconst 86 rfl rfl ?_
      refine qr_iload_n 87 rfl g25 rfl ?_
      refine qr_iadd 88 rfl rfl ?_
      refine qr_iaload 89 rfl rfl (by omega) (by decide) rfl ?_
      refine qr_topI (fun v53 hv53 => ?_)
      have hs54 : (-2147483648) ≤ v53 ∧ v53 ≤ 2147483647 := by rw [hv53]; exact hI51.2.1 87 _ (show _ < 252 by omega)
      refine qr_iastore 90 rfl (by decide) rfl (by decide) (by decide) rfl ?_
      refine qy_wA (qw_r α49 109 (qzu (α49 109) (4 : Int).toNat v53)) rfl (fun α55 e56 => ?_)
      have hI57 : qI σ39 α55 κ ρ := by rw [e56]; exact qI_r hI51 109 _ rfl (show (-2147483648) ≤ v53 ∧ v53 ≤ 2147483647 by omega)
      have hF58 : qFr [(86, 15), (86, 23), (86, 30), (86, 35), (86, 36), (86, 37), (86, 38), (86, 39)] [96, 109] σ α σ39 α55 := by rw [e56]; exact qFr_r hF52 109 _ (by decide)
      refine qr_aload_n 91 rfl g22 rfl ?_
      refine qr_get 94 rfl rfl rfl (by decide) rfl ?_
      refine qr_iconst 95 rfl rfl ?_
      refine qr_aload_n 96 rfl g22 rfl ?_
      refine qr_iload_n 97 rfl g25 rfl ?_
      refine qr_iload_n 98 rfl g24 rfl ?_
      have hs59 : 0 ≤ σ39 86 6 ∧ σ39 86 6 ≤ 32 := hI57.1 86 6
      have hs60 : σ39 86 6 = (σ 86 6) := (hG41.1 86 6 (by decide)).trans ((hG5.1 86 6 (by decide)).trans rfl)
      refine qr_callN 101 rfl rfl rfl (sf_207_86 (d := d + 44) hI57 (qrg r3 (by decide) (by decide)) r2 (by omega)) ?_
      rintro _ _ ⟨rfl, v61, rfl, hv61⟩
      show qr_W (qe L xs vb) (d + 45) qx_e228 _ (101, _, [.int (qz v61), .int (qz 5), .ref 109], qw σ39 α55 κ ρ, 0, 0)
      have hJ70 : ∀ (ls : qm_L) (u68 : Int), qm_get ls 0 = some (.ref 86) → qm_get ls 1 = some (.int (qz x1)) → qm_get ls 2 = some (.int (qz x2)) → qm_get ls 3 = some (.int (qz x3)) → qm_get ls 4 = some (.int (qz x4)) → qm_get ls 5 = some (.long (ql x5)) → (0 ≤ u68 ∧ u68 ≤ 1) → qr_W (qe L xs vb) (d + 45) qx_e228 (fun r w' => ∃ σ' α', w' = qw σ' α' κ ρ ∧ qI σ' α' κ ρ ∧ qFr [(86, 15), (86, 23), (86, 30), (86, 35), (86, 36), (86, 37), (86, 38), (86, 39)] [96, 109] σ α σ' α' ∧ ∃ v : Int, r = some (.int (qz v)) ∧ ((-2147483648) ≤ v ∧ v ≤ 2147483647)) (109, ls, [.int (qz u68), .int (qz 5), .ref 109], qw σ39 α55 κ ρ, 0, 0) := by
        intro ls u68 g62 g63 g64 g65 g66 g67 hf69
        refine qr_iastore 110 rfl (by decide) rfl (by decide) (by decide) rfl ?_
        refine qy_wA (qw_r α55 109 (qzu (α55 109) (5 : Int).toNat u68)) rfl (fun α71 e72 => ?_)
        have hI73 : qI σ39 α71 κ ρ := by rw [e72]; exact qI_r hI57 109 _ rfl (show (-2147483648) ≤ u68 ∧ u68 ≤ 2147483647 by omega)
        have hF74 : qFr [(86, 15), (86, 23), (86, 30), (86, 35), (86, 36), (86, 37), (86, 38), (86, 39)] [96, 109] σ α σ39 α71 := by rw [e72]; exact qFr_r hF58 109 _ (by decide)
        refine qr_aload_n 111 rfl g62 rfl ?_
        refine qr_get 114 rfl rfl rfl (by decide) rfl ?_
        refine qr_bipush 116 rfl (by decide) rfl ?_
        refine qr_aload_n 117 rfl g62 rfl ?_
        refine qr_iload_n 118 rfl g64 rfl ?_
        refine qr_iload_n 119 rfl g65 rfl ?_
        refine qr_callN 122 rfl rfl rfl (sf_187_86 (d := d + 42) hI73 r2 r3) ?_
        rintro _ _ ⟨σ78, α79, rfl, hI80, hG81, hw77, v75, rfl, hv75, hp76⟩
        have hF82 : qFr [(86, 15), (86, 23), (86, 30), (86, 35), (86, 36), (86, 37), (86, 38), (86, 39)] [96, 109] σ α σ78 α79 := qFr_t hF74 hG81 (by decide) (by decide)
        have hs83 : 0 ≤ σ78 86 15 ∧ σ78 86 15 ≤ 1 := hI80.1 86 15
        show qr_W (qe L xs vb) (d + 45) qx_e228 _ (122, _, [.int (qz v75), .int (qz 6), .ref 109], qw σ78 α79 κ ρ, 0, 0)
        refine qr_bipush 124 rfl (by decide) rfl ?_
        have hJ105 : ∀ (ls : qm_L) (u98 : Int) (σ99 α100 : Nat → Nat → Int), qm_get ls 0 = some (.ref 86) → qm_get ls 1 = some (.int (qz x1)) → qm_get ls 2 = some (.int (qz x2)) → qm_get ls 4 = some (.int (qz x4)) → qm_get ls 5 = some (.long (ql x5)) → (0 ≤ u98 ∧ u98 ≤ 99) → qI σ99 α100 κ ρ → qFr [(86, 15), (86, 23), (86, 30), (86, 35), (86, 36), (86, 37), (86, 38), (86, 39)] [96, 109] σ α σ99 α100 → σ99 86 6 = (σ 86 6) → qr_W (qe L xs vb) (d + 45) qx_e228 (fun r w' => ∃ σ' α', w' = qw σ' α' κ ρ ∧ qI σ' α' κ ρ ∧ qFr [(86, 15), (86, 23), (86, 30), (86, 35), (86, 36), (86, 37), (86, 38), (86, 39)] [96, 109] σ α σ' α' ∧ ∃ v : Int, r = some (.int (qz v)) ∧ ((-2147483648) ≤ v ∧ v ≤ 2147483647)) (138, ls, [.int (qz u98), .int (qz 6), .ref 109], qw σ99 α100 κ ρ, 0, 0) := by
          intro ls u98 σ99 α100 g93 g94 g95 g96 g97 hf104 hI101 hF102 hk103
          refine qr_iastore 139 rfl (by decide) rfl (by decide) (by decide) rfl ?_
          refine qy_wA (qw_r α100 109 (qzu (α100 109) (6 : Int).toNat u98)) rfl (fun α106 e107 => ?_)
          have hI108 : qI σ99 α106 κ ρ := by rw [e107]; exact qI_r hI101 109 _ rfl (show (-2147483648) ≤ u98 ∧ u98 ≤ 2147483647 by omega)
          have hF109 : qFr [(86, 15), (86, 23), (86, 30), (86, 35), (86, 36), (86, 37), (86, 38), (86, 39)] [96, 109] σ α σ99 α106 := by rw [e107]; exact qFr_r hF102 109 _ (by decide)
          refine qr_aload_n 140 rfl g93 rfl ?_
          refine qr_get 143 rfl rfl rfl (by decide) rfl ?_
          refine qr_bipush 145 rfl (by decide) rfl ?_
          refine qr_iconst 146 rfl rfl ?_
          refine qr_iastore 147 rfl (by decide) rfl (by decide) (by decide) rfl ?_
          refine qy_wA (qw_r α106 109 (qzu (α106 109) (7 : Int).toNat 0)) rfl (fun α110 e111 => ?_)
          have hI112 : qI σ99 α110 κ ρ := by rw [e111]; exact qI_r hI108 109 _ rfl (show (-2147483648) ≤ 0 ∧ 0 ≤ 2147483647 by omega)
          have hF113 : qFr [(86, 15), (86, 23), (86, 30), (86, 35), (86, 36), (86, 37), (86, 38), (86, 39)] [96, 109] σ α σ99 α110 := by rw [e111]; exact qFr_r hF109 109 _ (by decide)
          refine qr_iconst 148 rfl rfl ?_
          refine qr_istore _ 150 rfl (by decide) rfl rfl ?_
          have hL3049 : ∀ (n : Nat) (ls : qm_L) (u3043 : Int) (α3045 : Nat → Nat → Int), 32 - u3043 < (n : Int) → qm_get ls 0 = some (.ref 86) → qm_get ls 1 = some (.int (qz x1)) → qm_get ls 2 = some (.int (qz x2)) → qm_get ls 4 = some (.int (qz x4)) → qm_get ls 5 = some (.long (ql x5)) → qm_get ls 9 = some (.int (qz u3043)) → (0 ≤ u3043 ∧ u3043 ≤ 32) → qI σ99 α3045 κ ρ → qFr [(86, 15), (86, 23), (86, 30), (86, 35), (86, 36), (86, 37), (86, 38), (86, 39)] [96, 109] σ α σ99 α3045 → qr_W (qe L xs vb) (d + 45) qx_e228 (fun r w' => ∃ σ' α', w' = qw σ' α' κ ρ ∧ qI σ' α' κ ρ ∧ qFr [(86, 15), (86, 23), (86, 30), (86, 35), (86, 36), (86, 37), (86, 38), (86, 39)] [96, 109] σ α σ' α' ∧ ∃ v : Int, r = some (.int (qz v)) ∧ ((-2147483648) ≤ v ∧ v ≤ 2147483647)) (150, ls, [], qw σ99 α3045 κ ρ, 0, 0) := by
            intro n
            induction n with
            | zero => intro ls u3043 α3045 hm g3037 g3038 g3039 g3040 g3041 g3042 hf3048 hI3046 hF3047; exact False.elim (by omega)
            | succ n ih3050 =>
              intro ls u3043 α3045 hm g3037 g3038 g3039 g3040 g3041 g3042 hf3048 hI3046 hF3047
              refine qr_iload 152 rfl g3042 rfl ?_
              refine qr_aload_n 153 rfl g3037 rfl ?_
              refine qr_get 156 rfl rfl rfl (by decide) rfl ?_
              refine qy_v (σ 86 6) ((hk103).trans rfl) ?_
              refine qr_icmp_ge 251 159 rfl rfl rfl (qrg hf3048 (by decide) (by decide)) (qrg hz86_6 (by decide) (by decide)) (fun h3114 => ?_) (fun h3114 => ?_)
              · skip
                refine qr_aload_n 252 rfl g3037 rfl ?_
                refine qr_get 255 rfl rfl rfl (by decide) rfl ?_
                refine qr_bipush 257 rfl (by decide) rfl ?_
                refine qr_iload 259 rfl g3040 rfl ?_
                have hJ3142 : ∀ (ls : qm_L) (u3135 : Int) (σ3136 α3137 : Nat → Nat → Int), qm_get ls 0 = some (.ref 86) → qm_get ls 1 = some (.int (qz x1)) → (0 ≤ u3135 ∧ u3135 ≤ 99) → qI σ3136 α3137 κ ρ → qFr [(86, 15), (86, 23), (86, 30), (86, 35), (86, 36), (86, 37), (86, 38), (86, 39)] [96, 109] σ α σ3136 α3137 → σ3136 86 6 = (σ 86 6) → qr_W (qe L xs vb) (d + 45) qx_e228 (fun r w' => ∃ σ' α', w' = qw σ' α' κ ρ ∧ qI σ' α' κ ρ ∧ qFr [(86, 15), (86, 23), (86, 30), (86, 35), (86, 36), (86, 37), (86, 38), (86, 39)] [96, 109] σ α σ' α' ∧ ∃ v : Int, r = some (.int (qz v)) ∧ ((-2147483648) ≤ v ∧ v ≤ 2147483647)) (290, ls, [.int (qz u3135), .int (qz 8), .ref 109], qw σ3136 α3137 κ ρ, 0, 0) := by
                  intro ls u3135 σ3136 α3137 g3133 g3134 hf3141 hI3138 hF3139 hk3140
                  refine qr_iastore 291 rfl (by decide) rfl (by decide) (by decide) rfl ?_
                  refine qy_wA (qw_r α3137 109 (qzu (α3137 109) (8 : Int).toNat u3135)) rfl (fun α3143 e3144 => ?_)
                  have hI3145 : qI σ3136 α3143 κ ρ := by rw [e3144]; exact qI_r hI3138 109 _ rfl (show (-2147483648) ≤ u3135 ∧ u3135 ≤ 2147483647 by omega)
                  have hF3146 : qFr [(86, 15), (86, 23), (86, 30), (86, 35), (86, 36), (86, 37), (86, 38), (86, 39)] [96, 109] σ α σ3136 α3143 := by rw [e3144]; exact qFr_r hF3139 109 _ (by decide)
                  refine qr_aload_n 292 rfl g3133 rfl ?_
                  refine qr_get 295 rfl rfl rfl (by decide) rfl ?_
                  refine qr_iload_n 296 rfl g3134 rfl ?_
                  refine qr_iaload 297 rfl rfl (qrgi r1 (by decide) (by decide)) (by decide) rfl ?_
                  refine qr_topI (fun v3147 hv3147 => ?_)
                  have hs3148 : (-1) ≤ v3147 ∧ v3147 ≤ 120 := by rw [hv3147]; exact hI3145.2.1 108 _ (show _ < 2 from qrgt r1 (by decide) (by decide))
                  refine qr_if_lt 315 300 rfl rfl rfl (qrg hs3148 (by decide) (by decide)) (fun h3149 => ?_) (fun h3149 => ?_)
                  · skip
                    refine qr_iload_n 316 rfl g3134 rfl ?_
                    have hJ3160 : ∀ (ls : qm_L) (u3158 : Int), (0 ≤ u3158 ∧ u3158 ≤ 1) → qr_W (qe L xs vb) (d + 45) qx_e228 (fun r w' => ∃ σ' α', w' = qw σ' α' κ ρ ∧ qI σ' α' κ ρ ∧ qFr [(86, 15), (86, 23), (86, 30), (86, 35), (86, 36), (86, 37), (86, 38), (86, 39)] [96, 109] σ α σ' α' ∧ ∃ v : Int, r = some (.int (qz v)) ∧ ((-2147483648) ≤ v ∧ v ≤ 2147483647)) (372, ls, [.int (qz u3158)], qw σ3136 α3143 κ ρ, 0, 0) := by
                      intro ls u3158 hf3159
                      refine qr_istore _ 374 rfl (by decide) rfl rfl ?_
                      refine qr_iload 376 rfl (qm_ge _ _ _) rfl ?_
                      refine qr_if_eq 383 379 rfl rfl rfl (qrg hf3159 (by decide) (by decide)) (fun h3161 => ?_) (fun h3161 => ?_)
                      · skip
                        refine qr_iconst 384 rfl rfl ?_
                        refine qr_retI rfl rfl (by decide) (by decide) ?_
                        exact ⟨_, _, rfl, hI3145, hF3146, 0, rfl, (by decide)⟩
                      · skip
                        refine qr_iconst 380 rfl rfl ?_
                        refine qr_goto 384 rfl rfl ?_
                        refine qr_retI rfl rfl (by decide) (by decide) ?_
                        exact ⟨_, _, rfl, hI3145, hF3146, 1, rfl, (by decide)⟩
                    refine qr_if_ne 346 319 rfl rfl rfl (qrg r1 (by decide) (by decide)) (fun h3162 => ?_) (fun h3162 => ?_)
                    · skip
                      refine qr_aload_n 347 rfl g3133 rfl ?_
                      refine qr_get 350 rfl rfl rfl (by decide) rfl ?_
                      refine qr_bipush 352 rfl (by decide) rfl ?_
                      refine qr_iaload 353 rfl rfl (by decide) (by decide) rfl ?_
                      refine qr_topI (fun v3163 hv3163 => ?_)
                      have hs3164 : (-2147483648) ≤ v3163 ∧ v3163 ≤ 2147483647 := by rw [hv3163]; exact hI3145.2.1 109 _ (show _ < 9 by decide)
                      refine qr_iconst 354 rfl rfl ?_
                      refine qr_icmp_ge 371 357 rfl rfl rfl hs3164 (by decide) (fun h3165 => ?_) (fun h3165 => ?_)
                      · skip
                        refine qr_iconst 372 rfl rfl ?_
                        exact hJ3160 _ 0 (by decide)
                      · skip
                        refine qr_aload_n 358 rfl g3133 rfl ?_
                        refine qr_get 361 rfl rfl rfl (by decide) rfl ?_
                        refine qr_iconst 362 rfl rfl ?_
                        refine qr_iaload 363 rfl rfl (by decide) (by decide) rfl ?_
                        refine qr_topI (fun v3166 hv3166 => ?_)
                        have hs3167 : (-2147483648) ≤ v3166 ∧ v3166 ≤ 2147483647 := by rw [hv3166]; exact hI3145.2.1 109 _ (show _ < 9 by decide)
                        refine qr_iconst 364 rfl rfl ?_
                        refine qr_icmp_ne 371 367 rfl rfl rfl hs3167 (by decide) (fun h3168 => ?_) (fun h3168 => ?_)
                        · skip
                          refine qr_iconst 372 rfl rfl ?_
                          exact hJ3160 _ 0 (by decide)
                        · skip
                          refine qr_iconst 368 rfl rfl ?_
                          refine qr_goto 372 rfl rfl ?_
                          exact hJ3160 _ 1 (by decide)
                    · skip
                      refine qr_aload_n 320 rfl g3133 rfl ?_
                      refine qr_get 323 rfl rfl rfl (by decide) rfl ?_
                      refine qr_iconst 324 rfl rfl ?_
                      refine qr_iaload 325 rfl rfl (by decide) (by decide) rfl ?_
                      refine qr_topI (fun v3169 hv3169 => ?_)
                      have hs3170 : (-2147483648) ≤ v3169 ∧ v3169 ≤ 2147483647 := by rw [hv3169]; exact hI3145.2.1 109 _ (show _ < 9 by decide)
                      refine qr_iconst 326 rfl rfl ?_
                      refine qr_icmp_ne 342 329 rfl rfl rfl hs3170 (by decide) (fun h3171 => ?_) (fun h3171 => ?_)
                      · skip
                        refine qr_iconst 343 rfl rfl ?_
                        refine qr_goto 372 rfl rfl ?_
                        exact hJ3160 _ 0 (by decide)
                      · skip
                        refine qr_aload_n 330 rfl g3133 rfl ?_
                        refine qr_get 333 rfl rfl rfl (by decide) rfl ?_
                        refine qr_iconst 334 rfl rfl ?_
                        refine qr_iaload 335 rfl rfl (by decide) (by decide) rfl ?_
                        refine qr_topI (fun v3172 hv3172 => ?_)
                        have hs3173 : (-2147483648) ≤ v3172 ∧ v3172 ≤ 2147483647 := by rw [hv3172]; exact hI3145.2.1 109 _ (show _ < 9 by decide)
                        refine qr_if_ne 342 338 rfl rfl rfl hs3173 (fun h3174 => ?_) (fun h3174 => ?_)
                        · skip
                          refine qr_iconst 343 rfl rfl ?_
                          refine qr_goto 372 rfl rfl ?_
                          exact hJ3160 _ 0 (by decide)
                        · skip
                          refine qr_iconst 339 rfl rfl ?_
                          refine qr_goto 372 rfl rfl ?_
                          exact hJ3160 _ 1 (by decide)
                  · skip
                    refine qr_aload_n 301 rfl g3133 rfl ?_
                    refine qr_bipush 303 rfl (by decide) rfl ?_
                    refine qr_iload_n 304 rfl g3134 rfl ?_
                    refine qr_imul 305 rfl rfl ?_
                    refine qr_aload_n 306 rfl g3133 rfl ?_
                    refine qr_get 309 rfl rfl rfl (by decide) rfl ?_
                    refine qr_iload_n 310 rfl g3134 rfl ?_
                    refine qr_iaload 311 rfl rfl (qrgi r1 (by decide) (by decide)) (by decide) rfl ?_
                    refine qr_topI (fun v3175 hv3175 => ?_)
                    have hs3176 : (-1) ≤ v3175 ∧ v3175 ≤ 120 := by rw [hv3175]; exact hI3145.2.1 108 _ (show _ < 2 from qrgt r1 (by decide) (by decide))
                    refine qr_callN 314 rfl rfl rfl (sf_213_86 (d := d + 0) hI3145 (by omega) (by omega)) ?_
                    rintro _ _ ⟨σ3178, rfl, hI3179, hG3180, v3177, rfl, hv3177⟩
                    have hF3181 : qFr [(86, 15), (86, 23), (86, 30), (86, 35), (86, 36), (86, 37), (86, 38), (86, 39)] [96, 109] σ α σ3178 α3143 := qFr_t hF3146 hG3180 (by decide) (by decide)
                    show qr_W (qe L xs vb) (d + 45) qx_e228 _ (314, _, [.int (qz v3177)], qw σ3178 α3143 κ ρ, 0, 0)
                    refine qr_retI rfl rfl (by decide) (by decide) ?_
                    exact ⟨_, _, rfl, hI3179, hF3181, v3177, rfl, hv3177⟩
                refine qr_if_ge 266 262 rfl rfl rfl (qrg r4 (by decide) (by decide)) (fun h3182 => ?_) (fun h3182 => ?_)
                · skip
                  refine qr_aload_n 267 rfl g3037 rfl ?_
                  refine qr_iload_n 268 rfl g3039 rfl ?_
                  refine qr_iload 270 rfl g3040 rfl ?_
                  refine qr_callN 273 rfl rfl rfl (sf_187_86 (d := d + 42) hI3046 r2 (by omega)) ?_
                  rintro _ _ ⟨σ3186, α3187, rfl, hI3188, hG3189, hw3185, v3183, rfl, hv3183, hp3184⟩
                  have hF3190 : qFr [(86, 15), (86, 23), (86, 30), (86, 35), (86, 36), (86, 37), (86, 38), (86, 39)] [96, 109] σ α σ3186 α3187 := qFr_t hF3047 hG3189 (by decide) (by decide)
                  have hs3191 : 0 ≤ σ3186 86 15 ∧ σ3186 86 15 ≤ 1 := hI3188.1 86 15
                  show qr_W (qe L xs vb) (d + 45) qx_e228 _ (273, _, [.int (qz v3183), .int (qz 8), .ref 109], qw σ3186 α3187 κ ρ, 0, 0)
                  refine qr_bipush 275 rfl (by decide) rfl ?_
                  refine qr_icmp_ne 283 278 rfl rfl rfl (qrg hv3183 (by decide) (by decide)) (by decide) (fun h3192 => ?_) (fun h3192 => ?_)
                  · skip
                    refine qr_aload_n 284 rfl g3037 rfl ?_
                    refine qr_iload_n 285 rfl g3039 rfl ?_
                    refine qr_iload 287 rfl g3040 rfl ?_
                    refine qr_callN 290 rfl rfl rfl (sf_187_86 (d := d + 42) hI3188 r2 (by omega)) ?_
                    rintro _ _ ⟨σ3196, α3197, rfl, hI3198, hG3199, hw3195, v3193, rfl, hv3193, hp3194⟩
                    have hF3200 : qFr [(86, 15), (86, 23), (86, 30), (86, 35), (86, 36), (86, 37), (86, 38), (86, 39)] [96, 109] σ α σ3196 α3197 := qFr_t hF3190 hG3199 (by decide) (by decide)
                    have hs3201 : 0 ≤ σ3196 86 15 ∧ σ3196 86 15 ≤ 1 := hI3198.1 86 15
                    show qr_W (qe L xs vb) (d + 45) qx_e228 _ (290, _, [.int (qz v3193), .int (qz 8), .ref 109], qw σ3196 α3197 κ ρ, 0, 0)
                    exact hJ3142 _ v3193 σ3196 α3197 g3037 g3038 hv3193 hI3198 hF3200 ((hG3199.1 86 6 (by decide)).trans ((hG3189.1 86 6 (by decide)).trans ((hk103).trans rfl)))
                  · skip
                    refine qr_bipush 280 rfl (by decide) rfl ?_
                    refine qr_goto 290 rfl rfl ?_
                    exact hJ3142 _ 9 σ3186 α3187 g3037 g3038 (by decide) hI3188 hF3190 ((hG3189.1 86 6 (by decide)).trans ((hk103).trans rfl))
                · skip
                  refine qr_iconst 263 rfl rfl ?_
                  refine qr_goto 290 rfl rfl ?_
                  exact hJ3142 _ 0 σ99 α3045 g3037 g3038 (by decide) hI3046 hF3047 ((hk103).trans rfl)
              · skip
                refine qr_lload 161 rfl g3041 rfl ?_
                refine qr_iload 163 rfl g3042 rfl ?_
                refine qr_lshr 164 rfl rfl ?_
                refine qy_canl (fun v3202 hv3202 => ?_)
                refine qr_lconst 165 rfl rfl ?_
                refine qy_vl 1 rfl ?_
                refine qr_land 166 rfl rfl ?_
                refine qy_canl (fun v3203 hv3203 => ?_)
                refine qr_lconst 167 rfl rfl ?_
                refine qy_vl 1 rfl ?_
                have hJ3232 : ∀ (ls : qm_L) (u3230 : Int), qm_get ls 0 = some (.ref 86) → qm_get ls 1 = some (.int (qz x1)) → qm_get ls 2 = some (.int (qz x2)) → qm_get ls 4 = some (.int (qz x4)) → qm_get ls 5 = some (.long (ql x5)) → qm_get ls 9 = some (.int (qz u3043)) → (0 ≤ u3230 ∧ u3230 ≤ 1) → qr_W (qe L xs vb) (d + 45) qx_e228 (fun r w' => ∃ σ' α', w' = qw σ' α' κ ρ ∧ qI σ' α' κ ρ ∧ qFr [(86, 15), (86, 23), (86, 30), (86, 35), (86, 36), (86, 37), (86, 38), (86, 39)] [96, 109] σ α σ' α' ∧ ∃ v : Int, r = some (.int (qz v)) ∧ ((-2147483648) ≤ v ∧ v ≤ 2147483647)) (223, ls, [.int (qz u3230)], qw σ99 α3045 κ ρ, 0, 0) := by
                  intro ls u3230 g3224 g3225 g3226 g3227 g3228 g3229 hf3231
                  refine qr_istore _ 225 rfl (by decide) rfl rfl ?_
                  refine qr_aload_n 226 rfl (qm_gk g3224 (by decide) (Or.inl (by decide))) rfl ?_
                  refine qr_get 229 rfl rfl rfl (by decide) rfl ?_
                  refine qr_bipush 231 rfl (by decide) rfl ?_
                  refine qr_dup2 232 rfl rfl rfl rfl ?_
                  refine qr_iaload 233 rfl rfl (by decide) (by decide) rfl ?_
                  refine qr_topI (fun v3233 hv3233 => ?_)
                  have hs3234 : (-2147483648) ≤ v3233 ∧ v3233 ≤ 2147483647 := by rw [hv3233]; exact hI3046.2.1 109 _ (show _ < 9 by decide)
                  refine qr_iload 235 rfl (qm_ge _ _ _) rfl ?_
                  have hJ3243 : ∀ (ls : qm_L) (u3241 : Int), qm_get ls 0 = some (.ref 86) → qm_get ls 1 = some (.int (qz x1)) → qm_get ls 2 = some (.int (qz x2)) → qm_get ls 4 = some (.int (qz x4)) → qm_get ls 5 = some (.long (ql x5)) → qm_get ls 9 = some (.int (qz u3043)) → (0 ≤ u3241 ∧ u3241 ≤ 1) → qr_W (qe L xs vb) (d + 45) qx_e228 (fun r w' => ∃ σ' α', w' = qw σ' α' κ ρ ∧ qI σ' α' κ ρ ∧ qFr [(86, 15), (86, 23), (86, 30), (86, 35), (86, 36), (86, 37), (86, 38), (86, 39)] [96, 109] σ α σ' α' ∧ ∃ v : Int, r = some (.int (qz v)) ∧ ((-2147483648) ≤ v ∧ v ≤ 2147483647)) (243, ls, [.int (qz u3241), .int (qz v3233), .int (qz 7), .ref 109], qw σ99 α3045 κ ρ, 0, 0) := by
                    intro ls u3241 g3235 g3236 g3237 g3238 g3239 g3240 hf3242
                    refine qr_iadd 244 rfl rfl ?_
                    refine qy_can (fun v3244 hv3244 => ?_)
                    refine qr_iastore 245 rfl (by decide) rfl (by decide) (by decide) rfl ?_
                    refine qy_wA (qw_r α3045 109 (qzu (α3045 109) (7 : Int).toNat v3244)) rfl (fun α3245 e3246 => ?_)
                    have hI3247 : qI σ99 α3245 κ ρ := by rw [e3246]; exact qI_r hI3046 109 _ rfl (show (-2147483648) ≤ v3244 ∧ v3244 ≤ 2147483647 by omega)
                    have hF3248 : qFr [(86, 15), (86, 23), (86, 30), (86, 35), (86, 36), (86, 37), (86, 38), (86, 39)] [96, 109] σ α σ99 α3245 := by rw [e3246]; exact qFr_r hF3047 109 _ (by decide)
                    refine qr_iinc _ 248 rfl g3240 (by decide) rfl rfl ?_
                    refine qr_goto 150 rfl rfl ?_
                    exact ih3050 _ (u3043 + 1) α3245 (by omega) (qm_gk g3235 (by decide) (Or.inl (by decide))) (qm_gk g3236 (by decide) (Or.inl (by decide))) (qm_gk g3237 (by decide) (Or.inl (by decide))) (qm_gk g3238 (by decide) (Or.inl (by decide))) (qm_gk g3239 (by decide) (Or.inl (by decide))) (qm_ge _ _ _) (by omega) hI3247 hF3248
                  refine qr_if_eq 242 238 rfl rfl rfl (qrg hf3231 (by decide) (by decide)) (fun h3249 => ?_) (fun h3249 => ?_)
                  · skip
                    refine qr_iconst 243 rfl rfl ?_
                    exact hJ3243 _ 0 (qm_gk g3224 (by decide) (Or.inl (by decide))) (qm_gk g3225 (by decide) (Or.inl (by decide))) (qm_gk g3226 (by decide) (Or.inl (by decide))) (qm_gk g3227 (by decide) (Or.inl (by decide))) (qm_gk g3228 (by decide) (Or.inl (by decide))) (qm_gk g3229 (by decide) (Or.inr rfl)) (by decide)
                  · skip
                    refine qr_iconst 239 rfl rfl ?_
                    refine qr_goto 243 rfl rfl ?_
                    exact hJ3243 _ 1 (qm_gk g3224 (by decide) (Or.inl (by decide))) (qm_gk g3225 (by decide) (Or.inl (by decide))) (qm_gk g3226 (by decide) (Or.inl (by decide))) (qm_gk g3227 (by decide) (Or.inl (by decide))) (qm_gk g3228 (by decide) (Or.inl (by decide))) (qm_gk g3229 (by decide) (Or.inr rfl)) (by decide)
                refine qr_lc_ne 222 171 rfl rfl rfl rfl hv3203 (by decide) (fun h3250 => ?_) (fun h3250 => ?_)
                · skip
                  refine qr_iconst 223 rfl rfl ?_
                  exact hJ3232 _ 0 g3037 g3038 g3039 g3040 g3041 g3042 (by decide)
                · skip
                  refine qr_aload_n 172 rfl g3037 rfl ?_
                  refine qr_get 175 rfl rfl rfl (by decide) rfl ?_
                  have hs3251 : 0 ≤ σ99 86 41 ∧ σ99 86 41 ≤ 1 := hI3046.1 86 41
                  refine qr_if_ne 187 178 rfl rfl rfl (qrg hs3251 (by decide) (by decide)) (fun h3252 => ?_) (fun h3252 => ?_)
                  · skip
                    refine qr_iload 189 rfl g3042 rfl ?_
                    refine qr_iload_n 190 rfl g3039 rfl ?_
                    refine qr_icmp_eq 218 193 rfl rfl rfl (qrg hf3048 (by decide) (by decide)) (qrg r2 (by decide) (by decide)) (fun h3253 => ?_) (fun h3253 => ?_)
                    · skip
                      refine qr_iconst 219 rfl rfl ?_
                      refine qr_goto 223 rfl rfl ?_
                      exact hJ3232 _ 1 g3037 g3038 g3039 g3040 g3041 g3042 (by decide)
                    · skip
                      refine qr_aload_n 194 rfl g3037 rfl ?_
                      refine qr_get 197 rfl rfl rfl (by decide) rfl ?_
                      refine qr_iload_n 198 rfl g3039 rfl ?_
                      refine qr_iaload 199 rfl rfl (qrgi r2 (by decide) (by decide)) (by decide) rfl ?_
                      refine qr_topI (fun v3254 hv3254 => ?_)
                      have hs3255 : (-1) ≤ v3254 ∧ v3254 ≤ 31 := by rw [hv3254]; exact hI3046.2.1 91 _ (show _ < 32 from qrgt r2 (by decide) (by decide))
                      have hs3256 := hI3046.2.2.2.2.2.2.1 (x2 : Int).toNat (by omega)
                      refine qr_if_lt 222 202 rfl rfl rfl (qrg hs3255 (by decide) (by decide)) (fun h3257 => ?_) (fun h3257 => ?_)
                      · skip
                        refine qr_iconst 223 rfl rfl ?_
                        exact hJ3232 _ 0 g3037 g3038 g3039 g3040 g3041 g3042 (by decide)
                      · skip
                        refine qr_aload_n 203 rfl g3037 rfl ?_
                        refine qr_get 206 rfl rfl rfl (by decide) rfl ?_
                        refine qr_iload 208 rfl g3042 rfl ?_
                        refine qr_iaload 209 rfl rfl (by omega) (by decide) rfl ?_
                        refine qr_topI (fun v3258 hv3258 => ?_)
                        have hs3259 : (-1) ≤ v3258 ∧ v3258 ≤ 31 := by rw [hv3258]; exact hI3046.2.1 91 _ (show _ < 32 by omega)
                        have hs3260 := hI3046.2.2.2.2.2.2.1 (u3043 : Int).toNat (by omega)
                        refine qr_aload_n 210 rfl g3037 rfl ?_
                        refine qr_get 213 rfl rfl rfl (by decide) rfl ?_
                        refine qr_iload_n 214 rfl g3039 rfl ?_
                        refine qr_iaload 215 rfl rfl (qrgi r2 (by decide) (by decide)) (by decide) rfl ?_
                        refine qr_topI (fun v3261 hv3261 => ?_)
                        have hs3262 : (-1) ≤ v3261 ∧ v3261 ≤ 31 := by rw [hv3261]; exact hI3046.2.1 91 _ (show _ < 32 from qrgt r2 (by decide) (by decide))
                        have hs3263 := hI3046.2.2.2.2.2.2.1 (x2 : Int).toNat (by omega)
                        refine qr_icmp_ne 222 218 rfl rfl rfl (qrg hs3259 (by decide) (by decide)) (qrg hs3262 (by decide) (by decide)) (fun h3264 => ?_) (fun h3264 => ?_)
                        · skip
                          refine qr_iconst 223 rfl rfl ?_
                          exact hJ3232 _ 0 g3037 g3038 g3039 g3040 g3041 g3042 (by decide)
                        · skip
                          refine qr_iconst 219 rfl rfl ?_
                          refine qr_goto 223 rfl rfl ?_
                          exact hJ3232 _ 1 g3037 g3038 g3039 g3040 g3041 g3042 (by decide)
                  · skip
                    refine qr_aload_n 179 rfl g3037 rfl ?_
                    refine qr_iload 181 rfl g3042 rfl ?_
                    refine qr_callN 184 rfl rfl rfl (sf_181_86 (d := d + 44) hI3046 (qrg hf3048 (by decide) (by decide))) ?_
                    rintro _ _ ⟨rfl, v3265, rfl, hv3265⟩
                    show qr_W (qe L xs vb) (d + 45) qx_e228 _ (184, _, [.int (qz v3265)], qw σ99 α3045 κ ρ, 0, 0)
                    refine qr_if_ne 222 187 rfl rfl rfl (qrg hv3265 (by decide) (by decide)) (fun h3266 => ?_) (fun h3266 => ?_)
                    · skip
                      refine qr_iconst 223 rfl rfl ?_
                      exact hJ3232 _ 0 g3037 g3038 g3039 g3040 g3041 g3042 (by decide)
                    · skip
                      refine qr_iload 189 rfl g3042 rfl ?_
                      refine qr_iload_n 190 rfl g3039 rfl ?_
                      refine qr_icmp_eq 218 193 rfl rfl rfl (qrg hf3048 (by decide) (by decide)) (qrg r2 (by decide) (by decide)) (fun h3267 => ?_) (fun h3267 => ?_)
                      · skip
                        refine qr_iconst 219 rfl rfl ?_
                        refine qr_goto 223 rfl rfl ?_
                        exact hJ3232 _ 1 g3037 g3038 g3039 g3040 g3041 g3042 (by decide)
                      · skip
                        refine qr_aload_n 194 rfl g3037 rfl ?_
                        refine qr_get 197 rfl rfl rfl (by decide) rfl ?_
                        refine qr_iload_n 198 rfl g3039 rfl ?_
                        refine qr_iaload 199 rfl rfl (qrgi r2 (by decide) (by decide)) (by decide) rfl ?_
                        refine qr_topI (fun v3268 hv3268 => ?_)
                        have hs3269 : (-1) ≤ v3268 ∧ v3268 ≤ 31 := by rw [hv3268]; exact hI3046.2.1 91 _ (show _ < 32 from qrgt r2 (by decide) (by decide))
                        have hs3270 := hI3046.2.2.2.2.2.2.1 (x2 : Int).toNat (by omega)
                        refine qr_if_lt 222 202 rfl rfl rfl (qrg hs3269 (by decide) (by decide)) (fun h3271 => ?_) (fun h3271 => ?_)
                        · skip
                          refine qr_iconst 223 rfl rfl ?_
                          exact hJ3232 _ 0 g3037 g3038 g3039 g3040 g3041 g3042 (by decide)
                        · skip
                          refine qr_aload_n 203 rfl g3037 rfl ?_
                          refine qr_get 206 rfl rfl rfl (by decide) rfl ?_
                          refine qr_iload 208 rfl g3042 rfl ?_
                          refine qr_iaload 209 rfl rfl (by omega) (by decide) rfl ?_
                          refine qr_topI (fun v3272 hv3272 => ?_)
                          have hs3273 : (-1) ≤ v3272 ∧ v3272 ≤ 31 := by rw [hv3272]; exact hI3046.2.1 91 _ (show _ < 32 by omega)
                          have hs3274 := hI3046.2.2.2.2.2.2.1 (u3043 : Int).toNat (by omega)
                          refine qr_aload_n 210 rfl g3037 rfl ?_
                          refine qr_get 213 rfl rfl rfl (by decide) rfl ?_
                          refine qr_iload_n 214 rfl g3039 rfl ?_
                          refine qr_iaload 215 rfl rfl (qrgi r2 (by decide) (by decide)) (by decide) rfl ?_
                          refine qr_topI (fun v3275 hv3275 => ?_)
                          have hs3276 : (-1) ≤ v3275 ∧ v3275 ≤ 31 := by rw [hv3275]; exact hI3046.2.1 91 _ (show _ < 32 from qrgt r2 (by decide) (by decide))
                          have hs3277 := hI3046.2.2.2.2.2.2.1 (x2 : Int).toNat (by omega)
                          refine qr_icmp_ne 222 218 rfl rfl rfl (qrg hs3273 (by decide) (by decide)) (qrg hs3276 (by decide) (by decide)) (fun h3278 => ?_) (fun h3278 => ?_)
                          · skip
                            refine qr_iconst 223 rfl rfl ?_
                            exact hJ3232 _ 0 g3037 g3038 g3039 g3040 g3041 g3042 (by decide)
                          · skip
                            refine qr_iconst 219 rfl rfl ?_
                            refine qr_goto 223 rfl rfl ?_
                            exact hJ3232 _ 1 g3037 g3038 g3039 g3040 g3041 g3042 (by decide)
          exact hL3049 ((32 - 0 + 1 : Int)).toNat _ 0 α110 (by omega) (qm_gk g93 (by decide) (Or.inl (by decide))) (qm_gk g94 (by decide) (Or.inl (by decide))) (qm_gk g95 (by decide) (Or.inl (by decide))) (qm_gk g96 (by decide) (Or.inl (by decide))) (qm_gk g97 (by decide) (Or.inl (by decide))) (qm_ge _ _ _) (by decide) hI112 hF113
        refine qr_icmp_ne 132 127 rfl rfl rfl (qrg hv75 (by decide) (by decide)) (by decide) (fun h3279 => ?_) (fun h3279 => ?_)
        · skip
          refine qr_aload_n 133 rfl g62 rfl ?_
          refine qr_iload_n 134 rfl g64 rfl ?_
          refine qr_iload_n 135 rfl g65 rfl ?_
          refine qr_callN 138 rfl rfl rfl (sf_187_86 (d := d + 42) hI80 r2 r3) ?_
          rintro _ _ ⟨σ3283, α3284, rfl, hI3285, hG3286, hw3282, v3280, rfl, hv3280, hp3281⟩
          have hF3287 : qFr [(86, 15), (86, 23), (86, 30), (86, 35), (86, 36), (86, 37), (86, 38), (86, 39)] [96, 109] σ α σ3283 α3284 := qFr_t hF82 hG3286 (by decide) (by decide)
          have hs3288 : 0 ≤ σ3283 86 15 ∧ σ3283 86 15 ≤ 1 := hI3285.1 86 15
          show qr_W (qe L xs vb) (d + 45) qx_e228 _ (138, _, [.int (qz v3280), .int (qz 6), .ref 109], qw σ3283 α3284 κ ρ, 0, 0)
          exact hJ105 _ v3280 σ3283 α3284 g62 g63 g64 g66 g67 hv3280 hI3285 hF3287 ((hG3286.1 86 6 (by decide)).trans ((hG81.1 86 6 (by decide)).trans ((hG41.1 86 6 (by decide)).trans ((hG5.1 86 6 (by decide)).trans rfl))))
        · skip
          refine qr_bipush 129 rfl (by decide) rfl ?_
          refine qr_goto 138 rfl rfl ?_
          exact hJ105 _ 9 σ78 α79 g62 g63 g64 g66 g67 (by decide) hI80 hF82 ((hG81.1 86 6 (by decide)).trans ((hG41.1 86 6 (by decide)).trans ((hG5.1 86 6 (by decide)).trans rfl)))
      refine qr_if_eq 108 104 rfl rfl rfl (qrg hv61 (by decide) (by decide)) (fun h3289 => ?_) (fun h3289 => ?_)
      · skip
        refine qr_iconst 109 rfl rfl ?_
        exact hJ70 _ 0 g22 g23 g24 g25 g26 g27 (by decide)
      · skip
        refine qr_iconst 105 rfl rfl ?_
        refine qr_goto 109 rfl rfl ?_
        exact hJ70 _ 1 g22 g23 g24 g25 g26 g27 (by decide)
    refine qr_icmp_ne 45 40 rfl rfl rfl hv1 (by decide) (fun h3290 => ?_) (fun h3290 => ?_)
    · skip
      refine qr_iload 47 rfl g14 rfl ?_
      exact hJ31 _ v1 g7 g8 g9 g10 g11 g12 g13 hv1
    · skip
      refine qr_bipush 42 rfl (by decide) rfl ?_
      refine qr_goto 47 rfl rfl ?_
      exact hJ31 _ 9 g7 g8 g9 g10 g11 g12 g13 (by decide)
  refine qr_icmp_ne 26 22 rfl rfl rfl hv1 (by decide) (fun h3291 => ?_) (fun h3291 => ?_)
  · skip
    refine qr_iconst 27 rfl rfl ?_
    exact hJ17 _ 1 rfl rfl rfl rfl rfl rfl rfl rfl (by decide)
  · skip
    refine qr_iconst 23 rfl rfl ?_
    refine qr_goto 27 rfl rfl ?_
    exact hJ17 _ 0 rfl rfl rfl rfl rfl rfl rfl rfl (by decide)

set_option maxHeartbeats 4000000 in
set_option maxRecDepth 20000 in
/-- OneRoofModel.mustNow -/
theorem sf_227_86 {L : Nat} {xs : Nat → Int} {vb : Bool} {d : Nat} {σ α : Nat → Nat → Int} {κ : Nat → Option Nat} {ρ : Nat} {x1 : Int} {x2 : Int} {x3 : Int} {x4 : Int} (hI : qI σ α κ ρ) (r1 : 0 ≤ x1 ∧ x1 ≤ 31) (r2 : 0 ≤ x2 ∧ x2 ≤ 31) (r3 : (-9223372036854775808) ≤ x3 ∧ x3 ≤ 9223372036854775807) (r4 : (-2147483648) ≤ x4 ∧ x4 ≤ 2147483647) (p0 : 1 ≤ σ 86 6) : qm_T (qe L xs vb) (d + 47) 227 [.ref 86, .int (qz x1), .int (qz x2), .long (ql x3), .int (qz x4)] (qw σ α κ ρ) (fun r w' => ∃ σ' α', w' = qw σ' α' κ ρ ∧ qI σ' α' κ ρ ∧ qFr [(86, 15), (86, 23), (86, 30), (86, 35), (86, 36), (86, 37), (86, 38), (86, 39)] [96, 109] σ α σ' α' ∧ ∃ v : Int, r = some (.int (qz v)) ∧ ((-2147483648) ≤ v ∧ v ≤ 2147483647)) := by
  refine qr_start (d := d + 46) qv_e227 (Nat.le_of_ble_eq_true rfl) ?_
  show qr_W (qe L xs vb) (d + 46) qx_e227 _ (0, [(0, .ref 86), (1, .int (qz x1)), (2, .int (qz x2)), (3, .long (ql x3)), (5, .int (qz x4))], [], _, 0, 0)
  have hF0 := qFr_rf [(86, 15), (86, 23), (86, 30), (86, 35), (86, 36), (86, 37), (86, 38), (86, 39)] [96, 109] σ α
  have hz86_6 : 0 ≤ σ 86 6 ∧ σ 86 6 ≤ 32 := hI.1 86 6
  refine qr_aload_n 1 rfl rfl rfl ?_
  refine qr_iconst 2 rfl rfl ?_
  refine qr_iload_n 3 rfl rfl rfl ?_
  refine qr_iload_n 4 rfl rfl rfl ?_
  refine qr_iconst 5 rfl rfl ?_
  refine qr_lload_n 6 rfl rfl rfl ?_
  refine qr_iload 8 rfl rfl rfl ?_
  have hs1 : 0 ≤ σ 86 6 ∧ σ 86 6 ≤ 32 := hI.1 86 6
  refine qr_callN 11 rfl rfl rfl (sf_228_86 (d := d + 0) hI (by decide) r1 r2 (by decide) r3 r4 (by omega)) ?_
  rintro _ _ ⟨σ3, α4, rfl, hI5, hG6, v2, rfl, hv2⟩
  have hF7 : qFr [(86, 15), (86, 23), (86, 30), (86, 35), (86, 36), (86, 37), (86, 38), (86, 39)] [96, 109] σ α σ3 α4 := qFr_t hF0 hG6 (by decide) (by decide)
  show qr_W (qe L xs vb) (d + 46) qx_e227 _ (11, _, [.int (qz v2)], qw σ3 α4 κ ρ, 0, 0)
  refine qr_retI rfl rfl (by decide) (by decide) ?_
  exact ⟨_, _, rfl, hI5, hF7, v2, rfl, hv2⟩

set_option maxHeartbeats 4000000 in
set_option maxRecDepth 20000 in
/-- OneRoofModel.must -/
theorem sf_224_86 {L : Nat} {xs : Nat → Int} {vb : Bool} {d : Nat} {σ α : Nat → Nat → Int} {κ : Nat → Option Nat} {ρ : Nat} {x1 : Int} {x2 : Int} {x3 : Int} (hI : qI σ α κ ρ) (r1 : (-2147483648) ≤ x1 ∧ x1 ≤ 2147483647) (r2 : (-9223372036854775808) ≤ x2 ∧ x2 ≤ 9223372036854775807) (r3 : (-2147483648) ≤ x3 ∧ x3 ≤ 2147483647) : qm_T (qe L xs vb) (d + 48) 224 [.ref 86, .int (qz x1), .long (ql x2), .int (qz x3)] (qw σ α κ ρ) (fun r w' => ∃ σ' α', w' = qw σ' α' κ ρ ∧ qI σ' α' κ ρ ∧ qFr [(86, 15), (86, 23), (86, 30), (86, 35), (86, 36), (86, 37), (86, 38), (86, 39)] [96, 109] σ α σ' α' ∧ ∃ v : Int, r = some (.int (qz v)) ∧ ((-2147483648) ≤ v ∧ v ≤ 2147483647)) := by
  refine qr_start (d := d + 47) qv_e224 (Nat.le_of_ble_eq_true rfl) ?_
  show qr_W (qe L xs vb) (d + 47) qx_e224 _ (0, [(0, .ref 86), (1, .int (qz x1)), (2, .long (ql x2)), (4, .int (qz x3))], [], _, 0, 0)
  have hF0 := qFr_rf [(86, 15), (86, 23), (86, 30), (86, 35), (86, 36), (86, 37), (86, 38), (86, 39)] [96, 109] σ α
  refine qr_aload_n 1 rfl rfl rfl ?_
  refine qr_iload_n 2 rfl rfl rfl ?_
  refine qr_callN 5 rfl rfl rfl (sf_191_86 (d := d + 44) hI r1) ?_
  have hs3 : 0 ≤ σ 86 6 ∧ σ 86 6 ≤ 32 := hI.1 86 6
  rintro _ _ ⟨rfl, v1, rfl, hv1, hp2⟩
  show qr_W (qe L xs vb) (d + 47) qx_e224 _ (5, _, [.int (qz v1)], qw σ α κ ρ, 0, 0)
  refine qr_if_eq 24 8 rfl rfl rfl (qrg hv1 (by decide) (by decide)) (fun h4 => ?_) (fun h4 => ?_)
  · skip
    refine qr_ldcw (-2000000000) 27 rfl (by decide) rfl ?_
    refine qr_retI rfl rfl (by decide) (by decide) ?_
    exact ⟨_, _, rfl, hI, hF0, (-2000000000), rfl, (by decide)⟩
  · skip
    refine qr_aload_n 9 rfl rfl rfl ?_
    refine qr_lload_n 10 rfl rfl rfl ?_
    refine qr_callN 13 rfl rfl rfl (sf_225_86 (d := d + 46) hI r2) ?_
    rintro _ _ ⟨rfl, v5, rfl, hv5⟩
    show qr_W (qe L xs vb) (d + 47) qx_e224 _ (13, _, [.int (qz v5)], qw σ α κ ρ, 0, 0)
    refine qr_if_eq 24 16 rfl rfl rfl (qrg hv5 (by decide) (by decide)) (fun h6 => ?_) (fun h6 => ?_)
    · skip
      refine qr_ldcw (-2000000000) 27 rfl (by decide) rfl ?_
      refine qr_retI rfl rfl (by decide) (by decide) ?_
      exact ⟨_, _, rfl, hI, hF0, (-2000000000), rfl, (by decide)⟩
    · skip
      refine qr_iload 18 rfl rfl rfl ?_
      refine qr_callN 21 rfl rfl rfl (sf_192 (d := d + 45) hI r3) ?_
      rintro _ _ ⟨rfl, v7, rfl, hv7, hp8⟩
      show qr_W (qe L xs vb) (d + 47) qx_e224 _ (21, _, [.int (qz v7)], qw σ α κ ρ, 0, 0)
      refine qr_if_ne 28 24 rfl rfl rfl (qrg hv7 (by decide) (by decide)) (fun h9 => ?_) (fun h9 => ?_)
      · skip
        refine qr_lload_n 29 rfl rfl rfl ?_
        refine qr_aload_n 30 rfl rfl rfl ?_
        refine qr_get 33 rfl rfl rfl (by decide) rfl ?_
        have hs10 : (-9223372036854775808) ≤ σ 86 10 ∧ σ 86 10 ≤ 9223372036854775807 := hI.1 86 10
        refine qr_ldc2 (-1) 36 rfl (by decide) rfl ?_
        refine qr_lxor 37 rfl rfl ?_
        refine qy_canl (fun v11 hv11 => ?_)
        refine qr_land 38 rfl rfl ?_
        refine qy_canl (fun v12 hv12 => ?_)
        refine qr_lstore _ 40 rfl (by decide) rfl rfl ?_
        refine qr_lload 42 rfl rfl rfl ?_
        refine qr_iload_n 43 rfl rfl rfl ?_
        refine qr_bipush 45 rfl (by decide) rfl ?_
        refine qr_idiv 46 rfl (by omega) (by decide) rfl ?_
        refine qr_callN 49 rfl rfl rfl (sf_226 (d := d + 46) hI hv12 (by omega)) ?_
        rintro _ _ ⟨rfl, v13, rfl, hv13⟩
        show qr_W (qe L xs vb) (d + 47) qx_e224 _ (49, _, [.int (qz v13)], qw σ α κ ρ, 0, 0)
        refine qr_if_eq 83 52 rfl rfl rfl (qrg hv13 (by decide) (by decide)) (fun h14 => ?_) (fun h14 => ?_)
        · skip
          refine qr_ldcw (-2000000000) 86 rfl (by decide) rfl ?_
          refine qr_retI rfl rfl (by decide) (by decide) ?_
          exact ⟨_, _, rfl, hI, hF0, (-2000000000), rfl, (by decide)⟩
        · skip
          refine qr_lload 54 rfl rfl rfl ?_
          refine qr_iload_n 55 rfl rfl rfl ?_
          refine qr_bipush 57 rfl (by decide) rfl ?_
          refine qr_irem 58 rfl (by omega) (by decide) rfl ?_
          refine qr_callN 61 rfl rfl rfl (sf_226 (d := d + 46) hI hv12 (by omega)) ?_
          rintro _ _ ⟨rfl, v15, rfl, hv15⟩
          show qr_W (qe L xs vb) (d + 47) qx_e224 _ (61, _, [.int (qz v15)], qw σ α κ ρ, 0, 0)
          refine qr_if_eq 83 64 rfl rfl rfl (qrg hv15 (by decide) (by decide)) (fun h16 => ?_) (fun h16 => ?_)
          · skip
            refine qr_ldcw (-2000000000) 86 rfl (by decide) rfl ?_
            refine qr_retI rfl rfl (by decide) (by decide) ?_
            exact ⟨_, _, rfl, hI, hF0, (-2000000000), rfl, (by decide)⟩
          · skip
            refine qr_aload_n 65 rfl rfl rfl ?_
            refine qr_iload_n 66 rfl rfl rfl ?_
            refine qr_bipush 68 rfl (by decide) rfl ?_
            refine qr_idiv 69 rfl (by omega) (by decide) rfl ?_
            refine qr_iload_n 70 rfl rfl rfl ?_
            refine qr_bipush 72 rfl (by decide) rfl ?_
            refine qr_irem 73 rfl (by omega) (by decide) rfl ?_
            refine qr_lload 75 rfl rfl rfl ?_
            refine qr_iload 77 rfl rfl rfl ?_
            have hs17 : 0 ≤ σ 86 6 ∧ σ 86 6 ≤ 32 := hI.1 86 6
            refine qr_callN 80 rfl rfl rfl (sf_227_86 (d := d + 0) hI (by omega) (by omega) hv12 r3 (by omega)) ?_
            rintro _ _ ⟨σ19, α20, rfl, hI21, hG22, v18, rfl, hv18⟩
            have hF23 : qFr [(86, 15), (86, 23), (86, 30), (86, 35), (86, 36), (86, 37), (86, 38), (86, 39)] [96, 109] σ α σ19 α20 := qFr_t hF0 hG22 (by decide) (by decide)
            show qr_W (qe L xs vb) (d + 47) qx_e224 _ (80, _, [.int (qz v18)], qw σ19 α20 κ ρ, 0, 0)
            refine qr_goto 86 rfl rfl ?_
            refine qr_retI rfl rfl (by decide) (by decide) ?_
            exact ⟨_, _, rfl, hI21, hF23, v18, rfl, hv18⟩
      · skip
        refine qr_ldcw (-2000000000) 27 rfl (by decide) rfl ?_
        refine qr_retI rfl rfl (by decide) (by decide) ?_
        exact ⟨_, _, rfl, hI, hF0, (-2000000000), rfl, (by decide)⟩

set_option maxHeartbeats 4000000 in
set_option maxRecDepth 20000 in
/-- OneRoofModel.together -/
theorem sf_229_86 {L : Nat} {xs : Nat → Int} {vb : Bool} {d : Nat} {σ α : Nat → Nat → Int} {κ : Nat → Option Nat} {ρ : Nat} {x1 : Int} {x2 : Int} {x3 : Int} (hI : qI σ α κ ρ) (r1 : (-9223372036854775808) ≤ x1 ∧ x1 ≤ 9223372036854775807) (r2 : (-2147483648) ≤ x2 ∧ x2 ≤ 2147483647) (r3 : (-2147483648) ≤ x3 ∧ x3 ≤ 2147483647) : qm_T (qe L xs vb) (d + 48) 229 [.ref 86, .long (ql x1), .int (qz x2), .int (qz x3)] (qw σ α κ ρ) (fun r w' => ∃ σ' α', w' = qw σ' α' κ ρ ∧ qI σ' α' κ ρ ∧ qFr [(86, 15), (86, 23), (86, 30), (86, 35), (86, 36), (86, 37), (86, 38), (86, 39)] [96, 109] σ α σ' α' ∧ ∃ v : Int, r = some (.int (qz v)) ∧ ((-2147483648) ≤ v ∧ v ≤ 2147483647)) := by
  refine qr_start (d := d + 47) qv_e229 (Nat.le_of_ble_eq_true rfl) ?_
  show qr_W (qe L xs vb) (d + 47) qx_e229 _ (0, [(0, .ref 86), (1, .long (ql x1)), (3, .int (qz x2)), (4, .int (qz x3))], [], _, 0, 0)
  have hF0 := qFr_rf [(86, 15), (86, 23), (86, 30), (86, 35), (86, 36), (86, 37), (86, 38), (86, 39)] [96, 109] σ α
  refine qr_aload_n 1 rfl rfl rfl ?_
  refine qr_lload_n 2 rfl rfl rfl ?_
  refine qr_callN 5 rfl rfl rfl (sf_225_86 (d := d + 46) hI r1) ?_
  rintro _ _ ⟨rfl, v1, rfl, hv1⟩
  show qr_W (qe L xs vb) (d + 47) qx_e229 _ (5, _, [.int (qz v1)], qw σ α κ ρ, 0, 0)
  refine qr_if_eq 28 8 rfl rfl rfl (qrg hv1 (by decide) (by decide)) (fun h2 => ?_) (fun h2 => ?_)
  · skip
    refine qr_iconst 29 rfl rfl ?_
    refine qr_retI rfl rfl (by decide) (by decide) ?_
    exact ⟨_, _, rfl, hI, hF0, (-1), rfl, (by decide)⟩
  · skip
    refine qr_iload_n 9 rfl rfl rfl ?_
    refine qr_callN 12 rfl rfl rfl (sf_230 (d := d + 44) hI r2) ?_
    rintro _ _ ⟨rfl, v3, rfl, hv3, hp4⟩
    show qr_W (qe L xs vb) (d + 47) qx_e229 _ (12, _, [.int (qz v3)], qw σ α κ ρ, 0, 0)
    refine qr_if_eq 28 15 rfl rfl rfl (qrg hv3 (by decide) (by decide)) (fun h5 => ?_) (fun h5 => ?_)
    · skip
      refine qr_iconst 29 rfl rfl ?_
      refine qr_retI rfl rfl (by decide) (by decide) ?_
      exact ⟨_, _, rfl, hI, hF0, (-1), rfl, (by decide)⟩
    · skip
      refine qr_iload 17 rfl rfl rfl ?_
      refine qr_i2l 18 rfl r3 rfl ?_
      refine qr_lconst 19 rfl rfl ?_
      refine qy_vl 0 rfl ?_
      refine qr_ldc2 2 22 rfl (by decide) rfl ?_
      refine qr_callN 25 rfl rfl rfl (sf_176 (d := d + 46) hI (qrg r3 (by decide) (by decide)) (by decide) (by decide)) ?_
      rintro _ _ ⟨rfl, v6, rfl, hv6, hp7⟩
      show qr_W (qe L xs vb) (d + 47) qx_e229 _ (25, _, [.int (qz v6)], qw σ α κ ρ, 0, 0)
      refine qr_if_ne 30 28 rfl rfl rfl (qrg hv6 (by decide) (by decide)) (fun h8 => ?_) (fun h8 => ?_)
      · skip
        refine qr_lload_n 31 rfl rfl rfl ?_
        refine qr_aload_n 32 rfl rfl rfl ?_
        refine qr_get 35 rfl rfl rfl (by decide) rfl ?_
        have hs9 : (-9223372036854775808) ≤ σ 86 10 ∧ σ 86 10 ≤ 9223372036854775807 := hI.1 86 10
        refine qr_ldc2 (-1) 38 rfl (by decide) rfl ?_
        refine qr_lxor 39 rfl rfl ?_
        refine qy_canl (fun v10 hv10 => ?_)
        refine qr_land 40 rfl rfl ?_
        refine qy_canl (fun v11 hv11 => ?_)
        refine qr_lstore _ 42 rfl (by decide) rfl rfl ?_
        refine qr_iload_n 43 rfl rfl rfl ?_
        refine qr_sipush 46 rfl (by decide) rfl ?_
        refine qr_idiv 47 rfl (by omega) (by decide) rfl ?_
        refine qr_istore _ 49 rfl (by decide) rfl rfl ?_
        have hL50281 : ∀ (n : Nat) (ls : qm_L) (u50273 : Int) (σ50274 α50275 : Nat → Nat → Int), 10000 - u50273 < (n : Int) → qm_get ls 0 = some (.ref 86) → qm_get ls 3 = some (.int (qz x2)) → qm_get ls 4 = some (.int (qz x3)) → qm_get ls 5 = some (.long (ql v11)) → qm_get ls 7 = some (.int (qz u50273)) → (0 ≤ u50273 ∧ u50273 ≤ 10000) → qI σ50274 α50275 κ ρ → qFr [(86, 15), (86, 23), (86, 30), (86, 35), (86, 36), (86, 37), (86, 38), (86, 39)] [96, 109] σ α σ50274 α50275 → σ50274 86 10 = (σ 86 10) → (x2 / 10000) ≤ u50273 → qr_W (qe L xs vb) (d + 47) qx_e229 (fun r w' => ∃ σ' α', w' = qw σ' α' κ ρ ∧ qI σ' α' κ ρ ∧ qFr [(86, 15), (86, 23), (86, 30), (86, 35), (86, 36), (86, 37), (86, 38), (86, 39)] [96, 109] σ α σ' α' ∧ ∃ v : Int, r = some (.int (qz v)) ∧ ((-2147483648) ≤ v ∧ v ≤ 2147483647)) (49, ls, [], qw σ50274 α50275 κ ρ, 0, 0) := by
          intro n
          induction n with
          | zero => intro ls u50273 σ50274 α50275 hm g50268 g50269 g50270 g50271 g50272 hf50279 hI50276 hF50277 hk50278 hx50280; exact False.elim (by omega)
          | succ n ih50282 =>
            intro ls u50273 σ50274 α50275 hm g50268 g50269 g50270 g50271 g50272 hf50279 hI50276 hF50277 hk50278 hx50280
            refine qr_iload 51 rfl g50272 rfl ?_
            refine qr_iload_n 52 rfl g50269 rfl ?_
            refine qr_sipush 55 rfl (by decide) rfl ?_
            refine qr_irem 56 rfl (by omega) (by decide) rfl ?_
            refine qr_icmp_gt 167 59 rfl rfl rfl (qrg hf50279 (by decide) (by decide)) (by omega) (fun h50283 => ?_) (fun h50283 => ?_)
            · skip
              refine qr_bipush 169 rfl (by decide) rfl ?_
              refine qr_retI rfl rfl (by decide) (by decide) ?_
              exact ⟨_, _, rfl, hI50276, hF50277, (-2), rfl, (by decide)⟩
            · skip
              refine qr_iconst 60 rfl rfl ?_
              refine qr_istore _ 62 rfl (by decide) rfl rfl ?_
              have hL54218 : ∀ (n : Nat) (ls : qm_L) (u54211 : Int) (σ54212 α54213 : Nat → Nat → Int), 32 - u54211 < (n : Int) → qm_get ls 0 = some (.ref 86) → qm_get ls 3 = some (.int (qz x2)) → qm_get ls 4 = some (.int (qz x3)) → qm_get ls 5 = some (.long (ql v11)) → qm_get ls 7 = some (.int (qz u50273)) → qm_get ls 8 = some (.int (qz u54211)) → (0 ≤ u54211 ∧ u54211 ≤ 32) → qI σ54212 α54213 κ ρ → qFr [(86, 15), (86, 23), (86, 30), (86, 35), (86, 36), (86, 37), (86, 38), (86, 39)] [96, 109] σ α σ54212 α54213 → σ54212 86 10 = (σ 86 10) → qr_W (qe L xs vb) (d + 47) qx_e229 (fun r w' => ∃ σ' α', w' = qw σ' α' κ ρ ∧ qI σ' α' κ ρ ∧ qFr [(86, 15), (86, 23), (86, 30), (86, 35), (86, 36), (86, 37), (86, 38), (86, 39)] [96, 109] σ α σ' α' ∧ ∃ v : Int, r = some (.int (qz v)) ∧ ((-2147483648) ≤ v ∧ v ≤ 2147483647)) (62, ls, [], qw σ54212 α54213 κ ρ, 0, 0) := by
                intro n
                induction n with
                | zero => intro ls u54211 σ54212 α54213 hm g54205 g54206 g54207 g54208 g54209 g54210 hf54217 hI54214 hF54215 hk54216; exact False.elim (by omega)
                | succ n ih54219 =>
                  intro ls u54211 σ54212 α54213 hm g54205 g54206 g54207 g54208 g54209 g54210 hf54217 hI54214 hF54215 hk54216
                  refine qr_iload 64 rfl g54210 rfl ?_
                  refine qr_aload_n 65 rfl g54205 rfl ?_
                  refine qr_get 68 rfl rfl rfl (by decide) rfl ?_
                  have hs54220 : 0 ≤ σ54212 86 6 ∧ σ54212 86 6 ≤ 32 := hI54214.1 86 6
                  refine qr_icmp_ge 161 71 rfl rfl rfl (qrg hf54217 (by decide) (by decide)) (qrg hs54220 (by decide) (by decide)) (fun h54221 => ?_) (fun h54221 => ?_)
                  · skip
                    refine qr_iinc _ 164 rfl g54209 (by decide) rfl rfl ?_
                    refine qr_goto 49 rfl rfl ?_
                    exact ih50282 _ (u50273 + 1) σ54212 α54213 (by omega) (qm_gk g54205 (by decide) (Or.inl (by decide))) (qm_gk g54206 (by decide) (Or.inl (by decide))) (qm_gk g54207 (by decide) (Or.inl (by decide))) (qm_gk g54208 (by decide) (Or.inl (by decide))) (qm_ge _ _ _) (by omega) hI54214 hF54215 ((hk54216).trans rfl) (by omega)
                  · skip
                    refine qr_iconst 72 rfl rfl ?_
                    refine qr_istore _ 74 rfl (by decide) rfl rfl ?_
                    have hL54477 : ∀ (n : Nat) (ls : qm_L) (u54469 : Int) (σ54470 α54471 : Nat → Nat → Int), 32 - u54469 < (n : Int) → qm_get ls 0 = some (.ref 86) → qm_get ls 3 = some (.int (qz x2)) → qm_get ls 4 = some (.int (qz x3)) → qm_get ls 5 = some (.long (ql v11)) → qm_get ls 7 = some (.int (qz u50273)) → qm_get ls 8 = some (.int (qz u54211)) → qm_get ls 9 = some (.int (qz u54469)) → (0 ≤ u54469 ∧ u54469 ≤ 32) → qI σ54470 α54471 κ ρ → qFr [(86, 15), (86, 23), (86, 30), (86, 35), (86, 36), (86, 37), (86, 38), (86, 39)] [96, 109] σ α σ54470 α54471 → σ54470 86 6 = (σ54212 86 6) → σ54470 86 10 = (σ 86 10) → qr_W (qe L xs vb) (d + 47) qx_e229 (fun r w' => ∃ σ' α', w' = qw σ' α' κ ρ ∧ qI σ' α' κ ρ ∧ qFr [(86, 15), (86, 23), (86, 30), (86, 35), (86, 36), (86, 37), (86, 38), (86, 39)] [96, 109] σ α σ' α' ∧ ∃ v : Int, r = some (.int (qz v)) ∧ ((-2147483648) ≤ v ∧ v ≤ 2147483647)) (74, ls, [], qw σ54470 α54471 κ ρ, 0, 0) := by
                      intro n
                      induction n with
                      | zero => intro ls u54469 σ54470 α54471 hm g54462 g54463 g54464 g54465 g54466 g54467 g54468 hf54476 hI54472 hF54473 hk54474 hk54475; exact False.elim (by omega)
                      | succ n ih54478 =>
                        intro ls u54469 σ54470 α54471 hm g54462 g54463 g54464 g54465 g54466 g54467 g54468 hf54476 hI54472 hF54473 hk54474 hk54475
                        refine qr_iload 76 rfl g54468 rfl ?_
                        refine qr_aload_n 77 rfl g54462 rfl ?_
                        refine qr_get 80 rfl rfl rfl (by decide) rfl ?_
                        refine qy_v (σ54212 86 6) ((hk54474).trans rfl) ?_
                        refine qr_icmp_ge 155 83 rfl rfl rfl (qrg hf54476 (by decide) (by decide)) (qrg hs54220 (by decide) (by decide)) (fun h54479 => ?_) (fun h54479 => ?_)
                        · skip
                          refine qr_iinc _ 158 rfl g54467 (by decide) rfl rfl ?_
                          refine qr_goto 62 rfl rfl ?_
                          exact ih54219 _ (u54211 + 1) σ54470 α54471 (by omega) (qm_gk g54462 (by decide) (Or.inl (by decide))) (qm_gk g54463 (by decide) (Or.inl (by decide))) (qm_gk g54464 (by decide) (Or.inl (by decide))) (qm_gk g54465 (by decide) (Or.inl (by decide))) (qm_gk g54466 (by decide) (Or.inr rfl)) (qm_ge _ _ _) (by omega) hI54472 hF54473 ((hk54475).trans rfl)
                        · skip
                          refine qr_lload 85 rfl g54465 rfl ?_
                          refine qr_iload 87 rfl g54467 rfl ?_
                          refine qr_callN 90 rfl rfl rfl (sf_226 (d := d + 46) hI54472 hv11 (qrg hf54217 (by decide) (by decide))) ?_
                          rintro _ _ ⟨rfl, v54480, rfl, hv54480⟩
                          show qr_W (qe L xs vb) (d + 47) qx_e229 _ (90, _, [.int (qz v54480)], qw σ54470 α54471 κ ρ, 0, 0)
                          refine qr_if_eq 155 93 rfl rfl rfl (qrg hv54480 (by decide) (by decide)) (fun h54481 => ?_) (fun h54481 => ?_)
                          · skip
                            refine qr_iinc _ 158 rfl g54467 (by decide) rfl rfl ?_
                            refine qr_goto 62 rfl rfl ?_
                            exact ih54219 _ (u54211 + 1) σ54470 α54471 (by omega) (qm_gk g54462 (by decide) (Or.inl (by decide))) (qm_gk g54463 (by decide) (Or.inl (by decide))) (qm_gk g54464 (by decide) (Or.inl (by decide))) (qm_gk g54465 (by decide) (Or.inl (by decide))) (qm_gk g54466 (by decide) (Or.inr rfl)) (qm_ge _ _ _) (by omega) hI54472 hF54473 ((hk54475).trans rfl)
                          · skip
                            refine qr_iload 95 rfl g54467 rfl ?_
                            refine qr_iload 97 rfl g54468 rfl ?_
                            refine qr_icmp_eq 149 100 rfl rfl rfl (qrg hf54217 (by decide) (by decide)) (qrg hf54476 (by decide) (by decide)) (fun h54482 => ?_) (fun h54482 => ?_)
                            · skip
                              refine qr_iinc _ 152 rfl g54468 (by decide) rfl rfl ?_
                              refine qr_goto 74 rfl rfl ?_
                              exact ih54478 _ (u54469 + 1) σ54470 α54471 (by omega) (qm_gk g54462 (by decide) (Or.inl (by decide))) (qm_gk g54463 (by decide) (Or.inl (by decide))) (qm_gk g54464 (by decide) (Or.inl (by decide))) (qm_gk g54465 (by decide) (Or.inl (by decide))) (qm_gk g54466 (by decide) (Or.inl (by decide))) (qm_gk g54467 (by decide) (Or.inr rfl)) (qm_ge _ _ _) (by omega) hI54472 hF54473 ((hk54474).trans rfl) ((hk54475).trans rfl)
                            · skip
                              refine qr_lload 102 rfl g54465 rfl ?_
                              refine qr_iload 104 rfl g54468 rfl ?_
                              refine qr_callN 107 rfl rfl rfl (sf_226 (d := d + 46) hI54472 hv11 (qrg hf54476 (by decide) (by decide))) ?_
                              rintro _ _ ⟨rfl, v54483, rfl, hv54483⟩
                              show qr_W (qe L xs vb) (d + 47) qx_e229 _ (107, _, [.int (qz v54483)], qw σ54470 α54471 κ ρ, 0, 0)
                              refine qr_if_eq 149 110 rfl rfl rfl (qrg hv54483 (by decide) (by decide)) (fun h54484 => ?_) (fun h54484 => ?_)
                              · skip
                                refine qr_iinc _ 152 rfl g54468 (by decide) rfl rfl ?_
                                refine qr_goto 74 rfl rfl ?_
                                exact ih54478 _ (u54469 + 1) σ54470 α54471 (by omega) (qm_gk g54462 (by decide) (Or.inl (by decide))) (qm_gk g54463 (by decide) (Or.inl (by decide))) (qm_gk g54464 (by decide) (Or.inl (by decide))) (qm_gk g54465 (by decide) (Or.inl (by decide))) (qm_gk g54466 (by decide) (Or.inl (by decide))) (qm_gk g54467 (by decide) (Or.inr rfl)) (qm_ge _ _ _) (by omega) hI54472 hF54473 ((hk54474).trans rfl) ((hk54475).trans rfl)
                              · skip
                                refine qr_aload_n 111 rfl g54462 rfl ?_
                                refine qr_iload 113 rfl g54467 rfl ?_
                                refine qr_iload 115 rfl g54468 rfl ?_
                                refine qr_lload 117 rfl g54465 rfl ?_
                                refine qr_iload 119 rfl g54466 rfl ?_
                                have hs54485 : 0 ≤ σ54470 86 6 ∧ σ54470 86 6 ≤ 32 := hI54472.1 86 6
                                have hs54486 : σ54470 86 6 = (σ54212 86 6) := (hk54474).trans rfl
                                refine qr_callN 122 rfl rfl rfl (sf_227_86 (d := d + 0) hI54472 (by omega) (by omega) hv11 (qrg hf50279 (by decide) (by decide)) (by omega)) ?_
                                rintro _ _ ⟨σ54488, α54489, rfl, hI54490, hG54491, v54487, rfl, hv54487⟩
                                have hF54492 : qFr [(86, 15), (86, 23), (86, 30), (86, 35), (86, 36), (86, 37), (86, 38), (86, 39)] [96, 109] σ α σ54488 α54489 := qFr_t hF54473 hG54491 (by decide) (by decide)
                                show qr_W (qe L xs vb) (d + 47) qx_e229 _ (122, _, [.int (qz v54487)], qw σ54488 α54489 κ ρ, 0, 0)
                                refine qr_if_eq 149 125 rfl rfl rfl hv54487 (fun h54493 => ?_) (fun h54493 => ?_)
                                · skip
                                  refine qr_iinc _ 152 rfl g54468 (by decide) rfl rfl ?_
                                  refine qr_goto 74 rfl rfl ?_
                                  exact ih54478 _ (u54469 + 1) σ54488 α54489 (by omega) (qm_gk g54462 (by decide) (Or.inl (by decide))) (qm_gk g54463 (by decide) (Or.inl (by decide))) (qm_gk g54464 (by decide) (Or.inl (by decide))) (qm_gk g54465 (by decide) (Or.inl (by decide))) (qm_gk g54466 (by decide) (Or.inl (by decide))) (qm_gk g54467 (by decide) (Or.inr rfl)) (qm_ge _ _ _) (by omega) hI54490 hF54492 ((hG54491.1 86 6 (by decide)).trans ((hk54474).trans rfl)) ((hG54491.1 86 10 (by decide)).trans ((hk54475).trans rfl))
                                · skip
                                  refine qr_iload 127 rfl g54464 rfl ?_
                                  refine qr_if_ne 135 130 rfl rfl rfl r3 (fun h54494 => ?_) (fun h54494 => ?_)
                                  · skip
                                    refine qr_iload 137 rfl g54464 rfl ?_
                                    refine qr_iconst 138 rfl rfl ?_
                                    refine qr_icmp_ne 146 141 rfl rfl rfl r3 (by decide) (fun h54495 => ?_) (fun h54495 => ?_)
                                    · skip
                                      refine qr_iload 148 rfl g54468 rfl ?_
                                      refine qr_retI rfl rfl (by decide) (by decide) ?_
                                      exact ⟨_, _, rfl, hI54490, hF54492, u54469, rfl, (qrg hf54476 (by decide) (by decide))⟩
                                    · skip
                                      refine qr_iload 143 rfl g54467 rfl ?_
                                      refine qr_goto 148 rfl rfl ?_
                                      refine qr_retI rfl rfl (by decide) (by decide) ?_
                                      exact ⟨_, _, rfl, hI54490, hF54492, u54211, rfl, (qrg hf54217 (by decide) (by decide))⟩
                                  · skip
                                    refine qr_iload 132 rfl g54466 rfl ?_
                                    refine qr_goto 148 rfl rfl ?_
                                    refine qr_retI rfl rfl (by decide) (by decide) ?_
                                    exact ⟨_, _, rfl, hI54490, hF54492, u50273, rfl, (qrg hf50279 (by decide) (by decide))⟩
                    exact hL54477 ((32 - 0 + 1 : Int)).toNat _ 0 σ54212 α54213 (by omega) (qm_gk g54205 (by decide) (Or.inl (by decide))) (qm_gk g54206 (by decide) (Or.inl (by decide))) (qm_gk g54207 (by decide) (Or.inl (by decide))) (qm_gk g54208 (by decide) (Or.inl (by decide))) (qm_gk g54209 (by decide) (Or.inl (by decide))) (qm_gk g54210 (by decide) (Or.inr rfl)) (qm_ge _ _ _) (by decide) hI54214 hF54215 (rfl) ((hk54216).trans rfl)
              exact hL54218 ((32 - 0 + 1 : Int)).toNat _ 0 σ50274 α50275 (by omega) (qm_gk g50268 (by decide) (Or.inl (by decide))) (qm_gk g50269 (by decide) (Or.inl (by decide))) (qm_gk g50270 (by decide) (Or.inl (by decide))) (qm_gk g50271 (by decide) (Or.inl (by decide))) (qm_gk g50272 (by decide) (Or.inr rfl)) (qm_ge _ _ _) (by decide) hI50276 hF50277 ((hk50278).trans rfl)
        exact hL50281 ((10000 - (x2 / 10000) + 1 : Int)).toNat _ (x2 / 10000) σ α (by omega) rfl rfl rfl rfl rfl (by omega) hI hF0 (rfl) (by omega)
      · skip
        refine qr_iconst 29 rfl rfl ?_
        refine qr_retI rfl rfl (by decide) (by decide) ?_
        exact ⟨_, _, rfl, hI, hF0, (-1), rfl, (by decide)⟩
end
section
theorem qz_and_m {c : Int} (h : 0 ≤ c ∧ c ≤ 2147483647) : qz_and c 65535 = c % 65536 := by
  have h1 : qlz (qz_and c 65535) = qlz c &&& qlz 65535 := qlz_and rfl
  rw [show qlz 65535 = 2 ^ 16 - 1 by decide +kernel, Nat.and_two_pow_sub_one_eq_mod] at h1
  have h2 := qlz_nn h
  have h3 := qz_andL 65535 h
  have h4 := qlz_nn (a := qz_and c 65535) (by omega)
  omega
section QWS
variable {C N : Nat → Int} {z i : Int} {s : Nat → Int} {p : Int}
theorem qws_num {a : Int} {k : Nat} (h : i < z) (hc : C i.toNat / 65536 = 48) (hp : p < 120) (ha : a = C i.toNat % 65536) (hk : k = p.toNat) : qwv C N z i s p = qwv C N z (i + 1) (qzu s k a) (p + 1) := by
  rw [qwv_s C N s p h, if_pos (Or.inl hc), if_neg (by omega), if_pos hc, ha, hk]
theorem qws_nam {a : Int} {k : Nat} (h : i < z) (hc : C i.toNat / 65536 = 97) (hp : p < 120) (hm : C i.toNat % 65536 < 9) (ha : a = N (C i.toNat % 65536).toNat) (hk : k = p.toNat) : qwv C N z i s p = qwv C N z (i + 1) (qzu s k a) (p + 1) := by
  rw [qwv_s C N s p h, if_pos (Or.inr hc), if_neg (by omega), if_neg (by omega), if_pos hm, ha, hk]
theorem qws_nam9 {a : Int} {k : Nat} (h : i < z) (hc : C i.toNat / 65536 = 97) (hp : p < 120) (hm : 9 ≤ C i.toNat % 65536) (ha : a = 0) (hk : k = p.toNat) : qwv C N z i s p = qwv C N z (i + 1) (qzu s k a) (p + 1) := by
  rw [qwv_s C N s p h, if_pos (Or.inr hc), if_neg (by omega), if_neg (by omega), if_neg (by omega), ha, hk]
theorem qws_ful (h : i < z) (hc : C i.toNat / 65536 = 48 ∨ C i.toNat / 65536 = 97) (hp : 120 ≤ p) : qwv C N z i s p = 0 := by
  rw [qwv_s C N s p h, if_pos hc, if_pos hp]
theorem qws_emp (h : i < z) (hc : ¬ C i.toNat / 65536 = 48 ∧ ¬ C i.toNat / 65536 = 97) (hp : p < 1) : qwv C N z i s p = 0 := by
  rw [qwv_s C N s p h, if_neg (by omega), if_pos hp]
theorem qws_end (h : i < z) (hc : C i.toNat / 65536 = 59) (hp : 1 ≤ p) : qwv C N z i s p = s (p - 1).toNat := by
  rw [qwv_s C N s p h, if_neg (by omega), if_neg (by omega), if_pos hc]
theorem qws_if {j : Int} (h : i < z) (hc : C i.toNat / 65536 = 63) (hp : 1 ≤ p) (hj : (s (p - 1).toNat = 0 ∧ ((i + 1 ≤ C i.toNat % 65536 ∧ j = C i.toNat % 65536) ∨ (C i.toNat % 65536 ≤ i + 1 ∧ j = i + 1))) ∨ (¬ s (p - 1).toNat = 0 ∧ j = i + 1)) : qwv C N z i s p = qwv C N z j s (p - 1) := by
  rw [qwv_s C N s p h, if_neg (by omega), if_neg (by omega), if_neg (by omega), if_pos hc]
  have e : (if s (p - 1).toNat = 0 ∧ i + 1 ≤ C i.toNat % 65536 then C i.toNat % 65536 else i + 1) = j := by
    split <;> omega
  rw [e]
theorem qws_not {a : Int} {k : Nat} (h : i < z) (hc : C i.toNat / 65536 = 33) (hp : 1 ≤ p) (ha : (s (p - 1).toNat = 0 ∧ a = 1) ∨ (¬ s (p - 1).toNat = 0 ∧ a = 0)) (hk : k = (p - 1).toNat) : qwv C N z i s p = qwv C N z (i + 1) (qzu s k a) p := by
  rw [qwv_s C N s p h, if_neg (by omega), if_neg (by omega), if_neg (by omega), if_neg (by omega), if_pos hc]
  have e : (if s (p - 1).toNat = 0 then (1 : Int) else 0) = a := by split <;> omega
  rw [e, hk]
theorem qws_neg {a : Int} {k : Nat} (h : i < z) (hc : C i.toNat / 65536 = 126) (hp : 1 ≤ p) (ha : a = (qz (-(s (p - 1).toNat))).toInt) (hk : k = (p - 1).toNat) : qwv C N z i s p = qwv C N z (i + 1) (qzu s k a) p := by
  rw [qwv_s C N s p h, if_neg (by omega), if_neg (by omega), if_neg (by omega), if_neg (by omega), if_neg (by omega), if_pos hc, ha, hk]
theorem qws_two (h : i < z) (hc : ¬ C i.toNat / 65536 = 48 ∧ ¬ C i.toNat / 65536 = 97 ∧ ¬ C i.toNat / 65536 = 59 ∧ ¬ C i.toNat / 65536 = 63 ∧ ¬ C i.toNat / 65536 = 33 ∧ ¬ C i.toNat / 65536 = 126) (hp : 1 ≤ p ∧ p < 2) : qwv C N z i s p = 0 := by
  rw [qwv_s C N s p h, if_neg (by omega), if_neg (by omega), if_neg (by omega), if_neg (by omega), if_neg (by omega), if_neg (by omega), if_pos (by omega)]
theorem qws_bin {a : Int} {k : Nat} (h : i < z) (hc : ¬ C i.toNat / 65536 = 48 ∧ ¬ C i.toNat / 65536 = 97 ∧ ¬ C i.toNat / 65536 = 59 ∧ ¬ C i.toNat / 65536 = 63 ∧ ¬ C i.toNat / 65536 = 33 ∧ ¬ C i.toNat / 65536 = 126) (hp : 2 ≤ p) (ha : a = qtx_ap (C i.toNat / 65536) (s (p - 2).toNat) (s (p - 1).toNat)) (hk : k = (p - 2).toNat) : qwv C N z i s p = qwv C N z (i + 1) (qzu s k a) (p - 1) := by
  rw [qwv_s C N s p h, if_neg (by omega), if_neg (by omega), if_neg (by omega), if_neg (by omega), if_neg (by omega), if_neg (by omega), if_neg (by omega), ha, hk]
end QWS
theorem qap_def {c x y : Int} (h : ¬ c = 124 ∧ ¬ c = 38 ∧ ¬ c = 60 ∧ ¬ c = 61 ∧ ¬ c = 62 ∧ ¬ c = 43 ∧ ¬ c = 45 ∧ ¬ c = 42 ∧ ¬ c = 47 ∧ ¬ c = 37) : 0 = qtx_ap c x y := by
  unfold qtx_ap
  rw [if_neg h.1, if_neg h.2.1, if_neg h.2.2.1, if_neg h.2.2.2.1, if_neg h.2.2.2.2.1, if_neg h.2.2.2.2.2.1, if_neg h.2.2.2.2.2.2.1, if_neg h.2.2.2.2.2.2.2.1, if_neg h.2.2.2.2.2.2.2.2.1, if_neg h.2.2.2.2.2.2.2.2.2]
  split <;> rfl

set_option maxHeartbeats 4000000 in
set_option maxRecDepth 20000 in
/-- OneRoof$Custom.joined -/
theorem sf_98x {L : Nat} {xs : Nat → Int} {vb : Bool} {d : Nat} {σ α : Nat → Nat → Int} {κ : Nat → Option Nat} {ρ : Nat} {x0 : Int} {x1 : Int} {x2 : Int} (hI : qI σ α κ ρ) (r0 : (-2147483648) ≤ x0 ∧ x0 ≤ 2147483647) (r1 : (-2147483648) ≤ x1 ∧ x1 ≤ 2147483647) (r2 : (-2147483648) ≤ x2 ∧ x2 ≤ 2147483647) : qm_T (qe L xs vb) (d + 1) 98 [.int (qz x0), .int (qz x1), .int (qz x2)] (qw σ α κ ρ) (fun r w' => w' = qw σ α κ ρ ∧ ∃ v : Int, r = some (.int (qz v)) ∧ ((-2147483648) ≤ v ∧ v ≤ 2147483647) ∧ v = qtx_ap x0 x1 x2) := by
  refine qr_start (d := d + 0) qv_e98 (Nat.le_of_ble_eq_true rfl) ?_
  show qr_W (qe L xs vb) (d + 0) qx_e98 _ (0, [(0, .int (qz x0)), (1, .int (qz x1)), (2, .int (qz x2))], [], _, 0, 0)
  refine qr_iload_n 1 rfl rfl rfl ?_
  have h1 : x0 = 37 ∨ x0 = 38 ∨ x0 = 42 ∨ x0 = 43 ∨ x0 = 45 ∨ x0 = 47 ∨ x0 = 60 ∨ x0 = 61 ∨ x0 = 62 ∨ x0 = 124 ∨ (¬ x0 = 37 ∧ ¬ x0 = 38 ∧ ¬ x0 = 42 ∧ ¬ x0 = 43 ∧ ¬ x0 = 45 ∧ ¬ x0 = 47 ∧ ¬ x0 = 60 ∧ ¬ x0 = 61 ∧ ¬ x0 = 62 ∧ ¬ x0 = 124) := by omega
  rcases h1 with h1 | h1 | h1 | h1 | h1 | h1 | h1 | h1 | h1 | h1 | h1
  · skip
    refine qr_look (off := 176) 177 rfl (by omega) (by decide) (by rw [h1]; decide) rfl ?_
    refine qr_iload_n 178 rfl rfl rfl ?_
    refine qr_if_ne 185 181 rfl rfl rfl r2 (fun h3 => ?_) (fun h3 => ?_)
    · skip
      refine qr_iload_n 186 rfl rfl rfl ?_
      refine qr_iload_n 187 rfl rfl rfl ?_
      refine qr_iremW 188 rfl (by omega) rfl ?_
      refine qy_canE (fun v4 hv4 hev4 => ?_)
      refine qr_retI rfl rfl (by decide) (by decide) ?_
      exact ⟨rfl, v4, rfl, hv4, (qap_rem (by omega) (by omega) hev4 (by omega))⟩
    · skip
      refine qr_iconst 182 rfl rfl ?_
      refine qr_goto 188 rfl rfl ?_
      refine qr_retI rfl rfl (by decide) (by decide) ?_
      exact ⟨rfl, 0, rfl, (by decide), (qap_z (by omega) (by omega))⟩
  · skip
    refine qr_look (off := 105) 106 rfl (by omega) (by decide) (by rw [h1]; decide) rfl ?_
    refine qr_iload_n 107 rfl rfl rfl ?_
    refine qr_if_eq 118 110 rfl rfl rfl r1 (fun h5 => ?_) (fun h5 => ?_)
    · skip
      refine qr_iconst 119 rfl rfl ?_
      refine qr_retI rfl rfl (by decide) (by decide) ?_
      exact ⟨rfl, 0, rfl, (by decide), (qap_and (by omega) (by omega))⟩
    · skip
      refine qr_iload_n 111 rfl rfl rfl ?_
      refine qr_if_eq 118 114 rfl rfl rfl r2 (fun h6 => ?_) (fun h6 => ?_)
      · skip
        refine qr_iconst 119 rfl rfl ?_
        refine qr_retI rfl rfl (by decide) (by decide) ?_
        exact ⟨rfl, 0, rfl, (by decide), (qap_and (by omega) (by omega))⟩
      · skip
        refine qr_iconst 115 rfl rfl ?_
        refine qr_goto 119 rfl rfl ?_
        refine qr_retI rfl rfl (by decide) (by decide) ?_
        exact ⟨rfl, 1, rfl, (by decide), (qap_and (by omega) (by omega))⟩
  · skip
    refine qr_look (off := 160) 161 rfl (by omega) (by decide) (by rw [h1]; decide) rfl ?_
    refine qr_iload_n 162 rfl rfl rfl ?_
    refine qr_iload_n 163 rfl rfl rfl ?_
    refine qr_imul 164 rfl rfl ?_
    refine qy_canE (fun v7 hv7 hev7 => ?_)
    refine qr_retI rfl rfl (by decide) (by decide) ?_
    exact ⟨rfl, v7, rfl, hv7, (qap_mul (by omega) hev7 (by omega))⟩
  · skip
    refine qr_look (off := 152) 153 rfl (by omega) (by decide) (by rw [h1]; decide) rfl ?_
    refine qr_iload_n 154 rfl rfl rfl ?_
    refine qr_iload_n 155 rfl rfl rfl ?_
    refine qr_iadd 156 rfl rfl ?_
    refine qy_canE (fun v8 hv8 hev8 => ?_)
    refine qr_retI rfl rfl (by decide) (by decide) ?_
    exact ⟨rfl, v8, rfl, hv8, (qap_add (by omega) hev8 (by omega))⟩
  · skip
    refine qr_look (off := 156) 157 rfl (by omega) (by decide) (by rw [h1]; decide) rfl ?_
    refine qr_iload_n 158 rfl rfl rfl ?_
    refine qr_iload_n 159 rfl rfl rfl ?_
    refine qr_isub 160 rfl rfl ?_
    refine qy_canE (fun v9 hv9 hev9 => ?_)
    refine qr_retI rfl rfl (by decide) (by decide) ?_
    exact ⟨rfl, v9, rfl, hv9, (qap_sub (by omega) hev9 (by omega))⟩
  · skip
    refine qr_look (off := 164) 165 rfl (by omega) (by decide) (by rw [h1]; decide) rfl ?_
    refine qr_iload_n 166 rfl rfl rfl ?_
    refine qr_if_ne 173 169 rfl rfl rfl r2 (fun h10 => ?_) (fun h10 => ?_)
    · skip
      refine qr_iload_n 174 rfl rfl rfl ?_
      refine qr_iload_n 175 rfl rfl rfl ?_
      refine qr_idivW 176 rfl (by omega) rfl ?_
      refine qy_canE (fun v11 hv11 hev11 => ?_)
      refine qr_retI rfl rfl (by decide) (by decide) ?_
      exact ⟨rfl, v11, rfl, hv11, (qap_div (by omega) (by omega) hev11 (by omega))⟩
    · skip
      refine qr_iconst 170 rfl rfl ?_
      refine qr_goto 176 rfl rfl ?_
      refine qr_retI rfl rfl (by decide) (by decide) ?_
      exact ⟨rfl, 0, rfl, (by decide), (qap_z (by omega) (by omega))⟩
  · skip
    refine qr_look (off := 119) 120 rfl (by omega) (by decide) (by rw [h1]; decide) rfl ?_
    refine qr_iload_n 121 rfl rfl rfl ?_
    refine qr_iload_n 122 rfl rfl rfl ?_
    refine qr_icmp_ge 129 125 rfl rfl rfl r1 r2 (fun h12 => ?_) (fun h12 => ?_)
    · skip
      refine qr_iconst 130 rfl rfl ?_
      refine qr_retI rfl rfl (by decide) (by decide) ?_
      exact ⟨rfl, 0, rfl, (by decide), (qap_cmp (by omega))⟩
    · skip
      refine qr_iconst 126 rfl rfl ?_
      refine qr_goto 130 rfl rfl ?_
      refine qr_retI rfl rfl (by decide) (by decide) ?_
      exact ⟨rfl, 1, rfl, (by decide), (qap_cmp (by omega))⟩
  · skip
    refine qr_look (off := 130) 131 rfl (by omega) (by decide) (by rw [h1]; decide) rfl ?_
    refine qr_iload_n 132 rfl rfl rfl ?_
    refine qr_iload_n 133 rfl rfl rfl ?_
    refine qr_icmp_ne 140 136 rfl rfl rfl r1 r2 (fun h13 => ?_) (fun h13 => ?_)
    · skip
      refine qr_iconst 141 rfl rfl ?_
      refine qr_retI rfl rfl (by decide) (by decide) ?_
      exact ⟨rfl, 0, rfl, (by decide), (qap_cmp (by omega))⟩
    · skip
      refine qr_iconst 137 rfl rfl ?_
      refine qr_goto 141 rfl rfl ?_
      refine qr_retI rfl rfl (by decide) (by decide) ?_
      exact ⟨rfl, 1, rfl, (by decide), (qap_cmp (by omega))⟩
  · skip
    refine qr_look (off := 141) 142 rfl (by omega) (by decide) (by rw [h1]; decide) rfl ?_
    refine qr_iload_n 143 rfl rfl rfl ?_
    refine qr_iload_n 144 rfl rfl rfl ?_
    refine qr_icmp_le 151 147 rfl rfl rfl r1 r2 (fun h14 => ?_) (fun h14 => ?_)
    · skip
      refine qr_iconst 152 rfl rfl ?_
      refine qr_retI rfl rfl (by decide) (by decide) ?_
      exact ⟨rfl, 0, rfl, (by decide), (qap_cmp (by omega))⟩
    · skip
      refine qr_iconst 148 rfl rfl ?_
      refine qr_goto 152 rfl rfl ?_
      refine qr_retI rfl rfl (by decide) (by decide) ?_
      exact ⟨rfl, 1, rfl, (by decide), (qap_cmp (by omega))⟩
  · skip
    refine qr_look (off := 91) 92 rfl (by omega) (by decide) (by rw [h1]; decide) rfl ?_
    refine qr_iload_n 93 rfl rfl rfl ?_
    refine qr_if_ne 100 96 rfl rfl rfl r1 (fun h15 => ?_) (fun h15 => ?_)
    · skip
      refine qr_iconst 101 rfl rfl ?_
      refine qr_goto 105 rfl rfl ?_
      refine qr_retI rfl rfl (by decide) (by decide) ?_
      exact ⟨rfl, 1, rfl, (by decide), (qap_or (by omega) (by omega))⟩
    · skip
      refine qr_iload_n 97 rfl rfl rfl ?_
      refine qr_if_eq 104 100 rfl rfl rfl r2 (fun h16 => ?_) (fun h16 => ?_)
      · skip
        refine qr_iconst 105 rfl rfl ?_
        refine qr_retI rfl rfl (by decide) (by decide) ?_
        exact ⟨rfl, 0, rfl, (by decide), (qap_or (by omega) (by omega))⟩
      · skip
        refine qr_iconst 101 rfl rfl ?_
        refine qr_goto 105 rfl rfl ?_
        refine qr_retI rfl rfl (by decide) (by decide) ?_
        exact ⟨rfl, 1, rfl, (by decide), (qap_or (by omega) (by omega))⟩
  · skip
    refine qr_look (off := 188) 189 rfl (by omega) (by decide) (by simp only [Op.lookupswitch.offset_cons, Op.lookupswitch.offset_nil]; repeat' split; all_goals omega) rfl ?_
    refine qr_iconst 190 rfl rfl ?_
    refine qr_retI rfl rfl (by decide) (by decide) ?_
    exact ⟨rfl, 0, rfl, (by decide), (qap_def (by omega))⟩

set_option maxHeartbeats 4000000 in
set_option maxRecDepth 20000 in
/-- OneRoof$Custom.worth -/
theorem sf_97_50_59x {L : Nat} {xs : Nat → Int} {vb : Bool} {d : Nat} {σ α : Nat → Nat → Int} {κ : Nat → Option Nat} {ρ : Nat}  (hI : qI σ α κ ρ) (p0 : ∀ k : Int, 0 ≤ k → k < σ 50 5 → 0 ≤ α 52 k.toNat ∧ α 52 k.toNat < 8388608) : qm_T (qe L xs vb) (d + 2) 97 [.ref 50, .ref 59] (qw σ α κ ρ) (fun r w' => ∃ α', w' = qw σ α' κ ρ ∧ qI σ α' κ ρ ∧ qFr [] [53] σ α σ α' ∧ ∃ v : Int, r = some (.int (qz v)) ∧ ((-2147483648) ≤ v ∧ v ≤ 2147483647) ∧ v = qwv (α 52) (α 59) (σ 50 5) 0 (α 53) 0) := by
  refine qr_start (d := d + 1) qv_e97 (Nat.le_of_ble_eq_true rfl) ?_
  show qr_W (qe L xs vb) (d + 1) qx_e97 _ (0, [(0, .ref 50), (1, .ref 59)], [], _, 0, 0)
  have hF0 := qFr_rf [] [53] σ α
  have hz50_5 : 0 ≤ σ 50 5 ∧ σ 50 5 ≤ 122 := hI.1 50 5
  refine qr_iconst 1 rfl rfl ?_
  refine qr_istore_n _ 2 rfl (by decide) rfl rfl ?_
  refine qr_iconst 3 rfl rfl ?_
  refine qr_istore_n _ 4 rfl (by decide) rfl rfl ?_
  have hL1533 : ∀ (n : Nat) (ls : qm_L) (u1521 u1523 : Int) (α1525 : Nat → Nat → Int), 65536 - u1523 < (n : Int) → qm_get ls 0 = some (.ref 50) → qm_get ls 1 = some (.ref 59) → qm_get ls 2 = some (.int (qz u1521)) → qm_get ls 3 = some (.int (qz u1523)) → (0 ≤ u1521 ∧ u1521 ≤ 120) → (0 ≤ u1523 ∧ u1523 ≤ 65535) → qI σ α1525 κ ρ → qFr [] [53] σ α σ α1525 → α1525 52 = (α 52) → α1525 59 = (α 59) → qwv (α 52) (α 59) (σ 50 5) 0 (α 53) 0 = qwv (α 52) (α 59) (σ 50 5) u1523 (α1525 53) u1521 → qr_W (qe L xs vb) (d + 1) qx_e97 (fun r w' => ∃ α', w' = qw σ α' κ ρ ∧ qI σ α' κ ρ ∧ qFr [] [53] σ α σ α' ∧ ∃ v : Int, r = some (.int (qz v)) ∧ ((-2147483648) ≤ v ∧ v ≤ 2147483647) ∧ v = qwv (α 52) (α 59) (σ 50 5) 0 (α 53) 0) (4, ls, [], qw σ α1525 κ ρ, 0, 0) := by
    intro n
    induction n with
    | zero => intro ls u1521 u1523 α1525 hm g1518 g1519 g1520 g1522 hf1530 hf1531 hI1526 hF1527 hk1528 hk1529 hx1532; exact False.elim (by omega)
    | succ n ih1534 =>
      intro ls u1521 u1523 α1525 hm g1518 g1519 g1520 g1522 hf1530 hf1531 hI1526 hF1527 hk1528 hk1529 hx1532
      refine qr_iload_n 5 rfl g1522 rfl ?_
      refine qr_aload_n 6 rfl g1518 rfl ?_
      refine qr_get 9 rfl rfl rfl (by decide) rfl ?_
      refine qr_icmp_ge 240 12 rfl rfl rfl (qrg hf1531 (by decide) (by decide)) (qrg hz50_5 (by decide) (by decide)) (fun h1535 => ?_) (fun h1535 => ?_)
      · skip
        refine qr_iconst 241 rfl rfl ?_
        refine qr_retI rfl rfl (by decide) (by decide) ?_
        exact ⟨_, rfl, hI1526, hF1527, 0, rfl, (by decide), (by rw [hx1532, qwv_end (by omega)])⟩
      · skip
        refine qr_aload_n 13 rfl g1518 rfl ?_
        refine qr_get 16 rfl rfl rfl (by decide) rfl ?_
        refine qr_iload_n 17 rfl g1522 rfl ?_
        refine qr_iaload 18 rfl rfl (by omega) (by decide) rfl ?_
        refine qr_topI (fun v1536 hv1536 => ?_)
        have hs1537 : (-2147483648) ≤ v1536 ∧ v1536 ≤ 2147483647 := by rw [hv1536]; exact hI1526.2.1 52 _ (show _ < 122 by omega)
        have hrv1536 : v1536 = (α 52) (u1523 : Int).toNat := hv1536.trans (congrFun hk1528 _)
        have hcv1536 := p0 u1523 (by omega) (by omega)
        rw [← hrv1536] at hcv1536
        refine qr_bipush 20 rfl (by decide) rfl ?_
        refine qr_iushr 21 rfl rfl ?_
        refine qy_v (v1536 / 65536) (qz_ushr16 (by omega)) ?_
        refine qr_istore _ 23 rfl (by decide) rfl rfl ?_
        refine qr_aload_n 24 rfl (qm_gk g1518 (by decide) (Or.inl (by decide))) rfl ?_
        refine qr_get 27 rfl rfl rfl (by decide) rfl ?_
        refine qr_iload_n 28 rfl (qm_gk g1522 (by decide) (Or.inr rfl)) rfl ?_
        refine qr_iaload 29 rfl rfl (by omega) (by decide) rfl ?_
        refine qr_topI (fun v1538 hv1538 => ?_)
        have hs1539 : (-2147483648) ≤ v1538 ∧ v1538 ≤ 2147483647 := by rw [hv1538]; exact hI1526.2.1 52 _ (show _ < 122 by omega)
        have hrv1538 : v1538 = (α 52) (u1523 : Int).toNat := hv1538.trans (congrFun hk1528 _)
        have hdv1538 : v1538 = v1536 := hrv1538.trans hrv1536.symm
        refine qr_ldc 65535 31 rfl (by decide) rfl ?_
        refine qr_iand 32 rfl rfl ?_
        refine qy_andrE (by omega) (fun v1540 hv1540 hev1540 => ?_)
        refine qr_istore _ 34 rfl (by decide) rfl rfl ?_
        rw [qz_and_m (by omega)] at hev1540
        refine qr_iload 36 rfl (qm_gk (qm_ge _ _ _) (by decide) (Or.inr rfl)) rfl ?_
        refine qr_bipush 38 rfl (by decide) rfl ?_
        refine qr_icmp_eq 48 41 rfl rfl rfl (by omega) (by decide) (fun h1541 => ?_) (fun h1541 => ?_)
        · skip
          refine qr_iload_n 49 rfl (qm_gk (qm_gk g1520 (by decide) (Or.inl (by decide))) (by decide) (Or.inl (by decide))) rfl ?_
          refine qr_aload_n 50 rfl (qm_gk (qm_gk g1518 (by decide) (Or.inl (by decide))) (by decide) (Or.inl (by decide))) rfl ?_
          refine qr_get 53 rfl rfl rfl (by decide) rfl ?_
          refine qr_alen 54 rfl rfl (by first | exact Or.inl (by decide) | exact Or.inr (Or.inl rfl) | exact Or.inr (Or.inr (Or.inl rfl)) | exact Or.inr (Or.inr (Or.inr (Or.inl rfl)))) rfl ?_
          refine qy_v 120 rfl ?_
          refine qr_icmp_lt 59 57 rfl rfl rfl (qrg hf1530 (by decide) (by decide)) (by decide) (fun h1542 => ?_) (fun h1542 => ?_)
          · skip
            refine qr_aload_n 60 rfl (qm_gk (qm_gk g1518 (by decide) (Or.inl (by decide))) (by decide) (Or.inl (by decide))) rfl ?_
            refine qr_get 63 rfl rfl rfl (by decide) rfl ?_
            refine qr_iload_n 64 rfl (qm_gk (qm_gk g1520 (by decide) (Or.inl (by decide))) (by decide) (Or.inl (by decide))) rfl ?_
            refine qr_iinc _ 67 rfl (qm_gk (qm_gk g1520 (by decide) (Or.inl (by decide))) (by decide) (Or.inl (by decide))) (by decide) rfl rfl ?_
            refine qr_iload 69 rfl (qm_gk (qm_gk (qm_ge _ _ _) (by decide) (Or.inr rfl)) (by decide) (Or.inl (by decide))) rfl ?_
            refine qr_bipush 71 rfl (by decide) rfl ?_
            refine qr_icmp_ne 79 74 rfl rfl rfl (by omega) (by decide) (fun h => False.elim (by omega)) (fun h1543 => ?_)
            refine qr_iload 76 rfl (qm_gk (qm_ge _ _ _) (by decide) (Or.inl (by decide))) rfl ?_
            refine qr_goto 94 rfl rfl ?_
            refine qr_iastore 95 rfl (by decide) rfl (by omega) (by decide) rfl ?_
            refine qy_wA (qw_r α1525 53 (qzu (α1525 53) (u1521 : Int).toNat v1540)) rfl (fun α1544 e1545 => ?_)
            have hI1546 : qI σ α1544 κ ρ := by rw [e1545]; exact qI_r hI1526 53 _ rfl (show (-2147483648) ≤ v1540 ∧ v1540 ≤ 2147483647 by omega)
            have hF1547 : qFr [] [53] σ α σ α1544 := by rw [e1545]; exact qFr_r hF1527 53 _ (by decide)
            refine qr_goto 234 rfl rfl ?_
            refine qr_iinc _ 237 rfl (qm_gk (qm_gk (qm_gk g1522 (by decide) (Or.inr rfl)) (by decide) (Or.inl (by decide))) (by decide) (Or.inl (by decide))) (by decide) rfl rfl ?_
            refine qr_goto 4 rfl rfl ?_
            exact ih1534 _ (u1521 + 1) (u1523 + 1) α1544 (by omega) (qm_gk (qm_gk (qm_gk (qm_gk g1518 (by decide) (Or.inl (by decide))) (by decide) (Or.inl (by decide))) (by decide) (Or.inl (by decide))) (by decide) (Or.inl (by decide))) (qm_gk (qm_gk (qm_gk (qm_gk g1519 (by decide) (Or.inl (by decide))) (by decide) (Or.inl (by decide))) (by decide) (Or.inr rfl)) (by decide) (Or.inl (by decide))) (qm_gk (qm_ge _ _ _) (by decide) (Or.inr rfl)) (qm_ge _ _ _) (by omega) (by omega) hI1546 hF1547 ((congrFun e1545 52).trans ((qw_r_ne (by decide)).trans hk1528)) ((congrFun e1545 59).trans ((qw_r_ne (by decide)).trans hk1529)) (by rw [(congrFun e1545 53).trans qw_r_eq]; exact hx1532.trans (qws_num (by omega) (by rw [← hrv1536]; omega) (by omega) (by rw [← hrv1536]; omega) rfl))
          · skip
            refine qr_iconst 58 rfl rfl ?_
            refine qr_retI rfl rfl (by decide) (by decide) ?_
            exact ⟨_, rfl, hI1526, hF1527, 0, rfl, (by decide), (by rw [hx1532, (qws_ful (by omega) (by rw [← hrv1536]; omega) (by omega))])⟩
        · skip
          refine qr_iload 43 rfl (qm_gk (qm_ge _ _ _) (by decide) (Or.inr rfl)) rfl ?_
          refine qr_bipush 45 rfl (by decide) rfl ?_
          refine qr_icmp_ne 98 48 rfl rfl rfl (by omega) (by decide) (fun h1548 => ?_) (fun h1548 => ?_)
          · skip
            refine qr_iload_n 99 rfl (qm_gk (qm_gk g1520 (by decide) (Or.inl (by decide))) (by decide) (Or.inl (by decide))) rfl ?_
            refine qr_iconst 100 rfl rfl ?_
            refine qr_icmp_ge 105 103 rfl rfl rfl (qrg hf1530 (by decide) (by decide)) (by decide) (fun h1549 => ?_) (fun h1549 => ?_)
            · skip
              refine qr_aload_n 106 rfl (qm_gk (qm_gk g1518 (by decide) (Or.inl (by decide))) (by decide) (Or.inl (by decide))) rfl ?_
              refine qr_get 109 rfl rfl rfl (by decide) rfl ?_
              refine qr_iload_n 110 rfl (qm_gk (qm_gk g1520 (by decide) (Or.inl (by decide))) (by decide) (Or.inl (by decide))) rfl ?_
              refine qr_iconst 111 rfl rfl ?_
              refine qr_isub 112 rfl rfl ?_
              refine qr_iaload 113 rfl rfl (by omega) (by decide) rfl ?_
              refine qr_topI (fun v1550 hv1550 => ?_)
              have hs1551 : (-2147483648) ≤ v1550 ∧ v1550 ≤ 2147483647 := by rw [hv1550]; exact hI1526.2.1 53 _ (show _ < 120 by omega)
              refine qr_istore _ 115 rfl (by decide) rfl rfl ?_
              refine qr_iload 117 rfl (qm_gk (qm_gk (qm_ge _ _ _) (by decide) (Or.inr rfl)) (by decide) (Or.inl (by decide))) rfl ?_
              refine qr_bipush 119 rfl (by decide) rfl ?_
              refine qr_icmp_ne 125 122 rfl rfl rfl (by omega) (by decide) (fun h1552 => ?_) (fun h1552 => ?_)
              · skip
                refine qr_iload 127 rfl (qm_gk (qm_gk (qm_ge _ _ _) (by decide) (Or.inr rfl)) (by decide) (Or.inl (by decide))) rfl ?_
                refine qr_bipush 129 rfl (by decide) rfl ?_
                refine qr_icmp_ne 152 132 rfl rfl rfl (by omega) (by decide) (fun h1553 => ?_) (fun h1553 => ?_)
                · skip
                  refine qr_iload 154 rfl (qm_gk (qm_gk (qm_ge _ _ _) (by decide) (Or.inr rfl)) (by decide) (Or.inl (by decide))) rfl ?_
                  refine qr_bipush 156 rfl (by decide) rfl ?_
                  refine qr_icmp_ne 180 159 rfl rfl rfl (by omega) (by decide) (fun h1554 => ?_) (fun h1554 => ?_)
                  · skip
                    refine qr_iload 182 rfl (qm_gk (qm_gk (qm_ge _ _ _) (by decide) (Or.inr rfl)) (by decide) (Or.inl (by decide))) rfl ?_
                    refine qr_bipush 184 rfl (by decide) rfl ?_
                    refine qr_icmp_ne 201 187 rfl rfl rfl (by omega) (by decide) (fun h1555 => ?_) (fun h1555 => ?_)
                    · skip
                      refine qr_iload_n 202 rfl (qm_gk (qm_gk (qm_gk g1520 (by decide) (Or.inl (by decide))) (by decide) (Or.inl (by decide))) (by decide) (Or.inl (by decide))) rfl ?_
                      refine qr_iconst 203 rfl rfl ?_
                      refine qr_icmp_ge 208 206 rfl rfl rfl (qrg hf1530 (by decide) (by decide)) (by decide) (fun h1556 => ?_) (fun h1556 => ?_)
                      · skip
                        refine qr_iinc _ 211 rfl (qm_gk (qm_gk (qm_gk g1520 (by decide) (Or.inl (by decide))) (by decide) (Or.inl (by decide))) (by decide) (Or.inl (by decide))) (by decide) rfl rfl ?_
                        as_aux_lemma =>
                          refine qr_aload_n 212 rfl (qm_gk (qm_gk (qm_gk (qm_gk g1518 (by decide) (Or.inl (by decide))) (by decide) (Or.inl (by decide))) (by decide) (Or.inl (by decide))) (by decide) (Or.inl (by decide))) rfl ?_
                          refine qr_get 215 rfl rfl rfl (by decide) rfl ?_
                          refine qr_iload_n 216 rfl (qm_ge _ _ _) rfl ?_
                          refine qr_iconst 217 rfl rfl ?_
                          refine qr_isub 218 rfl rfl ?_
                          refine qr_iload 220 rfl (qm_gk (qm_gk (qm_gk (qm_ge _ _ _) (by decide) (Or.inr rfl)) (by decide) (Or.inl (by decide))) (by decide) (Or.inl (by decide))) rfl ?_
                          refine qr_aload_n 221 rfl (qm_gk (qm_gk (qm_gk (qm_gk g1518 (by decide) (Or.inl (by decide))) (by decide) (Or.inl (by decide))) (by decide) (Or.inl (by decide))) (by decide) (Or.inl (by decide))) rfl ?_
                          refine qr_get 224 rfl rfl rfl (by decide) rfl ?_
                          refine qr_iload_n 225 rfl (qm_ge _ _ _) rfl ?_
                          refine qr_iconst 226 rfl rfl ?_
                          refine qr_isub 227 rfl rfl ?_
                          refine qr_iaload 228 rfl rfl (by omega) (by decide) rfl ?_
                          refine qr_topI (fun v1557 hv1557 => ?_)
                          have hs1558 : (-2147483648) ≤ v1557 ∧ v1557 ≤ 2147483647 := by rw [hv1557]; exact hI1526.2.1 53 _ (show _ < 120 by omega)
                          refine qr_iload 230 rfl (qm_gk (qm_ge _ _ _) (by decide) (Or.inl (by decide))) rfl ?_
                          refine qr_callN 233 rfl rfl rfl (sf_98x (d := d + 0) hI1526 (by omega) hs1558 hs1551) ?_
                          rintro _ _ ⟨rfl, v1559, rfl, hv1559, hx1560⟩
                          show qr_W (qe L xs vb) (d + 1) qx_e97 _ (233, _, [.int (qz v1559), .int (qz ((u1521 + (-1)) - 1)), .ref 53], qw σ α1525 κ ρ, 0, 0)
                          refine qr_iastore 234 rfl (by decide) rfl (by omega) (by decide) rfl ?_
                          refine qy_wA (qw_r α1525 53 (qzu (α1525 53) (((u1521 + (-1)) - 1) : Int).toNat v1559)) rfl (fun α1561 e1562 => ?_)
                          have hI1563 : qI σ α1561 κ ρ := by rw [e1562]; exact qI_r hI1526 53 _ rfl (show (-2147483648) ≤ v1559 ∧ v1559 ≤ 2147483647 by omega)
                          have hF1564 : qFr [] [53] σ α σ α1561 := by rw [e1562]; exact qFr_r hF1527 53 _ (by decide)
                          refine qr_iinc _ 237 rfl (qm_gk (qm_gk (qm_gk (qm_gk g1522 (by decide) (Or.inr rfl)) (by decide) (Or.inl (by decide))) (by decide) (Or.inl (by decide))) (by decide) (Or.inl (by decide))) (by decide) rfl rfl ?_
                          refine qr_goto 4 rfl rfl ?_
                          exact ih1534 _ (u1521 + (-1)) (u1523 + 1) α1561 (by omega) (qm_gk (qm_gk (qm_gk (qm_gk (qm_gk g1518 (by decide) (Or.inl (by decide))) (by decide) (Or.inl (by decide))) (by decide) (Or.inl (by decide))) (by decide) (Or.inl (by decide))) (by decide) (Or.inl (by decide))) (qm_gk (qm_gk (qm_gk (qm_gk (qm_gk g1519 (by decide) (Or.inl (by decide))) (by decide) (Or.inl (by decide))) (by decide) (Or.inl (by decide))) (by decide) (Or.inr rfl)) (by decide) (Or.inl (by decide))) (qm_gk (qm_ge _ _ _) (by decide) (Or.inr rfl)) (qm_ge _ _ _) (by omega) (by omega) hI1563 hF1564 ((congrFun e1562 52).trans ((qw_r_ne (by decide)).trans hk1528)) ((congrFun e1562 59).trans ((qw_r_ne (by decide)).trans hk1529)) (by rw [(congrFun e1562 53).trans qw_r_eq]; exact hx1532.trans (qws_bin (by omega) (by rw [← hrv1536]; omega) (by omega) (by rw [show (u1521 - 2 : Int).toNat = (((u1521 + (-1)) - 1) : Int).toNat by omega, ← hrv1536, ← hv1557, ← hv1550]; exact (hx1560).trans (by rw [show v1536 / 65536 = (v1536 / 65536) by omega])) (by omega)))
                      · skip
                        refine qr_iconst 207 rfl rfl ?_
                        as_aux_lemma =>
                          refine qr_retI rfl rfl (by decide) (by decide) ?_
                          exact ⟨_, rfl, hI1526, hF1527, 0, rfl, (by decide), (by rw [hx1532, (qws_two (by omega) (by rw [← hrv1536]; omega) (by omega))])⟩
                    · skip
                      refine qr_aload_n 188 rfl (qm_gk (qm_gk (qm_gk g1518 (by decide) (Or.inl (by decide))) (by decide) (Or.inl (by decide))) (by decide) (Or.inl (by decide))) rfl ?_
                      refine qr_get 191 rfl rfl rfl (by decide) rfl ?_
                      refine qr_iload_n 192 rfl (qm_gk (qm_gk (qm_gk g1520 (by decide) (Or.inl (by decide))) (by decide) (Or.inl (by decide))) (by decide) (Or.inl (by decide))) rfl ?_
                      refine qr_iconst 193 rfl rfl ?_
                      as_aux_lemma =>
                        refine qr_isub 194 rfl rfl ?_
                        refine qr_iload 196 rfl (qm_ge _ _ _) rfl ?_
                        refine qr_ineg 197 rfl rfl ?_
                        refine qy_canE (fun v1565 hv1565 hev1565 => ?_)
                        refine qr_iastore 198 rfl (by decide) rfl (by omega) (by decide) rfl ?_
                        refine qy_wA (qw_r α1525 53 (qzu (α1525 53) ((u1521 - 1) : Int).toNat v1565)) rfl (fun α1566 e1567 => ?_)
                        have hI1568 : qI σ α1566 κ ρ := by rw [e1567]; exact qI_r hI1526 53 _ rfl (show (-2147483648) ≤ v1565 ∧ v1565 ≤ 2147483647 by omega)
                        have hF1569 : qFr [] [53] σ α σ α1566 := by rw [e1567]; exact qFr_r hF1527 53 _ (by decide)
                        refine qr_goto 234 rfl rfl ?_
                        refine qr_iinc _ 237 rfl (qm_gk (qm_gk (qm_gk g1522 (by decide) (Or.inr rfl)) (by decide) (Or.inl (by decide))) (by decide) (Or.inl (by decide))) (by decide) rfl rfl ?_
                        refine qr_goto 4 rfl rfl ?_
                        exact ih1534 _ u1521 (u1523 + 1) α1566 (by omega) (qm_gk (qm_gk (qm_gk (qm_gk g1518 (by decide) (Or.inl (by decide))) (by decide) (Or.inl (by decide))) (by decide) (Or.inl (by decide))) (by decide) (Or.inl (by decide))) (qm_gk (qm_gk (qm_gk (qm_gk g1519 (by decide) (Or.inl (by decide))) (by decide) (Or.inl (by decide))) (by decide) (Or.inl (by decide))) (by decide) (Or.inl (by decide))) (qm_gk (qm_gk (qm_gk (qm_gk g1520 (by decide) (Or.inl (by decide))) (by decide) (Or.inl (by decide))) (by decide) (Or.inl (by decide))) (by decide) (Or.inr rfl)) (qm_ge _ _ _) hf1530 (by omega) hI1568 hF1569 ((congrFun e1567 52).trans ((qw_r_ne (by decide)).trans hk1528)) ((congrFun e1567 59).trans ((qw_r_ne (by decide)).trans hk1529)) (by rw [(congrFun e1567 53).trans qw_r_eq]; exact hx1532.trans (qws_neg (by omega) (by rw [← hrv1536]; omega) (by omega) (by rw [← hv1550]; exact qtx_can hev1565 (by omega)) rfl))
                  · skip
                    refine qr_aload_n 160 rfl (qm_gk (qm_gk (qm_gk g1518 (by decide) (Or.inl (by decide))) (by decide) (Or.inl (by decide))) (by decide) (Or.inl (by decide))) rfl ?_
                    refine qr_get 163 rfl rfl rfl (by decide) rfl ?_
                    refine qr_iload_n 164 rfl (qm_gk (qm_gk (qm_gk g1520 (by decide) (Or.inl (by decide))) (by decide) (Or.inl (by decide))) (by decide) (Or.inl (by decide))) rfl ?_
                    refine qr_iconst 165 rfl rfl ?_
                    refine qr_isub 166 rfl rfl ?_
                    refine qr_iload 168 rfl (qm_ge _ _ _) rfl ?_
                    refine qr_if_ne 175 171 rfl rfl rfl hs1551 (fun h1570 => ?_) (fun h1570 => ?_)
                    · skip
                      as_aux_lemma =>
                        refine qr_iconst 176 rfl rfl ?_
                        refine qr_iastore 177 rfl (by decide) rfl (by omega) (by decide) rfl ?_
                        refine qy_wA (qw_r α1525 53 (qzu (α1525 53) ((u1521 - 1) : Int).toNat 0)) rfl (fun α1571 e1572 => ?_)
                        have hI1573 : qI σ α1571 κ ρ := by rw [e1572]; exact qI_r hI1526 53 _ rfl (show (-2147483648) ≤ 0 ∧ 0 ≤ 2147483647 by omega)
                        have hF1574 : qFr [] [53] σ α σ α1571 := by rw [e1572]; exact qFr_r hF1527 53 _ (by decide)
                        refine qr_goto 234 rfl rfl ?_
                        refine qr_iinc _ 237 rfl (qm_gk (qm_gk (qm_gk g1522 (by decide) (Or.inr rfl)) (by decide) (Or.inl (by decide))) (by decide) (Or.inl (by decide))) (by decide) rfl rfl ?_
                        refine qr_goto 4 rfl rfl ?_
                        exact ih1534 _ u1521 (u1523 + 1) α1571 (by omega) (qm_gk (qm_gk (qm_gk (qm_gk g1518 (by decide) (Or.inl (by decide))) (by decide) (Or.inl (by decide))) (by decide) (Or.inl (by decide))) (by decide) (Or.inl (by decide))) (qm_gk (qm_gk (qm_gk (qm_gk g1519 (by decide) (Or.inl (by decide))) (by decide) (Or.inl (by decide))) (by decide) (Or.inl (by decide))) (by decide) (Or.inl (by decide))) (qm_gk (qm_gk (qm_gk (qm_gk g1520 (by decide) (Or.inl (by decide))) (by decide) (Or.inl (by decide))) (by decide) (Or.inl (by decide))) (by decide) (Or.inr rfl)) (qm_ge _ _ _) hf1530 (by omega) hI1573 hF1574 ((congrFun e1572 52).trans ((qw_r_ne (by decide)).trans hk1528)) ((congrFun e1572 59).trans ((qw_r_ne (by decide)).trans hk1529)) (by rw [(congrFun e1572 53).trans qw_r_eq]; exact hx1532.trans (qws_not (by omega) (by rw [← hrv1536]; omega) (by omega) (by rw [← hv1550]; omega) rfl))
                    · skip
                      as_aux_lemma =>
                        refine qr_iconst 172 rfl rfl ?_
                        refine qr_goto 176 rfl rfl ?_
                        refine qr_iastore 177 rfl (by decide) rfl (by omega) (by decide) rfl ?_
                        refine qy_wA (qw_r α1525 53 (qzu (α1525 53) ((u1521 - 1) : Int).toNat 1)) rfl (fun α1575 e1576 => ?_)
                        have hI1577 : qI σ α1575 κ ρ := by rw [e1576]; exact qI_r hI1526 53 _ rfl (show (-2147483648) ≤ 1 ∧ 1 ≤ 2147483647 by omega)
                        have hF1578 : qFr [] [53] σ α σ α1575 := by rw [e1576]; exact qFr_r hF1527 53 _ (by decide)
                        refine qr_goto 234 rfl rfl ?_
                        refine qr_iinc _ 237 rfl (qm_gk (qm_gk (qm_gk g1522 (by decide) (Or.inr rfl)) (by decide) (Or.inl (by decide))) (by decide) (Or.inl (by decide))) (by decide) rfl rfl ?_
                        refine qr_goto 4 rfl rfl ?_
                        exact ih1534 _ u1521 (u1523 + 1) α1575 (by omega) (qm_gk (qm_gk (qm_gk (qm_gk g1518 (by decide) (Or.inl (by decide))) (by decide) (Or.inl (by decide))) (by decide) (Or.inl (by decide))) (by decide) (Or.inl (by decide))) (qm_gk (qm_gk (qm_gk (qm_gk g1519 (by decide) (Or.inl (by decide))) (by decide) (Or.inl (by decide))) (by decide) (Or.inl (by decide))) (by decide) (Or.inl (by decide))) (qm_gk (qm_gk (qm_gk (qm_gk g1520 (by decide) (Or.inl (by decide))) (by decide) (Or.inl (by decide))) (by decide) (Or.inl (by decide))) (by decide) (Or.inr rfl)) (qm_ge _ _ _) hf1530 (by omega) hI1577 hF1578 ((congrFun e1576 52).trans ((qw_r_ne (by decide)).trans hk1528)) ((congrFun e1576 59).trans ((qw_r_ne (by decide)).trans hk1529)) (by rw [(congrFun e1576 53).trans qw_r_eq]; exact hx1532.trans (qws_not (by omega) (by rw [← hrv1536]; omega) (by omega) (by rw [← hv1550]; omega) rfl))
                · skip
                  refine qr_iinc _ 135 rfl (qm_gk (qm_gk (qm_gk g1520 (by decide) (Or.inl (by decide))) (by decide) (Or.inl (by decide))) (by decide) (Or.inl (by decide))) (by decide) rfl rfl ?_
                  refine qr_iload 137 rfl (qm_gk (qm_ge _ _ _) (by decide) (Or.inl (by decide))) rfl ?_
                  refine qr_if_ne 234 140 rfl rfl rfl hs1551 (fun h1579 => ?_) (fun h1579 => ?_)
                  · skip
                    refine qr_iinc _ 237 rfl (qm_gk (qm_gk (qm_gk (qm_gk g1522 (by decide) (Or.inr rfl)) (by decide) (Or.inl (by decide))) (by decide) (Or.inl (by decide))) (by decide) (Or.inl (by decide))) (by decide) rfl rfl ?_
                    refine qr_goto 4 rfl rfl ?_
                    exact ih1534 _ (u1521 + (-1)) (u1523 + 1) α1525 (by omega) (qm_gk (qm_gk (qm_gk (qm_gk (qm_gk g1518 (by decide) (Or.inl (by decide))) (by decide) (Or.inl (by decide))) (by decide) (Or.inl (by decide))) (by decide) (Or.inl (by decide))) (by decide) (Or.inl (by decide))) (qm_gk (qm_gk (qm_gk (qm_gk (qm_gk g1519 (by decide) (Or.inl (by decide))) (by decide) (Or.inl (by decide))) (by decide) (Or.inl (by decide))) (by decide) (Or.inr rfl)) (by decide) (Or.inl (by decide))) (qm_gk (qm_ge _ _ _) (by decide) (Or.inr rfl)) (qm_ge _ _ _) (by omega) (by omega) hI1526 hF1527 hk1528 hk1529 (by exact hx1532.trans (qws_if (by omega) (by rw [← hrv1536]; omega) (by omega) (by rw [← hv1550, ← hrv1536]; omega)))
                  · skip
                    refine qr_iload_n 141 rfl (qm_gk (qm_gk (qm_gk (qm_gk g1522 (by decide) (Or.inr rfl)) (by decide) (Or.inl (by decide))) (by decide) (Or.inl (by decide))) (by decide) (Or.inl (by decide))) rfl ?_
                    refine qr_iload 143 rfl (qm_gk (qm_gk (qm_ge _ _ _) (by decide) (Or.inr rfl)) (by decide) (Or.inl (by decide))) rfl ?_
                    refine qr_iconst 144 rfl rfl ?_
                    refine qr_isub 145 rfl rfl ?_
                    refine qr_callN 148 rfl rfl rfl (sf_30 (d := d + 0) hI1526 (qrg hf1531 (by decide) (by decide)) (by omega)) ?_
                    rintro _ _ ⟨rfl, v1580, rfl, hv1580, hp1581⟩
                    show qr_W (qe L xs vb) (d + 1) qx_e97 _ (148, _, [.int (qz v1580)], qw σ α1525 κ ρ, 0, 0)
                    refine qr_istore_n _ 149 rfl (by decide) rfl rfl ?_
                    refine qr_goto 234 rfl rfl ?_
                    as_aux_lemma =>
                      refine qr_iinc _ 237 rfl (qm_ge _ _ _) (by decide) rfl rfl ?_
                      refine qr_goto 4 rfl rfl ?_
                      exact ih1534 _ (u1521 + (-1)) (v1580 + 1) α1525 (by omega) (qm_gk (qm_gk (qm_gk (qm_gk (qm_gk (qm_gk g1518 (by decide) (Or.inl (by decide))) (by decide) (Or.inl (by decide))) (by decide) (Or.inl (by decide))) (by decide) (Or.inl (by decide))) (by decide) (Or.inl (by decide))) (by decide) (Or.inl (by decide))) (qm_gk (qm_gk (qm_gk (qm_gk (qm_gk (qm_gk g1519 (by decide) (Or.inl (by decide))) (by decide) (Or.inl (by decide))) (by decide) (Or.inl (by decide))) (by decide) (Or.inr rfl)) (by decide) (Or.inl (by decide))) (by decide) (Or.inl (by decide))) (qm_gk (qm_gk (qm_ge _ _ _) (by decide) (Or.inr rfl)) (by decide) (Or.inr rfl)) (qm_ge _ _ _) (by omega) (by omega) hI1526 hF1527 hk1528 hk1529 (by exact hx1532.trans (qws_if (by omega) (by rw [← hrv1536]; omega) (by omega) (by rw [← hv1550, ← hrv1536]; omega)))
              · skip
                refine qr_iload 124 rfl (qm_ge _ _ _) rfl ?_
                refine qr_retI rfl rfl (by decide) (by decide) ?_
                exact ⟨_, rfl, hI1526, hF1527, v1550, rfl, hs1551, (by rw [hx1532, (qws_end (by omega) (by rw [← hrv1536]; omega) (by omega))]; exact hv1550)⟩
            · skip
              refine qr_iconst 104 rfl rfl ?_
              refine qr_retI rfl rfl (by decide) (by decide) ?_
              exact ⟨_, rfl, hI1526, hF1527, 0, rfl, (by decide), (by rw [hx1532, (qws_emp (by omega) (by rw [← hrv1536]; omega) (by omega))])⟩
          · skip
            refine qr_iload_n 49 rfl (qm_gk (qm_gk g1520 (by decide) (Or.inl (by decide))) (by decide) (Or.inl (by decide))) rfl ?_
            refine qr_aload_n 50 rfl (qm_gk (qm_gk g1518 (by decide) (Or.inl (by decide))) (by decide) (Or.inl (by decide))) rfl ?_
            refine qr_get 53 rfl rfl rfl (by decide) rfl ?_
            refine qr_alen 54 rfl rfl (by first | exact Or.inl (by decide) | exact Or.inr (Or.inl rfl) | exact Or.inr (Or.inr (Or.inl rfl)) | exact Or.inr (Or.inr (Or.inr (Or.inl rfl)))) rfl ?_
            refine qy_v 120 rfl ?_
            refine qr_icmp_lt 59 57 rfl rfl rfl (qrg hf1530 (by decide) (by decide)) (by decide) (fun h1582 => ?_) (fun h1582 => ?_)
            · skip
              refine qr_aload_n 60 rfl (qm_gk (qm_gk g1518 (by decide) (Or.inl (by decide))) (by decide) (Or.inl (by decide))) rfl ?_
              refine qr_get 63 rfl rfl rfl (by decide) rfl ?_
              refine qr_iload_n 64 rfl (qm_gk (qm_gk g1520 (by decide) (Or.inl (by decide))) (by decide) (Or.inl (by decide))) rfl ?_
              refine qr_iinc _ 67 rfl (qm_gk (qm_gk g1520 (by decide) (Or.inl (by decide))) (by decide) (Or.inl (by decide))) (by decide) rfl rfl ?_
              refine qr_iload 69 rfl (qm_gk (qm_gk (qm_ge _ _ _) (by decide) (Or.inr rfl)) (by decide) (Or.inl (by decide))) rfl ?_
              refine qr_bipush 71 rfl (by decide) rfl ?_
              refine qr_icmp_ne 79 74 rfl rfl rfl (by omega) (by decide) (fun h1583 => ?_) (fun h => False.elim (by omega))
              refine qr_iload 81 rfl (qm_gk (qm_ge _ _ _) (by decide) (Or.inl (by decide))) rfl ?_
              refine qr_aload_n 82 rfl (qm_gk (qm_gk (qm_gk g1519 (by decide) (Or.inl (by decide))) (by decide) (Or.inl (by decide))) (by decide) (Or.inr rfl)) rfl ?_
              refine qr_alen 83 rfl rfl (by first | exact Or.inl (by decide) | exact Or.inr (Or.inl rfl) | exact Or.inr (Or.inr (Or.inl rfl)) | exact Or.inr (Or.inr (Or.inr (Or.inl rfl)))) rfl ?_
              refine qy_v 9 rfl ?_
              refine qr_icmp_ge 93 86 rfl rfl rfl (by omega) (by decide) (fun h1584 => ?_) (fun h1584 => ?_)
              · skip
                refine qr_iconst 94 rfl rfl ?_
                refine qr_iastore 95 rfl (by decide) rfl (by omega) (by decide) rfl ?_
                refine qy_wA (qw_r α1525 53 (qzu (α1525 53) (u1521 : Int).toNat 0)) rfl (fun α1585 e1586 => ?_)
                have hI1587 : qI σ α1585 κ ρ := by rw [e1586]; exact qI_r hI1526 53 _ rfl (show (-2147483648) ≤ 0 ∧ 0 ≤ 2147483647 by omega)
                have hF1588 : qFr [] [53] σ α σ α1585 := by rw [e1586]; exact qFr_r hF1527 53 _ (by decide)
                refine qr_goto 234 rfl rfl ?_
                refine qr_iinc _ 237 rfl (qm_gk (qm_gk (qm_gk g1522 (by decide) (Or.inr rfl)) (by decide) (Or.inl (by decide))) (by decide) (Or.inl (by decide))) (by decide) rfl rfl ?_
                refine qr_goto 4 rfl rfl ?_
                exact ih1534 _ (u1521 + 1) (u1523 + 1) α1585 (by omega) (qm_gk (qm_gk (qm_gk (qm_gk g1518 (by decide) (Or.inl (by decide))) (by decide) (Or.inl (by decide))) (by decide) (Or.inl (by decide))) (by decide) (Or.inl (by decide))) (qm_gk (qm_gk (qm_gk (qm_gk g1519 (by decide) (Or.inl (by decide))) (by decide) (Or.inl (by decide))) (by decide) (Or.inr rfl)) (by decide) (Or.inl (by decide))) (qm_gk (qm_ge _ _ _) (by decide) (Or.inr rfl)) (qm_ge _ _ _) (by omega) (by omega) hI1587 hF1588 ((congrFun e1586 52).trans ((qw_r_ne (by decide)).trans hk1528)) ((congrFun e1586 59).trans ((qw_r_ne (by decide)).trans hk1529)) (by rw [(congrFun e1586 53).trans qw_r_eq]; exact hx1532.trans (qws_nam9 (by omega) (by rw [← hrv1536]; omega) (by omega) (by rw [← hrv1536]; omega) rfl rfl))
              · skip
                refine qr_aload_n 87 rfl (qm_gk (qm_gk (qm_gk g1519 (by decide) (Or.inl (by decide))) (by decide) (Or.inl (by decide))) (by decide) (Or.inr rfl)) rfl ?_
                refine qr_iload 89 rfl (qm_gk (qm_ge _ _ _) (by decide) (Or.inl (by decide))) rfl ?_
                refine qr_iaload 90 rfl rfl (by omega) (by decide) rfl ?_
                refine qr_topI (fun v1589 hv1589 => ?_)
                have hs1590 : (-2147483648) ≤ v1589 ∧ v1589 ≤ 2147483647 := by rw [hv1589]; exact hI1526.2.1 59 _ (show _ < 9 by omega)
                have hrv1589 : v1589 = (α 59) (v1540 : Int).toNat := hv1589.trans (congrFun hk1529 _)
                refine qr_goto 94 rfl rfl ?_
                refine qr_iastore 95 rfl (by decide) rfl (by omega) (by decide) rfl ?_
                refine qy_wA (qw_r α1525 53 (qzu (α1525 53) (u1521 : Int).toNat v1589)) rfl (fun α1591 e1592 => ?_)
                have hI1593 : qI σ α1591 κ ρ := by rw [e1592]; exact qI_r hI1526 53 _ rfl (show (-2147483648) ≤ v1589 ∧ v1589 ≤ 2147483647 by omega)
                have hF1594 : qFr [] [53] σ α σ α1591 := by rw [e1592]; exact qFr_r hF1527 53 _ (by decide)
                refine qr_goto 234 rfl rfl ?_
                refine qr_iinc _ 237 rfl (qm_gk (qm_gk (qm_gk g1522 (by decide) (Or.inr rfl)) (by decide) (Or.inl (by decide))) (by decide) (Or.inl (by decide))) (by decide) rfl rfl ?_
                refine qr_goto 4 rfl rfl ?_
                exact ih1534 _ (u1521 + 1) (u1523 + 1) α1591 (by omega) (qm_gk (qm_gk (qm_gk (qm_gk g1518 (by decide) (Or.inl (by decide))) (by decide) (Or.inl (by decide))) (by decide) (Or.inl (by decide))) (by decide) (Or.inl (by decide))) (qm_gk (qm_gk (qm_gk (qm_gk g1519 (by decide) (Or.inl (by decide))) (by decide) (Or.inl (by decide))) (by decide) (Or.inr rfl)) (by decide) (Or.inl (by decide))) (qm_gk (qm_ge _ _ _) (by decide) (Or.inr rfl)) (qm_ge _ _ _) (by omega) (by omega) hI1593 hF1594 ((congrFun e1592 52).trans ((qw_r_ne (by decide)).trans hk1528)) ((congrFun e1592 59).trans ((qw_r_ne (by decide)).trans hk1529)) (by rw [(congrFun e1592 53).trans qw_r_eq]; exact hx1532.trans (qws_nam (by omega) (by rw [← hrv1536]; omega) (by omega) (by rw [← hrv1536]; omega) (by rw [← hrv1536, show v1536 % 65536 = v1540 by omega]; exact hrv1589) rfl))
            · skip
              refine qr_iconst 58 rfl rfl ?_
              refine qr_retI rfl rfl (by decide) (by decide) ?_
              exact ⟨_, rfl, hI1526, hF1527, 0, rfl, (by decide), (by rw [hx1532, (qws_ful (by omega) (by rw [← hrv1536]; omega) (by omega))])⟩
  exact hL1533 ((65536 - 0 + 1 : Int)).toNat _ 0 0 α (by omega) rfl rfl rfl rfl (by decide) (by decide) hI hF0 rfl rfl rfl

set_option maxHeartbeats 4000000 in
set_option maxRecDepth 20000 in
/-- OneRoof$Custom.worth -/
theorem sf_97_54_59x {L : Nat} {xs : Nat → Int} {vb : Bool} {d : Nat} {σ α : Nat → Nat → Int} {κ : Nat → Option Nat} {ρ : Nat}  (hI : qI σ α κ ρ) (p0 : ∀ k : Int, 0 ≤ k → k < σ 54 5 → 0 ≤ α 56 k.toNat ∧ α 56 k.toNat < 8388608) : qm_T (qe L xs vb) (d + 2) 97 [.ref 54, .ref 59] (qw σ α κ ρ) (fun r w' => ∃ α', w' = qw σ α' κ ρ ∧ qI σ α' κ ρ ∧ qFr [] [57] σ α σ α' ∧ ∃ v : Int, r = some (.int (qz v)) ∧ ((-2147483648) ≤ v ∧ v ≤ 2147483647) ∧ v = qwv (α 56) (α 59) (σ 54 5) 0 (α 57) 0) := by
  refine qr_start (d := d + 1) qv_e97 (Nat.le_of_ble_eq_true rfl) ?_
  show qr_W (qe L xs vb) (d + 1) qx_e97 _ (0, [(0, .ref 54), (1, .ref 59)], [], _, 0, 0)
  have hF0 := qFr_rf [] [57] σ α
  have hz54_5 : 0 ≤ σ 54 5 ∧ σ 54 5 ≤ 122 := hI.1 54 5
  refine qr_iconst 1 rfl rfl ?_
  refine qr_istore_n _ 2 rfl (by decide) rfl rfl ?_
  refine qr_iconst 3 rfl rfl ?_
  refine qr_istore_n _ 4 rfl (by decide) rfl rfl ?_
  have hL1533 : ∀ (n : Nat) (ls : qm_L) (u1521 u1523 : Int) (α1525 : Nat → Nat → Int), 65536 - u1523 < (n : Int) → qm_get ls 0 = some (.ref 54) → qm_get ls 1 = some (.ref 59) → qm_get ls 2 = some (.int (qz u1521)) → qm_get ls 3 = some (.int (qz u1523)) → (0 ≤ u1521 ∧ u1521 ≤ 120) → (0 ≤ u1523 ∧ u1523 ≤ 65535) → qI σ α1525 κ ρ → qFr [] [57] σ α σ α1525 → α1525 56 = (α 56) → α1525 59 = (α 59) → qwv (α 56) (α 59) (σ 54 5) 0 (α 57) 0 = qwv (α 56) (α 59) (σ 54 5) u1523 (α1525 57) u1521 → qr_W (qe L xs vb) (d + 1) qx_e97 (fun r w' => ∃ α', w' = qw σ α' κ ρ ∧ qI σ α' κ ρ ∧ qFr [] [57] σ α σ α' ∧ ∃ v : Int, r = some (.int (qz v)) ∧ ((-2147483648) ≤ v ∧ v ≤ 2147483647) ∧ v = qwv (α 56) (α 59) (σ 54 5) 0 (α 57) 0) (4, ls, [], qw σ α1525 κ ρ, 0, 0) := by
    intro n
    induction n with
    | zero => intro ls u1521 u1523 α1525 hm g1518 g1519 g1520 g1522 hf1530 hf1531 hI1526 hF1527 hk1528 hk1529 hx1532; exact False.elim (by omega)
    | succ n ih1534 =>
      intro ls u1521 u1523 α1525 hm g1518 g1519 g1520 g1522 hf1530 hf1531 hI1526 hF1527 hk1528 hk1529 hx1532
      refine qr_iload_n 5 rfl g1522 rfl ?_
      refine qr_aload_n 6 rfl g1518 rfl ?_
      refine qr_get 9 rfl rfl rfl (by decide) rfl ?_
      refine qr_icmp_ge 240 12 rfl rfl rfl (qrg hf1531 (by decide) (by decide)) (qrg hz54_5 (by decide) (by decide)) (fun h1535 => ?_) (fun h1535 => ?_)
      · skip
        refine qr_iconst 241 rfl rfl ?_
        refine qr_retI rfl rfl (by decide) (by decide) ?_
        exact ⟨_, rfl, hI1526, hF1527, 0, rfl, (by decide), (by rw [hx1532, qwv_end (by omega)])⟩
      · skip
        refine qr_aload_n 13 rfl g1518 rfl ?_
        refine qr_get 16 rfl rfl rfl (by decide) rfl ?_
        refine qr_iload_n 17 rfl g1522 rfl ?_
        refine qr_iaload 18 rfl rfl (by omega) (by decide) rfl ?_
        refine qr_topI (fun v1536 hv1536 => ?_)
        have hs1537 : (-2147483648) ≤ v1536 ∧ v1536 ≤ 2147483647 := by rw [hv1536]; exact hI1526.2.1 56 _ (show _ < 122 by omega)
        have hrv1536 : v1536 = (α 56) (u1523 : Int).toNat := hv1536.trans (congrFun hk1528 _)
        have hcv1536 := p0 u1523 (by omega) (by omega)
        rw [← hrv1536] at hcv1536
        refine qr_bipush 20 rfl (by decide) rfl ?_
        refine qr_iushr 21 rfl rfl ?_
        refine qy_v (v1536 / 65536) (qz_ushr16 (by omega)) ?_
        refine qr_istore _ 23 rfl (by decide) rfl rfl ?_
        refine qr_aload_n 24 rfl (qm_gk g1518 (by decide) (Or.inl (by decide))) rfl ?_
        refine qr_get 27 rfl rfl rfl (by decide) rfl ?_
        refine qr_iload_n 28 rfl (qm_gk g1522 (by decide) (Or.inr rfl)) rfl ?_
        refine qr_iaload 29 rfl rfl (by omega) (by decide) rfl ?_
        refine qr_topI (fun v1538 hv1538 => ?_)
        have hs1539 : (-2147483648) ≤ v1538 ∧ v1538 ≤ 2147483647 := by rw [hv1538]; exact hI1526.2.1 56 _ (show _ < 122 by omega)
        have hrv1538 : v1538 = (α 56) (u1523 : Int).toNat := hv1538.trans (congrFun hk1528 _)
        have hdv1538 : v1538 = v1536 := hrv1538.trans hrv1536.symm
        refine qr_ldc 65535 31 rfl (by decide) rfl ?_
        refine qr_iand 32 rfl rfl ?_
        refine qy_andrE (by omega) (fun v1540 hv1540 hev1540 => ?_)
        refine qr_istore _ 34 rfl (by decide) rfl rfl ?_
        rw [qz_and_m (by omega)] at hev1540
        refine qr_iload 36 rfl (qm_gk (qm_ge _ _ _) (by decide) (Or.inr rfl)) rfl ?_
        refine qr_bipush 38 rfl (by decide) rfl ?_
        refine qr_icmp_eq 48 41 rfl rfl rfl (by omega) (by decide) (fun h1541 => ?_) (fun h1541 => ?_)
        · skip
          refine qr_iload_n 49 rfl (qm_gk (qm_gk g1520 (by decide) (Or.inl (by decide))) (by decide) (Or.inl (by decide))) rfl ?_
          refine qr_aload_n 50 rfl (qm_gk (qm_gk g1518 (by decide) (Or.inl (by decide))) (by decide) (Or.inl (by decide))) rfl ?_
          refine qr_get 53 rfl rfl rfl (by decide) rfl ?_
          refine qr_alen 54 rfl rfl (by first | exact Or.inl (by decide) | exact Or.inr (Or.inl rfl) | exact Or.inr (Or.inr (Or.inl rfl)) | exact Or.inr (Or.inr (Or.inr (Or.inl rfl)))) rfl ?_
          refine qy_v 120 rfl ?_
          refine qr_icmp_lt 59 57 rfl rfl rfl (qrg hf1530 (by decide) (by decide)) (by decide) (fun h1542 => ?_) (fun h1542 => ?_)
          · skip
            refine qr_aload_n 60 rfl (qm_gk (qm_gk g1518 (by decide) (Or.inl (by decide))) (by decide) (Or.inl (by decide))) rfl ?_
            refine qr_get 63 rfl rfl rfl (by decide) rfl ?_
            refine qr_iload_n 64 rfl (qm_gk (qm_gk g1520 (by decide) (Or.inl (by decide))) (by decide) (Or.inl (by decide))) rfl ?_
            refine qr_iinc _ 67 rfl (qm_gk (qm_gk g1520 (by decide) (Or.inl (by decide))) (by decide) (Or.inl (by decide))) (by decide) rfl rfl ?_
            refine qr_iload 69 rfl (qm_gk (qm_gk (qm_ge _ _ _) (by decide) (Or.inr rfl)) (by decide) (Or.inl (by decide))) rfl ?_
            refine qr_bipush 71 rfl (by decide) rfl ?_
            refine qr_icmp_ne 79 74 rfl rfl rfl (by omega) (by decide) (fun h => False.elim (by omega)) (fun h1543 => ?_)
            refine qr_iload 76 rfl (qm_gk (qm_ge _ _ _) (by decide) (Or.inl (by decide))) rfl ?_
            refine qr_goto 94 rfl rfl ?_
            refine qr_iastore 95 rfl (by decide) rfl (by omega) (by decide) rfl ?_
            refine qy_wA (qw_r α1525 57 (qzu (α1525 57) (u1521 : Int).toNat v1540)) rfl (fun α1544 e1545 => ?_)
            have hI1546 : qI σ α1544 κ ρ := by rw [e1545]; exact qI_r hI1526 57 _ rfl (show (-2147483648) ≤ v1540 ∧ v1540 ≤ 2147483647 by omega)
            have hF1547 : qFr [] [57] σ α σ α1544 := by rw [e1545]; exact qFr_r hF1527 57 _ (by decide)
            refine qr_goto 234 rfl rfl ?_
            refine qr_iinc _ 237 rfl (qm_gk (qm_gk (qm_gk g1522 (by decide) (Or.inr rfl)) (by decide) (Or.inl (by decide))) (by decide) (Or.inl (by decide))) (by decide) rfl rfl ?_
            refine qr_goto 4 rfl rfl ?_
            exact ih1534 _ (u1521 + 1) (u1523 + 1) α1544 (by omega) (qm_gk (qm_gk (qm_gk (qm_gk g1518 (by decide) (Or.inl (by decide))) (by decide) (Or.inl (by decide))) (by decide) (Or.inl (by decide))) (by decide) (Or.inl (by decide))) (qm_gk (qm_gk (qm_gk (qm_gk g1519 (by decide) (Or.inl (by decide))) (by decide) (Or.inl (by decide))) (by decide) (Or.inr rfl)) (by decide) (Or.inl (by decide))) (qm_gk (qm_ge _ _ _) (by decide) (Or.inr rfl)) (qm_ge _ _ _) (by omega) (by omega) hI1546 hF1547 ((congrFun e1545 56).trans ((qw_r_ne (by decide)).trans hk1528)) ((congrFun e1545 59).trans ((qw_r_ne (by decide)).trans hk1529)) (by rw [(congrFun e1545 57).trans qw_r_eq]; exact hx1532.trans (qws_num (by omega) (by rw [← hrv1536]; omega) (by omega) (by rw [← hrv1536]; omega) rfl))
          · skip
            refine qr_iconst 58 rfl rfl ?_
            refine qr_retI rfl rfl (by decide) (by decide) ?_
            exact ⟨_, rfl, hI1526, hF1527, 0, rfl, (by decide), (by rw [hx1532, (qws_ful (by omega) (by rw [← hrv1536]; omega) (by omega))])⟩
        · skip
          refine qr_iload 43 rfl (qm_gk (qm_ge _ _ _) (by decide) (Or.inr rfl)) rfl ?_
          refine qr_bipush 45 rfl (by decide) rfl ?_
          refine qr_icmp_ne 98 48 rfl rfl rfl (by omega) (by decide) (fun h1548 => ?_) (fun h1548 => ?_)
          · skip
            refine qr_iload_n 99 rfl (qm_gk (qm_gk g1520 (by decide) (Or.inl (by decide))) (by decide) (Or.inl (by decide))) rfl ?_
            refine qr_iconst 100 rfl rfl ?_
            refine qr_icmp_ge 105 103 rfl rfl rfl (qrg hf1530 (by decide) (by decide)) (by decide) (fun h1549 => ?_) (fun h1549 => ?_)
            · skip
              refine qr_aload_n 106 rfl (qm_gk (qm_gk g1518 (by decide) (Or.inl (by decide))) (by decide) (Or.inl (by decide))) rfl ?_
              refine qr_get 109 rfl rfl rfl (by decide) rfl ?_
              refine qr_iload_n 110 rfl (qm_gk (qm_gk g1520 (by decide) (Or.inl (by decide))) (by decide) (Or.inl (by decide))) rfl ?_
              refine qr_iconst 111 rfl rfl ?_
              refine qr_isub 112 rfl rfl ?_
              refine qr_iaload 113 rfl rfl (by omega) (by decide) rfl ?_
              refine qr_topI (fun v1550 hv1550 => ?_)
              have hs1551 : (-2147483648) ≤ v1550 ∧ v1550 ≤ 2147483647 := by rw [hv1550]; exact hI1526.2.1 57 _ (show _ < 120 by omega)
              refine qr_istore _ 115 rfl (by decide) rfl rfl ?_
              refine qr_iload 117 rfl (qm_gk (qm_gk (qm_ge _ _ _) (by decide) (Or.inr rfl)) (by decide) (Or.inl (by decide))) rfl ?_
              refine qr_bipush 119 rfl (by decide) rfl ?_
              refine qr_icmp_ne 125 122 rfl rfl rfl (by omega) (by decide) (fun h1552 => ?_) (fun h1552 => ?_)
              · skip
                refine qr_iload 127 rfl (qm_gk (qm_gk (qm_ge _ _ _) (by decide) (Or.inr rfl)) (by decide) (Or.inl (by decide))) rfl ?_
                refine qr_bipush 129 rfl (by decide) rfl ?_
                refine qr_icmp_ne 152 132 rfl rfl rfl (by omega) (by decide) (fun h1553 => ?_) (fun h1553 => ?_)
                · skip
                  refine qr_iload 154 rfl (qm_gk (qm_gk (qm_ge _ _ _) (by decide) (Or.inr rfl)) (by decide) (Or.inl (by decide))) rfl ?_
                  refine qr_bipush 156 rfl (by decide) rfl ?_
                  refine qr_icmp_ne 180 159 rfl rfl rfl (by omega) (by decide) (fun h1554 => ?_) (fun h1554 => ?_)
                  · skip
                    refine qr_iload 182 rfl (qm_gk (qm_gk (qm_ge _ _ _) (by decide) (Or.inr rfl)) (by decide) (Or.inl (by decide))) rfl ?_
                    refine qr_bipush 184 rfl (by decide) rfl ?_
                    refine qr_icmp_ne 201 187 rfl rfl rfl (by omega) (by decide) (fun h1555 => ?_) (fun h1555 => ?_)
                    · skip
                      refine qr_iload_n 202 rfl (qm_gk (qm_gk (qm_gk g1520 (by decide) (Or.inl (by decide))) (by decide) (Or.inl (by decide))) (by decide) (Or.inl (by decide))) rfl ?_
                      refine qr_iconst 203 rfl rfl ?_
                      refine qr_icmp_ge 208 206 rfl rfl rfl (qrg hf1530 (by decide) (by decide)) (by decide) (fun h1556 => ?_) (fun h1556 => ?_)
                      · skip
                        refine qr_iinc _ 211 rfl (qm_gk (qm_gk (qm_gk g1520 (by decide) (Or.inl (by decide))) (by decide) (Or.inl (by decide))) (by decide) (Or.inl (by decide))) (by decide) rfl rfl ?_
                        as_aux_lemma =>
                          refine qr_aload_n 212 rfl (qm_gk (qm_gk (qm_gk (qm_gk g1518 (by decide) (Or.inl (by decide))) (by decide) (Or.inl (by decide))) (by decide) (Or.inl (by decide))) (by decide) (Or.inl (by decide))) rfl ?_
                          refine qr_get 215 rfl rfl rfl (by decide) rfl ?_
                          refine qr_iload_n 216 rfl (qm_ge _ _ _) rfl ?_
                          refine qr_iconst 217 rfl rfl ?_
                          refine qr_isub 218 rfl rfl ?_
                          refine qr_iload 220 rfl (qm_gk (qm_gk (qm_gk (qm_ge _ _ _) (by decide) (Or.inr rfl)) (by decide) (Or.inl (by decide))) (by decide) (Or.inl (by decide))) rfl ?_
                          refine qr_aload_n 221 rfl (qm_gk (qm_gk (qm_gk (qm_gk g1518 (by decide) (Or.inl (by decide))) (by decide) (Or.inl (by decide))) (by decide) (Or.inl (by decide))) (by decide) (Or.inl (by decide))) rfl ?_
                          refine qr_get 224 rfl rfl rfl (by decide) rfl ?_
                          refine qr_iload_n 225 rfl (qm_ge _ _ _) rfl ?_
                          refine qr_iconst 226 rfl rfl ?_
                          refine qr_isub 227 rfl rfl ?_
                          refine qr_iaload 228 rfl rfl (by omega) (by decide) rfl ?_
                          refine qr_topI (fun v1557 hv1557 => ?_)
                          have hs1558 : (-2147483648) ≤ v1557 ∧ v1557 ≤ 2147483647 := by rw [hv1557]; exact hI1526.2.1 57 _ (show _ < 120 by omega)
                          refine qr_iload 230 rfl (qm_gk (qm_ge _ _ _) (by decide) (Or.inl (by decide))) rfl ?_
                          refine qr_callN 233 rfl rfl rfl (sf_98x (d := d + 0) hI1526 (by omega) hs1558 hs1551) ?_
                          rintro _ _ ⟨rfl, v1559, rfl, hv1559, hx1560⟩
                          show qr_W (qe L xs vb) (d + 1) qx_e97 _ (233, _, [.int (qz v1559), .int (qz ((u1521 + (-1)) - 1)), .ref 57], qw σ α1525 κ ρ, 0, 0)
                          refine qr_iastore 234 rfl (by decide) rfl (by omega) (by decide) rfl ?_
                          refine qy_wA (qw_r α1525 57 (qzu (α1525 57) (((u1521 + (-1)) - 1) : Int).toNat v1559)) rfl (fun α1561 e1562 => ?_)
                          have hI1563 : qI σ α1561 κ ρ := by rw [e1562]; exact qI_r hI1526 57 _ rfl (show (-2147483648) ≤ v1559 ∧ v1559 ≤ 2147483647 by omega)
                          have hF1564 : qFr [] [57] σ α σ α1561 := by rw [e1562]; exact qFr_r hF1527 57 _ (by decide)
                          refine qr_iinc _ 237 rfl (qm_gk (qm_gk (qm_gk (qm_gk g1522 (by decide) (Or.inr rfl)) (by decide) (Or.inl (by decide))) (by decide) (Or.inl (by decide))) (by decide) (Or.inl (by decide))) (by decide) rfl rfl ?_
                          refine qr_goto 4 rfl rfl ?_
                          exact ih1534 _ (u1521 + (-1)) (u1523 + 1) α1561 (by omega) (qm_gk (qm_gk (qm_gk (qm_gk (qm_gk g1518 (by decide) (Or.inl (by decide))) (by decide) (Or.inl (by decide))) (by decide) (Or.inl (by decide))) (by decide) (Or.inl (by decide))) (by decide) (Or.inl (by decide))) (qm_gk (qm_gk (qm_gk (qm_gk (qm_gk g1519 (by decide) (Or.inl (by decide))) (by decide) (Or.inl (by decide))) (by decide) (Or.inl (by decide))) (by decide) (Or.inr rfl)) (by decide) (Or.inl (by decide))) (qm_gk (qm_ge _ _ _) (by decide) (Or.inr rfl)) (qm_ge _ _ _) (by omega) (by omega) hI1563 hF1564 ((congrFun e1562 56).trans ((qw_r_ne (by decide)).trans hk1528)) ((congrFun e1562 59).trans ((qw_r_ne (by decide)).trans hk1529)) (by rw [(congrFun e1562 57).trans qw_r_eq]; exact hx1532.trans (qws_bin (by omega) (by rw [← hrv1536]; omega) (by omega) (by rw [show (u1521 - 2 : Int).toNat = (((u1521 + (-1)) - 1) : Int).toNat by omega, ← hrv1536, ← hv1557, ← hv1550]; exact (hx1560).trans (by rw [show v1536 / 65536 = (v1536 / 65536) by omega])) (by omega)))
                      · skip
                        refine qr_iconst 207 rfl rfl ?_
                        as_aux_lemma =>
                          refine qr_retI rfl rfl (by decide) (by decide) ?_
                          exact ⟨_, rfl, hI1526, hF1527, 0, rfl, (by decide), (by rw [hx1532, (qws_two (by omega) (by rw [← hrv1536]; omega) (by omega))])⟩
                    · skip
                      refine qr_aload_n 188 rfl (qm_gk (qm_gk (qm_gk g1518 (by decide) (Or.inl (by decide))) (by decide) (Or.inl (by decide))) (by decide) (Or.inl (by decide))) rfl ?_
                      refine qr_get 191 rfl rfl rfl (by decide) rfl ?_
                      refine qr_iload_n 192 rfl (qm_gk (qm_gk (qm_gk g1520 (by decide) (Or.inl (by decide))) (by decide) (Or.inl (by decide))) (by decide) (Or.inl (by decide))) rfl ?_
                      refine qr_iconst 193 rfl rfl ?_
                      as_aux_lemma =>
                        refine qr_isub 194 rfl rfl ?_
                        refine qr_iload 196 rfl (qm_ge _ _ _) rfl ?_
                        refine qr_ineg 197 rfl rfl ?_
                        refine qy_canE (fun v1565 hv1565 hev1565 => ?_)
                        refine qr_iastore 198 rfl (by decide) rfl (by omega) (by decide) rfl ?_
                        refine qy_wA (qw_r α1525 57 (qzu (α1525 57) ((u1521 - 1) : Int).toNat v1565)) rfl (fun α1566 e1567 => ?_)
                        have hI1568 : qI σ α1566 κ ρ := by rw [e1567]; exact qI_r hI1526 57 _ rfl (show (-2147483648) ≤ v1565 ∧ v1565 ≤ 2147483647 by omega)
                        have hF1569 : qFr [] [57] σ α σ α1566 := by rw [e1567]; exact qFr_r hF1527 57 _ (by decide)
                        refine qr_goto 234 rfl rfl ?_
                        refine qr_iinc _ 237 rfl (qm_gk (qm_gk (qm_gk g1522 (by decide) (Or.inr rfl)) (by decide) (Or.inl (by decide))) (by decide) (Or.inl (by decide))) (by decide) rfl rfl ?_
                        refine qr_goto 4 rfl rfl ?_
                        exact ih1534 _ u1521 (u1523 + 1) α1566 (by omega) (qm_gk (qm_gk (qm_gk (qm_gk g1518 (by decide) (Or.inl (by decide))) (by decide) (Or.inl (by decide))) (by decide) (Or.inl (by decide))) (by decide) (Or.inl (by decide))) (qm_gk (qm_gk (qm_gk (qm_gk g1519 (by decide) (Or.inl (by decide))) (by decide) (Or.inl (by decide))) (by decide) (Or.inl (by decide))) (by decide) (Or.inl (by decide))) (qm_gk (qm_gk (qm_gk (qm_gk g1520 (by decide) (Or.inl (by decide))) (by decide) (Or.inl (by decide))) (by decide) (Or.inl (by decide))) (by decide) (Or.inr rfl)) (qm_ge _ _ _) hf1530 (by omega) hI1568 hF1569 ((congrFun e1567 56).trans ((qw_r_ne (by decide)).trans hk1528)) ((congrFun e1567 59).trans ((qw_r_ne (by decide)).trans hk1529)) (by rw [(congrFun e1567 57).trans qw_r_eq]; exact hx1532.trans (qws_neg (by omega) (by rw [← hrv1536]; omega) (by omega) (by rw [← hv1550]; exact qtx_can hev1565 (by omega)) rfl))
                  · skip
                    refine qr_aload_n 160 rfl (qm_gk (qm_gk (qm_gk g1518 (by decide) (Or.inl (by decide))) (by decide) (Or.inl (by decide))) (by decide) (Or.inl (by decide))) rfl ?_
                    refine qr_get 163 rfl rfl rfl (by decide) rfl ?_
                    refine qr_iload_n 164 rfl (qm_gk (qm_gk (qm_gk g1520 (by decide) (Or.inl (by decide))) (by decide) (Or.inl (by decide))) (by decide) (Or.inl (by decide))) rfl ?_
                    refine qr_iconst 165 rfl rfl ?_
                    refine qr_isub 166 rfl rfl ?_
                    refine qr_iload 168 rfl (qm_ge _ _ _) rfl ?_
                    refine qr_if_ne 175 171 rfl rfl rfl hs1551 (fun h1570 => ?_) (fun h1570 => ?_)
                    · skip
                      as_aux_lemma =>
                        refine qr_iconst 176 rfl rfl ?_
                        refine qr_iastore 177 rfl (by decide) rfl (by omega) (by decide) rfl ?_
                        refine qy_wA (qw_r α1525 57 (qzu (α1525 57) ((u1521 - 1) : Int).toNat 0)) rfl (fun α1571 e1572 => ?_)
                        have hI1573 : qI σ α1571 κ ρ := by rw [e1572]; exact qI_r hI1526 57 _ rfl (show (-2147483648) ≤ 0 ∧ 0 ≤ 2147483647 by omega)
                        have hF1574 : qFr [] [57] σ α σ α1571 := by rw [e1572]; exact qFr_r hF1527 57 _ (by decide)
                        refine qr_goto 234 rfl rfl ?_
                        refine qr_iinc _ 237 rfl (qm_gk (qm_gk (qm_gk g1522 (by decide) (Or.inr rfl)) (by decide) (Or.inl (by decide))) (by decide) (Or.inl (by decide))) (by decide) rfl rfl ?_
                        refine qr_goto 4 rfl rfl ?_
                        exact ih1534 _ u1521 (u1523 + 1) α1571 (by omega) (qm_gk (qm_gk (qm_gk (qm_gk g1518 (by decide) (Or.inl (by decide))) (by decide) (Or.inl (by decide))) (by decide) (Or.inl (by decide))) (by decide) (Or.inl (by decide))) (qm_gk (qm_gk (qm_gk (qm_gk g1519 (by decide) (Or.inl (by decide))) (by decide) (Or.inl (by decide))) (by decide) (Or.inl (by decide))) (by decide) (Or.inl (by decide))) (qm_gk (qm_gk (qm_gk (qm_gk g1520 (by decide) (Or.inl (by decide))) (by decide) (Or.inl (by decide))) (by decide) (Or.inl (by decide))) (by decide) (Or.inr rfl)) (qm_ge _ _ _) hf1530 (by omega) hI1573 hF1574 ((congrFun e1572 56).trans ((qw_r_ne (by decide)).trans hk1528)) ((congrFun e1572 59).trans ((qw_r_ne (by decide)).trans hk1529)) (by rw [(congrFun e1572 57).trans qw_r_eq]; exact hx1532.trans (qws_not (by omega) (by rw [← hrv1536]; omega) (by omega) (by rw [← hv1550]; omega) rfl))
                    · skip
                      as_aux_lemma =>
                        refine qr_iconst 172 rfl rfl ?_
                        refine qr_goto 176 rfl rfl ?_
                        refine qr_iastore 177 rfl (by decide) rfl (by omega) (by decide) rfl ?_
                        refine qy_wA (qw_r α1525 57 (qzu (α1525 57) ((u1521 - 1) : Int).toNat 1)) rfl (fun α1575 e1576 => ?_)
                        have hI1577 : qI σ α1575 κ ρ := by rw [e1576]; exact qI_r hI1526 57 _ rfl (show (-2147483648) ≤ 1 ∧ 1 ≤ 2147483647 by omega)
                        have hF1578 : qFr [] [57] σ α σ α1575 := by rw [e1576]; exact qFr_r hF1527 57 _ (by decide)
                        refine qr_goto 234 rfl rfl ?_
                        refine qr_iinc _ 237 rfl (qm_gk (qm_gk (qm_gk g1522 (by decide) (Or.inr rfl)) (by decide) (Or.inl (by decide))) (by decide) (Or.inl (by decide))) (by decide) rfl rfl ?_
                        refine qr_goto 4 rfl rfl ?_
                        exact ih1534 _ u1521 (u1523 + 1) α1575 (by omega) (qm_gk (qm_gk (qm_gk (qm_gk g1518 (by decide) (Or.inl (by decide))) (by decide) (Or.inl (by decide))) (by decide) (Or.inl (by decide))) (by decide) (Or.inl (by decide))) (qm_gk (qm_gk (qm_gk (qm_gk g1519 (by decide) (Or.inl (by decide))) (by decide) (Or.inl (by decide))) (by decide) (Or.inl (by decide))) (by decide) (Or.inl (by decide))) (qm_gk (qm_gk (qm_gk (qm_gk g1520 (by decide) (Or.inl (by decide))) (by decide) (Or.inl (by decide))) (by decide) (Or.inl (by decide))) (by decide) (Or.inr rfl)) (qm_ge _ _ _) hf1530 (by omega) hI1577 hF1578 ((congrFun e1576 56).trans ((qw_r_ne (by decide)).trans hk1528)) ((congrFun e1576 59).trans ((qw_r_ne (by decide)).trans hk1529)) (by rw [(congrFun e1576 57).trans qw_r_eq]; exact hx1532.trans (qws_not (by omega) (by rw [← hrv1536]; omega) (by omega) (by rw [← hv1550]; omega) rfl))
                · skip
                  refine qr_iinc _ 135 rfl (qm_gk (qm_gk (qm_gk g1520 (by decide) (Or.inl (by decide))) (by decide) (Or.inl (by decide))) (by decide) (Or.inl (by decide))) (by decide) rfl rfl ?_
                  refine qr_iload 137 rfl (qm_gk (qm_ge _ _ _) (by decide) (Or.inl (by decide))) rfl ?_
                  refine qr_if_ne 234 140 rfl rfl rfl hs1551 (fun h1579 => ?_) (fun h1579 => ?_)
                  · skip
                    refine qr_iinc _ 237 rfl (qm_gk (qm_gk (qm_gk (qm_gk g1522 (by decide) (Or.inr rfl)) (by decide) (Or.inl (by decide))) (by decide) (Or.inl (by decide))) (by decide) (Or.inl (by decide))) (by decide) rfl rfl ?_
                    refine qr_goto 4 rfl rfl ?_
                    exact ih1534 _ (u1521 + (-1)) (u1523 + 1) α1525 (by omega) (qm_gk (qm_gk (qm_gk (qm_gk (qm_gk g1518 (by decide) (Or.inl (by decide))) (by decide) (Or.inl (by decide))) (by decide) (Or.inl (by decide))) (by decide) (Or.inl (by decide))) (by decide) (Or.inl (by decide))) (qm_gk (qm_gk (qm_gk (qm_gk (qm_gk g1519 (by decide) (Or.inl (by decide))) (by decide) (Or.inl (by decide))) (by decide) (Or.inl (by decide))) (by decide) (Or.inr rfl)) (by decide) (Or.inl (by decide))) (qm_gk (qm_ge _ _ _) (by decide) (Or.inr rfl)) (qm_ge _ _ _) (by omega) (by omega) hI1526 hF1527 hk1528 hk1529 (by exact hx1532.trans (qws_if (by omega) (by rw [← hrv1536]; omega) (by omega) (by rw [← hv1550, ← hrv1536]; omega)))
                  · skip
                    refine qr_iload_n 141 rfl (qm_gk (qm_gk (qm_gk (qm_gk g1522 (by decide) (Or.inr rfl)) (by decide) (Or.inl (by decide))) (by decide) (Or.inl (by decide))) (by decide) (Or.inl (by decide))) rfl ?_
                    refine qr_iload 143 rfl (qm_gk (qm_gk (qm_ge _ _ _) (by decide) (Or.inr rfl)) (by decide) (Or.inl (by decide))) rfl ?_
                    refine qr_iconst 144 rfl rfl ?_
                    refine qr_isub 145 rfl rfl ?_
                    refine qr_callN 148 rfl rfl rfl (sf_30 (d := d + 0) hI1526 (qrg hf1531 (by decide) (by decide)) (by omega)) ?_
                    rintro _ _ ⟨rfl, v1580, rfl, hv1580, hp1581⟩
                    show qr_W (qe L xs vb) (d + 1) qx_e97 _ (148, _, [.int (qz v1580)], qw σ α1525 κ ρ, 0, 0)
                    refine qr_istore_n _ 149 rfl (by decide) rfl rfl ?_
                    refine qr_goto 234 rfl rfl ?_
                    as_aux_lemma =>
                      refine qr_iinc _ 237 rfl (qm_ge _ _ _) (by decide) rfl rfl ?_
                      refine qr_goto 4 rfl rfl ?_
                      exact ih1534 _ (u1521 + (-1)) (v1580 + 1) α1525 (by omega) (qm_gk (qm_gk (qm_gk (qm_gk (qm_gk (qm_gk g1518 (by decide) (Or.inl (by decide))) (by decide) (Or.inl (by decide))) (by decide) (Or.inl (by decide))) (by decide) (Or.inl (by decide))) (by decide) (Or.inl (by decide))) (by decide) (Or.inl (by decide))) (qm_gk (qm_gk (qm_gk (qm_gk (qm_gk (qm_gk g1519 (by decide) (Or.inl (by decide))) (by decide) (Or.inl (by decide))) (by decide) (Or.inl (by decide))) (by decide) (Or.inr rfl)) (by decide) (Or.inl (by decide))) (by decide) (Or.inl (by decide))) (qm_gk (qm_gk (qm_ge _ _ _) (by decide) (Or.inr rfl)) (by decide) (Or.inr rfl)) (qm_ge _ _ _) (by omega) (by omega) hI1526 hF1527 hk1528 hk1529 (by exact hx1532.trans (qws_if (by omega) (by rw [← hrv1536]; omega) (by omega) (by rw [← hv1550, ← hrv1536]; omega)))
              · skip
                refine qr_iload 124 rfl (qm_ge _ _ _) rfl ?_
                refine qr_retI rfl rfl (by decide) (by decide) ?_
                exact ⟨_, rfl, hI1526, hF1527, v1550, rfl, hs1551, (by rw [hx1532, (qws_end (by omega) (by rw [← hrv1536]; omega) (by omega))]; exact hv1550)⟩
            · skip
              refine qr_iconst 104 rfl rfl ?_
              refine qr_retI rfl rfl (by decide) (by decide) ?_
              exact ⟨_, rfl, hI1526, hF1527, 0, rfl, (by decide), (by rw [hx1532, (qws_emp (by omega) (by rw [← hrv1536]; omega) (by omega))])⟩
          · skip
            refine qr_iload_n 49 rfl (qm_gk (qm_gk g1520 (by decide) (Or.inl (by decide))) (by decide) (Or.inl (by decide))) rfl ?_
            refine qr_aload_n 50 rfl (qm_gk (qm_gk g1518 (by decide) (Or.inl (by decide))) (by decide) (Or.inl (by decide))) rfl ?_
            refine qr_get 53 rfl rfl rfl (by decide) rfl ?_
            refine qr_alen 54 rfl rfl (by first | exact Or.inl (by decide) | exact Or.inr (Or.inl rfl) | exact Or.inr (Or.inr (Or.inl rfl)) | exact Or.inr (Or.inr (Or.inr (Or.inl rfl)))) rfl ?_
            refine qy_v 120 rfl ?_
            refine qr_icmp_lt 59 57 rfl rfl rfl (qrg hf1530 (by decide) (by decide)) (by decide) (fun h1582 => ?_) (fun h1582 => ?_)
            · skip
              refine qr_aload_n 60 rfl (qm_gk (qm_gk g1518 (by decide) (Or.inl (by decide))) (by decide) (Or.inl (by decide))) rfl ?_
              refine qr_get 63 rfl rfl rfl (by decide) rfl ?_
              refine qr_iload_n 64 rfl (qm_gk (qm_gk g1520 (by decide) (Or.inl (by decide))) (by decide) (Or.inl (by decide))) rfl ?_
              refine qr_iinc _ 67 rfl (qm_gk (qm_gk g1520 (by decide) (Or.inl (by decide))) (by decide) (Or.inl (by decide))) (by decide) rfl rfl ?_
              refine qr_iload 69 rfl (qm_gk (qm_gk (qm_ge _ _ _) (by decide) (Or.inr rfl)) (by decide) (Or.inl (by decide))) rfl ?_
              refine qr_bipush 71 rfl (by decide) rfl ?_
              refine qr_icmp_ne 79 74 rfl rfl rfl (by omega) (by decide) (fun h1583 => ?_) (fun h => False.elim (by omega))
              refine qr_iload 81 rfl (qm_gk (qm_ge _ _ _) (by decide) (Or.inl (by decide))) rfl ?_
              refine qr_aload_n 82 rfl (qm_gk (qm_gk (qm_gk g1519 (by decide) (Or.inl (by decide))) (by decide) (Or.inl (by decide))) (by decide) (Or.inr rfl)) rfl ?_
              refine qr_alen 83 rfl rfl (by first | exact Or.inl (by decide) | exact Or.inr (Or.inl rfl) | exact Or.inr (Or.inr (Or.inl rfl)) | exact Or.inr (Or.inr (Or.inr (Or.inl rfl)))) rfl ?_
              refine qy_v 9 rfl ?_
              refine qr_icmp_ge 93 86 rfl rfl rfl (by omega) (by decide) (fun h1584 => ?_) (fun h1584 => ?_)
              · skip
                refine qr_iconst 94 rfl rfl ?_
                refine qr_iastore 95 rfl (by decide) rfl (by omega) (by decide) rfl ?_
                refine qy_wA (qw_r α1525 57 (qzu (α1525 57) (u1521 : Int).toNat 0)) rfl (fun α1585 e1586 => ?_)
                have hI1587 : qI σ α1585 κ ρ := by rw [e1586]; exact qI_r hI1526 57 _ rfl (show (-2147483648) ≤ 0 ∧ 0 ≤ 2147483647 by omega)
                have hF1588 : qFr [] [57] σ α σ α1585 := by rw [e1586]; exact qFr_r hF1527 57 _ (by decide)
                refine qr_goto 234 rfl rfl ?_
                refine qr_iinc _ 237 rfl (qm_gk (qm_gk (qm_gk g1522 (by decide) (Or.inr rfl)) (by decide) (Or.inl (by decide))) (by decide) (Or.inl (by decide))) (by decide) rfl rfl ?_
                refine qr_goto 4 rfl rfl ?_
                exact ih1534 _ (u1521 + 1) (u1523 + 1) α1585 (by omega) (qm_gk (qm_gk (qm_gk (qm_gk g1518 (by decide) (Or.inl (by decide))) (by decide) (Or.inl (by decide))) (by decide) (Or.inl (by decide))) (by decide) (Or.inl (by decide))) (qm_gk (qm_gk (qm_gk (qm_gk g1519 (by decide) (Or.inl (by decide))) (by decide) (Or.inl (by decide))) (by decide) (Or.inr rfl)) (by decide) (Or.inl (by decide))) (qm_gk (qm_ge _ _ _) (by decide) (Or.inr rfl)) (qm_ge _ _ _) (by omega) (by omega) hI1587 hF1588 ((congrFun e1586 56).trans ((qw_r_ne (by decide)).trans hk1528)) ((congrFun e1586 59).trans ((qw_r_ne (by decide)).trans hk1529)) (by rw [(congrFun e1586 57).trans qw_r_eq]; exact hx1532.trans (qws_nam9 (by omega) (by rw [← hrv1536]; omega) (by omega) (by rw [← hrv1536]; omega) rfl rfl))
              · skip
                refine qr_aload_n 87 rfl (qm_gk (qm_gk (qm_gk g1519 (by decide) (Or.inl (by decide))) (by decide) (Or.inl (by decide))) (by decide) (Or.inr rfl)) rfl ?_
                refine qr_iload 89 rfl (qm_gk (qm_ge _ _ _) (by decide) (Or.inl (by decide))) rfl ?_
                refine qr_iaload 90 rfl rfl (by omega) (by decide) rfl ?_
                refine qr_topI (fun v1589 hv1589 => ?_)
                have hs1590 : (-2147483648) ≤ v1589 ∧ v1589 ≤ 2147483647 := by rw [hv1589]; exact hI1526.2.1 59 _ (show _ < 9 by omega)
                have hrv1589 : v1589 = (α 59) (v1540 : Int).toNat := hv1589.trans (congrFun hk1529 _)
                refine qr_goto 94 rfl rfl ?_
                refine qr_iastore 95 rfl (by decide) rfl (by omega) (by decide) rfl ?_
                refine qy_wA (qw_r α1525 57 (qzu (α1525 57) (u1521 : Int).toNat v1589)) rfl (fun α1591 e1592 => ?_)
                have hI1593 : qI σ α1591 κ ρ := by rw [e1592]; exact qI_r hI1526 57 _ rfl (show (-2147483648) ≤ v1589 ∧ v1589 ≤ 2147483647 by omega)
                have hF1594 : qFr [] [57] σ α σ α1591 := by rw [e1592]; exact qFr_r hF1527 57 _ (by decide)
                refine qr_goto 234 rfl rfl ?_
                refine qr_iinc _ 237 rfl (qm_gk (qm_gk (qm_gk g1522 (by decide) (Or.inr rfl)) (by decide) (Or.inl (by decide))) (by decide) (Or.inl (by decide))) (by decide) rfl rfl ?_
                refine qr_goto 4 rfl rfl ?_
                exact ih1534 _ (u1521 + 1) (u1523 + 1) α1591 (by omega) (qm_gk (qm_gk (qm_gk (qm_gk g1518 (by decide) (Or.inl (by decide))) (by decide) (Or.inl (by decide))) (by decide) (Or.inl (by decide))) (by decide) (Or.inl (by decide))) (qm_gk (qm_gk (qm_gk (qm_gk g1519 (by decide) (Or.inl (by decide))) (by decide) (Or.inl (by decide))) (by decide) (Or.inr rfl)) (by decide) (Or.inl (by decide))) (qm_gk (qm_ge _ _ _) (by decide) (Or.inr rfl)) (qm_ge _ _ _) (by omega) (by omega) hI1593 hF1594 ((congrFun e1592 56).trans ((qw_r_ne (by decide)).trans hk1528)) ((congrFun e1592 59).trans ((qw_r_ne (by decide)).trans hk1529)) (by rw [(congrFun e1592 57).trans qw_r_eq]; exact hx1532.trans (qws_nam (by omega) (by rw [← hrv1536]; omega) (by omega) (by rw [← hrv1536]; omega) (by rw [← hrv1536, show v1536 % 65536 = v1540 by omega]; exact hrv1589) rfl))
            · skip
              refine qr_iconst 58 rfl rfl ?_
              refine qr_retI rfl rfl (by decide) (by decide) ?_
              exact ⟨_, rfl, hI1526, hF1527, 0, rfl, (by decide), (by rw [hx1532, (qws_ful (by omega) (by rw [← hrv1536]; omega) (by omega))])⟩
  exact hL1533 ((65536 - 0 + 1 : Int)).toNat _ 0 0 α (by omega) rfl rfl rfl rfl (by decide) (by decide) hI hF0 rfl rfl rfl

set_option maxHeartbeats 4000000 in
set_option maxRecDepth 20000 in
/-- OneRoof$Custom.worth -/
theorem sf_97_82_59x {L : Nat} {xs : Nat → Int} {vb : Bool} {d : Nat} {σ α : Nat → Nat → Int} {κ : Nat → Option Nat} {ρ : Nat}  (hI : qI σ α κ ρ) (p0 : ∀ k : Int, 0 ≤ k → k < σ 82 5 → 0 ≤ α 84 k.toNat ∧ α 84 k.toNat < 8388608) : qm_T (qe L xs vb) (d + 2) 97 [.ref 82, .ref 59] (qw σ α κ ρ) (fun r w' => ∃ α', w' = qw σ α' κ ρ ∧ qI σ α' κ ρ ∧ qFr [] [85] σ α σ α' ∧ ∃ v : Int, r = some (.int (qz v)) ∧ ((-2147483648) ≤ v ∧ v ≤ 2147483647) ∧ v = qwv (α 84) (α 59) (σ 82 5) 0 (α 85) 0) := by
  refine qr_start (d := d + 1) qv_e97 (Nat.le_of_ble_eq_true rfl) ?_
  show qr_W (qe L xs vb) (d + 1) qx_e97 _ (0, [(0, .ref 82), (1, .ref 59)], [], _, 0, 0)
  have hF0 := qFr_rf [] [85] σ α
  have hz82_5 : 0 ≤ σ 82 5 ∧ σ 82 5 ≤ 122 := hI.1 82 5
  refine qr_iconst 1 rfl rfl ?_
  refine qr_istore_n _ 2 rfl (by decide) rfl rfl ?_
  refine qr_iconst 3 rfl rfl ?_
  refine qr_istore_n _ 4 rfl (by decide) rfl rfl ?_
  have hL1533 : ∀ (n : Nat) (ls : qm_L) (u1521 u1523 : Int) (α1525 : Nat → Nat → Int), 65536 - u1523 < (n : Int) → qm_get ls 0 = some (.ref 82) → qm_get ls 1 = some (.ref 59) → qm_get ls 2 = some (.int (qz u1521)) → qm_get ls 3 = some (.int (qz u1523)) → (0 ≤ u1521 ∧ u1521 ≤ 120) → (0 ≤ u1523 ∧ u1523 ≤ 65535) → qI σ α1525 κ ρ → qFr [] [85] σ α σ α1525 → α1525 59 = (α 59) → α1525 84 = (α 84) → qwv (α 84) (α 59) (σ 82 5) 0 (α 85) 0 = qwv (α 84) (α 59) (σ 82 5) u1523 (α1525 85) u1521 → qr_W (qe L xs vb) (d + 1) qx_e97 (fun r w' => ∃ α', w' = qw σ α' κ ρ ∧ qI σ α' κ ρ ∧ qFr [] [85] σ α σ α' ∧ ∃ v : Int, r = some (.int (qz v)) ∧ ((-2147483648) ≤ v ∧ v ≤ 2147483647) ∧ v = qwv (α 84) (α 59) (σ 82 5) 0 (α 85) 0) (4, ls, [], qw σ α1525 κ ρ, 0, 0) := by
    intro n
    induction n with
    | zero => intro ls u1521 u1523 α1525 hm g1518 g1519 g1520 g1522 hf1530 hf1531 hI1526 hF1527 hk1528 hk1529 hx1532; exact False.elim (by omega)
    | succ n ih1534 =>
      intro ls u1521 u1523 α1525 hm g1518 g1519 g1520 g1522 hf1530 hf1531 hI1526 hF1527 hk1528 hk1529 hx1532
      refine qr_iload_n 5 rfl g1522 rfl ?_
      refine qr_aload_n 6 rfl g1518 rfl ?_
      refine qr_get 9 rfl rfl rfl (by decide) rfl ?_
      refine qr_icmp_ge 240 12 rfl rfl rfl (qrg hf1531 (by decide) (by decide)) (qrg hz82_5 (by decide) (by decide)) (fun h1535 => ?_) (fun h1535 => ?_)
      · skip
        refine qr_iconst 241 rfl rfl ?_
        refine qr_retI rfl rfl (by decide) (by decide) ?_
        exact ⟨_, rfl, hI1526, hF1527, 0, rfl, (by decide), (by rw [hx1532, qwv_end (by omega)])⟩
      · skip
        refine qr_aload_n 13 rfl g1518 rfl ?_
        refine qr_get 16 rfl rfl rfl (by decide) rfl ?_
        refine qr_iload_n 17 rfl g1522 rfl ?_
        refine qr_iaload 18 rfl rfl (by omega) (by decide) rfl ?_
        refine qr_topI (fun v1536 hv1536 => ?_)
        have hs1537 : (-2147483648) ≤ v1536 ∧ v1536 ≤ 2147483647 := by rw [hv1536]; exact hI1526.2.1 84 _ (show _ < 122 by omega)
        have hrv1536 : v1536 = (α 84) (u1523 : Int).toNat := hv1536.trans (congrFun hk1529 _)
        have hcv1536 := p0 u1523 (by omega) (by omega)
        rw [← hrv1536] at hcv1536
        refine qr_bipush 20 rfl (by decide) rfl ?_
        refine qr_iushr 21 rfl rfl ?_
        refine qy_v (v1536 / 65536) (qz_ushr16 (by omega)) ?_
        refine qr_istore _ 23 rfl (by decide) rfl rfl ?_
        refine qr_aload_n 24 rfl (qm_gk g1518 (by decide) (Or.inl (by decide))) rfl ?_
        refine qr_get 27 rfl rfl rfl (by decide) rfl ?_
        refine qr_iload_n 28 rfl (qm_gk g1522 (by decide) (Or.inr rfl)) rfl ?_
        refine qr_iaload 29 rfl rfl (by omega) (by decide) rfl ?_
        refine qr_topI (fun v1538 hv1538 => ?_)
        have hs1539 : (-2147483648) ≤ v1538 ∧ v1538 ≤ 2147483647 := by rw [hv1538]; exact hI1526.2.1 84 _ (show _ < 122 by omega)
        have hrv1538 : v1538 = (α 84) (u1523 : Int).toNat := hv1538.trans (congrFun hk1529 _)
        have hdv1538 : v1538 = v1536 := hrv1538.trans hrv1536.symm
        refine qr_ldc 65535 31 rfl (by decide) rfl ?_
        refine qr_iand 32 rfl rfl ?_
        refine qy_andrE (by omega) (fun v1540 hv1540 hev1540 => ?_)
        refine qr_istore _ 34 rfl (by decide) rfl rfl ?_
        rw [qz_and_m (by omega)] at hev1540
        refine qr_iload 36 rfl (qm_gk (qm_ge _ _ _) (by decide) (Or.inr rfl)) rfl ?_
        refine qr_bipush 38 rfl (by decide) rfl ?_
        refine qr_icmp_eq 48 41 rfl rfl rfl (by omega) (by decide) (fun h1541 => ?_) (fun h1541 => ?_)
        · skip
          refine qr_iload_n 49 rfl (qm_gk (qm_gk g1520 (by decide) (Or.inl (by decide))) (by decide) (Or.inl (by decide))) rfl ?_
          refine qr_aload_n 50 rfl (qm_gk (qm_gk g1518 (by decide) (Or.inl (by decide))) (by decide) (Or.inl (by decide))) rfl ?_
          refine qr_get 53 rfl rfl rfl (by decide) rfl ?_
          refine qr_alen 54 rfl rfl (by first | exact Or.inl (by decide) | exact Or.inr (Or.inl rfl) | exact Or.inr (Or.inr (Or.inl rfl)) | exact Or.inr (Or.inr (Or.inr (Or.inl rfl)))) rfl ?_
          refine qy_v 120 rfl ?_
          refine qr_icmp_lt 59 57 rfl rfl rfl (qrg hf1530 (by decide) (by decide)) (by decide) (fun h1542 => ?_) (fun h1542 => ?_)
          · skip
            refine qr_aload_n 60 rfl (qm_gk (qm_gk g1518 (by decide) (Or.inl (by decide))) (by decide) (Or.inl (by decide))) rfl ?_
            refine qr_get 63 rfl rfl rfl (by decide) rfl ?_
            refine qr_iload_n 64 rfl (qm_gk (qm_gk g1520 (by decide) (Or.inl (by decide))) (by decide) (Or.inl (by decide))) rfl ?_
            refine qr_iinc _ 67 rfl (qm_gk (qm_gk g1520 (by decide) (Or.inl (by decide))) (by decide) (Or.inl (by decide))) (by decide) rfl rfl ?_
            refine qr_iload 69 rfl (qm_gk (qm_gk (qm_ge _ _ _) (by decide) (Or.inr rfl)) (by decide) (Or.inl (by decide))) rfl ?_
            refine qr_bipush 71 rfl (by decide) rfl ?_
            refine qr_icmp_ne 79 74 rfl rfl rfl (by omega) (by decide) (fun h => False.elim (by omega)) (fun h1543 => ?_)
            refine qr_iload 76 rfl (qm_gk (qm_ge _ _ _) (by decide) (Or.inl (by decide))) rfl ?_
            refine qr_goto 94 rfl rfl ?_
            refine qr_iastore 95 rfl (by decide) rfl (by omega) (by decide) rfl ?_
            refine qy_wA (qw_r α1525 85 (qzu (α1525 85) (u1521 : Int).toNat v1540)) rfl (fun α1544 e1545 => ?_)
            have hI1546 : qI σ α1544 κ ρ := by rw [e1545]; exact qI_r hI1526 85 _ rfl (show (-2147483648) ≤ v1540 ∧ v1540 ≤ 2147483647 by omega)
            have hF1547 : qFr [] [85] σ α σ α1544 := by rw [e1545]; exact qFr_r hF1527 85 _ (by decide)
            refine qr_goto 234 rfl rfl ?_
            refine qr_iinc _ 237 rfl (qm_gk (qm_gk (qm_gk g1522 (by decide) (Or.inr rfl)) (by decide) (Or.inl (by decide))) (by decide) (Or.inl (by decide))) (by decide) rfl rfl ?_
            refine qr_goto 4 rfl rfl ?_
            exact ih1534 _ (u1521 + 1) (u1523 + 1) α1544 (by omega) (qm_gk (qm_gk (qm_gk (qm_gk g1518 (by decide) (Or.inl (by decide))) (by decide) (Or.inl (by decide))) (by decide) (Or.inl (by decide))) (by decide) (Or.inl (by decide))) (qm_gk (qm_gk (qm_gk (qm_gk g1519 (by decide) (Or.inl (by decide))) (by decide) (Or.inl (by decide))) (by decide) (Or.inr rfl)) (by decide) (Or.inl (by decide))) (qm_gk (qm_ge _ _ _) (by decide) (Or.inr rfl)) (qm_ge _ _ _) (by omega) (by omega) hI1546 hF1547 ((congrFun e1545 59).trans ((qw_r_ne (by decide)).trans hk1528)) ((congrFun e1545 84).trans ((qw_r_ne (by decide)).trans hk1529)) (by rw [(congrFun e1545 85).trans qw_r_eq]; exact hx1532.trans (qws_num (by omega) (by rw [← hrv1536]; omega) (by omega) (by rw [← hrv1536]; omega) rfl))
          · skip
            refine qr_iconst 58 rfl rfl ?_
            refine qr_retI rfl rfl (by decide) (by decide) ?_
            exact ⟨_, rfl, hI1526, hF1527, 0, rfl, (by decide), (by rw [hx1532, (qws_ful (by omega) (by rw [← hrv1536]; omega) (by omega))])⟩
        · skip
          refine qr_iload 43 rfl (qm_gk (qm_ge _ _ _) (by decide) (Or.inr rfl)) rfl ?_
          refine qr_bipush 45 rfl (by decide) rfl ?_
          refine qr_icmp_ne 98 48 rfl rfl rfl (by omega) (by decide) (fun h1548 => ?_) (fun h1548 => ?_)
          · skip
            refine qr_iload_n 99 rfl (qm_gk (qm_gk g1520 (by decide) (Or.inl (by decide))) (by decide) (Or.inl (by decide))) rfl ?_
            refine qr_iconst 100 rfl rfl ?_
            refine qr_icmp_ge 105 103 rfl rfl rfl (qrg hf1530 (by decide) (by decide)) (by decide) (fun h1549 => ?_) (fun h1549 => ?_)
            · skip
              refine qr_aload_n 106 rfl (qm_gk (qm_gk g1518 (by decide) (Or.inl (by decide))) (by decide) (Or.inl (by decide))) rfl ?_
              refine qr_get 109 rfl rfl rfl (by decide) rfl ?_
              refine qr_iload_n 110 rfl (qm_gk (qm_gk g1520 (by decide) (Or.inl (by decide))) (by decide) (Or.inl (by decide))) rfl ?_
              refine qr_iconst 111 rfl rfl ?_
              refine qr_isub 112 rfl rfl ?_
              refine qr_iaload 113 rfl rfl (by omega) (by decide) rfl ?_
              refine qr_topI (fun v1550 hv1550 => ?_)
              have hs1551 : (-2147483648) ≤ v1550 ∧ v1550 ≤ 2147483647 := by rw [hv1550]; exact hI1526.2.1 85 _ (show _ < 120 by omega)
              refine qr_istore _ 115 rfl (by decide) rfl rfl ?_
              refine qr_iload 117 rfl (qm_gk (qm_gk (qm_ge _ _ _) (by decide) (Or.inr rfl)) (by decide) (Or.inl (by decide))) rfl ?_
              refine qr_bipush 119 rfl (by decide) rfl ?_
              refine qr_icmp_ne 125 122 rfl rfl rfl (by omega) (by decide) (fun h1552 => ?_) (fun h1552 => ?_)
              · skip
                refine qr_iload 127 rfl (qm_gk (qm_gk (qm_ge _ _ _) (by decide) (Or.inr rfl)) (by decide) (Or.inl (by decide))) rfl ?_
                refine qr_bipush 129 rfl (by decide) rfl ?_
                refine qr_icmp_ne 152 132 rfl rfl rfl (by omega) (by decide) (fun h1553 => ?_) (fun h1553 => ?_)
                · skip
                  refine qr_iload 154 rfl (qm_gk (qm_gk (qm_ge _ _ _) (by decide) (Or.inr rfl)) (by decide) (Or.inl (by decide))) rfl ?_
                  refine qr_bipush 156 rfl (by decide) rfl ?_
                  refine qr_icmp_ne 180 159 rfl rfl rfl (by omega) (by decide) (fun h1554 => ?_) (fun h1554 => ?_)
                  · skip
                    refine qr_iload 182 rfl (qm_gk (qm_gk (qm_ge _ _ _) (by decide) (Or.inr rfl)) (by decide) (Or.inl (by decide))) rfl ?_
                    refine qr_bipush 184 rfl (by decide) rfl ?_
                    refine qr_icmp_ne 201 187 rfl rfl rfl (by omega) (by decide) (fun h1555 => ?_) (fun h1555 => ?_)
                    · skip
                      refine qr_iload_n 202 rfl (qm_gk (qm_gk (qm_gk g1520 (by decide) (Or.inl (by decide))) (by decide) (Or.inl (by decide))) (by decide) (Or.inl (by decide))) rfl ?_
                      refine qr_iconst 203 rfl rfl ?_
                      refine qr_icmp_ge 208 206 rfl rfl rfl (qrg hf1530 (by decide) (by decide)) (by decide) (fun h1556 => ?_) (fun h1556 => ?_)
                      · skip
                        refine qr_iinc _ 211 rfl (qm_gk (qm_gk (qm_gk g1520 (by decide) (Or.inl (by decide))) (by decide) (Or.inl (by decide))) (by decide) (Or.inl (by decide))) (by decide) rfl rfl ?_
                        as_aux_lemma =>
                          refine qr_aload_n 212 rfl (qm_gk (qm_gk (qm_gk (qm_gk g1518 (by decide) (Or.inl (by decide))) (by decide) (Or.inl (by decide))) (by decide) (Or.inl (by decide))) (by decide) (Or.inl (by decide))) rfl ?_
                          refine qr_get 215 rfl rfl rfl (by decide) rfl ?_
                          refine qr_iload_n 216 rfl (qm_ge _ _ _) rfl ?_
                          refine qr_iconst 217 rfl rfl ?_
                          refine qr_isub 218 rfl rfl ?_
                          refine qr_iload 220 rfl (qm_gk (qm_gk (qm_gk (qm_ge _ _ _) (by decide) (Or.inr rfl)) (by decide) (Or.inl (by decide))) (by decide) (Or.inl (by decide))) rfl ?_
                          refine qr_aload_n 221 rfl (qm_gk (qm_gk (qm_gk (qm_gk g1518 (by decide) (Or.inl (by decide))) (by decide) (Or.inl (by decide))) (by decide) (Or.inl (by decide))) (by decide) (Or.inl (by decide))) rfl ?_
                          refine qr_get 224 rfl rfl rfl (by decide) rfl ?_
                          refine qr_iload_n 225 rfl (qm_ge _ _ _) rfl ?_
                          refine qr_iconst 226 rfl rfl ?_
                          refine qr_isub 227 rfl rfl ?_
                          refine qr_iaload 228 rfl rfl (by omega) (by decide) rfl ?_
                          refine qr_topI (fun v1557 hv1557 => ?_)
                          have hs1558 : (-2147483648) ≤ v1557 ∧ v1557 ≤ 2147483647 := by rw [hv1557]; exact hI1526.2.1 85 _ (show _ < 120 by omega)
                          refine qr_iload 230 rfl (qm_gk (qm_ge _ _ _) (by decide) (Or.inl (by decide))) rfl ?_
                          refine qr_callN 233 rfl rfl rfl (sf_98x (d := d + 0) hI1526 (by omega) hs1558 hs1551) ?_
                          rintro _ _ ⟨rfl, v1559, rfl, hv1559, hx1560⟩
                          show qr_W (qe L xs vb) (d + 1) qx_e97 _ (233, _, [.int (qz v1559), .int (qz ((u1521 + (-1)) - 1)), .ref 85], qw σ α1525 κ ρ, 0, 0)
                          refine qr_iastore 234 rfl (by decide) rfl (by omega) (by decide) rfl ?_
                          refine qy_wA (qw_r α1525 85 (qzu (α1525 85) (((u1521 + (-1)) - 1) : Int).toNat v1559)) rfl (fun α1561 e1562 => ?_)
                          have hI1563 : qI σ α1561 κ ρ := by rw [e1562]; exact qI_r hI1526 85 _ rfl (show (-2147483648) ≤ v1559 ∧ v1559 ≤ 2147483647 by omega)
                          have hF1564 : qFr [] [85] σ α σ α1561 := by rw [e1562]; exact qFr_r hF1527 85 _ (by decide)
                          refine qr_iinc _ 237 rfl (qm_gk (qm_gk (qm_gk (qm_gk g1522 (by decide) (Or.inr rfl)) (by decide) (Or.inl (by decide))) (by decide) (Or.inl (by decide))) (by decide) (Or.inl (by decide))) (by decide) rfl rfl ?_
                          refine qr_goto 4 rfl rfl ?_
                          exact ih1534 _ (u1521 + (-1)) (u1523 + 1) α1561 (by omega) (qm_gk (qm_gk (qm_gk (qm_gk (qm_gk g1518 (by decide) (Or.inl (by decide))) (by decide) (Or.inl (by decide))) (by decide) (Or.inl (by decide))) (by decide) (Or.inl (by decide))) (by decide) (Or.inl (by decide))) (qm_gk (qm_gk (qm_gk (qm_gk (qm_gk g1519 (by decide) (Or.inl (by decide))) (by decide) (Or.inl (by decide))) (by decide) (Or.inl (by decide))) (by decide) (Or.inr rfl)) (by decide) (Or.inl (by decide))) (qm_gk (qm_ge _ _ _) (by decide) (Or.inr rfl)) (qm_ge _ _ _) (by omega) (by omega) hI1563 hF1564 ((congrFun e1562 59).trans ((qw_r_ne (by decide)).trans hk1528)) ((congrFun e1562 84).trans ((qw_r_ne (by decide)).trans hk1529)) (by rw [(congrFun e1562 85).trans qw_r_eq]; exact hx1532.trans (qws_bin (by omega) (by rw [← hrv1536]; omega) (by omega) (by rw [show (u1521 - 2 : Int).toNat = (((u1521 + (-1)) - 1) : Int).toNat by omega, ← hrv1536, ← hv1557, ← hv1550]; exact (hx1560).trans (by rw [show v1536 / 65536 = (v1536 / 65536) by omega])) (by omega)))
                      · skip
                        refine qr_iconst 207 rfl rfl ?_
                        as_aux_lemma =>
                          refine qr_retI rfl rfl (by decide) (by decide) ?_
                          exact ⟨_, rfl, hI1526, hF1527, 0, rfl, (by decide), (by rw [hx1532, (qws_two (by omega) (by rw [← hrv1536]; omega) (by omega))])⟩
                    · skip
                      refine qr_aload_n 188 rfl (qm_gk (qm_gk (qm_gk g1518 (by decide) (Or.inl (by decide))) (by decide) (Or.inl (by decide))) (by decide) (Or.inl (by decide))) rfl ?_
                      refine qr_get 191 rfl rfl rfl (by decide) rfl ?_
                      refine qr_iload_n 192 rfl (qm_gk (qm_gk (qm_gk g1520 (by decide) (Or.inl (by decide))) (by decide) (Or.inl (by decide))) (by decide) (Or.inl (by decide))) rfl ?_
                      refine qr_iconst 193 rfl rfl ?_
                      as_aux_lemma =>
                        refine qr_isub 194 rfl rfl ?_
                        refine qr_iload 196 rfl (qm_ge _ _ _) rfl ?_
                        refine qr_ineg 197 rfl rfl ?_
                        refine qy_canE (fun v1565 hv1565 hev1565 => ?_)
                        refine qr_iastore 198 rfl (by decide) rfl (by omega) (by decide) rfl ?_
                        refine qy_wA (qw_r α1525 85 (qzu (α1525 85) ((u1521 - 1) : Int).toNat v1565)) rfl (fun α1566 e1567 => ?_)
                        have hI1568 : qI σ α1566 κ ρ := by rw [e1567]; exact qI_r hI1526 85 _ rfl (show (-2147483648) ≤ v1565 ∧ v1565 ≤ 2147483647 by omega)
                        have hF1569 : qFr [] [85] σ α σ α1566 := by rw [e1567]; exact qFr_r hF1527 85 _ (by decide)
                        refine qr_goto 234 rfl rfl ?_
                        refine qr_iinc _ 237 rfl (qm_gk (qm_gk (qm_gk g1522 (by decide) (Or.inr rfl)) (by decide) (Or.inl (by decide))) (by decide) (Or.inl (by decide))) (by decide) rfl rfl ?_
                        refine qr_goto 4 rfl rfl ?_
                        exact ih1534 _ u1521 (u1523 + 1) α1566 (by omega) (qm_gk (qm_gk (qm_gk (qm_gk g1518 (by decide) (Or.inl (by decide))) (by decide) (Or.inl (by decide))) (by decide) (Or.inl (by decide))) (by decide) (Or.inl (by decide))) (qm_gk (qm_gk (qm_gk (qm_gk g1519 (by decide) (Or.inl (by decide))) (by decide) (Or.inl (by decide))) (by decide) (Or.inl (by decide))) (by decide) (Or.inl (by decide))) (qm_gk (qm_gk (qm_gk (qm_gk g1520 (by decide) (Or.inl (by decide))) (by decide) (Or.inl (by decide))) (by decide) (Or.inl (by decide))) (by decide) (Or.inr rfl)) (qm_ge _ _ _) hf1530 (by omega) hI1568 hF1569 ((congrFun e1567 59).trans ((qw_r_ne (by decide)).trans hk1528)) ((congrFun e1567 84).trans ((qw_r_ne (by decide)).trans hk1529)) (by rw [(congrFun e1567 85).trans qw_r_eq]; exact hx1532.trans (qws_neg (by omega) (by rw [← hrv1536]; omega) (by omega) (by rw [← hv1550]; exact qtx_can hev1565 (by omega)) rfl))
                  · skip
                    refine qr_aload_n 160 rfl (qm_gk (qm_gk (qm_gk g1518 (by decide) (Or.inl (by decide))) (by decide) (Or.inl (by decide))) (by decide) (Or.inl (by decide))) rfl ?_
                    refine qr_get 163 rfl rfl rfl (by decide) rfl ?_
                    refine qr_iload_n 164 rfl (qm_gk (qm_gk (qm_gk g1520 (by decide) (Or.inl (by decide))) (by decide) (Or.inl (by decide))) (by decide) (Or.inl (by decide))) rfl ?_
                    refine qr_iconst 165 rfl rfl ?_
                    refine qr_isub 166 rfl rfl ?_
                    refine qr_iload 168 rfl (qm_ge _ _ _) rfl ?_
                    refine qr_if_ne 175 171 rfl rfl rfl hs1551 (fun h1570 => ?_) (fun h1570 => ?_)
                    · skip
                      as_aux_lemma =>
                        refine qr_iconst 176 rfl rfl ?_
                        refine qr_iastore 177 rfl (by decide) rfl (by omega) (by decide) rfl ?_
                        refine qy_wA (qw_r α1525 85 (qzu (α1525 85) ((u1521 - 1) : Int).toNat 0)) rfl (fun α1571 e1572 => ?_)
                        have hI1573 : qI σ α1571 κ ρ := by rw [e1572]; exact qI_r hI1526 85 _ rfl (show (-2147483648) ≤ 0 ∧ 0 ≤ 2147483647 by omega)
                        have hF1574 : qFr [] [85] σ α σ α1571 := by rw [e1572]; exact qFr_r hF1527 85 _ (by decide)
                        refine qr_goto 234 rfl rfl ?_
                        refine qr_iinc _ 237 rfl (qm_gk (qm_gk (qm_gk g1522 (by decide) (Or.inr rfl)) (by decide) (Or.inl (by decide))) (by decide) (Or.inl (by decide))) (by decide) rfl rfl ?_
                        refine qr_goto 4 rfl rfl ?_
                        exact ih1534 _ u1521 (u1523 + 1) α1571 (by omega) (qm_gk (qm_gk (qm_gk (qm_gk g1518 (by decide) (Or.inl (by decide))) (by decide) (Or.inl (by decide))) (by decide) (Or.inl (by decide))) (by decide) (Or.inl (by decide))) (qm_gk (qm_gk (qm_gk (qm_gk g1519 (by decide) (Or.inl (by decide))) (by decide) (Or.inl (by decide))) (by decide) (Or.inl (by decide))) (by decide) (Or.inl (by decide))) (qm_gk (qm_gk (qm_gk (qm_gk g1520 (by decide) (Or.inl (by decide))) (by decide) (Or.inl (by decide))) (by decide) (Or.inl (by decide))) (by decide) (Or.inr rfl)) (qm_ge _ _ _) hf1530 (by omega) hI1573 hF1574 ((congrFun e1572 59).trans ((qw_r_ne (by decide)).trans hk1528)) ((congrFun e1572 84).trans ((qw_r_ne (by decide)).trans hk1529)) (by rw [(congrFun e1572 85).trans qw_r_eq]; exact hx1532.trans (qws_not (by omega) (by rw [← hrv1536]; omega) (by omega) (by rw [← hv1550]; omega) rfl))
                    · skip
                      as_aux_lemma =>
                        refine qr_iconst 172 rfl rfl ?_
                        refine qr_goto 176 rfl rfl ?_
                        refine qr_iastore 177 rfl (by decide) rfl (by omega) (by decide) rfl ?_
                        refine qy_wA (qw_r α1525 85 (qzu (α1525 85) ((u1521 - 1) : Int).toNat 1)) rfl (fun α1575 e1576 => ?_)
                        have hI1577 : qI σ α1575 κ ρ := by rw [e1576]; exact qI_r hI1526 85 _ rfl (show (-2147483648) ≤ 1 ∧ 1 ≤ 2147483647 by omega)
                        have hF1578 : qFr [] [85] σ α σ α1575 := by rw [e1576]; exact qFr_r hF1527 85 _ (by decide)
                        refine qr_goto 234 rfl rfl ?_
                        refine qr_iinc _ 237 rfl (qm_gk (qm_gk (qm_gk g1522 (by decide) (Or.inr rfl)) (by decide) (Or.inl (by decide))) (by decide) (Or.inl (by decide))) (by decide) rfl rfl ?_
                        refine qr_goto 4 rfl rfl ?_
                        exact ih1534 _ u1521 (u1523 + 1) α1575 (by omega) (qm_gk (qm_gk (qm_gk (qm_gk g1518 (by decide) (Or.inl (by decide))) (by decide) (Or.inl (by decide))) (by decide) (Or.inl (by decide))) (by decide) (Or.inl (by decide))) (qm_gk (qm_gk (qm_gk (qm_gk g1519 (by decide) (Or.inl (by decide))) (by decide) (Or.inl (by decide))) (by decide) (Or.inl (by decide))) (by decide) (Or.inl (by decide))) (qm_gk (qm_gk (qm_gk (qm_gk g1520 (by decide) (Or.inl (by decide))) (by decide) (Or.inl (by decide))) (by decide) (Or.inl (by decide))) (by decide) (Or.inr rfl)) (qm_ge _ _ _) hf1530 (by omega) hI1577 hF1578 ((congrFun e1576 59).trans ((qw_r_ne (by decide)).trans hk1528)) ((congrFun e1576 84).trans ((qw_r_ne (by decide)).trans hk1529)) (by rw [(congrFun e1576 85).trans qw_r_eq]; exact hx1532.trans (qws_not (by omega) (by rw [← hrv1536]; omega) (by omega) (by rw [← hv1550]; omega) rfl))
                · skip
                  refine qr_iinc _ 135 rfl (qm_gk (qm_gk (qm_gk g1520 (by decide) (Or.inl (by decide))) (by decide) (Or.inl (by decide))) (by decide) (Or.inl (by decide))) (by decide) rfl rfl ?_
                  refine qr_iload 137 rfl (qm_gk (qm_ge _ _ _) (by decide) (Or.inl (by decide))) rfl ?_
                  refine qr_if_ne 234 140 rfl rfl rfl hs1551 (fun h1579 => ?_) (fun h1579 => ?_)
                  · skip
                    refine qr_iinc _ 237 rfl (qm_gk (qm_gk (qm_gk (qm_gk g1522 (by decide) (Or.inr rfl)) (by decide) (Or.inl (by decide))) (by decide) (Or.inl (by decide))) (by decide) (Or.inl (by decide))) (by decide) rfl rfl ?_
                    refine qr_goto 4 rfl rfl ?_
                    exact ih1534 _ (u1521 + (-1)) (u1523 + 1) α1525 (by omega) (qm_gk (qm_gk (qm_gk (qm_gk (qm_gk g1518 (by decide) (Or.inl (by decide))) (by decide) (Or.inl (by decide))) (by decide) (Or.inl (by decide))) (by decide) (Or.inl (by decide))) (by decide) (Or.inl (by decide))) (qm_gk (qm_gk (qm_gk (qm_gk (qm_gk g1519 (by decide) (Or.inl (by decide))) (by decide) (Or.inl (by decide))) (by decide) (Or.inl (by decide))) (by decide) (Or.inr rfl)) (by decide) (Or.inl (by decide))) (qm_gk (qm_ge _ _ _) (by decide) (Or.inr rfl)) (qm_ge _ _ _) (by omega) (by omega) hI1526 hF1527 hk1528 hk1529 (by exact hx1532.trans (qws_if (by omega) (by rw [← hrv1536]; omega) (by omega) (by rw [← hv1550, ← hrv1536]; omega)))
                  · skip
                    refine qr_iload_n 141 rfl (qm_gk (qm_gk (qm_gk (qm_gk g1522 (by decide) (Or.inr rfl)) (by decide) (Or.inl (by decide))) (by decide) (Or.inl (by decide))) (by decide) (Or.inl (by decide))) rfl ?_
                    refine qr_iload 143 rfl (qm_gk (qm_gk (qm_ge _ _ _) (by decide) (Or.inr rfl)) (by decide) (Or.inl (by decide))) rfl ?_
                    refine qr_iconst 144 rfl rfl ?_
                    refine qr_isub 145 rfl rfl ?_
                    refine qr_callN 148 rfl rfl rfl (sf_30 (d := d + 0) hI1526 (qrg hf1531 (by decide) (by decide)) (by omega)) ?_
                    rintro _ _ ⟨rfl, v1580, rfl, hv1580, hp1581⟩
                    show qr_W (qe L xs vb) (d + 1) qx_e97 _ (148, _, [.int (qz v1580)], qw σ α1525 κ ρ, 0, 0)
                    refine qr_istore_n _ 149 rfl (by decide) rfl rfl ?_
                    refine qr_goto 234 rfl rfl ?_
                    as_aux_lemma =>
                      refine qr_iinc _ 237 rfl (qm_ge _ _ _) (by decide) rfl rfl ?_
                      refine qr_goto 4 rfl rfl ?_
                      exact ih1534 _ (u1521 + (-1)) (v1580 + 1) α1525 (by omega) (qm_gk (qm_gk (qm_gk (qm_gk (qm_gk (qm_gk g1518 (by decide) (Or.inl (by decide))) (by decide) (Or.inl (by decide))) (by decide) (Or.inl (by decide))) (by decide) (Or.inl (by decide))) (by decide) (Or.inl (by decide))) (by decide) (Or.inl (by decide))) (qm_gk (qm_gk (qm_gk (qm_gk (qm_gk (qm_gk g1519 (by decide) (Or.inl (by decide))) (by decide) (Or.inl (by decide))) (by decide) (Or.inl (by decide))) (by decide) (Or.inr rfl)) (by decide) (Or.inl (by decide))) (by decide) (Or.inl (by decide))) (qm_gk (qm_gk (qm_ge _ _ _) (by decide) (Or.inr rfl)) (by decide) (Or.inr rfl)) (qm_ge _ _ _) (by omega) (by omega) hI1526 hF1527 hk1528 hk1529 (by exact hx1532.trans (qws_if (by omega) (by rw [← hrv1536]; omega) (by omega) (by rw [← hv1550, ← hrv1536]; omega)))
              · skip
                refine qr_iload 124 rfl (qm_ge _ _ _) rfl ?_
                refine qr_retI rfl rfl (by decide) (by decide) ?_
                exact ⟨_, rfl, hI1526, hF1527, v1550, rfl, hs1551, (by rw [hx1532, (qws_end (by omega) (by rw [← hrv1536]; omega) (by omega))]; exact hv1550)⟩
            · skip
              refine qr_iconst 104 rfl rfl ?_
              refine qr_retI rfl rfl (by decide) (by decide) ?_
              exact ⟨_, rfl, hI1526, hF1527, 0, rfl, (by decide), (by rw [hx1532, (qws_emp (by omega) (by rw [← hrv1536]; omega) (by omega))])⟩
          · skip
            refine qr_iload_n 49 rfl (qm_gk (qm_gk g1520 (by decide) (Or.inl (by decide))) (by decide) (Or.inl (by decide))) rfl ?_
            refine qr_aload_n 50 rfl (qm_gk (qm_gk g1518 (by decide) (Or.inl (by decide))) (by decide) (Or.inl (by decide))) rfl ?_
            refine qr_get 53 rfl rfl rfl (by decide) rfl ?_
            refine qr_alen 54 rfl rfl (by first | exact Or.inl (by decide) | exact Or.inr (Or.inl rfl) | exact Or.inr (Or.inr (Or.inl rfl)) | exact Or.inr (Or.inr (Or.inr (Or.inl rfl)))) rfl ?_
            refine qy_v 120 rfl ?_
            refine qr_icmp_lt 59 57 rfl rfl rfl (qrg hf1530 (by decide) (by decide)) (by decide) (fun h1582 => ?_) (fun h1582 => ?_)
            · skip
              refine qr_aload_n 60 rfl (qm_gk (qm_gk g1518 (by decide) (Or.inl (by decide))) (by decide) (Or.inl (by decide))) rfl ?_
              refine qr_get 63 rfl rfl rfl (by decide) rfl ?_
              refine qr_iload_n 64 rfl (qm_gk (qm_gk g1520 (by decide) (Or.inl (by decide))) (by decide) (Or.inl (by decide))) rfl ?_
              refine qr_iinc _ 67 rfl (qm_gk (qm_gk g1520 (by decide) (Or.inl (by decide))) (by decide) (Or.inl (by decide))) (by decide) rfl rfl ?_
              refine qr_iload 69 rfl (qm_gk (qm_gk (qm_ge _ _ _) (by decide) (Or.inr rfl)) (by decide) (Or.inl (by decide))) rfl ?_
              refine qr_bipush 71 rfl (by decide) rfl ?_
              refine qr_icmp_ne 79 74 rfl rfl rfl (by omega) (by decide) (fun h1583 => ?_) (fun h => False.elim (by omega))
              refine qr_iload 81 rfl (qm_gk (qm_ge _ _ _) (by decide) (Or.inl (by decide))) rfl ?_
              refine qr_aload_n 82 rfl (qm_gk (qm_gk (qm_gk g1519 (by decide) (Or.inl (by decide))) (by decide) (Or.inl (by decide))) (by decide) (Or.inr rfl)) rfl ?_
              refine qr_alen 83 rfl rfl (by first | exact Or.inl (by decide) | exact Or.inr (Or.inl rfl) | exact Or.inr (Or.inr (Or.inl rfl)) | exact Or.inr (Or.inr (Or.inr (Or.inl rfl)))) rfl ?_
              refine qy_v 9 rfl ?_
              refine qr_icmp_ge 93 86 rfl rfl rfl (by omega) (by decide) (fun h1584 => ?_) (fun h1584 => ?_)
              · skip
                refine qr_iconst 94 rfl rfl ?_
                refine qr_iastore 95 rfl (by decide) rfl (by omega) (by decide) rfl ?_
                refine qy_wA (qw_r α1525 85 (qzu (α1525 85) (u1521 : Int).toNat 0)) rfl (fun α1585 e1586 => ?_)
                have hI1587 : qI σ α1585 κ ρ := by rw [e1586]; exact qI_r hI1526 85 _ rfl (show (-2147483648) ≤ 0 ∧ 0 ≤ 2147483647 by omega)
                have hF1588 : qFr [] [85] σ α σ α1585 := by rw [e1586]; exact qFr_r hF1527 85 _ (by decide)
                refine qr_goto 234 rfl rfl ?_
                refine qr_iinc _ 237 rfl (qm_gk (qm_gk (qm_gk g1522 (by decide) (Or.inr rfl)) (by decide) (Or.inl (by decide))) (by decide) (Or.inl (by decide))) (by decide) rfl rfl ?_
                refine qr_goto 4 rfl rfl ?_
                exact ih1534 _ (u1521 + 1) (u1523 + 1) α1585 (by omega) (qm_gk (qm_gk (qm_gk (qm_gk g1518 (by decide) (Or.inl (by decide))) (by decide) (Or.inl (by decide))) (by decide) (Or.inl (by decide))) (by decide) (Or.inl (by decide))) (qm_gk (qm_gk (qm_gk (qm_gk g1519 (by decide) (Or.inl (by decide))) (by decide) (Or.inl (by decide))) (by decide) (Or.inr rfl)) (by decide) (Or.inl (by decide))) (qm_gk (qm_ge _ _ _) (by decide) (Or.inr rfl)) (qm_ge _ _ _) (by omega) (by omega) hI1587 hF1588 ((congrFun e1586 59).trans ((qw_r_ne (by decide)).trans hk1528)) ((congrFun e1586 84).trans ((qw_r_ne (by decide)).trans hk1529)) (by rw [(congrFun e1586 85).trans qw_r_eq]; exact hx1532.trans (qws_nam9 (by omega) (by rw [← hrv1536]; omega) (by omega) (by rw [← hrv1536]; omega) rfl rfl))
              · skip
                refine qr_aload_n 87 rfl (qm_gk (qm_gk (qm_gk g1519 (by decide) (Or.inl (by decide))) (by decide) (Or.inl (by decide))) (by decide) (Or.inr rfl)) rfl ?_
                refine qr_iload 89 rfl (qm_gk (qm_ge _ _ _) (by decide) (Or.inl (by decide))) rfl ?_
                refine qr_iaload 90 rfl rfl (by omega) (by decide) rfl ?_
                refine qr_topI (fun v1589 hv1589 => ?_)
                have hs1590 : (-2147483648) ≤ v1589 ∧ v1589 ≤ 2147483647 := by rw [hv1589]; exact hI1526.2.1 59 _ (show _ < 9 by omega)
                have hrv1589 : v1589 = (α 59) (v1540 : Int).toNat := hv1589.trans (congrFun hk1528 _)
                refine qr_goto 94 rfl rfl ?_
                refine qr_iastore 95 rfl (by decide) rfl (by omega) (by decide) rfl ?_
                refine qy_wA (qw_r α1525 85 (qzu (α1525 85) (u1521 : Int).toNat v1589)) rfl (fun α1591 e1592 => ?_)
                have hI1593 : qI σ α1591 κ ρ := by rw [e1592]; exact qI_r hI1526 85 _ rfl (show (-2147483648) ≤ v1589 ∧ v1589 ≤ 2147483647 by omega)
                have hF1594 : qFr [] [85] σ α σ α1591 := by rw [e1592]; exact qFr_r hF1527 85 _ (by decide)
                refine qr_goto 234 rfl rfl ?_
                refine qr_iinc _ 237 rfl (qm_gk (qm_gk (qm_gk g1522 (by decide) (Or.inr rfl)) (by decide) (Or.inl (by decide))) (by decide) (Or.inl (by decide))) (by decide) rfl rfl ?_
                refine qr_goto 4 rfl rfl ?_
                exact ih1534 _ (u1521 + 1) (u1523 + 1) α1591 (by omega) (qm_gk (qm_gk (qm_gk (qm_gk g1518 (by decide) (Or.inl (by decide))) (by decide) (Or.inl (by decide))) (by decide) (Or.inl (by decide))) (by decide) (Or.inl (by decide))) (qm_gk (qm_gk (qm_gk (qm_gk g1519 (by decide) (Or.inl (by decide))) (by decide) (Or.inl (by decide))) (by decide) (Or.inr rfl)) (by decide) (Or.inl (by decide))) (qm_gk (qm_ge _ _ _) (by decide) (Or.inr rfl)) (qm_ge _ _ _) (by omega) (by omega) hI1593 hF1594 ((congrFun e1592 59).trans ((qw_r_ne (by decide)).trans hk1528)) ((congrFun e1592 84).trans ((qw_r_ne (by decide)).trans hk1529)) (by rw [(congrFun e1592 85).trans qw_r_eq]; exact hx1532.trans (qws_nam (by omega) (by rw [← hrv1536]; omega) (by omega) (by rw [← hrv1536]; omega) (by rw [← hrv1536, show v1536 % 65536 = v1540 by omega]; exact hrv1589) rfl))
            · skip
              refine qr_iconst 58 rfl rfl ?_
              refine qr_retI rfl rfl (by decide) (by decide) ?_
              exact ⟨_, rfl, hI1526, hF1527, 0, rfl, (by decide), (by rw [hx1532, (qws_ful (by omega) (by rw [← hrv1536]; omega) (by omega))])⟩
  exact hL1533 ((65536 - 0 + 1 : Int)).toNat _ 0 0 α (by omega) rfl rfl rfl rfl (by decide) (by decide) hI hF0 rfl rfl rfl
end
section
/-! steps by the ties told -/
noncomputable def qds (A B : Nat → Int) (m x y : Int) : Int := @dite Int (∃ t, qDi A B m t x y) (Classical.propDecidable _) (fun h => Classical.choose h) (fun _ => 99)
theorem qds_of {A B : Nat → Int} {m t x y : Int} (h : qDi A B m t x y) : qds A B m x y = t := by
  have e : ∃ t, qDi A B m t x y := ⟨t, h⟩
  unfold qds
  rw [dif_pos e]
  exact qDi_un (Classical.choose_spec e) h
noncomputable def qd9 (A B : Nat → Int) (m x y : Int) : Int := if qds A B m x y ≤ 9 then qds A B m x y else 99
theorem qd9_of {A B : Nat → Int} {m t x y v : Int} (h : qDi A B m t x y) (hv : (v = t ∧ v ≤ 9) ∨ (v = 99 ∧ 9 < t)) : v = qd9 A B m x y := by
  unfold qd9
  rw [qds_of h]
  by_cases e : t ≤ 9
  · rw [if_pos e]; omega
  · rw [if_neg e]; omega
theorem qd9_r (A B : Nat → Int) (m x y : Int) : 0 ≤ qd9 A B m x y ∧ (qd9 A B m x y ≤ 9 ∨ qd9 A B m x y = 99) := by
  have h0 : 0 ≤ qds A B m x y := by
    unfold qds
    split
    · next e => exact (Classical.choose_spec e).1.1
    · decide
  unfold qd9
  split
  · next e => exact ⟨h0, Or.inl e⟩
  · exact ⟨by decide, Or.inr rfl⟩
theorem qst_of {σ α σ' α' : Nat → Nat → Int} {κ : Nat → Option Nat} {ρ : Nat} {x y v : Int} (hI : qI σ' α' κ ρ) (h15 : σ' 86 15 = 1) (e94 : α' 94 = α 94) (e95 : α' 95 = α 95) (e11 : σ' 86 11 = σ 86 11) (e6 : σ' 86 6 = σ 86 6) (hx : 0 ≤ x ∧ x < σ 86 6) (hy : 0 ≤ y ∧ y < σ 86 6) (hv : (v = α' 96 (32 * x + y : Int).toNat ∧ v ≤ 9) ∨ (v = 99 ∧ 9 < α' 96 (32 * x + y : Int).toNat)) : v = qd9 (α 94) (α 95) (σ 86 11) x y := by
  have h := hI.2.2.2.2.2.2.2.2.2 h15 x y (by rw [e6]; exact hx) (by rw [e6]; exact hy)
  rw [e94, e95, e11] at h
  refine qd9_of h ?_
  unfold qTb
  rw [show x * 32 + y = 32 * x + y by omega]
  exact hv

set_option maxHeartbeats 4000000 in
set_option maxRecDepth 20000 in
/-- OneRoofModel.stepsTo -/
theorem sf_187_86x {L : Nat} {xs : Nat → Int} {vb : Bool} {d : Nat} {σ α : Nat → Nat → Int} {κ : Nat → Option Nat} {ρ : Nat} {x1 : Int} {x2 : Int} (hI : qI σ α κ ρ) (r1 : 0 ≤ x1 ∧ x1 ≤ 31) (r2 : 0 ≤ x2 ∧ x2 ≤ 31) (p0 : x1 < σ 86 6 ∧ x2 < σ 86 6) : qm_T (qe L xs vb) (d + 3) 187 [.ref 86, .int (qz x1), .int (qz x2)] (qw σ α κ ρ) (fun r w' => ∃ σ' α', w' = qw σ' α' κ ρ ∧ qI σ' α' κ ρ ∧ qFr [(86, 15)] [96] σ α σ' α' ∧ ∃ v : Int, r = some (.int (qz v)) ∧ (0 ≤ v ∧ v ≤ 99) ∧ v = qd9 (α 94) (α 95) (σ 86 11) x1 x2) := by
  refine qr_start (d := d + 2) qv_e187 (Nat.le_of_ble_eq_true rfl) ?_
  show qr_W (qe L xs vb) (d + 2) qx_e187 _ (0, [(0, .ref 86), (1, .int (qz x1)), (2, .int (qz x2))], [], _, 0, 0)
  have hF0 := qFr_rf [(86, 15)] [96] σ α
  have hz86_6 : 0 ≤ σ 86 6 ∧ σ 86 6 ≤ 32 := hI.1 86 6
  have hz86_15 : 0 ≤ σ 86 15 ∧ σ 86 15 ≤ 1 := hI.1 86 15
  refine qr_aload_n 1 rfl rfl rfl ?_
  refine qr_get 4 rfl rfl rfl (by decide) rfl ?_
  refine qr_if_ne 11 7 rfl rfl rfl (qrg hz86_15 (by decide) (by decide)) (fun h1 => ?_) (fun h1 => ?_)
  · skip
    refine qr_aload_n 12 rfl rfl rfl ?_
    refine qr_get 15 rfl rfl rfl (by decide) rfl ?_
    refine qr_bipush 17 rfl (by decide) rfl ?_
    refine qr_iload_n 18 rfl rfl rfl ?_
    refine qr_imul 19 rfl rfl ?_
    refine qr_iload_n 20 rfl rfl rfl ?_
    refine qr_iadd 21 rfl rfl ?_
    refine qr_iaload 22 rfl rfl (by omega) (by decide) rfl ?_
    refine qr_topI (fun v2 hv2 => ?_)
    have hs3 : 0 ≤ v2 ∧ v2 ≤ 99 := by rw [hv2]; exact hI.2.1 96 _ (show _ < 1024 by omega)
    refine qr_istore_n _ 23 rfl (by decide) rfl rfl ?_
    refine qr_iload_n 24 rfl rfl rfl ?_
    refine qr_bipush 26 rfl (by decide) rfl ?_
    refine qr_icmp_le 34 29 rfl rfl rfl (qrg hs3 (by decide) (by decide)) (by decide) (fun h4 => ?_) (fun h4 => ?_)
    · skip
      refine qr_iload_n 35 rfl rfl rfl ?_
      refine qr_retI rfl rfl (by decide) (by decide) ?_
      exact ⟨_, _, rfl, hI, hF0, v2, rfl, hs3, (qst_of hI (by have hw : σ 86 15 = (σ 86 15) := rfl; omega) (hF0.2 94 (by decide)) (hF0.2 95 (by decide)) (hF0.1 86 11 (by decide)) (hF0.1 86 6 (by decide)) (by omega) (by omega) (by rw [← hv2]; omega))⟩
    · skip
      refine qr_bipush 31 rfl (by decide) rfl ?_
      refine qr_goto 35 rfl rfl ?_
      refine qr_retI rfl rfl (by decide) (by decide) ?_
      exact ⟨_, _, rfl, hI, hF0, 99, rfl, (by decide), (qst_of hI (by have hw : σ 86 15 = (σ 86 15) := rfl; omega) (hF0.2 94 (by decide)) (hF0.2 95 (by decide)) (hF0.1 86 11 (by decide)) (hF0.1 86 6 (by decide)) (by omega) (by omega) (by rw [← hv2]; omega))⟩
  · skip
    refine qr_aload_n 8 rfl rfl rfl ?_
    have hs5 : 0 ≤ σ 86 15 ∧ σ 86 15 ≤ 1 := hI.1 86 15
    refine qr_callN 11 rfl rfl rfl (sf_188_86 (d := d + 0) hI (by omega)) ?_
    rintro _ _ ⟨σ7, α8, rfl, hI9, hG10, hw6, rfl⟩
    have hF11 : qFr [(86, 15)] [96] σ α σ7 α8 := qFr_t hF0 hG10 (by decide) (by decide)
    have hs12 : 0 ≤ σ7 86 15 ∧ σ7 86 15 ≤ 1 := hI9.1 86 15
    show qr_W (qe L xs vb) (d + 2) qx_e187 _ (11, _, [], qw σ7 α8 κ ρ, 0, 0)
    refine qr_aload_n 12 rfl rfl rfl ?_
    refine qr_get 15 rfl rfl rfl (by decide) rfl ?_
    refine qr_bipush 17 rfl (by decide) rfl ?_
    refine qr_iload_n 18 rfl rfl rfl ?_
    refine qr_imul 19 rfl rfl ?_
    refine qr_iload_n 20 rfl rfl rfl ?_
    refine qr_iadd 21 rfl rfl ?_
    refine qr_iaload 22 rfl rfl (by omega) (by decide) rfl ?_
    refine qr_topI (fun v13 hv13 => ?_)
    have hs14 : 0 ≤ v13 ∧ v13 ≤ 99 := by rw [hv13]; exact hI9.2.1 96 _ (show _ < 1024 by omega)
    refine qr_istore_n _ 23 rfl (by decide) rfl rfl ?_
    refine qr_iload_n 24 rfl rfl rfl ?_
    refine qr_bipush 26 rfl (by decide) rfl ?_
    refine qr_icmp_le 34 29 rfl rfl rfl (qrg hs14 (by decide) (by decide)) (by decide) (fun h15 => ?_) (fun h15 => ?_)
    · skip
      refine qr_iload_n 35 rfl rfl rfl ?_
      refine qr_retI rfl rfl (by decide) (by decide) ?_
      exact ⟨_, _, rfl, hI9, hF11, v13, rfl, hs14, (qst_of hI9 (by have hw : σ7 86 15 = (σ7 86 15) := rfl; omega) (hF11.2 94 (by decide)) (hF11.2 95 (by decide)) (hF11.1 86 11 (by decide)) (hF11.1 86 6 (by decide)) (by omega) (by omega) (by rw [← hv13]; omega))⟩
    · skip
      refine qr_bipush 31 rfl (by decide) rfl ?_
      refine qr_goto 35 rfl rfl ?_
      refine qr_retI rfl rfl (by decide) (by decide) ?_
      exact ⟨_, _, rfl, hI9, hF11, 99, rfl, (by decide), (qst_of hI9 (by have hw : σ7 86 15 = (σ7 86 15) := rfl; omega) (hF11.2 94 (by decide)) (hF11.2 95 (by decide)) (hF11.1 86 11 (by decide)) (hF11.1 86 6 (by decide)) (by omega) (by omega) (by rw [← hv13]; omega))⟩

set_option maxHeartbeats 4000000 in
set_option maxRecDepth 20000 in
/-- OneRoof.steps -/
theorem sf_59_16x {L : Nat} {xs : Nat → Int} {vb : Bool} {d : Nat} {σ α : Nat → Nat → Int} {κ : Nat → Option Nat} {ρ : Nat} {x1 : Int} {x2 : Int} (hI : qI σ α κ ρ) (r1 : (-2147483648) ≤ x1 ∧ x1 ≤ 2147483647) (r2 : (-2147483648) ≤ x2 ∧ x2 ≤ 2147483647) : qm_T (qe L xs vb) (d + 2) 59 [.ref 16, .int (qz x1), .int (qz x2)] (qw σ α κ ρ) (fun r w' => w' = qw σ α κ ρ ∧ ∃ v : Int, r = some (.int (qz v)) ∧ ((-2147483648) ≤ v ∧ v ≤ 2147483647) ∧ ((v = -1 ∧ ¬ (0 ≤ x1 ∧ x1 < σ 17 6 ∧ 0 ≤ x2 ∧ x2 < σ 17 6)) ∨ ((0 ≤ x1 ∧ x1 < σ 17 6 ∧ 0 ≤ x2 ∧ x2 < σ 17 6) ∧ ((9 < α 24 (x1 * 32 + x2 : Int).toNat ∧ v = -2) ∨ (α 24 (x1 * 32 + x2 : Int).toNat ≤ 9 ∧ v = α 24 (x1 * 32 + x2 : Int).toNat))))) := by
  refine qr_start (d := d + 1) qv_e59 (Nat.le_of_ble_eq_true rfl) ?_
  show qr_W (qe L xs vb) (d + 1) qx_e59 _ (0, [(0, .ref 16), (1, .int (qz x1)), (2, .int (qz x2))], [], _, 0, 0)
  have hz17_6 : 0 ≤ σ 17 6 ∧ σ 17 6 ≤ 32 := hI.1 17 6
  refine qr_aload_n 1 rfl rfl rfl ?_
  refine qr_get 4 rfl rfl rfl (by decide) rfl ?_
  refine qr_iload_n 5 rfl rfl rfl ?_
  refine qr_callN 8 rfl rfl rfl (sf_40_17 (d := d + 0) hI r1) ?_
  have hs3 : 0 ≤ σ 17 6 ∧ σ 17 6 ≤ 32 := hI.1 17 6
  rintro _ _ ⟨rfl, v1, rfl, hv1, hp2⟩
  show qr_W (qe L xs vb) (d + 1) qx_e59 _ (8, _, [.int (qz v1)], qw σ α κ ρ, 0, 0)
  refine qr_if_eq 22 11 rfl rfl rfl (qrg hv1 (by decide) (by decide)) (fun h4 => ?_) (fun h4 => ?_)
  · skip
    refine qr_iconst 23 rfl rfl ?_
    refine qr_retI rfl rfl (by decide) (by decide) ?_
    exact ⟨rfl, (-1), rfl, (by decide), by omega⟩
  · skip
    refine qr_aload_n 12 rfl rfl rfl ?_
    refine qr_get 15 rfl rfl rfl (by decide) rfl ?_
    refine qr_iload_n 16 rfl rfl rfl ?_
    refine qr_callN 19 rfl rfl rfl (sf_40_17 (d := d + 0) hI r2) ?_
    have hs7 : 0 ≤ σ 17 6 ∧ σ 17 6 ≤ 32 := hI.1 17 6
    rintro _ _ ⟨rfl, v5, rfl, hv5, hp6⟩
    show qr_W (qe L xs vb) (d + 1) qx_e59 _ (19, _, [.int (qz v5)], qw σ α κ ρ, 0, 0)
    refine qr_if_ne 24 22 rfl rfl rfl (qrg hv5 (by decide) (by decide)) (fun h8 => ?_) (fun h8 => ?_)
    · skip
      refine qr_aload_n 25 rfl rfl rfl ?_
      refine qr_get 28 rfl rfl rfl (by decide) rfl ?_
      refine qr_iload_n 29 rfl rfl rfl ?_
      refine qr_iload_n 30 rfl rfl rfl ?_
      refine qr_callN 33 rfl rfl rfl (sf_57_23x (d := d + 0) hI (by omega) (by omega)) ?_
      rintro _ _ ⟨rfl, v9, rfl, hv9, hp10⟩
      show qr_W (qe L xs vb) (d + 1) qx_e59 _ (33, _, [.int (qz v9)], qw σ α κ ρ, 0, 0)
      refine qr_istore_n _ 34 rfl (by decide) rfl rfl ?_
      refine qr_iload_n 35 rfl rfl rfl ?_
      refine qr_bipush 37 rfl (by decide) rfl ?_
      refine qr_icmp_le 45 40 rfl rfl rfl (qrg hv9 (by decide) (by decide)) (by decide) (fun h11 => ?_) (fun h11 => ?_)
      · skip
        refine qr_iload_n 46 rfl rfl rfl ?_
        refine qr_retI rfl rfl (by decide) (by decide) ?_
        exact ⟨rfl, v9, rfl, (qrg hv9 (by decide) (by decide)), by omega⟩
      · skip
        refine qr_bipush 42 rfl (by decide) rfl ?_
        refine qr_goto 46 rfl rfl ?_
        refine qr_retI rfl rfl (by decide) (by decide) ?_
        exact ⟨rfl, (-2), rfl, (by decide), by omega⟩
    · skip
      refine qr_iconst 23 rfl rfl ?_
      refine qr_retI rfl rfl (by decide) (by decide) ?_
      exact ⟨rfl, (-1), rfl, (by decide), by omega⟩

set_option maxHeartbeats 4000000 in
set_option maxRecDepth 20000 in
/-- OneRoofModel.steps -/
theorem sf_186_86x {L : Nat} {xs : Nat → Int} {vb : Bool} {d : Nat} {σ α : Nat → Nat → Int} {κ : Nat → Option Nat} {ρ : Nat} {x1 : Int} {x2 : Int} (hI : qI σ α κ ρ) (r1 : (-2147483648) ≤ x1 ∧ x1 ≤ 2147483647) (r2 : (-2147483648) ≤ x2 ∧ x2 ≤ 2147483647) : qm_T (qe L xs vb) (d + 4) 186 [.ref 86, .int (qz x1), .int (qz x2)] (qw σ α κ ρ) (fun r w' => ∃ σ' α', w' = qw σ' α' κ ρ ∧ qI σ' α' κ ρ ∧ qFr [(86, 15)] [96] σ α σ' α' ∧ ∃ v : Int, r = some (.int (qz v)) ∧ ((-2147483648) ≤ v ∧ v ≤ 2147483647) ∧ ((v = -1 ∧ ¬ (0 ≤ x1 ∧ x1 < σ 86 6 ∧ 0 ≤ x2 ∧ x2 < σ 86 6)) ∨ ((0 ≤ x1 ∧ x1 < σ 86 6 ∧ 0 ≤ x2 ∧ x2 < σ 86 6) ∧ ((qd9 (α 94) (α 95) (σ 86 11) x1 x2 = 99 ∧ v = -2) ∨ (qd9 (α 94) (α 95) (σ 86 11) x1 x2 ≤ 9 ∧ v = qd9 (α 94) (α 95) (σ 86 11) x1 x2))))) := by
  refine qr_start (d := d + 3) qv_e186 (Nat.le_of_ble_eq_true rfl) ?_
  show qr_W (qe L xs vb) (d + 3) qx_e186 _ (0, [(0, .ref 86), (1, .int (qz x1)), (2, .int (qz x2))], [], _, 0, 0)
  have hF0 := qFr_rf [(86, 15)] [96] σ α
  have hz86_6 : 0 ≤ σ 86 6 ∧ σ 86 6 ≤ 32 := hI.1 86 6
  have hz86_11 : 0 ≤ σ 86 11 ∧ σ 86 11 ≤ 61 := hI.1 86 11
  refine qr_aload_n 1 rfl rfl rfl ?_
  refine qr_iload_n 2 rfl rfl rfl ?_
  refine qr_callN 5 rfl rfl rfl (sf_180_86 (d := d + 1) hI r1) ?_
  have hs3 : 0 ≤ σ 86 6 ∧ σ 86 6 ≤ 32 := hI.1 86 6
  rintro _ _ ⟨rfl, v1, rfl, hv1, hp2⟩
  show qr_W (qe L xs vb) (d + 3) qx_e186 _ (5, _, [.int (qz v1)], qw σ α κ ρ, 0, 0)
  refine qr_if_eq 16 8 rfl rfl rfl (qrg hv1 (by decide) (by decide)) (fun h4 => ?_) (fun h4 => ?_)
  · skip
    refine qr_iconst 17 rfl rfl ?_
    refine qr_retI rfl rfl (by decide) (by decide) ?_
    exact ⟨_, _, rfl, hI, hF0, (-1), rfl, (by decide), (by omega)⟩
  · skip
    refine qr_aload_n 9 rfl rfl rfl ?_
    refine qr_iload_n 10 rfl rfl rfl ?_
    refine qr_callN 13 rfl rfl rfl (sf_180_86 (d := d + 1) hI r2) ?_
    have hs7 : 0 ≤ σ 86 6 ∧ σ 86 6 ≤ 32 := hI.1 86 6
    rintro _ _ ⟨rfl, v5, rfl, hv5, hp6⟩
    show qr_W (qe L xs vb) (d + 3) qx_e186 _ (13, _, [.int (qz v5)], qw σ α κ ρ, 0, 0)
    refine qr_if_ne 18 16 rfl rfl rfl (qrg hv5 (by decide) (by decide)) (fun h8 => ?_) (fun h8 => ?_)
    · skip
      refine qr_aload_n 19 rfl rfl rfl ?_
      refine qr_iload_n 20 rfl rfl rfl ?_
      refine qr_iload_n 21 rfl rfl rfl ?_
      have hs9 : 0 ≤ σ 86 6 ∧ σ 86 6 ≤ 32 := hI.1 86 6
      refine qr_callN 24 rfl rfl rfl (sf_187_86x (d := d + 0) hI (by omega) (by omega) (by omega)) ?_
      rintro _ _ ⟨σ12, α13, rfl, hI14, hG15, v10, rfl, hv10, hx11⟩
      have hF16 : qFr [(86, 15)] [96] σ α σ12 α13 := qFr_t hF0 hG15 (by decide) (by decide)
      show qr_W (qe L xs vb) (d + 3) qx_e186 _ (24, _, [.int (qz v10)], qw σ12 α13 κ ρ, 0, 0)
      refine qr_istore_n _ 25 rfl (by decide) rfl rfl ?_
      refine qr_iload_n 26 rfl rfl rfl ?_
      refine qr_bipush 28 rfl (by decide) rfl ?_
      refine qr_icmp_ne 36 31 rfl rfl rfl (qrg hv10 (by decide) (by decide)) (by decide) (fun h17 => ?_) (fun h17 => ?_)
      · skip
        refine qr_iload_n 37 rfl rfl rfl ?_
        refine qr_retI rfl rfl (by decide) (by decide) ?_
        exact ⟨_, _, rfl, hI14, hF16, v10, rfl, (qrg hv10 (by decide) (by decide)), (by have hq := hx11; have hr := qd9_r (α 94) (α 95) (σ 86 11) x1 x2; omega)⟩
      · skip
        refine qr_bipush 33 rfl (by decide) rfl ?_
        refine qr_goto 37 rfl rfl ?_
        refine qr_retI rfl rfl (by decide) (by decide) ?_
        exact ⟨_, _, rfl, hI14, hF16, (-2), rfl, (by decide), (by have hq := hx11; have hr := qd9_r (α 94) (α 95) (σ 86 11) x1 x2; omega)⟩
    · skip
      refine qr_iconst 17 rfl rfl ?_
      refine qr_retI rfl rfl (by decide) (by decide) ?_
      exact ⟨_, _, rfl, hI, hF0, (-1), rfl, (by decide), (by omega)⟩
end
section
theorem qcl_v {a b c d t e v : Int} (h : (a ≤ t ∧ b ≤ t ∧ e = a + b) ∨ (¬ (a ≤ t ∧ b ≤ t) ∧ e = 9)) (g : (c ≤ t ∧ d ≤ t ∧ c + d < e ∧ v = c + d) ∨ (¬ (c ≤ t ∧ d ≤ t ∧ c + d < e) ∧ v = e)) : v = qcl a b c d t := by
  have he : (if a ≤ t ∧ b ≤ t then a + b else 9) = e := by
    rcases h with ⟨h1, h2, h3⟩ | ⟨h1, h2⟩
    · rw [if_pos ⟨h1, h2⟩, h3]
    · rw [if_neg h1, h2]
  unfold qcl
  rw [he]
  rcases g with ⟨g1, g2, g3, g4⟩ | ⟨g1, g2⟩
  · rw [if_pos ⟨g1, g2, g3⟩, g4]
  · rw [if_neg g1, g2]
theorem qcl_m {A B C D t a b : Int} (ha : ((A ≤ t ∧ B ≤ t) ∧ a = A + B) ∨ (¬ (A ≤ t ∧ B ≤ t) ∧ a = 99)) (hb : ((C ≤ t ∧ D ≤ t) ∧ b = C + D) ∨ (¬ (C ≤ t ∧ D ≤ t) ∧ b = 99)) (hA : 0 ≤ A) (hB : 0 ≤ B) (hC : 0 ≤ C) (hD : 0 ≤ D) (ht : t ≤ 3) : (0 ≤ a ∧ a ≤ 6 ∧ a ≤ b ∧ qcl A B C D t = a) ∨ (0 ≤ b ∧ b ≤ 6 ∧ b < a ∧ qcl A B C D t = b) ∨ (a = 99 ∧ b = 99 ∧ qcl A B C D t = 9) := by
  rcases ha with ⟨a1, a2⟩ | ⟨a1, a2⟩
  · rcases hb with ⟨b1, b2⟩ | ⟨b1, b2⟩
    · by_cases e : C + D < A + B
      · exact Or.inr (Or.inl ⟨by omega, by omega, by omega, (qcl_v (e := A + B) (Or.inl ⟨a1.1, a1.2, rfl⟩) (Or.inl ⟨b1.1, b1.2, e, b2⟩)).symm⟩)
      · exact Or.inl ⟨by omega, by omega, by omega, (qcl_v (e := A + B) (Or.inl ⟨a1.1, a1.2, rfl⟩) (Or.inr ⟨fun z => e z.2.2, a2⟩)).symm⟩
    · exact Or.inl ⟨by omega, by omega, by omega, (qcl_v (e := A + B) (Or.inl ⟨a1.1, a1.2, rfl⟩) (Or.inr ⟨fun z => b1 ⟨z.1, z.2.1⟩, a2⟩)).symm⟩
  · rcases hb with ⟨b1, b2⟩ | ⟨b1, b2⟩
    · exact Or.inr (Or.inl ⟨by omega, by omega, by omega, (qcl_v (e := 9) (Or.inr ⟨a1, rfl⟩) (Or.inl ⟨b1.1, b1.2, by omega, b2⟩)).symm⟩)
    · exact Or.inr (Or.inr ⟨a2, b2, (qcl_v (e := 9) (Or.inr ⟨a1, rfl⟩) (Or.inr ⟨fun z => b1 ⟨z.1, z.2.1⟩, rfl⟩)).symm⟩)
/-! near: the reference's people of feuds are people -/
def qZf (σ α : Nat → Nat → Int) : Prop := ∀ f : Nat, (f : Int) < σ 86 16 → (0 ≤ α 97 f ∧ α 97 f < σ 86 6) ∧ (0 ≤ α 98 f ∧ α 98 f < σ 86 6) ∧ (0 ≤ α 100 f ∧ α 100 f ≤ 3)
theorem qZf_fr {S : List (Nat × Nat)} {R : List Nat} {σ α σ' α' : Nat → Nat → Int} (hG : qFr S R σ α σ' α') (hs : [(86, 16), (86, 6)].all (fun x => !S.contains x) = true) (hr : [97, 98, 100].all (fun x => !R.contains x) = true) (h : qZf σ α) : qZf σ' α' := by
  have es : ∀ a k, (a, k) ∈ [(86, 16), (86, 6)] → σ' a k = σ a k := fun a k hm => hG.1 a k (fun hn => by
    have h1 := List.all_eq_true.mp hs (a, k) hm
    rw [List.contains_iff_mem.mpr hn] at h1
    exact absurd h1 (by decide))
  have er : ∀ a, a ∈ [97, 98, 100] → α' a = α a := fun a hm => hG.2 a (fun hn => by
    have h1 := List.all_eq_true.mp hr a hm
    rw [List.contains_iff_mem.mpr hn] at h1
    exact absurd h1 (by decide))
  unfold qZf
  rw [es 86 16 (by decide), es 86 6 (by decide), er 97 (by decide), er 98 (by decide), er 100 (by decide)]
  exact h

set_option maxHeartbeats 4000000 in
set_option maxRecDepth 20000 in
/-- OneRoof$Feuds.isAlight -/
theorem sf_67_27x {L : Nat} {xs : Nat → Int} {vb : Bool} {d : Nat} {σ α : Nat → Nat → Int} {κ : Nat → Option Nat} {ρ : Nat} {x1 : Int} {x2 : Int} (hI : qI σ α κ ρ) (r1 : 0 ≤ x1 ∧ x1 ≤ 39) (r2 : (-2147483648) ≤ x2 ∧ x2 ≤ 2147483647) : qm_T (qe L xs vb) (d + 1) 67 [.ref 27, .int (qz x1), .int (qz x2)] (qw σ α κ ρ) (fun r w' => w' = qw σ α κ ρ ∧ ∃ v : Int, r = some (.int (qz v)) ∧ (0 ≤ v ∧ v ≤ 1) ∧ v = qop (α 30 (x1 : Int).toNat) (α 33 (x1 : Int).toNat) (qbit (σ 27 6) x1) x2) := by
  refine qr_start (d := d + 0) qv_e67 (Nat.le_of_ble_eq_true rfl) ?_
  show qr_W (qe L xs vb) (d + 0) qx_e67 _ (0, [(0, .ref 27), (1, .int (qz x1)), (2, .int (qz x2))], [], _, 0, 0)
  have hz27_6 : (-9223372036854775808) ≤ σ 27 6 ∧ σ 27 6 ≤ 9223372036854775807 := hI.1 27 6
  refine qr_aload_n 1 rfl rfl rfl ?_
  refine qr_get 4 rfl rfl rfl (by decide) rfl ?_
  refine qr_iload_n 5 rfl rfl rfl ?_
  refine qr_iaload 6 rfl rfl (qrgi r1 (by decide) (by decide)) (by decide) rfl ?_
  refine qr_topI (fun v1 hv1 => ?_)
  have hs2 : (-2147483648) ≤ v1 ∧ v1 ≤ 2147483647 := by rw [hv1]; exact hI.2.1 30 _ (show _ < 40 from qrgt r1 (by decide) (by decide))
  refine qr_iload_n 7 rfl rfl rfl ?_
  refine qr_icmp_gt 49 10 rfl rfl rfl hs2 r2 (fun h3 => ?_) (fun h3 => ?_)
  · skip
    refine qr_iconst 50 rfl rfl ?_
    refine qr_retZ rfl rfl (Or.inl rfl) (by decide) (by decide) ?_
    exact ⟨rfl, 0, rfl, (by decide), (by have hq0 := qop_c (α 30 (x1 : Int).toNat) (α 33 (x1 : Int).toNat) (qbit (σ 27 6) x1) x2; omega)⟩
  · skip
    refine qr_aload_n 11 rfl rfl rfl ?_
    refine qr_get 14 rfl rfl rfl (by decide) rfl ?_
    refine qr_iload_n 15 rfl rfl rfl ?_
    refine qr_iaload 16 rfl rfl (qrgi r1 (by decide) (by decide)) (by decide) rfl ?_
    refine qr_topI (fun v4 hv4 => ?_)
    have hs5 : (-2147483648) ≤ v4 ∧ v4 ≤ 2147483647 := by rw [hv4]; exact hI.2.1 33 _ (show _ < 40 from qrgt r1 (by decide) (by decide))
    refine qr_sipush 19 rfl (by decide) rfl ?_
    refine qr_icmp_eq 32 22 rfl rfl rfl hs5 (by decide) (fun h6 => ?_) (fun h6 => ?_)
    · skip
      refine qr_aload_n 33 rfl rfl rfl ?_
      refine qr_get 36 rfl rfl rfl (by decide) rfl ?_
      refine qr_iload_n 37 rfl rfl rfl ?_
      refine qr_lushr 38 rfl rfl ?_
      refine qy_canlE (fun v7 hv7 hev7 => ?_)
      refine qr_lconst 39 rfl rfl ?_
      refine qy_vl 1 rfl ?_
      refine qr_land 40 rfl rfl ?_
      refine qy_canlE (fun v8 hv8 hev8 => ?_)
      refine qr_lconst 41 rfl rfl ?_
      refine qy_vl 0 rfl ?_
      refine qr_lc_ne 49 45 rfl rfl rfl rfl hv8 (by decide) (fun h9 => ?_) (fun h9 => ?_)
      · skip
        refine qr_iconst 50 rfl rfl ?_
        refine qr_retZ rfl rfl (Or.inl rfl) (by decide) (by decide) ?_
        exact ⟨rfl, 0, rfl, (by decide), (by have hq0 := qbit_in (t := (σ 27 6)) (i := x1) (by omega) (by omega) hev7 hev8; have hq1 := qop_c (α 30 (x1 : Int).toNat) (α 33 (x1 : Int).toNat) (qbit (σ 27 6) x1) x2; omega)⟩
      · skip
        refine qr_iconst 46 rfl rfl ?_
        refine qr_goto 50 rfl rfl ?_
        refine qr_retZ rfl rfl (Or.inr rfl) (by decide) (by decide) ?_
        exact ⟨rfl, 1, rfl, (by decide), (by have hq0 := qbit_in (t := (σ 27 6)) (i := x1) (by omega) (by omega) hev7 hev8; have hq1 := qop_c (α 30 (x1 : Int).toNat) (α 33 (x1 : Int).toNat) (qbit (σ 27 6) x1) x2; omega)⟩
    · skip
      refine qr_iload_n 23 rfl rfl rfl ?_
      refine qr_aload_n 24 rfl rfl rfl ?_
      refine qr_get 27 rfl rfl rfl (by decide) rfl ?_
      refine qr_iload_n 28 rfl rfl rfl ?_
      refine qr_iaload 29 rfl rfl (qrgi r1 (by decide) (by decide)) (by decide) rfl ?_
      refine qr_topI (fun v10 hv10 => ?_)
      have hs11 : (-2147483648) ≤ v10 ∧ v10 ≤ 2147483647 := by rw [hv10]; exact hI.2.1 33 _ (show _ < 40 from qrgt r1 (by decide) (by decide))
      refine qr_icmp_ge 49 32 rfl rfl rfl r2 hs11 (fun h12 => ?_) (fun h12 => ?_)
      · skip
        refine qr_iconst 50 rfl rfl ?_
        refine qr_retZ rfl rfl (Or.inl rfl) (by decide) (by decide) ?_
        exact ⟨rfl, 0, rfl, (by decide), (by have hq0 := qop_c (α 30 (x1 : Int).toNat) (α 33 (x1 : Int).toNat) (qbit (σ 27 6) x1) x2; omega)⟩
      · skip
        refine qr_aload_n 33 rfl rfl rfl ?_
        refine qr_get 36 rfl rfl rfl (by decide) rfl ?_
        refine qr_iload_n 37 rfl rfl rfl ?_
        refine qr_lushr 38 rfl rfl ?_
        refine qy_canlE (fun v13 hv13 hev13 => ?_)
        refine qr_lconst 39 rfl rfl ?_
        refine qy_vl 1 rfl ?_
        refine qr_land 40 rfl rfl ?_
        refine qy_canlE (fun v14 hv14 hev14 => ?_)
        refine qr_lconst 41 rfl rfl ?_
        refine qy_vl 0 rfl ?_
        refine qr_lc_ne 49 45 rfl rfl rfl rfl hv14 (by decide) (fun h15 => ?_) (fun h15 => ?_)
        · skip
          refine qr_iconst 50 rfl rfl ?_
          refine qr_retZ rfl rfl (Or.inl rfl) (by decide) (by decide) ?_
          exact ⟨rfl, 0, rfl, (by decide), (by have hq0 := qbit_in (t := (σ 27 6)) (i := x1) (by omega) (by omega) hev13 hev14; have hq1 := qop_c (α 30 (x1 : Int).toNat) (α 33 (x1 : Int).toNat) (qbit (σ 27 6) x1) x2; omega)⟩
        · skip
          refine qr_iconst 46 rfl rfl ?_
          refine qr_goto 50 rfl rfl ?_
          refine qr_retZ rfl rfl (Or.inr rfl) (by decide) (by decide) ?_
          exact ⟨rfl, 1, rfl, (by decide), (by have hq0 := qbit_in (t := (σ 27 6)) (i := x1) (by omega) (by omega) hev13 hev14; have hq1 := qop_c (α 30 (x1 : Int).toNat) (α 33 (x1 : Int).toNat) (qbit (σ 27 6) x1) x2; omega)⟩

set_option maxHeartbeats 4000000 in
set_option maxRecDepth 20000 in
/-- OneRoof$Feuds.closeness -/
theorem sf_68_27_23x {L : Nat} {xs : Nat → Int} {vb : Bool} {d : Nat} {σ α : Nat → Nat → Int} {κ : Nat → Option Nat} {ρ : Nat} {x1 : Int} {x2 : Int} {x3 : Int} (hI : qI σ α κ ρ) (r1 : 0 ≤ x1 ∧ x1 ≤ 39) (r2 : 0 ≤ x2 ∧ x2 ≤ 31) (r3 : 0 ≤ x3 ∧ x3 ≤ 31) : qm_T (qe L xs vb) (d + 1) 68 [.ref 27, .int (qz x1), .int (qz x2), .int (qz x3), .ref 23] (qw σ α κ ρ) (fun r w' => w' = qw σ α κ ρ ∧ ∃ v : Int, r = some (.int (qz v)) ∧ (0 ≤ v ∧ v ≤ 9) ∧ v = qcl (qTb (α 24) x2 (α 28 (x1 : Int).toNat)) (qTb (α 24) x3 (α 29 (x1 : Int).toNat)) (qTb (α 24) x3 (α 28 (x1 : Int).toNat)) (qTb (α 24) x2 (α 29 (x1 : Int).toNat)) (α 31 (x1 : Int).toNat)) := by
  refine qr_start (d := d + 0) qv_e68 (Nat.le_of_ble_eq_true rfl) ?_
  show qr_W (qe L xs vb) (d + 0) qx_e68 _ (0, [(0, .ref 27), (1, .int (qz x1)), (2, .int (qz x2)), (3, .int (qz x3)), (4, .ref 23)], [], _, 0, 0)
  refine qr_aload 2 rfl rfl rfl ?_
  refine qr_get 5 rfl rfl rfl (by decide) rfl ?_
  refine qr_astore _ 7 rfl (by decide) rfl rfl ?_
  refine qr_aload_n 8 rfl rfl rfl ?_
  refine qr_get 11 rfl rfl rfl (by decide) rfl ?_
  refine qr_iload_n 12 rfl rfl rfl ?_
  refine qr_iaload 13 rfl rfl (qrgi r1 (by decide) (by decide)) (by decide) rfl ?_
  refine qr_topI (fun v1 hv1 => ?_)
  have hs2 : 0 ≤ v1 ∧ v1 ≤ 3 := by rw [hv1]; exact hI.2.1 31 _ (show _ < 40 from qrgt r1 (by decide) (by decide))
  refine qr_istore _ 15 rfl (by decide) rfl rfl ?_
  refine qr_bipush 17 rfl (by decide) rfl ?_
  refine qr_istore _ 19 rfl (by decide) rfl rfl ?_
  refine qr_aload 21 rfl rfl rfl ?_
  refine qr_iload_n 22 rfl rfl rfl ?_
  refine qr_bipush 24 rfl (by decide) rfl ?_
  refine qr_imul 25 rfl rfl ?_
  refine qr_aload_n 26 rfl rfl rfl ?_
  refine qr_get 29 rfl rfl rfl (by decide) rfl ?_
  refine qr_iload_n 30 rfl rfl rfl ?_
  refine qr_iaload 31 rfl rfl (qrgi r1 (by decide) (by decide)) (by decide) rfl ?_
  refine qr_topI (fun v3 hv3 => ?_)
  have hs4 : 0 ≤ v3 ∧ v3 ≤ 31 := by rw [hv3]; exact hI.2.1 28 _ (show _ < 40 from qrgt r1 (by decide) (by decide))
  refine qr_iadd 32 rfl rfl ?_
  refine qr_iaload 33 rfl rfl (by omega) (by decide) rfl ?_
  refine qr_topI (fun v5 hv5 => ?_)
  have hs6 : 0 ≤ v5 ∧ v5 ≤ 99 := by rw [hv5]; exact hI.2.1 24 _ (show _ < 1024 by omega)
  refine qr_istore _ 35 rfl (by decide) rfl rfl ?_
  refine qr_aload 37 rfl rfl rfl ?_
  refine qr_iload_n 38 rfl rfl rfl ?_
  refine qr_bipush 40 rfl (by decide) rfl ?_
  refine qr_imul 41 rfl rfl ?_
  refine qr_aload_n 42 rfl rfl rfl ?_
  refine qr_get 45 rfl rfl rfl (by decide) rfl ?_
  refine qr_iload_n 46 rfl rfl rfl ?_
  refine qr_iaload 47 rfl rfl (qrgi r1 (by decide) (by decide)) (by decide) rfl ?_
  refine qr_topI (fun v7 hv7 => ?_)
  have hs8 : 0 ≤ v7 ∧ v7 ≤ 31 := by rw [hv7]; exact hI.2.1 29 _ (show _ < 40 from qrgt r1 (by decide) (by decide))
  refine qr_iadd 48 rfl rfl ?_
  refine qr_iaload 49 rfl rfl (by omega) (by decide) rfl ?_
  refine qr_topI (fun v9 hv9 => ?_)
  have hs10 : 0 ≤ v9 ∧ v9 ≤ 99 := by rw [hv9]; exact hI.2.1 24 _ (show _ < 1024 by omega)
  refine qr_istore _ 51 rfl (by decide) rfl rfl ?_
  refine qr_iload 53 rfl rfl rfl ?_
  refine qr_iload 55 rfl rfl rfl ?_
  refine qr_icmp_gt 72 58 rfl rfl rfl (qrg hs6 (by decide) (by decide)) (qrg hs2 (by decide) (by decide)) (fun h11 => ?_) (fun h11 => ?_)
  · skip
    refine qr_aload 74 rfl rfl rfl ?_
    refine qr_iload_n 75 rfl rfl rfl ?_
    refine qr_bipush 77 rfl (by decide) rfl ?_
    refine qr_imul 78 rfl rfl ?_
    refine qr_aload_n 79 rfl rfl rfl ?_
    refine qr_get 82 rfl rfl rfl (by decide) rfl ?_
    refine qr_iload_n 83 rfl rfl rfl ?_
    refine qr_iaload 84 rfl rfl (qrgi r1 (by decide) (by decide)) (by decide) rfl ?_
    refine qr_topI (fun v12 hv12 => ?_)
    have hs13 : 0 ≤ v12 ∧ v12 ≤ 31 := by rw [hv12]; exact hI.2.1 28 _ (show _ < 40 from qrgt r1 (by decide) (by decide))
    refine qr_iadd 85 rfl rfl ?_
    refine qr_iaload 86 rfl rfl (by omega) (by decide) rfl ?_
    refine qr_topI (fun v14 hv14 => ?_)
    have hs15 : 0 ≤ v14 ∧ v14 ≤ 99 := by rw [hv14]; exact hI.2.1 24 _ (show _ < 1024 by omega)
    refine qr_istore _ 88 rfl (by decide) rfl rfl ?_
    refine qr_aload 90 rfl rfl rfl ?_
    refine qr_iload_n 91 rfl rfl rfl ?_
    refine qr_bipush 93 rfl (by decide) rfl ?_
    refine qr_imul 94 rfl rfl ?_
    as_aux_lemma =>
      refine qr_aload_n 95 rfl rfl rfl ?_
      refine qr_get 98 rfl rfl rfl (by decide) rfl ?_
      refine qr_iload_n 99 rfl rfl rfl ?_
      refine qr_iaload 100 rfl rfl (qrgi r1 (by decide) (by decide)) (by decide) rfl ?_
      refine qr_topI (fun v16 hv16 => ?_)
      have hs17 : 0 ≤ v16 ∧ v16 ≤ 31 := by rw [hv16]; exact hI.2.1 29 _ (show _ < 40 from qrgt r1 (by decide) (by decide))
      refine qr_iadd 101 rfl rfl ?_
      refine qr_iaload 102 rfl rfl (by omega) (by decide) rfl ?_
      refine qr_topI (fun v18 hv18 => ?_)
      have hs19 : 0 ≤ v18 ∧ v18 ≤ 99 := by rw [hv18]; exact hI.2.1 24 _ (show _ < 1024 by omega)
      refine qr_istore _ 104 rfl (by decide) rfl rfl ?_
      refine qr_iload 106 rfl rfl rfl ?_
      refine qr_iload 108 rfl rfl rfl ?_
      refine qr_icmp_gt 136 111 rfl rfl rfl (qrg hs15 (by decide) (by decide)) (qrg hs2 (by decide) (by decide)) (fun h20 => ?_) (fun h20 => ?_)
      · skip
        refine qr_iload 138 rfl rfl rfl ?_
        refine qr_retI rfl rfl (by decide) (by decide) ?_
        exact ⟨rfl, 9, rfl, (by decide), (by have hq0 := (show v5 = qTb (α 24) x2 (α 28 (x1 : Int).toNat) by rw [hv5, hv3]; rfl); have hq1 := (show v9 = qTb (α 24) x3 (α 29 (x1 : Int).toNat) by rw [hv9, hv7]; rfl); have hq2 := (show v14 = qTb (α 24) x3 (α 28 (x1 : Int).toNat) by rw [hv14, hv12]; rfl); have hq3 := (show v18 = qTb (α 24) x2 (α 29 (x1 : Int).toNat) by rw [hv18, hv16]; rfl); rw [← hq0, ← hq1, ← hq2, ← hq3]; exact qcl_v (e := 9) (by omega) (by omega))⟩
      · skip
        refine qr_iload 113 rfl rfl rfl ?_
        refine qr_iload 115 rfl rfl rfl ?_
        refine qr_icmp_gt 136 118 rfl rfl rfl (qrg hs19 (by decide) (by decide)) (qrg hs2 (by decide) (by decide)) (fun h21 => ?_) (fun h21 => ?_)
        · skip
          refine qr_iload 138 rfl rfl rfl ?_
          refine qr_retI rfl rfl (by decide) (by decide) ?_
          exact ⟨rfl, 9, rfl, (by decide), (by have hq0 := (show v5 = qTb (α 24) x2 (α 28 (x1 : Int).toNat) by rw [hv5, hv3]; rfl); have hq1 := (show v9 = qTb (α 24) x3 (α 29 (x1 : Int).toNat) by rw [hv9, hv7]; rfl); have hq2 := (show v14 = qTb (α 24) x3 (α 28 (x1 : Int).toNat) by rw [hv14, hv12]; rfl); have hq3 := (show v18 = qTb (α 24) x2 (α 29 (x1 : Int).toNat) by rw [hv18, hv16]; rfl); rw [← hq0, ← hq1, ← hq2, ← hq3]; exact qcl_v (e := 9) (by omega) (by omega))⟩
        · skip
          refine qr_iload 120 rfl rfl rfl ?_
          refine qr_iload 122 rfl rfl rfl ?_
          refine qr_iadd 123 rfl rfl ?_
          refine qr_iload 125 rfl rfl rfl ?_
          refine qr_icmp_ge 136 128 rfl rfl rfl (by omega) (by decide) (fun h => False.elim (by omega)) (fun h22 => ?_)
          refine qr_iload 130 rfl rfl rfl ?_
          refine qr_iload 132 rfl rfl rfl ?_
          refine qr_iadd 133 rfl rfl ?_
          refine qr_goto 138 rfl rfl ?_
          refine qr_retI rfl rfl (by decide) (by decide) ?_
          exact ⟨rfl, (v14 + v18), rfl, (by omega), (by have hq0 := (show v5 = qTb (α 24) x2 (α 28 (x1 : Int).toNat) by rw [hv5, hv3]; rfl); have hq1 := (show v9 = qTb (α 24) x3 (α 29 (x1 : Int).toNat) by rw [hv9, hv7]; rfl); have hq2 := (show v14 = qTb (α 24) x3 (α 28 (x1 : Int).toNat) by rw [hv14, hv12]; rfl); have hq3 := (show v18 = qTb (α 24) x2 (α 29 (x1 : Int).toNat) by rw [hv18, hv16]; rfl); rw [← hq0, ← hq1, ← hq2, ← hq3]; exact qcl_v (e := 9) (by omega) (by omega))⟩
  · skip
    refine qr_iload 60 rfl rfl rfl ?_
    refine qr_iload 62 rfl rfl rfl ?_
    refine qr_icmp_gt 72 65 rfl rfl rfl (qrg hs10 (by decide) (by decide)) (qrg hs2 (by decide) (by decide)) (fun h23 => ?_) (fun h23 => ?_)
    · skip
      refine qr_aload 74 rfl rfl rfl ?_
      refine qr_iload_n 75 rfl rfl rfl ?_
      refine qr_bipush 77 rfl (by decide) rfl ?_
      refine qr_imul 78 rfl rfl ?_
      refine qr_aload_n 79 rfl rfl rfl ?_
      refine qr_get 82 rfl rfl rfl (by decide) rfl ?_
      refine qr_iload_n 83 rfl rfl rfl ?_
      refine qr_iaload 84 rfl rfl (qrgi r1 (by decide) (by decide)) (by decide) rfl ?_
      refine qr_topI (fun v24 hv24 => ?_)
      have hs25 : 0 ≤ v24 ∧ v24 ≤ 31 := by rw [hv24]; exact hI.2.1 28 _ (show _ < 40 from qrgt r1 (by decide) (by decide))
      refine qr_iadd 85 rfl rfl ?_
      refine qr_iaload 86 rfl rfl (by omega) (by decide) rfl ?_
      refine qr_topI (fun v26 hv26 => ?_)
      have hs27 : 0 ≤ v26 ∧ v26 ≤ 99 := by rw [hv26]; exact hI.2.1 24 _ (show _ < 1024 by omega)
      refine qr_istore _ 88 rfl (by decide) rfl rfl ?_
      refine qr_aload 90 rfl rfl rfl ?_
      as_aux_lemma =>
        refine qr_iload_n 91 rfl rfl rfl ?_
        refine qr_bipush 93 rfl (by decide) rfl ?_
        refine qr_imul 94 rfl rfl ?_
        refine qr_aload_n 95 rfl rfl rfl ?_
        refine qr_get 98 rfl rfl rfl (by decide) rfl ?_
        refine qr_iload_n 99 rfl rfl rfl ?_
        refine qr_iaload 100 rfl rfl (qrgi r1 (by decide) (by decide)) (by decide) rfl ?_
        refine qr_topI (fun v28 hv28 => ?_)
        have hs29 : 0 ≤ v28 ∧ v28 ≤ 31 := by rw [hv28]; exact hI.2.1 29 _ (show _ < 40 from qrgt r1 (by decide) (by decide))
        refine qr_iadd 101 rfl rfl ?_
        refine qr_iaload 102 rfl rfl (by omega) (by decide) rfl ?_
        refine qr_topI (fun v30 hv30 => ?_)
        have hs31 : 0 ≤ v30 ∧ v30 ≤ 99 := by rw [hv30]; exact hI.2.1 24 _ (show _ < 1024 by omega)
        refine qr_istore _ 104 rfl (by decide) rfl rfl ?_
        refine qr_iload 106 rfl rfl rfl ?_
        refine qr_iload 108 rfl rfl rfl ?_
        refine qr_icmp_gt 136 111 rfl rfl rfl (qrg hs27 (by decide) (by decide)) (qrg hs2 (by decide) (by decide)) (fun h32 => ?_) (fun h32 => ?_)
        · skip
          refine qr_iload 138 rfl rfl rfl ?_
          refine qr_retI rfl rfl (by decide) (by decide) ?_
          exact ⟨rfl, 9, rfl, (by decide), (by have hq0 := (show v5 = qTb (α 24) x2 (α 28 (x1 : Int).toNat) by rw [hv5, hv3]; rfl); have hq1 := (show v9 = qTb (α 24) x3 (α 29 (x1 : Int).toNat) by rw [hv9, hv7]; rfl); have hq2 := (show v26 = qTb (α 24) x3 (α 28 (x1 : Int).toNat) by rw [hv26, hv24]; rfl); have hq3 := (show v30 = qTb (α 24) x2 (α 29 (x1 : Int).toNat) by rw [hv30, hv28]; rfl); rw [← hq0, ← hq1, ← hq2, ← hq3]; exact qcl_v (e := 9) (by omega) (by omega))⟩
        · skip
          refine qr_iload 113 rfl rfl rfl ?_
          refine qr_iload 115 rfl rfl rfl ?_
          refine qr_icmp_gt 136 118 rfl rfl rfl (qrg hs31 (by decide) (by decide)) (qrg hs2 (by decide) (by decide)) (fun h33 => ?_) (fun h33 => ?_)
          · skip
            refine qr_iload 138 rfl rfl rfl ?_
            refine qr_retI rfl rfl (by decide) (by decide) ?_
            exact ⟨rfl, 9, rfl, (by decide), (by have hq0 := (show v5 = qTb (α 24) x2 (α 28 (x1 : Int).toNat) by rw [hv5, hv3]; rfl); have hq1 := (show v9 = qTb (α 24) x3 (α 29 (x1 : Int).toNat) by rw [hv9, hv7]; rfl); have hq2 := (show v26 = qTb (α 24) x3 (α 28 (x1 : Int).toNat) by rw [hv26, hv24]; rfl); have hq3 := (show v30 = qTb (α 24) x2 (α 29 (x1 : Int).toNat) by rw [hv30, hv28]; rfl); rw [← hq0, ← hq1, ← hq2, ← hq3]; exact qcl_v (e := 9) (by omega) (by omega))⟩
          · skip
            refine qr_iload 120 rfl rfl rfl ?_
            refine qr_iload 122 rfl rfl rfl ?_
            refine qr_iadd 123 rfl rfl ?_
            refine qr_iload 125 rfl rfl rfl ?_
            refine qr_icmp_ge 136 128 rfl rfl rfl (by omega) (by decide) (fun h => False.elim (by omega)) (fun h34 => ?_)
            refine qr_iload 130 rfl rfl rfl ?_
            refine qr_iload 132 rfl rfl rfl ?_
            refine qr_iadd 133 rfl rfl ?_
            refine qr_goto 138 rfl rfl ?_
            refine qr_retI rfl rfl (by decide) (by decide) ?_
            exact ⟨rfl, (v26 + v30), rfl, (by omega), (by have hq0 := (show v5 = qTb (α 24) x2 (α 28 (x1 : Int).toNat) by rw [hv5, hv3]; rfl); have hq1 := (show v9 = qTb (α 24) x3 (α 29 (x1 : Int).toNat) by rw [hv9, hv7]; rfl); have hq2 := (show v26 = qTb (α 24) x3 (α 28 (x1 : Int).toNat) by rw [hv26, hv24]; rfl); have hq3 := (show v30 = qTb (α 24) x2 (α 29 (x1 : Int).toNat) by rw [hv30, hv28]; rfl); rw [← hq0, ← hq1, ← hq2, ← hq3]; exact qcl_v (e := 9) (by omega) (by omega))⟩
    · skip
      refine qr_iload 67 rfl rfl rfl ?_
      refine qr_iload 69 rfl rfl rfl ?_
      refine qr_iadd 70 rfl rfl ?_
      refine qr_istore _ 72 rfl (by decide) rfl rfl ?_
      refine qr_aload 74 rfl rfl rfl ?_
      refine qr_iload_n 75 rfl rfl rfl ?_
      refine qr_bipush 77 rfl (by decide) rfl ?_
      refine qr_imul 78 rfl rfl ?_
      refine qr_aload_n 79 rfl rfl rfl ?_
      refine qr_get 82 rfl rfl rfl (by decide) rfl ?_
      refine qr_iload_n 83 rfl rfl rfl ?_
      refine qr_iaload 84 rfl rfl (qrgi r1 (by decide) (by decide)) (by decide) rfl ?_
      refine qr_topI (fun v35 hv35 => ?_)
      have hs36 : 0 ≤ v35 ∧ v35 ≤ 31 := by rw [hv35]; exact hI.2.1 28 _ (show _ < 40 from qrgt r1 (by decide) (by decide))
      as_aux_lemma =>
        refine qr_iadd 85 rfl rfl ?_
        refine qr_iaload 86 rfl rfl (by omega) (by decide) rfl ?_
        refine qr_topI (fun v37 hv37 => ?_)
        have hs38 : 0 ≤ v37 ∧ v37 ≤ 99 := by rw [hv37]; exact hI.2.1 24 _ (show _ < 1024 by omega)
        refine qr_istore _ 88 rfl (by decide) rfl rfl ?_
        refine qr_aload 90 rfl rfl rfl ?_
        refine qr_iload_n 91 rfl rfl rfl ?_
        refine qr_bipush 93 rfl (by decide) rfl ?_
        refine qr_imul 94 rfl rfl ?_
        refine qr_aload_n 95 rfl rfl rfl ?_
        refine qr_get 98 rfl rfl rfl (by decide) rfl ?_
        refine qr_iload_n 99 rfl rfl rfl ?_
        refine qr_iaload 100 rfl rfl (qrgi r1 (by decide) (by decide)) (by decide) rfl ?_
        refine qr_topI (fun v39 hv39 => ?_)
        have hs40 : 0 ≤ v39 ∧ v39 ≤ 31 := by rw [hv39]; exact hI.2.1 29 _ (show _ < 40 from qrgt r1 (by decide) (by decide))
        refine qr_iadd 101 rfl rfl ?_
        refine qr_iaload 102 rfl rfl (by omega) (by decide) rfl ?_
        refine qr_topI (fun v41 hv41 => ?_)
        have hs42 : 0 ≤ v41 ∧ v41 ≤ 99 := by rw [hv41]; exact hI.2.1 24 _ (show _ < 1024 by omega)
        refine qr_istore _ 104 rfl (by decide) rfl rfl ?_
        refine qr_iload 106 rfl rfl rfl ?_
        refine qr_iload 108 rfl rfl rfl ?_
        refine qr_icmp_gt 136 111 rfl rfl rfl (qrg hs38 (by decide) (by decide)) (qrg hs2 (by decide) (by decide)) (fun h43 => ?_) (fun h43 => ?_)
        · skip
          refine qr_iload 138 rfl rfl rfl ?_
          refine qr_retI rfl rfl (by decide) (by decide) ?_
          exact ⟨rfl, (v5 + v9), rfl, (by omega), (by have hq0 := (show v5 = qTb (α 24) x2 (α 28 (x1 : Int).toNat) by rw [hv5, hv3]; rfl); have hq1 := (show v9 = qTb (α 24) x3 (α 29 (x1 : Int).toNat) by rw [hv9, hv7]; rfl); have hq2 := (show v37 = qTb (α 24) x3 (α 28 (x1 : Int).toNat) by rw [hv37, hv35]; rfl); have hq3 := (show v41 = qTb (α 24) x2 (α 29 (x1 : Int).toNat) by rw [hv41, hv39]; rfl); rw [← hq0, ← hq1, ← hq2, ← hq3]; exact qcl_v (e := (v5 + v9)) (by omega) (by omega))⟩
        · skip
          refine qr_iload 113 rfl rfl rfl ?_
          refine qr_iload 115 rfl rfl rfl ?_
          refine qr_icmp_gt 136 118 rfl rfl rfl (qrg hs42 (by decide) (by decide)) (qrg hs2 (by decide) (by decide)) (fun h44 => ?_) (fun h44 => ?_)
          · skip
            refine qr_iload 138 rfl rfl rfl ?_
            refine qr_retI rfl rfl (by decide) (by decide) ?_
            exact ⟨rfl, (v5 + v9), rfl, (by omega), (by have hq0 := (show v5 = qTb (α 24) x2 (α 28 (x1 : Int).toNat) by rw [hv5, hv3]; rfl); have hq1 := (show v9 = qTb (α 24) x3 (α 29 (x1 : Int).toNat) by rw [hv9, hv7]; rfl); have hq2 := (show v37 = qTb (α 24) x3 (α 28 (x1 : Int).toNat) by rw [hv37, hv35]; rfl); have hq3 := (show v41 = qTb (α 24) x2 (α 29 (x1 : Int).toNat) by rw [hv41, hv39]; rfl); rw [← hq0, ← hq1, ← hq2, ← hq3]; exact qcl_v (e := (v5 + v9)) (by omega) (by omega))⟩
          · skip
            refine qr_iload 120 rfl rfl rfl ?_
            refine qr_iload 122 rfl rfl rfl ?_
            refine qr_iadd 123 rfl rfl ?_
            refine qr_iload 125 rfl rfl rfl ?_
            refine qr_icmp_ge 136 128 rfl rfl rfl (by omega) (by omega) (fun h45 => ?_) (fun h45 => ?_)
            · skip
              refine qr_iload 138 rfl rfl rfl ?_
              refine qr_retI rfl rfl (by decide) (by decide) ?_
              exact ⟨rfl, (v5 + v9), rfl, (by omega), (by have hq0 := (show v5 = qTb (α 24) x2 (α 28 (x1 : Int).toNat) by rw [hv5, hv3]; rfl); have hq1 := (show v9 = qTb (α 24) x3 (α 29 (x1 : Int).toNat) by rw [hv9, hv7]; rfl); have hq2 := (show v37 = qTb (α 24) x3 (α 28 (x1 : Int).toNat) by rw [hv37, hv35]; rfl); have hq3 := (show v41 = qTb (α 24) x2 (α 29 (x1 : Int).toNat) by rw [hv41, hv39]; rfl); rw [← hq0, ← hq1, ← hq2, ← hq3]; exact qcl_v (e := (v5 + v9)) (by omega) (by omega))⟩
            · skip
              refine qr_iload 130 rfl rfl rfl ?_
              refine qr_iload 132 rfl rfl rfl ?_
              refine qr_iadd 133 rfl rfl ?_
              refine qr_goto 138 rfl rfl ?_
              refine qr_retI rfl rfl (by decide) (by decide) ?_
              exact ⟨rfl, (v37 + v41), rfl, (by omega), (by have hq0 := (show v5 = qTb (α 24) x2 (α 28 (x1 : Int).toNat) by rw [hv5, hv3]; rfl); have hq1 := (show v9 = qTb (α 24) x3 (α 29 (x1 : Int).toNat) by rw [hv9, hv7]; rfl); have hq2 := (show v37 = qTb (α 24) x3 (α 28 (x1 : Int).toNat) by rw [hv37, hv35]; rfl); have hq3 := (show v41 = qTb (α 24) x2 (α 29 (x1 : Int).toNat) by rw [hv41, hv39]; rfl); rw [← hq0, ← hq1, ← hq2, ← hq3]; exact qcl_v (e := (v5 + v9)) (by omega) (by omega))⟩

set_option maxHeartbeats 4000000 in
set_option maxRecDepth 20000 in
/-- OneRoof$Feuds.nearest -/
theorem sf_66_27_23x {L : Nat} {xs : Nat → Int} {vb : Bool} {d : Nat} {σ α : Nat → Nat → Int} {κ : Nat → Option Nat} {ρ : Nat} {x1 : Int} {x2 : Int} {x3 : Int} (hI : qI σ α κ ρ) (r1 : 0 ≤ x1 ∧ x1 ≤ 31) (r2 : 0 ≤ x2 ∧ x2 ≤ 31) (r3 : (-2147483648) ≤ x3 ∧ x3 ≤ 2147483647) : qm_T (qe L xs vb) (d + 2) 66 [.ref 27, .int (qz x1), .int (qz x2), .int (qz x3), .ref 23] (qw σ α κ ρ) (fun r w' => w' = qw σ α κ ρ ∧ ∃ v : Int, r = some (.int (qz v)) ∧ (0 ≤ v ∧ v ≤ 576) ∧ v = qnF (qTb (α 24)) (α 28) (α 29) (α 31) (α 30) (α 33) (σ 27 6) (σ 27 7) x1 x2 x3) := by
  refine qr_start (d := d + 1) qv_e66 (Nat.le_of_ble_eq_true rfl) ?_
  show qr_W (qe L xs vb) (d + 1) qx_e66 _ (0, [(0, .ref 27), (1, .int (qz x1)), (2, .int (qz x2)), (3, .int (qz x3)), (4, .ref 23)], [], _, 0, 0)
  have hz27_6 : (-9223372036854775808) ≤ σ 27 6 ∧ σ 27 6 ≤ 9223372036854775807 := hI.1 27 6
  have hz27_7 : 0 ≤ σ 27 7 ∧ σ 27 7 ≤ 40 := hI.1 27 7
  refine qr_sipush 3 rfl (by decide) rfl ?_
  refine qr_istore _ 5 rfl (by decide) rfl rfl ?_
  refine qr_iconst 6 rfl rfl ?_
  refine qr_istore _ 8 rfl (by decide) rfl rfl ?_
  have hL223 : ∀ (n : Nat) (ls : qm_L) (u216 u218 : Int), 40 - u218 < (n : Int) → qm_get ls 0 = some (.ref 27) → qm_get ls 1 = some (.int (qz x1)) → qm_get ls 2 = some (.int (qz x2)) → qm_get ls 3 = some (.int (qz x3)) → qm_get ls 4 = some (.ref 23) → qm_get ls 5 = some (.int (qz u216)) → qm_get ls 6 = some (.int (qz u218)) → (0 ≤ u216 ∧ u216 ≤ 576) → (0 ≤ u218 ∧ u218 ≤ 40) → u216 = qnk (qoF (α 30) (α 33) (σ 27 6) x3) (qcF (qTb (α 24)) (α 28) (α 29) (α 31) x1 x2) (u218 : Int).toNat → u218 ≤ σ 27 7 → qr_W (qe L xs vb) (d + 1) qx_e66 (fun r w' => w' = qw σ α κ ρ ∧ ∃ v : Int, r = some (.int (qz v)) ∧ (0 ≤ v ∧ v ≤ 576) ∧ v = qnF (qTb (α 24)) (α 28) (α 29) (α 31) (α 30) (α 33) (σ 27 6) (σ 27 7) x1 x2 x3) (8, ls, [], qw σ α κ ρ, 0, 0) := by
    intro n
    induction n with
    | zero => intro ls u216 u218 hm g210 g211 g212 g213 g214 g215 g217 hf219 hf220 hx221 hx222; exact False.elim (by omega)
    | succ n ih224 =>
      intro ls u216 u218 hm g210 g211 g212 g213 g214 g215 g217 hf219 hf220 hx221 hx222
      refine qr_iload 10 rfl g217 rfl ?_
      refine qr_aload_n 11 rfl g210 rfl ?_
      refine qr_get 14 rfl rfl rfl (by decide) rfl ?_
      refine qr_icmp_ge 56 17 rfl rfl rfl (qrg hf220 (by decide) (by decide)) (qrg hz27_7 (by decide) (by decide)) (fun h225 => ?_) (fun h225 => ?_)
      · skip
        refine qr_iload 58 rfl g215 rfl ?_
        refine qr_retI rfl rfl (by decide) (by decide) ?_
        exact ⟨rfl, u216, rfl, hf219, (by unfold qnF; rw [show (σ 27 7) = u218 by omega]; exact hx221)⟩
      · skip
        refine qr_aload_n 18 rfl g210 rfl ?_
        refine qr_iload 20 rfl g217 rfl ?_
        refine qr_iload_n 21 rfl g213 rfl ?_
        refine qr_callN 24 rfl rfl rfl (sf_67_27x (d := d + 0) hI (by omega) r3) ?_
        have hs228 : (-9223372036854775808) ≤ σ 27 6 ∧ σ 27 6 ≤ 9223372036854775807 := hI.1 27 6
        rintro _ _ ⟨rfl, v226, rfl, hv226, hp227⟩
        show qr_W (qe L xs vb) (d + 1) qx_e66 _ (24, _, [.int (qz v226)], qw σ α κ ρ, 0, 0)
        refine qr_if_eq 50 27 rfl rfl rfl (qrg hv226 (by decide) (by decide)) (fun h229 => ?_) (fun h229 => ?_)
        · skip
          refine qr_iinc _ 53 rfl g217 (by decide) rfl rfl ?_
          refine qr_goto 8 rfl rfl ?_
          exact ih224 _ u216 (u218 + 1) (by omega) (qm_gk g210 (by decide) (Or.inl (by decide))) (qm_gk g211 (by decide) (Or.inl (by decide))) (qm_gk g212 (by decide) (Or.inl (by decide))) (qm_gk g213 (by decide) (Or.inl (by decide))) (qm_gk g214 (by decide) (Or.inl (by decide))) (qm_gk g215 (by decide) (Or.inr rfl)) (qm_ge _ _ _) hf219 (by omega) (by have hq0 := qnk_s (qoF (α 30) (α 33) (σ 27 6) x3) (qcF (qTb (α 24)) (α 28) (α 29) (α 31) x1 x2) (i := u218) (by omega); have hq1 := qoF_a (α 30) (α 33) (σ 27 6) x3 (i := u218) (by omega); have hq2 := (show (qcF (qTb (α 24)) (α 28) (α 29) (α 31) x1 x2) ((u218 : Int).toNat) = qcl _ _ _ _ _ from rfl); omega) (by omega)
        · skip
          refine qr_iload 29 rfl g215 rfl ?_
          refine qr_aload_n 30 rfl g210 rfl ?_
          refine qr_iload 32 rfl g217 rfl ?_
          refine qr_iload_n 33 rfl g211 rfl ?_
          refine qr_iload_n 34 rfl g212 rfl ?_
          refine qr_aload 36 rfl g214 rfl ?_
          refine qr_callN 39 rfl rfl rfl (sf_68_27_23x (d := d + 0) hI (by omega) r1 r2) ?_
          rintro _ _ ⟨rfl, v230, rfl, hv230, hp231⟩
          show qr_W (qe L xs vb) (d + 1) qx_e66 _ (39, _, [.int (qz v230), .int (qz u216)], qw σ α κ ρ, 0, 0)
          refine qr_bipush 41 rfl (by decide) rfl ?_
          refine qr_imul 42 rfl rfl ?_
          refine qr_iload 44 rfl g217 rfl ?_
          refine qr_iadd 45 rfl rfl ?_
          refine qr_callN 48 rfl rfl rfl (sf_12 (d := d + 0) hI (qrg hf219 (by decide) (by decide)) (by omega)) ?_
          rintro _ _ ⟨rfl, v232, rfl, hv232, hp233⟩
          show qr_W (qe L xs vb) (d + 1) qx_e66 _ (48, _, [.int (qz v232)], qw σ α κ ρ, 0, 0)
          refine qr_istore _ 50 rfl (by decide) rfl rfl ?_
          refine qr_iinc _ 53 rfl (qm_gk g217 (by decide) (Or.inl (by decide))) (by decide) rfl rfl ?_
          refine qr_goto 8 rfl rfl ?_
          exact ih224 _ v232 (u218 + 1) (by omega) (qm_gk (qm_gk g210 (by decide) (Or.inl (by decide))) (by decide) (Or.inl (by decide))) (qm_gk (qm_gk g211 (by decide) (Or.inl (by decide))) (by decide) (Or.inl (by decide))) (qm_gk (qm_gk g212 (by decide) (Or.inl (by decide))) (by decide) (Or.inl (by decide))) (qm_gk (qm_gk g213 (by decide) (Or.inl (by decide))) (by decide) (Or.inl (by decide))) (qm_gk (qm_gk g214 (by decide) (Or.inr rfl)) (by decide) (Or.inl (by decide))) (qm_gk (qm_ge _ _ _) (by decide) (Or.inr rfl)) (qm_ge _ _ _) (by omega) (by omega) (by have hq0 := qnk_s (qoF (α 30) (α 33) (σ 27 6) x3) (qcF (qTb (α 24)) (α 28) (α 29) (α 31) x1 x2) (i := u218) (by omega); have hq1 := qoF_a (α 30) (α 33) (σ 27 6) x3 (i := u218) (by omega); have hq2 := (show (qcF (qTb (α 24)) (α 28) (α 29) (α 31) x1 x2) ((u218 : Int).toNat) = qcl _ _ _ _ _ from rfl); omega) (by omega)
  exact hL223 ((40 - 0 + 1 : Int)).toNat _ 576 0 (by omega) rfl rfl rfl rfl rfl rfl rfl (by decide) (by decide) rfl (by omega)

set_option maxHeartbeats 4000000 in
set_option maxRecDepth 20000 in
/-- OneRoofModel.isOpen -/
theorem sf_196_86x {L : Nat} {xs : Nat → Int} {vb : Bool} {d : Nat} {σ α : Nat → Nat → Int} {κ : Nat → Option Nat} {ρ : Nat} {x1 : Int} {x2 : Int} (hI : qI σ α κ ρ) (r1 : 0 ≤ x1 ∧ x1 ≤ 39) (r2 : (-2147483648) ≤ x2 ∧ x2 ≤ 2147483647) : qm_T (qe L xs vb) (d + 1) 196 [.ref 86, .int (qz x1), .int (qz x2)] (qw σ α κ ρ) (fun r w' => w' = qw σ α κ ρ ∧ ∃ v : Int, r = some (.int (qz v)) ∧ (0 ≤ v ∧ v ≤ 1) ∧ v = qop (α 99 (x1 : Int).toNat) (qsh (α 87) 32 (x1 : Int).toNat) (qbit (σ 86 22) x1) x2) := by
  refine qr_start (d := d + 0) qv_e196 (Nat.le_of_ble_eq_true rfl) ?_
  show qr_W (qe L xs vb) (d + 0) qx_e196 _ (0, [(0, .ref 86), (1, .int (qz x1)), (2, .int (qz x2))], [], _, 0, 0)
  have hz86_22 : (-9223372036854775808) ≤ σ 86 22 ∧ σ 86 22 ≤ 9223372036854775807 := hI.1 86 22
  refine qr_aload_n 1 rfl rfl rfl ?_
  refine qr_get 4 rfl rfl rfl (by decide) rfl ?_
  refine qr_iload_n 5 rfl rfl rfl ?_
  refine qr_iaload 6 rfl rfl (qrgi r1 (by decide) (by decide)) (by decide) rfl ?_
  refine qr_topI (fun v1 hv1 => ?_)
  have hs2 : (-2147483648) ≤ v1 ∧ v1 ≤ 2147483647 := by rw [hv1]; exact hI.2.1 99 _ (show _ < 40 from qrgt r1 (by decide) (by decide))
  refine qr_iload_n 7 rfl rfl rfl ?_
  refine qr_icmp_gt 55 10 rfl rfl rfl hs2 r2 (fun h3 => ?_) (fun h3 => ?_)
  · skip
    refine qr_iconst 56 rfl rfl ?_
    refine qr_retZ rfl rfl (Or.inl rfl) (by decide) (by decide) ?_
    exact ⟨rfl, 0, rfl, (by decide), (by have hq0 := (show qsh (α 87) 32 (x1 : Int).toNat = α 87 (32 + x1 : Int).toNat by unfold qsh; congr 1; omega); have hq1 := qop_c (α 99 (x1 : Int).toNat) (qsh (α 87) 32 (x1 : Int).toNat) (qbit (σ 86 22) x1) x2; omega)⟩
  · skip
    refine qr_aload_n 11 rfl rfl rfl ?_
    refine qr_get 14 rfl rfl rfl (by decide) rfl ?_
    refine qr_bipush 16 rfl (by decide) rfl ?_
    refine qr_iload_n 17 rfl rfl rfl ?_
    refine qr_iadd 18 rfl rfl ?_
    refine qr_iaload 19 rfl rfl (by omega) (by decide) rfl ?_
    refine qr_topI (fun v4 hv4 => ?_)
    have hs5 : (-2147483648) ≤ v4 ∧ v4 ≤ 2147483647 := by rw [hv4]; exact hI.2.1 87 _ (show _ < 252 by omega)
    refine qr_sipush 22 rfl (by decide) rfl ?_
    refine qr_icmp_eq 38 25 rfl rfl rfl hs5 (by decide) (fun h6 => ?_) (fun h6 => ?_)
    · skip
      refine qr_aload_n 39 rfl rfl rfl ?_
      refine qr_get 42 rfl rfl rfl (by decide) rfl ?_
      refine qr_iload_n 43 rfl rfl rfl ?_
      refine qr_lshr 44 rfl rfl ?_
      refine qy_canlE (fun v7 hv7 hev7 => ?_)
      refine qr_lconst 45 rfl rfl ?_
      refine qy_vl 1 rfl ?_
      refine qr_land 46 rfl rfl ?_
      refine qy_canlE (fun v8 hv8 hev8 => ?_)
      refine qr_lconst 47 rfl rfl ?_
      refine qy_vl 0 rfl ?_
      refine qr_lc_ne 55 51 rfl rfl rfl rfl hv8 (by decide) (fun h9 => ?_) (fun h9 => ?_)
      · skip
        refine qr_iconst 56 rfl rfl ?_
        refine qr_retZ rfl rfl (Or.inl rfl) (by decide) (by decide) ?_
        exact ⟨rfl, 0, rfl, (by decide), (by have hq0 := qbit_inS (t := (σ 86 22)) (i := x1) (by omega) (by omega) hev7 hev8; have hq1 := (show qsh (α 87) 32 (x1 : Int).toNat = α 87 (32 + x1 : Int).toNat by unfold qsh; congr 1; omega); have hq2 := qop_c (α 99 (x1 : Int).toNat) (qsh (α 87) 32 (x1 : Int).toNat) (qbit (σ 86 22) x1) x2; omega)⟩
      · skip
        refine qr_iconst 52 rfl rfl ?_
        refine qr_goto 56 rfl rfl ?_
        refine qr_retZ rfl rfl (Or.inr rfl) (by decide) (by decide) ?_
        exact ⟨rfl, 1, rfl, (by decide), (by have hq0 := qbit_inS (t := (σ 86 22)) (i := x1) (by omega) (by omega) hev7 hev8; have hq1 := (show qsh (α 87) 32 (x1 : Int).toNat = α 87 (32 + x1 : Int).toNat by unfold qsh; congr 1; omega); have hq2 := qop_c (α 99 (x1 : Int).toNat) (qsh (α 87) 32 (x1 : Int).toNat) (qbit (σ 86 22) x1) x2; omega)⟩
    · skip
      refine qr_iload_n 26 rfl rfl rfl ?_
      refine qr_aload_n 27 rfl rfl rfl ?_
      refine qr_get 30 rfl rfl rfl (by decide) rfl ?_
      refine qr_bipush 32 rfl (by decide) rfl ?_
      refine qr_iload_n 33 rfl rfl rfl ?_
      refine qr_iadd 34 rfl rfl ?_
      refine qr_iaload 35 rfl rfl (by omega) (by decide) rfl ?_
      refine qr_topI (fun v10 hv10 => ?_)
      have hs11 : (-2147483648) ≤ v10 ∧ v10 ≤ 2147483647 := by rw [hv10]; exact hI.2.1 87 _ (show _ < 252 by omega)
      refine qr_icmp_ge 55 38 rfl rfl rfl r2 hs11 (fun h12 => ?_) (fun h12 => ?_)
      · skip
        refine qr_iconst 56 rfl rfl ?_
        refine qr_retZ rfl rfl (Or.inl rfl) (by decide) (by decide) ?_
        exact ⟨rfl, 0, rfl, (by decide), (by have hq0 := (show qsh (α 87) 32 (x1 : Int).toNat = α 87 (32 + x1 : Int).toNat by unfold qsh; congr 1; omega); have hq1 := qop_c (α 99 (x1 : Int).toNat) (qsh (α 87) 32 (x1 : Int).toNat) (qbit (σ 86 22) x1) x2; omega)⟩
      · skip
        refine qr_aload_n 39 rfl rfl rfl ?_
        refine qr_get 42 rfl rfl rfl (by decide) rfl ?_
        refine qr_iload_n 43 rfl rfl rfl ?_
        refine qr_lshr 44 rfl rfl ?_
        refine qy_canlE (fun v13 hv13 hev13 => ?_)
        refine qr_lconst 45 rfl rfl ?_
        refine qy_vl 1 rfl ?_
        refine qr_land 46 rfl rfl ?_
        refine qy_canlE (fun v14 hv14 hev14 => ?_)
        refine qr_lconst 47 rfl rfl ?_
        refine qy_vl 0 rfl ?_
        refine qr_lc_ne 55 51 rfl rfl rfl rfl hv14 (by decide) (fun h15 => ?_) (fun h15 => ?_)
        · skip
          refine qr_iconst 56 rfl rfl ?_
          refine qr_retZ rfl rfl (Or.inl rfl) (by decide) (by decide) ?_
          exact ⟨rfl, 0, rfl, (by decide), (by have hq0 := qbit_inS (t := (σ 86 22)) (i := x1) (by omega) (by omega) hev13 hev14; have hq1 := (show qsh (α 87) 32 (x1 : Int).toNat = α 87 (32 + x1 : Int).toNat by unfold qsh; congr 1; omega); have hq2 := qop_c (α 99 (x1 : Int).toNat) (qsh (α 87) 32 (x1 : Int).toNat) (qbit (σ 86 22) x1) x2; omega)⟩
        · skip
          refine qr_iconst 52 rfl rfl ?_
          refine qr_goto 56 rfl rfl ?_
          refine qr_retZ rfl rfl (Or.inr rfl) (by decide) (by decide) ?_
          exact ⟨rfl, 1, rfl, (by decide), (by have hq0 := qbit_inS (t := (σ 86 22)) (i := x1) (by omega) (by omega) hev13 hev14; have hq1 := (show qsh (α 87) 32 (x1 : Int).toNat = α 87 (32 + x1 : Int).toNat by unfold qsh; congr 1; omega); have hq2 := qop_c (α 99 (x1 : Int).toNat) (qsh (α 87) 32 (x1 : Int).toNat) (qbit (σ 86 22) x1) x2; omega)⟩

set_option maxHeartbeats 4000000 in
set_option maxRecDepth 20000 in
/-- OneRoofModel.byFeud -/
theorem sf_197_86x {L : Nat} {xs : Nat → Int} {vb : Bool} {d : Nat} {σ α : Nat → Nat → Int} {κ : Nat → Option Nat} {ρ : Nat} {x1 : Int} {x2 : Int} {x3 : Int} (hI : qI σ α κ ρ) (r1 : 0 ≤ x1 ∧ x1 ≤ 39) (r2 : 0 ≤ x2 ∧ x2 ≤ 31) (r3 : 0 ≤ x3 ∧ x3 ≤ 31) (p0 : qZf σ α) (p1 : x1 < σ 86 16 ∧ x2 < σ 86 6 ∧ x3 < σ 86 6) : qm_T (qe L xs vb) (d + 4) 197 [.ref 86, .int (qz x1), .int (qz x2), .int (qz x3)] (qw σ α κ ρ) (fun r w' => ∃ σ' α', w' = qw σ' α' κ ρ ∧ qI σ' α' κ ρ ∧ qFr [(86, 15)] [96] σ α σ' α' ∧ ∃ v : Int, r = some (.int (qz v)) ∧ (0 ≤ v ∧ v ≤ 99) ∧ (((qd9 (α 94) (α 95) (σ 86 11) x2 (α 97 (x1 : Int).toNat) ≤ α 100 (x1 : Int).toNat ∧ qd9 (α 94) (α 95) (σ 86 11) x3 (α 98 (x1 : Int).toNat) ≤ α 100 (x1 : Int).toNat) ∧ v = qd9 (α 94) (α 95) (σ 86 11) x2 (α 97 (x1 : Int).toNat) + qd9 (α 94) (α 95) (σ 86 11) x3 (α 98 (x1 : Int).toNat)) ∨ (¬ (qd9 (α 94) (α 95) (σ 86 11) x2 (α 97 (x1 : Int).toNat) ≤ α 100 (x1 : Int).toNat ∧ qd9 (α 94) (α 95) (σ 86 11) x3 (α 98 (x1 : Int).toNat) ≤ α 100 (x1 : Int).toNat) ∧ v = 99))) := by
  refine qr_start (d := d + 3) qv_e197 (Nat.le_of_ble_eq_true rfl) ?_
  show qr_W (qe L xs vb) (d + 3) qx_e197 _ (0, [(0, .ref 86), (1, .int (qz x1)), (2, .int (qz x2)), (3, .int (qz x3))], [], _, 0, 0)
  have hF0 := qFr_rf [(86, 15)] [96] σ α
  have hz86_11 : 0 ≤ σ 86 11 ∧ σ 86 11 ≤ 61 := hI.1 86 11
  have hz86_16 : 0 ≤ σ 86 16 ∧ σ 86 16 ≤ 40 := hI.1 86 16
  have hz86_6 : 0 ≤ σ 86 6 ∧ σ 86 6 ≤ 32 := hI.1 86 6
  refine qr_aload_n 1 rfl rfl rfl ?_
  refine qr_iload_n 2 rfl rfl rfl ?_
  refine qr_aload_n 3 rfl rfl rfl ?_
  refine qr_get 6 rfl rfl rfl (by decide) rfl ?_
  refine qr_iload_n 7 rfl rfl rfl ?_
  refine qr_iaload 8 rfl rfl (qrgi r1 (by decide) (by decide)) (by decide) rfl ?_
  refine qr_topI (fun v1 hv1 => ?_)
  have hs2 : 0 ≤ v1 ∧ v1 ≤ 31 := by rw [hv1]; exact hI.2.1 97 _ (show _ < 40 from qrgt r1 (by decide) (by decide))
  have hrv1 : v1 = (α 97) (x1 : Int).toNat := hv1
  have hz := p0 (x1 : Int).toNat (by omega)
  have hs3 : 0 ≤ σ 86 6 ∧ σ 86 6 ≤ 32 := hI.1 86 6
  refine qr_callN 11 rfl rfl rfl (sf_187_86x (d := d + 0) hI r2 hs2 (by omega)) ?_
  rintro _ _ ⟨σ6, α7, rfl, hI8, hG9, v4, rfl, hv4, hx5⟩
  have hF10 : qFr [(86, 15)] [96] σ α σ6 α7 := qFr_t hF0 hG9 (by decide) (by decide)
  show qr_W (qe L xs vb) (d + 3) qx_e197 _ (11, _, [.int (qz v4)], qw σ6 α7 κ ρ, 0, 0)
  refine qr_istore _ 13 rfl (by decide) rfl rfl ?_
  refine qr_aload_n 14 rfl rfl rfl ?_
  refine qr_iload_n 15 rfl rfl rfl ?_
  refine qr_aload_n 16 rfl rfl rfl ?_
  refine qr_get 19 rfl rfl rfl (by decide) rfl ?_
  refine qr_iload_n 20 rfl rfl rfl ?_
  refine qr_iaload 21 rfl rfl (qrgi r1 (by decide) (by decide)) (by decide) rfl ?_
  refine qr_topI (fun v11 hv11 => ?_)
  have hs12 : 0 ≤ v11 ∧ v11 ≤ 31 := by rw [hv11]; exact hI8.2.1 98 _ (show _ < 40 from qrgt r1 (by decide) (by decide))
  have hrv11 : v11 = (α 98) (x1 : Int).toNat := hv11.trans (congrFun ((hG9.2 98 (by decide)).trans rfl) _)
  have hs13 : 0 ≤ σ6 86 6 ∧ σ6 86 6 ≤ 32 := hI8.1 86 6
  have hs14 : σ6 86 6 = (σ 86 6) := (hG9.1 86 6 (by decide)).trans rfl
  refine qr_callN 24 rfl rfl rfl (sf_187_86x (d := d + 0) hI8 r3 hs12 (by omega)) ?_
  rintro _ _ ⟨σ17, α18, rfl, hI19, hG20, v15, rfl, hv15, hx16⟩
  have hF21 : qFr [(86, 15)] [96] σ α σ17 α18 := qFr_t hF10 hG20 (by decide) (by decide)
  rw [hF10.2 94 (by decide), hF10.2 95 (by decide), hF10.1 86 11 (by decide)] at hx16
  show qr_W (qe L xs vb) (d + 3) qx_e197 _ (24, _, [.int (qz v15)], qw σ17 α18 κ ρ, 0, 0)
  refine qr_istore _ 26 rfl (by decide) rfl rfl ?_
  refine qr_iload 28 rfl rfl rfl ?_
  refine qr_aload_n 29 rfl rfl rfl ?_
  refine qr_get 32 rfl rfl rfl (by decide) rfl ?_
  refine qr_iload_n 33 rfl rfl rfl ?_
  refine qr_iaload 34 rfl rfl (qrgi r1 (by decide) (by decide)) (by decide) rfl ?_
  refine qr_topI (fun v22 hv22 => ?_)
  have hs23 : (-2147483648) ≤ v22 ∧ v22 ≤ 2147483647 := by rw [hv22]; exact hI19.2.1 100 _ (show _ < 40 from qrgt r1 (by decide) (by decide))
  have hrv22 : v22 = (α 100) (x1 : Int).toNat := hv22.trans (congrFun ((hG20.2 100 (by decide)).trans ((hG9.2 100 (by decide)).trans rfl)) _)
  refine qr_icmp_gt 56 37 rfl rfl rfl (qrg hv4 (by decide) (by decide)) hs23 (fun h24 => ?_) (fun h24 => ?_)
  · skip
    refine qr_bipush 58 rfl (by decide) rfl ?_
    refine qr_retI rfl rfl (by decide) (by decide) ?_
    exact ⟨_, _, rfl, hI19, hF21, 99, rfl, (by decide), (by have e1 : v1 = α 97 (x1 : Int).toNat := hrv1; have e2 : v11 = α 98 (x1 : Int).toNat := hrv11; rw [e1] at hx5; rw [e2] at hx16; omega)⟩
  · skip
    refine qr_iload 39 rfl rfl rfl ?_
    refine qr_aload_n 40 rfl rfl rfl ?_
    refine qr_get 43 rfl rfl rfl (by decide) rfl ?_
    refine qr_iload_n 44 rfl rfl rfl ?_
    refine qr_iaload 45 rfl rfl (qrgi r1 (by decide) (by decide)) (by decide) rfl ?_
    refine qr_topI (fun v25 hv25 => ?_)
    have hs26 : (-2147483648) ≤ v25 ∧ v25 ≤ 2147483647 := by rw [hv25]; exact hI19.2.1 100 _ (show _ < 40 from qrgt r1 (by decide) (by decide))
    have hrv25 : v25 = (α 100) (x1 : Int).toNat := hv25.trans (congrFun ((hG20.2 100 (by decide)).trans ((hG9.2 100 (by decide)).trans rfl)) _)
    refine qr_icmp_gt 56 48 rfl rfl rfl (qrg hv15 (by decide) (by decide)) hs26 (fun h27 => ?_) (fun h27 => ?_)
    · skip
      refine qr_bipush 58 rfl (by decide) rfl ?_
      refine qr_retI rfl rfl (by decide) (by decide) ?_
      exact ⟨_, _, rfl, hI19, hF21, 99, rfl, (by decide), (by have e1 : v1 = α 97 (x1 : Int).toNat := hrv1; have e2 : v11 = α 98 (x1 : Int).toNat := hrv11; rw [e1] at hx5; rw [e2] at hx16; omega)⟩
    · skip
      refine qr_iload 50 rfl rfl rfl ?_
      refine qr_iload 52 rfl rfl rfl ?_
      refine qr_iadd 53 rfl rfl ?_
      refine qr_goto 58 rfl rfl ?_
      refine qr_retI rfl rfl (by decide) (by decide) ?_
      exact ⟨_, _, rfl, hI19, hF21, (v4 + v15), rfl, (by omega), (by have e1 : v1 = α 97 (x1 : Int).toNat := hrv1; have e2 : v11 = α 98 (x1 : Int).toNat := hrv11; rw [e1] at hx5; rw [e2] at hx16; omega)⟩

set_option maxHeartbeats 4000000 in
set_option maxRecDepth 20000 in
/-- OneRoofModel.nearOf -/
theorem sf_195_86x {L : Nat} {xs : Nat → Int} {vb : Bool} {d : Nat} {σ α : Nat → Nat → Int} {κ : Nat → Option Nat} {ρ : Nat} {x1 : Int} {x2 : Int} {x3 : Int} (hI : qI σ α κ ρ) (r1 : 0 ≤ x1 ∧ x1 ≤ 31) (r2 : 0 ≤ x2 ∧ x2 ≤ 31) (r3 : (-2147483648) ≤ x3 ∧ x3 ≤ 2147483647) (p0 : qZf σ α) (p1 : x1 < σ 86 6 ∧ x2 < σ 86 6) : qm_T (qe L xs vb) (d + 5) 195 [.ref 86, .int (qz x1), .int (qz x2), .int (qz x3)] (qw σ α κ ρ) (fun r w' => ∃ σ' α', w' = qw σ' α' κ ρ ∧ qI σ' α' κ ρ ∧ qFr [(86, 15), (86, 23)] [96] σ α σ' α' ∧ ∃ v : Int, r = some (.int (qz v)) ∧ (0 ≤ v ∧ v ≤ 99) ∧ ((x1 = x2 ∧ v = 99) ∨ (¬ x1 = x2 ∧ ((v = 99 ∧ 576 ≤ qnF (qd9 (α 94) (α 95) (σ 86 11)) (α 97) (α 98) (α 100) (α 99) (qsh (α 87) 32) (σ 86 22) (σ 86 16) x1 x2 x3) ∨ (0 ≤ v ∧ v ≤ 6 ∧ qnF (qd9 (α 94) (α 95) (σ 86 11)) (α 97) (α 98) (α 100) (α 99) (qsh (α 87) 32) (σ 86 22) (σ 86 16) x1 x2 x3 = 64 * v + σ' 86 23 ∧ 0 ≤ σ' 86 23 ∧ σ' 86 23 < 40))))) := by
  refine qr_start (d := d + 4) qv_e195 (Nat.le_of_ble_eq_true rfl) ?_
  show qr_W (qe L xs vb) (d + 4) qx_e195 _ (0, [(0, .ref 86), (1, .int (qz x1)), (2, .int (qz x2)), (3, .int (qz x3))], [], _, 0, 0)
  have hF0 := qFr_rf [(86, 15), (86, 23)] [96] σ α
  have hz86_11 : 0 ≤ σ 86 11 ∧ σ 86 11 ≤ 61 := hI.1 86 11
  have hz86_22 : (-9223372036854775808) ≤ σ 86 22 ∧ σ 86 22 ≤ 9223372036854775807 := hI.1 86 22
  have hz86_16 : 0 ≤ σ 86 16 ∧ σ 86 16 ≤ 40 := hI.1 86 16
  have hz86_6 : 0 ≤ σ 86 6 ∧ σ 86 6 ≤ 32 := hI.1 86 6
  refine qr_bipush 2 rfl (by decide) rfl ?_
  refine qr_istore _ 4 rfl (by decide) rfl rfl ?_
  refine qr_iconst 5 rfl rfl ?_
  refine qr_istore _ 7 rfl (by decide) rfl rfl ?_
  have hL895 : ∀ (n : Nat) (ls : qm_L) (u880 u882 : Int) (σ883 α884 : Nat → Nat → Int), 40 - u882 < (n : Int) → qm_get ls 0 = some (.ref 86) → qm_get ls 1 = some (.int (qz x1)) → qm_get ls 2 = some (.int (qz x2)) → qm_get ls 3 = some (.int (qz x3)) → qm_get ls 4 = some (.int (qz u880)) → qm_get ls 5 = some (.int (qz u882)) → (0 ≤ u880 ∧ u880 ≤ 99) → (0 ≤ u882 ∧ u882 ≤ 40) → qI σ883 α884 κ ρ → qFr [(86, 15), (86, 23)] [96] σ α σ883 α884 → σ883 86 6 = (σ 86 6) → σ883 86 11 = (σ 86 11) → σ883 86 16 = (σ 86 16) → σ883 86 22 = (σ 86 22) → (((u880 = 99 ∧ qnk (qoF (α 99) (qsh (α 87) 32) (σ 86 22) x3) (qcF (qd9 (α 94) (α 95) (σ 86 11)) (α 97) (α 98) (α 100) x1 x2) (u882 : Int).toNat = 576) ∨ (0 ≤ u880 ∧ u880 ≤ 6 ∧ qnk (qoF (α 99) (qsh (α 87) 32) (σ 86 22) x3) (qcF (qd9 (α 94) (α 95) (σ 86 11)) (α 97) (α 98) (α 100) x1 x2) (u882 : Int).toNat = 64 * u880 + σ883 86 23 ∧ 0 ≤ σ883 86 23 ∧ σ883 86 23 < u882)) ∧ (x1 = x2 → u880 = 99)) → u882 ≤ σ 86 16 → qr_W (qe L xs vb) (d + 4) qx_e195 (fun r w' => ∃ σ' α', w' = qw σ' α' κ ρ ∧ qI σ' α' κ ρ ∧ qFr [(86, 15), (86, 23)] [96] σ α σ' α' ∧ ∃ v : Int, r = some (.int (qz v)) ∧ (0 ≤ v ∧ v ≤ 99) ∧ ((x1 = x2 ∧ v = 99) ∨ (¬ x1 = x2 ∧ ((v = 99 ∧ 576 ≤ qnF (qd9 (α 94) (α 95) (σ 86 11)) (α 97) (α 98) (α 100) (α 99) (qsh (α 87) 32) (σ 86 22) (σ 86 16) x1 x2 x3) ∨ (0 ≤ v ∧ v ≤ 6 ∧ qnF (qd9 (α 94) (α 95) (σ 86 11)) (α 97) (α 98) (α 100) (α 99) (qsh (α 87) 32) (σ 86 22) (σ 86 16) x1 x2 x3 = 64 * v + σ' 86 23 ∧ 0 ≤ σ' 86 23 ∧ σ' 86 23 < 40))))) (7, ls, [], qw σ883 α884 κ ρ, 0, 0) := by
    intro n
    induction n with
    | zero => intro ls u880 u882 σ883 α884 hm g875 g876 g877 g878 g879 g881 hf891 hf892 hI885 hF886 hk887 hk888 hk889 hk890 hx893 hx894; exact False.elim (by omega)
    | succ n ih896 =>
      intro ls u880 u882 σ883 α884 hm g875 g876 g877 g878 g879 g881 hf891 hf892 hI885 hF886 hk887 hk888 hk889 hk890 hx893 hx894
      have hs897 : (-2147483648) ≤ σ883 86 23 ∧ σ883 86 23 ≤ 2147483647 := hI885.1 86 23
      refine qr_iload 9 rfl g881 rfl ?_
      refine qr_aload_n 10 rfl g875 rfl ?_
      refine qr_get 13 rfl rfl rfl (by decide) rfl ?_
      refine qy_v (σ 86 16) ((hk889).trans rfl) ?_
      refine qr_icmp_ge 93 16 rfl rfl rfl (qrg hf892 (by decide) (by decide)) (qrg hz86_16 (by decide) (by decide)) (fun h898 => ?_) (fun h898 => ?_)
      · skip
        refine qr_iload 95 rfl g879 rfl ?_
        refine qr_retI rfl rfl (by decide) (by decide) ?_
        have hw899 : σ883 86 23 = (σ883 86 23) := rfl
        exact ⟨_, _, rfl, hI885, hF886, u880, rfl, hf891, (by have hk : x1 = x2 ∨ qnF (qd9 (α 94) (α 95) (σ 86 11)) (α 97) (α 98) (α 100) (α 99) (qsh (α 87) 32) (σ 86 22) (σ 86 16) x1 x2 x3 = qnk (qoF (α 99) (qsh (α 87) 32) (σ 86 22) x3) (qcF (qd9 (α 94) (α 95) (σ 86 11)) (α 97) (α 98) (α 100) x1 x2) (u882 : Int).toNat := (by by_cases e : x1 = x2; (exact Or.inl e); (refine Or.inr ?_; unfold qnF; rw [show (σ 86 16) = u882 by omega])); have hw : σ883 86 23 = (σ883 86 23) := rfl;  omega)⟩
      · skip
        refine qr_iload_n 17 rfl g876 rfl ?_
        refine qr_iload_n 18 rfl g877 rfl ?_
        refine qr_icmp_eq 93 21 rfl rfl rfl (qrg r1 (by decide) (by decide)) (qrg r2 (by decide) (by decide)) (fun h900 => ?_) (fun h900 => ?_)
        · skip
          refine qr_iload 95 rfl g879 rfl ?_
          refine qr_retI rfl rfl (by decide) (by decide) ?_
          have hw901 : σ883 86 23 = (σ883 86 23) := rfl
          exact ⟨_, _, rfl, hI885, hF886, u880, rfl, hf891, (by have hk : x1 = x2 ∨ qnF (qd9 (α 94) (α 95) (σ 86 11)) (α 97) (α 98) (α 100) (α 99) (qsh (α 87) 32) (σ 86 22) (σ 86 16) x1 x2 x3 = qnk (qoF (α 99) (qsh (α 87) 32) (σ 86 22) x3) (qcF (qd9 (α 94) (α 95) (σ 86 11)) (α 97) (α 98) (α 100) x1 x2) (u882 : Int).toNat := (by by_cases e : x1 = x2; (exact Or.inl e); (refine Or.inr ?_; unfold qnF; rw [show (σ 86 16) = u882 by omega])); have hw : σ883 86 23 = (σ883 86 23) := rfl;  omega)⟩
        · skip
          refine qr_aload_n 22 rfl g875 rfl ?_
          refine qr_iload 24 rfl g881 rfl ?_
          refine qr_iload_n 25 rfl g878 rfl ?_
          refine qr_callN 28 rfl rfl rfl (sf_196_86x (d := d + 3) hI885 (by omega) r3) ?_
          have hs904 : (-9223372036854775808) ≤ σ883 86 22 ∧ σ883 86 22 ≤ 9223372036854775807 := hI885.1 86 22
          have hs905 : σ883 86 22 = (σ 86 22) := (hk890).trans rfl
          rintro _ _ ⟨rfl, v902, rfl, hv902, hp903⟩
          rw [hF886.2 87 (by decide), hF886.2 99 (by decide), hF886.1 86 22 (by decide)] at hp903
          show qr_W (qe L xs vb) (d + 4) qx_e195 _ (28, _, [.int (qz v902)], qw σ883 α884 κ ρ, 0, 0)
          refine qr_if_ne 34 31 rfl rfl rfl (qrg hv902 (by decide) (by decide)) (fun h906 => ?_) (fun h906 => ?_)
          · skip
            refine qr_aload_n 35 rfl g875 rfl ?_
            refine qr_iload 37 rfl g881 rfl ?_
            refine qr_iload_n 38 rfl g876 rfl ?_
            refine qr_iload_n 39 rfl g877 rfl ?_
            have hs907 : 0 ≤ σ883 86 16 ∧ σ883 86 16 ≤ 40 := hI885.1 86 16
            have hs908 : σ883 86 16 = (σ 86 16) := (hk889).trans rfl
            have hs909 : 0 ≤ σ883 86 6 ∧ σ883 86 6 ≤ 32 := hI885.1 86 6
            have hs910 : σ883 86 6 = (σ 86 6) := (hk887).trans rfl
            refine qr_callN 42 rfl rfl rfl (sf_197_86x (d := d + 0) hI885 (by omega) r1 r2 (qZf_fr hF886 (by decide) (by decide) p0) (by omega)) ?_
            have hs913 : 0 ≤ σ883 86 11 ∧ σ883 86 11 ≤ 61 := hI885.1 86 11
            have hs914 : σ883 86 11 = (σ 86 11) := (hk888).trans rfl
            rintro _ _ ⟨σ915, α916, rfl, hI917, hG918, v911, rfl, hv911, hp912⟩
            have hF919 : qFr [(86, 15), (86, 23)] [96] σ α σ915 α916 := qFr_t hF886 hG918 (by decide) (by decide)
            rw [hF886.2 94 (by decide), hF886.2 95 (by decide), hF886.2 97 (by decide), hF886.2 98 (by decide), hF886.2 100 (by decide), hF886.1 86 11 (by decide)] at hp912
            show qr_W (qe L xs vb) (d + 4) qx_e195 _ (42, _, [.int (qz v911)], qw σ915 α916 κ ρ, 0, 0)
            refine qr_istore _ 44 rfl (by decide) rfl rfl ?_
            refine qr_aload_n 45 rfl (qm_gk g875 (by decide) (Or.inl (by decide))) rfl ?_
            refine qr_iload 47 rfl (qm_gk g881 (by decide) (Or.inr rfl)) rfl ?_
            refine qr_iload_n 48 rfl (qm_gk g877 (by decide) (Or.inl (by decide))) rfl ?_
            refine qr_iload_n 49 rfl (qm_gk g876 (by decide) (Or.inl (by decide))) rfl ?_
            have hs920 : 0 ≤ σ915 86 16 ∧ σ915 86 16 ≤ 40 := hI917.1 86 16
            have hs921 : σ915 86 16 = (σ 86 16) := (hG918.1 86 16 (by decide)).trans ((hk889).trans rfl)
            have hs922 : 0 ≤ σ915 86 6 ∧ σ915 86 6 ≤ 32 := hI917.1 86 6
            have hs923 : σ915 86 6 = (σ 86 6) := (hG918.1 86 6 (by decide)).trans ((hk887).trans rfl)
            refine qr_callN 52 rfl rfl rfl (sf_197_86x (d := d + 0) hI917 (by omega) r2 r1 (qZf_fr hF919 (by decide) (by decide) p0) (by omega)) ?_
            have hs926 : 0 ≤ σ915 86 11 ∧ σ915 86 11 ≤ 61 := hI917.1 86 11
            have hs927 : σ915 86 11 = (σ 86 11) := (hG918.1 86 11 (by decide)).trans ((hk888).trans rfl)
            rintro _ _ ⟨σ928, α929, rfl, hI930, hG931, v924, rfl, hv924, hp925⟩
            have hF932 : qFr [(86, 15), (86, 23)] [96] σ α σ928 α929 := qFr_t hF919 hG931 (by decide) (by decide)
            rw [hF919.2 94 (by decide), hF919.2 95 (by decide), hF919.2 97 (by decide), hF919.2 98 (by decide), hF919.2 100 (by decide), hF919.1 86 11 (by decide)] at hp925
            show qr_W (qe L xs vb) (d + 4) qx_e195 _ (52, _, [.int (qz v924)], qw σ928 α929 κ ρ, 0, 0)
            refine qr_istore _ 54 rfl (by decide) rfl rfl ?_
            refine qr_iload 56 rfl (qm_gk (qm_ge _ _ _) (by decide) (Or.inr rfl)) rfl ?_
            refine qr_iload 58 rfl (qm_ge _ _ _) rfl ?_
            refine qr_icmp_ge 66 61 rfl rfl rfl (qrg hv911 (by decide) (by decide)) (qrg hv924 (by decide) (by decide)) (fun h933 => ?_) (fun h933 => ?_)
            · skip
              refine qr_iload 68 rfl (qm_ge _ _ _) rfl ?_
              refine qr_istore _ 70 rfl (by decide) rfl rfl ?_
              refine qr_iload 72 rfl (qm_ge _ _ _) rfl ?_
              refine qr_iload 74 rfl (qm_gk (qm_gk (qm_gk g879 (by decide) (Or.inl (by decide))) (by decide) (Or.inl (by decide))) (by decide) (Or.inl (by decide))) rfl ?_
              refine qr_icmp_ge 87 77 rfl rfl rfl (qrg hv924 (by decide) (by decide)) (qrg hf891 (by decide) (by decide)) (fun h934 => ?_) (fun h934 => ?_)
              · skip
                refine qr_iinc _ 90 rfl (qm_gk (qm_gk (qm_gk g881 (by decide) (Or.inr rfl)) (by decide) (Or.inl (by decide))) (by decide) (Or.inl (by decide))) (by decide) rfl rfl ?_
                refine qr_goto 7 rfl rfl ?_
                exact ih896 _ u880 (u882 + 1) σ928 α929 (by omega) (qm_gk (qm_gk (qm_gk (qm_gk g875 (by decide) (Or.inl (by decide))) (by decide) (Or.inl (by decide))) (by decide) (Or.inl (by decide))) (by decide) (Or.inl (by decide))) (qm_gk (qm_gk (qm_gk (qm_gk g876 (by decide) (Or.inl (by decide))) (by decide) (Or.inl (by decide))) (by decide) (Or.inl (by decide))) (by decide) (Or.inl (by decide))) (qm_gk (qm_gk (qm_gk (qm_gk g877 (by decide) (Or.inl (by decide))) (by decide) (Or.inl (by decide))) (by decide) (Or.inl (by decide))) (by decide) (Or.inl (by decide))) (qm_gk (qm_gk (qm_gk (qm_gk g878 (by decide) (Or.inl (by decide))) (by decide) (Or.inl (by decide))) (by decide) (Or.inl (by decide))) (by decide) (Or.inl (by decide))) (qm_gk (qm_gk (qm_gk (qm_gk g879 (by decide) (Or.inl (by decide))) (by decide) (Or.inl (by decide))) (by decide) (Or.inl (by decide))) (by decide) (Or.inr rfl)) (qm_ge _ _ _) hf891 (by omega) hI930 hF932 ((hG931.1 86 6 (by decide)).trans ((hG918.1 86 6 (by decide)).trans ((hk887).trans rfl))) ((hG931.1 86 11 (by decide)).trans ((hG918.1 86 11 (by decide)).trans ((hk888).trans rfl))) ((hG931.1 86 16 (by decide)).trans ((hG918.1 86 16 (by decide)).trans ((hk889).trans rfl))) ((hG931.1 86 22 (by decide)).trans ((hG918.1 86 22 (by decide)).trans ((hk890).trans rfl))) (by have hq0 := qnk_s (qoF (α 99) (qsh (α 87) 32) (σ 86 22) x3) (qcF (qd9 (α 94) (α 95) (σ 86 11)) (α 97) (α 98) (α 100) x1 x2) (i := u882) (by omega); have hq1 := qoF_a (α 99) (qsh (α 87) 32) (σ 86 22) x3 (i := u882) (by omega); have hq2 := (show (qcF (qd9 (α 94) (α 95) (σ 86 11)) (α 97) (α 98) (α 100) x1 x2) ((u882 : Int).toNat) = qcl _ _ _ _ _ from rfl); have hq3 := qcl_m (t := α 100 (u882 : Int).toNat) hp912 hp925 (qd9_r (α 94) (α 95) (σ 86 11) x1 (α 97 (u882 : Int).toNat)).1 (qd9_r (α 94) (α 95) (σ 86 11) x2 (α 98 (u882 : Int).toNat)).1 (qd9_r (α 94) (α 95) (σ 86 11) x2 (α 97 (u882 : Int).toNat)).1 (qd9_r (α 94) (α 95) (σ 86 11) x1 (α 98 (u882 : Int).toNat)).1 (by have := p0 (u882 : Int).toNat (by omega); omega); have hq4 := (show σ928 86 23 = (σ883 86 23) from (hG931.1 86 23 (by decide)).trans ((hG918.1 86 23 (by decide)).trans rfl)); omega) (by omega)
              · skip
                refine qr_iload 79 rfl (qm_ge _ _ _) rfl ?_
                refine qr_istore _ 81 rfl (by decide) rfl rfl ?_
                refine qr_aload_n 82 rfl (qm_gk (qm_gk (qm_gk (qm_gk g875 (by decide) (Or.inl (by decide))) (by decide) (Or.inl (by decide))) (by decide) (Or.inl (by decide))) (by decide) (Or.inl (by decide))) rfl ?_
                refine qr_iload 84 rfl (qm_gk (qm_gk (qm_gk (qm_gk g881 (by decide) (Or.inr rfl)) (by decide) (Or.inl (by decide))) (by decide) (Or.inl (by decide))) (by decide) (Or.inl (by decide))) rfl ?_
                refine qr_put 87 rfl (by decide) rfl (Nat.le_of_ble_eq_true rfl) (Nat.le_of_ble_eq_true rfl) (Or.inl rfl) (qr_fitI rfl _) rfl ?_
                refine qy_wS (qw_s σ928 86 23 u882) rfl (fun σ935 e936 => ?_)
                have hI937 : qI σ935 α929 κ ρ := by rw [e936]; exact qI_s hI930 86 23 rfl (show (-2147483648) ≤ u882 ∧ u882 ≤ 2147483647 by omega)
                have hF938 : qFr [(86, 15), (86, 23)] [96] σ α σ935 α929 := by rw [e936]; exact qFr_s hF932 86 23 _ (by decide)
                refine qr_iinc _ 90 rfl (qm_gk (qm_gk (qm_gk (qm_gk g881 (by decide) (Or.inr rfl)) (by decide) (Or.inl (by decide))) (by decide) (Or.inl (by decide))) (by decide) (Or.inl (by decide))) (by decide) rfl rfl ?_
                refine qr_goto 7 rfl rfl ?_
                exact ih896 _ v924 (u882 + 1) σ935 α929 (by omega) (qm_gk (qm_gk (qm_gk (qm_gk (qm_gk g875 (by decide) (Or.inl (by decide))) (by decide) (Or.inl (by decide))) (by decide) (Or.inl (by decide))) (by decide) (Or.inl (by decide))) (by decide) (Or.inl (by decide))) (qm_gk (qm_gk (qm_gk (qm_gk (qm_gk g876 (by decide) (Or.inl (by decide))) (by decide) (Or.inl (by decide))) (by decide) (Or.inl (by decide))) (by decide) (Or.inl (by decide))) (by decide) (Or.inl (by decide))) (qm_gk (qm_gk (qm_gk (qm_gk (qm_gk g877 (by decide) (Or.inl (by decide))) (by decide) (Or.inl (by decide))) (by decide) (Or.inl (by decide))) (by decide) (Or.inl (by decide))) (by decide) (Or.inl (by decide))) (qm_gk (qm_gk (qm_gk (qm_gk (qm_gk g878 (by decide) (Or.inl (by decide))) (by decide) (Or.inl (by decide))) (by decide) (Or.inl (by decide))) (by decide) (Or.inr rfl)) (by decide) (Or.inl (by decide))) (qm_gk (qm_ge _ _ _) (by decide) (Or.inr rfl)) (qm_ge _ _ _) hv924 (by omega) hI937 hF938 ((congrFun (congrFun e936 86) 6).trans ((hG931.1 86 6 (by decide)).trans ((hG918.1 86 6 (by decide)).trans ((hk887).trans rfl)))) ((congrFun (congrFun e936 86) 11).trans ((hG931.1 86 11 (by decide)).trans ((hG918.1 86 11 (by decide)).trans ((hk888).trans rfl)))) ((congrFun (congrFun e936 86) 16).trans ((hG931.1 86 16 (by decide)).trans ((hG918.1 86 16 (by decide)).trans ((hk889).trans rfl)))) ((congrFun (congrFun e936 86) 22).trans ((hG931.1 86 22 (by decide)).trans ((hG918.1 86 22 (by decide)).trans ((hk890).trans rfl)))) (by have hq0 := qnk_s (qoF (α 99) (qsh (α 87) 32) (σ 86 22) x3) (qcF (qd9 (α 94) (α 95) (σ 86 11)) (α 97) (α 98) (α 100) x1 x2) (i := u882) (by omega); have hq1 := qoF_a (α 99) (qsh (α 87) 32) (σ 86 22) x3 (i := u882) (by omega); have hq2 := (show (qcF (qd9 (α 94) (α 95) (σ 86 11)) (α 97) (α 98) (α 100) x1 x2) ((u882 : Int).toNat) = qcl _ _ _ _ _ from rfl); have hq3 := qcl_m (t := α 100 (u882 : Int).toNat) hp912 hp925 (qd9_r (α 94) (α 95) (σ 86 11) x1 (α 97 (u882 : Int).toNat)).1 (qd9_r (α 94) (α 95) (σ 86 11) x2 (α 98 (u882 : Int).toNat)).1 (qd9_r (α 94) (α 95) (σ 86 11) x2 (α 97 (u882 : Int).toNat)).1 (qd9_r (α 94) (α 95) (σ 86 11) x1 (α 98 (u882 : Int).toNat)).1 (by have := p0 (u882 : Int).toNat (by omega); omega); have hq4 := (show σ935 86 23 = u882 from (congrFun (congrFun e936 86) 23).trans rfl); omega) (by omega)
            · skip
              refine qr_iload 63 rfl (qm_gk (qm_ge _ _ _) (by decide) (Or.inr rfl)) rfl ?_
              refine qr_goto 68 rfl rfl ?_
              refine qr_istore _ 70 rfl (by decide) rfl rfl ?_
              refine qr_iload 72 rfl (qm_ge _ _ _) rfl ?_
              refine qr_iload 74 rfl (qm_gk (qm_gk (qm_gk g879 (by decide) (Or.inl (by decide))) (by decide) (Or.inl (by decide))) (by decide) (Or.inl (by decide))) rfl ?_
              refine qr_icmp_ge 87 77 rfl rfl rfl (qrg hv911 (by decide) (by decide)) (qrg hf891 (by decide) (by decide)) (fun h939 => ?_) (fun h939 => ?_)
              · skip
                refine qr_iinc _ 90 rfl (qm_gk (qm_gk (qm_gk g881 (by decide) (Or.inr rfl)) (by decide) (Or.inl (by decide))) (by decide) (Or.inl (by decide))) (by decide) rfl rfl ?_
                refine qr_goto 7 rfl rfl ?_
                exact ih896 _ u880 (u882 + 1) σ928 α929 (by omega) (qm_gk (qm_gk (qm_gk (qm_gk g875 (by decide) (Or.inl (by decide))) (by decide) (Or.inl (by decide))) (by decide) (Or.inl (by decide))) (by decide) (Or.inl (by decide))) (qm_gk (qm_gk (qm_gk (qm_gk g876 (by decide) (Or.inl (by decide))) (by decide) (Or.inl (by decide))) (by decide) (Or.inl (by decide))) (by decide) (Or.inl (by decide))) (qm_gk (qm_gk (qm_gk (qm_gk g877 (by decide) (Or.inl (by decide))) (by decide) (Or.inl (by decide))) (by decide) (Or.inl (by decide))) (by decide) (Or.inl (by decide))) (qm_gk (qm_gk (qm_gk (qm_gk g878 (by decide) (Or.inl (by decide))) (by decide) (Or.inl (by decide))) (by decide) (Or.inl (by decide))) (by decide) (Or.inl (by decide))) (qm_gk (qm_gk (qm_gk (qm_gk g879 (by decide) (Or.inl (by decide))) (by decide) (Or.inl (by decide))) (by decide) (Or.inl (by decide))) (by decide) (Or.inr rfl)) (qm_ge _ _ _) hf891 (by omega) hI930 hF932 ((hG931.1 86 6 (by decide)).trans ((hG918.1 86 6 (by decide)).trans ((hk887).trans rfl))) ((hG931.1 86 11 (by decide)).trans ((hG918.1 86 11 (by decide)).trans ((hk888).trans rfl))) ((hG931.1 86 16 (by decide)).trans ((hG918.1 86 16 (by decide)).trans ((hk889).trans rfl))) ((hG931.1 86 22 (by decide)).trans ((hG918.1 86 22 (by decide)).trans ((hk890).trans rfl))) (by have hq0 := qnk_s (qoF (α 99) (qsh (α 87) 32) (σ 86 22) x3) (qcF (qd9 (α 94) (α 95) (σ 86 11)) (α 97) (α 98) (α 100) x1 x2) (i := u882) (by omega); have hq1 := qoF_a (α 99) (qsh (α 87) 32) (σ 86 22) x3 (i := u882) (by omega); have hq2 := (show (qcF (qd9 (α 94) (α 95) (σ 86 11)) (α 97) (α 98) (α 100) x1 x2) ((u882 : Int).toNat) = qcl _ _ _ _ _ from rfl); have hq3 := qcl_m (t := α 100 (u882 : Int).toNat) hp912 hp925 (qd9_r (α 94) (α 95) (σ 86 11) x1 (α 97 (u882 : Int).toNat)).1 (qd9_r (α 94) (α 95) (σ 86 11) x2 (α 98 (u882 : Int).toNat)).1 (qd9_r (α 94) (α 95) (σ 86 11) x2 (α 97 (u882 : Int).toNat)).1 (qd9_r (α 94) (α 95) (σ 86 11) x1 (α 98 (u882 : Int).toNat)).1 (by have := p0 (u882 : Int).toNat (by omega); omega); have hq4 := (show σ928 86 23 = (σ883 86 23) from (hG931.1 86 23 (by decide)).trans ((hG918.1 86 23 (by decide)).trans rfl)); omega) (by omega)
              · skip
                refine qr_iload 79 rfl (qm_ge _ _ _) rfl ?_
                refine qr_istore _ 81 rfl (by decide) rfl rfl ?_
                refine qr_aload_n 82 rfl (qm_gk (qm_gk (qm_gk (qm_gk g875 (by decide) (Or.inl (by decide))) (by decide) (Or.inl (by decide))) (by decide) (Or.inl (by decide))) (by decide) (Or.inl (by decide))) rfl ?_
                refine qr_iload 84 rfl (qm_gk (qm_gk (qm_gk (qm_gk g881 (by decide) (Or.inr rfl)) (by decide) (Or.inl (by decide))) (by decide) (Or.inl (by decide))) (by decide) (Or.inl (by decide))) rfl ?_
                refine qr_put 87 rfl (by decide) rfl (Nat.le_of_ble_eq_true rfl) (Nat.le_of_ble_eq_true rfl) (Or.inl rfl) (qr_fitI rfl _) rfl ?_
                refine qy_wS (qw_s σ928 86 23 u882) rfl (fun σ940 e941 => ?_)
                have hI942 : qI σ940 α929 κ ρ := by rw [e941]; exact qI_s hI930 86 23 rfl (show (-2147483648) ≤ u882 ∧ u882 ≤ 2147483647 by omega)
                have hF943 : qFr [(86, 15), (86, 23)] [96] σ α σ940 α929 := by rw [e941]; exact qFr_s hF932 86 23 _ (by decide)
                refine qr_iinc _ 90 rfl (qm_gk (qm_gk (qm_gk (qm_gk g881 (by decide) (Or.inr rfl)) (by decide) (Or.inl (by decide))) (by decide) (Or.inl (by decide))) (by decide) (Or.inl (by decide))) (by decide) rfl rfl ?_
                refine qr_goto 7 rfl rfl ?_
                exact ih896 _ v911 (u882 + 1) σ940 α929 (by omega) (qm_gk (qm_gk (qm_gk (qm_gk (qm_gk g875 (by decide) (Or.inl (by decide))) (by decide) (Or.inl (by decide))) (by decide) (Or.inl (by decide))) (by decide) (Or.inl (by decide))) (by decide) (Or.inl (by decide))) (qm_gk (qm_gk (qm_gk (qm_gk (qm_gk g876 (by decide) (Or.inl (by decide))) (by decide) (Or.inl (by decide))) (by decide) (Or.inl (by decide))) (by decide) (Or.inl (by decide))) (by decide) (Or.inl (by decide))) (qm_gk (qm_gk (qm_gk (qm_gk (qm_gk g877 (by decide) (Or.inl (by decide))) (by decide) (Or.inl (by decide))) (by decide) (Or.inl (by decide))) (by decide) (Or.inl (by decide))) (by decide) (Or.inl (by decide))) (qm_gk (qm_gk (qm_gk (qm_gk (qm_gk g878 (by decide) (Or.inl (by decide))) (by decide) (Or.inl (by decide))) (by decide) (Or.inl (by decide))) (by decide) (Or.inr rfl)) (by decide) (Or.inl (by decide))) (qm_gk (qm_ge _ _ _) (by decide) (Or.inr rfl)) (qm_ge _ _ _) hv911 (by omega) hI942 hF943 ((congrFun (congrFun e941 86) 6).trans ((hG931.1 86 6 (by decide)).trans ((hG918.1 86 6 (by decide)).trans ((hk887).trans rfl)))) ((congrFun (congrFun e941 86) 11).trans ((hG931.1 86 11 (by decide)).trans ((hG918.1 86 11 (by decide)).trans ((hk888).trans rfl)))) ((congrFun (congrFun e941 86) 16).trans ((hG931.1 86 16 (by decide)).trans ((hG918.1 86 16 (by decide)).trans ((hk889).trans rfl)))) ((congrFun (congrFun e941 86) 22).trans ((hG931.1 86 22 (by decide)).trans ((hG918.1 86 22 (by decide)).trans ((hk890).trans rfl)))) (by have hq0 := qnk_s (qoF (α 99) (qsh (α 87) 32) (σ 86 22) x3) (qcF (qd9 (α 94) (α 95) (σ 86 11)) (α 97) (α 98) (α 100) x1 x2) (i := u882) (by omega); have hq1 := qoF_a (α 99) (qsh (α 87) 32) (σ 86 22) x3 (i := u882) (by omega); have hq2 := (show (qcF (qd9 (α 94) (α 95) (σ 86 11)) (α 97) (α 98) (α 100) x1 x2) ((u882 : Int).toNat) = qcl _ _ _ _ _ from rfl); have hq3 := qcl_m (t := α 100 (u882 : Int).toNat) hp912 hp925 (qd9_r (α 94) (α 95) (σ 86 11) x1 (α 97 (u882 : Int).toNat)).1 (qd9_r (α 94) (α 95) (σ 86 11) x2 (α 98 (u882 : Int).toNat)).1 (qd9_r (α 94) (α 95) (σ 86 11) x2 (α 97 (u882 : Int).toNat)).1 (qd9_r (α 94) (α 95) (σ 86 11) x1 (α 98 (u882 : Int).toNat)).1 (by have := p0 (u882 : Int).toNat (by omega); omega); have hq4 := (show σ940 86 23 = u882 from (congrFun (congrFun e941 86) 23).trans rfl); omega) (by omega)
          · skip
            refine qr_goto 87 rfl rfl ?_
            refine qr_iinc _ 90 rfl g881 (by decide) rfl rfl ?_
            refine qr_goto 7 rfl rfl ?_
            exact ih896 _ u880 (u882 + 1) σ883 α884 (by omega) (qm_gk g875 (by decide) (Or.inl (by decide))) (qm_gk g876 (by decide) (Or.inl (by decide))) (qm_gk g877 (by decide) (Or.inl (by decide))) (qm_gk g878 (by decide) (Or.inl (by decide))) (qm_gk g879 (by decide) (Or.inr rfl)) (qm_ge _ _ _) hf891 (by omega) hI885 hF886 ((hk887).trans rfl) ((hk888).trans rfl) ((hk889).trans rfl) ((hk890).trans rfl) (by have hq0 := qnk_s (qoF (α 99) (qsh (α 87) 32) (σ 86 22) x3) (qcF (qd9 (α 94) (α 95) (σ 86 11)) (α 97) (α 98) (α 100) x1 x2) (i := u882) (by omega); have hq1 := qoF_a (α 99) (qsh (α 87) 32) (σ 86 22) x3 (i := u882) (by omega); have hq2 := (show (qcF (qd9 (α 94) (α 95) (σ 86 11)) (α 97) (α 98) (α 100) x1 x2) ((u882 : Int).toNat) = qcl _ _ _ _ _ from rfl); have hq3 := (show σ883 86 23 = (σ883 86 23) from rfl); omega) (by omega)
  exact hL895 ((40 - 0 + 1 : Int)).toNat _ 99 0 σ α (by omega) rfl rfl rfl rfl rfl rfl (by decide) (by decide) hI hF0 (rfl) (rfl) (rfl) (rfl) ⟨Or.inl ⟨rfl, rfl⟩, fun _ => rfl⟩ (by omega)
end
