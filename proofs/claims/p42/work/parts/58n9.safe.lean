/-! the reference's customs, safe: out of the exact contract -/
theorem sf_213_86 {L : Nat} {xs : Nat → Int} {vb : Bool} {d : Nat} {σ α : Nat → Nat → Int} {κ : Nat → Option Nat} {ρ : Nat} {x1 : Int} {x2 : Int} (hI : qI σ α κ ρ) (r1 : (-1) ≤ x1 ∧ x1 ≤ 120) (r2 : 0 ≤ x2 ∧ x2 ≤ 120) : qm_T (qe L xs vb) (d + 45) 213 [.ref 86, .int (qz x1), .int (qz x2)] (qw σ α κ ρ) (fun r w' => ∃ σ', w' = qw σ' α κ ρ ∧ qI σ' α κ ρ ∧ qFr [(86, 35), (86, 36), (86, 37), (86, 38), (86, 39)] [] σ α σ' α ∧ ∃ v : Int, r = some (.int (qz v)) ∧ ((-2147483648) ≤ v ∧ v ≤ 2147483647)) := by
  refine qr_mono (sf_213_86x (d := d) hI r1 r2) ?_
  rintro r w' ⟨σ', h1, h2, h3, v, h4, h5, h6, h7⟩
  exact ⟨σ', h1, h2, h3, v, h4, h5⟩

set_option maxHeartbeats 4000000 in
set_option maxRecDepth 20000 in
/-- OneRoofModel.gives -/
theorem sf_228_86 {L : Nat} {xs : Nat → Int} {vb : Bool} {d : Nat} {σ α : Nat → Nat → Int} {κ : Nat → Option Nat} {ρ : Nat} {x1 : Int} {x2 : Int} {x3 : Int} {x4 : Int} {x5 : Int} {x6 : Int} (hI : qI σ α κ ρ) (r1 : 0 ≤ x1 ∧ x1 ≤ 1) (r2 : 0 ≤ x2 ∧ x2 ≤ 31) (r3 : 0 ≤ x3 ∧ x3 ≤ 31) (r4 : (-1) ≤ x4 ∧ x4 ≤ 31) (r5 : (-9223372036854775808) ≤ x5 ∧ x5 ≤ 9223372036854775807) (r6 : (-2147483648) ≤ x6 ∧ x6 ≤ 2147483647) (p0 : 1 ≤ σ 86 6) : qm_T (qe L xs vb) (d + 46) 228 [.ref 86, .int (qz x1), .int (qz x2), .int (qz x3), .int (qz x4), .long (ql x5), .int (qz x6)] (qw σ α κ ρ) (fun r w' => ∃ σ' α', w' = qw σ' α' κ ρ ∧ qI σ' α' κ ρ ∧ qFr [(86, 15), (86, 23), (86, 30), (86, 35), (86, 36), (86, 37), (86, 38), (86, 39)] [96, 109] σ α σ' α' ∧ ∃ v : Int, r = some (.int (qz v)) ∧ ((-2147483648) ≤ v ∧ v ≤ 2147483647)) := by
  refine qr_start (d := d + 45) qv_e228 (Nat.le_of_ble_eq_true rfl) ?_
  show qr_W (qe L xs vb) (d + 45) qx_e228 _ (0, [(0, .ref 86), (1, .int (qz x1)), (2, .int (qz x2)), (3, .int (qz x3)), (4, .int (qz x4)), (5, .long (ql x5)), (7, .int (qz x6))], [], _, 0, 0)
  have hF0 := qFr_rf [(86, 15), (86, 23), (86, 30), (86, 35), (86, 36), (86, 37), (86, 38), (86, 39)] [96, 109] σ α
  have hz86_6 : 0 ≤ σ 86 6 ∧ σ 86 6 ≤ 32 := hI.1 86 6
  refine qr_aload_n 1 rfl rfl rfl ?_
  refine qr_iload_n 2 rfl rfl rfl ?_
  refine qr_iload_n 3 rfl rfl rfl ?_
  refine qr_iload 5 rfl rfl rfl ?_
  refine qr_callN 8 rfl rfl rfl (sf_195_86 (d := d + 40) hI (by omega) (by omega) (by omega)) ?_
  rintro _ _ ⟨σ2, α3, rfl, hI4, hG5, v1, rfl, hv1⟩
  have hF6 : qFr [(86, 15), (86, 23), (86, 30), (86, 35), (86, 36), (86, 37), (86, 38), (86, 39)] [96, 109] σ α σ2 α3 := qFr_t hF0 hG5 (by decide) (by decide)
  show qr_W (qe L xs vb) (d + 45) qx_e228 _ (8, _, [.int (qz v1)], qw σ2 α3 κ ρ, 0, 0)
  refine qr_istore _ 10 rfl (by decide) rfl rfl ?_
  refine qr_aload_n 11 rfl rfl rfl ?_
  refine qr_get 14 rfl rfl rfl (by decide) rfl ?_
  refine qr_iconst 15 rfl rfl ?_
  refine qr_iload 17 rfl rfl rfl ?_
  refine qr_bipush 19 rfl (by decide) rfl ?_
  have hJ17 : ∀ (ls : qm_L) (u15 : Int), qm_get ls 0 = some (.ref 86) → qm_get ls 1 = some (.int (qz x1)) → qm_get ls 2 = some (.int (qz x2)) → qm_get ls 3 = some (.int (qz x3)) → qm_get ls 4 = some (.int (qz x4)) → qm_get ls 5 = some (.long (ql x5)) → qm_get ls 7 = some (.int (qz x6)) → qm_get ls 8 = some (.int (qz v1)) → (0 ≤ u15 ∧ u15 ≤ 1) → qr_W (qe L xs vb) (d + 45) qx_e228 (fun r w' => ∃ σ' α', w' = qw σ' α' κ ρ ∧ qI σ' α' κ ρ ∧ qFr [(86, 15), (86, 23), (86, 30), (86, 35), (86, 36), (86, 37), (86, 38), (86, 39)] [96, 109] σ α σ' α' ∧ ∃ v : Int, r = some (.int (qz v)) ∧ ((-2147483648) ≤ v ∧ v ≤ 2147483647)) (27, ls, [.int (qz u15), .int (qz 0), .ref 109], qw σ2 α3 κ ρ, 0, 0) := by
    intro ls u15 g7 g8 g9 g10 g11 g12 g13 g14 hf16
    refine qr_iastore 28 rfl (by decide) rfl (by omega) (by decide) rfl ?_
    refine qy_wA (qw_r α3 109 (qzu (α3 109) (0 : Int).toNat u15)) rfl (fun α18 e19 => ?_)
    have hI20 : qI σ2 α18 κ ρ := by rw [e19]; exact qI_r hI4 109 _ rfl (show (-2147483648) ≤ u15 ∧ u15 ≤ 2147483647 by omega)
    have hF21 : qFr [(86, 15), (86, 23), (86, 30), (86, 35), (86, 36), (86, 37), (86, 38), (86, 39)] [96, 109] σ α σ2 α18 := by rw [e19]; exact qFr_r hF6 109 _ (by decide)
    refine qr_aload_n 29 rfl g7 rfl ?_
    refine qr_get 32 rfl rfl rfl (by decide) rfl ?_
    refine qr_iconst 33 rfl rfl ?_
    refine qr_iload 35 rfl g14 rfl ?_
    refine qr_bipush 37 rfl (by decide) rfl ?_
    have hJ31 : ∀ (ls : qm_L) (u29 : Int), qm_get ls 0 = some (.ref 86) → qm_get ls 1 = some (.int (qz x1)) → qm_get ls 2 = some (.int (qz x2)) → qm_get ls 3 = some (.int (qz x3)) → qm_get ls 4 = some (.int (qz x4)) → qm_get ls 5 = some (.long (ql x5)) → qm_get ls 7 = some (.int (qz x6)) → ((-2147483648) ≤ u29 ∧ u29 ≤ 2147483647) → qr_W (qe L xs vb) (d + 45) qx_e228 (fun r w' => ∃ σ' α', w' = qw σ' α' κ ρ ∧ qI σ' α' κ ρ ∧ qFr [(86, 15), (86, 23), (86, 30), (86, 35), (86, 36), (86, 37), (86, 38), (86, 39)] [96, 109] σ α σ' α' ∧ ∃ v : Int, r = some (.int (qz v)) ∧ ((-2147483648) ≤ v ∧ v ≤ 2147483647)) (47, ls, [.int (qz u29), .int (qz 1), .ref 109], qw σ2 α18 κ ρ, 0, 0) := by
      intro ls u29 g22 g23 g24 g25 g26 g27 g28 hf30
      refine qr_iastore 48 rfl (by decide) rfl (by omega) (by decide) rfl ?_
      refine qy_wA (qw_r α18 109 (qzu (α18 109) (1 : Int).toNat u29)) rfl (fun α32 e33 => ?_)
      have hI34 : qI σ2 α32 κ ρ := by rw [e33]; exact qI_r hI20 109 _ rfl (show (-2147483648) ≤ u29 ∧ u29 ≤ 2147483647 by omega)
      have hF35 : qFr [(86, 15), (86, 23), (86, 30), (86, 35), (86, 36), (86, 37), (86, 38), (86, 39)] [96, 109] σ α σ2 α32 := by rw [e33]; exact qFr_r hF21 109 _ (by decide)
      refine qr_aload_n 49 rfl g22 rfl ?_
      refine qr_get 52 rfl rfl rfl (by decide) rfl ?_
      refine qr_iconst 53 rfl rfl ?_
      refine qr_aload_n 54 rfl g22 rfl ?_
      refine qr_iload_n 55 rfl g24 rfl ?_
      refine qr_iload_n 56 rfl g25 rfl ?_
      refine qr_iload 58 rfl g28 rfl ?_
      have hs36 : 0 ≤ σ2 86 6 ∧ σ2 86 6 ≤ 32 := hI34.1 86 6
      have hs37 : σ2 86 6 = (σ 86 6) := (hG5.1 86 6 (by decide)).trans rfl
      refine qr_callN 61 rfl rfl rfl (sf_209_86 (d := d + 41) hI34 (by omega) (by omega) (by omega) (by omega)) ?_
      rintro _ _ ⟨σ39, rfl, hI40, hG41, v38, rfl, hv38⟩
      have hF42 : qFr [(86, 15), (86, 23), (86, 30), (86, 35), (86, 36), (86, 37), (86, 38), (86, 39)] [96, 109] σ α σ39 α32 := qFr_t hF35 hG41 (by decide) (by decide)
      show qr_W (qe L xs vb) (d + 45) qx_e228 _ (61, _, [.int (qz v38), .int (qz 2), .ref 109], qw σ39 α32 κ ρ, 0, 0)
      refine qr_iastore 62 rfl (by decide) rfl (by omega) (by decide) rfl ?_
      refine qy_wA (qw_r α32 109 (qzu (α32 109) (2 : Int).toNat v38)) rfl (fun α43 e44 => ?_)
      have hI45 : qI σ39 α43 κ ρ := by rw [e44]; exact qI_r hI40 109 _ rfl (show (-2147483648) ≤ v38 ∧ v38 ≤ 2147483647 by omega)
      have hF46 : qFr [(86, 15), (86, 23), (86, 30), (86, 35), (86, 36), (86, 37), (86, 38), (86, 39)] [96, 109] σ α σ39 α43 := by rw [e44]; exact qFr_r hF42 109 _ (by decide)
      refine qr_aload_n 63 rfl g22 rfl ?_
      refine qr_get 66 rfl rfl rfl (by decide) rfl ?_
      refine qr_iconst 67 rfl rfl ?_
      refine qr_aload_n 68 rfl g22 rfl ?_
      refine qr_get 71 rfl rfl rfl (by decide) rfl ?_
      refine qr_iconst 72 rfl rfl ?_
      refine qr_iload_n 73 rfl g24 rfl ?_
      refine qr_iadd 74 rfl rfl ?_
      refine qr_iaload 75 rfl rfl (by omega) (by decide) rfl ?_
      refine qr_topI (fun v47 hv47 => ?_)
      have hs48 : (-2147483648) ≤ v47 ∧ v47 ≤ 2147483647 := by rw [hv47]; exact hI45.2.1 87 _ (show _ < 252 by omega)
      refine qr_iastore 76 rfl (by decide) rfl (by omega) (by decide) rfl ?_
      refine qy_wA (qw_r α43 109 (qzu (α43 109) (3 : Int).toNat v47)) rfl (fun α49 e50 => ?_)
      have hI51 : qI σ39 α49 κ ρ := by rw [e50]; exact qI_r hI45 109 _ rfl (show (-2147483648) ≤ v47 ∧ v47 ≤ 2147483647 by omega)
      have hF52 : qFr [(86, 15), (86, 23), (86, 30), (86, 35), (86, 36), (86, 37), (86, 38), (86, 39)] [96, 109] σ α σ39 α49 := by rw [e50]; exact qFr_r hF46 109 _ (by decide)
      refine qr_aload_n 77 rfl g22 rfl ?_
      refine qr_get 80 rfl rfl rfl (by decide) rfl ?_
      refine qr_iconst 81 rfl rfl ?_
      refine qr_aload_n 82 rfl g22 rfl ?_
      refine qr_get 85 rfl rfl rfl (by decide) rfl ?_
      refine qr_iconst 86 rfl rfl ?_
      refine qr_iload_n 87 rfl g25 rfl ?_
      refine qr_iadd 88 rfl rfl ?_
      refine qr_iaload 89 rfl rfl (by omega) (by decide) rfl ?_
      refine qr_topI (fun v53 hv53 => ?_)
      have hs54 : (-2147483648) ≤ v53 ∧ v53 ≤ 2147483647 := by rw [hv53]; exact hI51.2.1 87 _ (show _ < 252 by omega)
      refine qr_iastore 90 rfl (by decide) rfl (by omega) (by decide) rfl ?_
      refine qy_wA (qw_r α49 109 (qzu (α49 109) (4 : Int).toNat v53)) rfl (fun α55 e56 => ?_)
      have hI57 : qI σ39 α55 κ ρ := by rw [e56]; exact qI_r hI51 109 _ rfl (show (-2147483648) ≤ v53 ∧ v53 ≤ 2147483647 by omega)
      have hF58 : qFr [(86, 15), (86, 23), (86, 30), (86, 35), (86, 36), (86, 37), (86, 38), (86, 39)] [96, 109] σ α σ39 α55 := by rw [e56]; exact qFr_r hF52 109 _ (by decide)
      refine qr_aload_n 91 rfl g22 rfl ?_
      refine qr_get 94 rfl rfl rfl (by decide) rfl ?_
      refine qr_iconst 95 rfl rfl ?_
      refine qr_aload_n 96 rfl g22 rfl ?_
      refine qr_iload_n 97 rfl g25 rfl ?_
      refine qr_iload_n 98 rfl g24 rfl ?_
      have hs59 : 0 ≤ σ39 86 6 ∧ σ39 86 6 ≤ 32 := hI57.1 86 6
      have hs60 : σ39 86 6 = (σ 86 6) := (hG41.1 86 6 (by decide)).trans ((hG5.1 86 6 (by decide)).trans rfl)
      refine qr_callN 101 rfl rfl rfl (sf_207_86 (d := d + 44) hI57 (by omega) (by omega) (by omega)) ?_
      rintro _ _ ⟨rfl, v61, rfl, hv61⟩
      show qr_W (qe L xs vb) (d + 45) qx_e228 _ (101, _, [.int (qz v61), .int (qz 5), .ref 109], qw σ39 α55 κ ρ, 0, 0)
      have hJ70 : ∀ (ls : qm_L) (u68 : Int), qm_get ls 0 = some (.ref 86) → qm_get ls 1 = some (.int (qz x1)) → qm_get ls 2 = some (.int (qz x2)) → qm_get ls 3 = some (.int (qz x3)) → qm_get ls 4 = some (.int (qz x4)) → qm_get ls 5 = some (.long (ql x5)) → (0 ≤ u68 ∧ u68 ≤ 1) → qr_W (qe L xs vb) (d + 45) qx_e228 (fun r w' => ∃ σ' α', w' = qw σ' α' κ ρ ∧ qI σ' α' κ ρ ∧ qFr [(86, 15), (86, 23), (86, 30), (86, 35), (86, 36), (86, 37), (86, 38), (86, 39)] [96, 109] σ α σ' α' ∧ ∃ v : Int, r = some (.int (qz v)) ∧ ((-2147483648) ≤ v ∧ v ≤ 2147483647)) (109, ls, [.int (qz u68), .int (qz 5), .ref 109], qw σ39 α55 κ ρ, 0, 0) := by
        intro ls u68 g62 g63 g64 g65 g66 g67 hf69
        refine qr_iastore 110 rfl (by decide) rfl (by omega) (by decide) rfl ?_
        refine qy_wA (qw_r α55 109 (qzu (α55 109) (5 : Int).toNat u68)) rfl (fun α71 e72 => ?_)
        have hI73 : qI σ39 α71 κ ρ := by rw [e72]; exact qI_r hI57 109 _ rfl (show (-2147483648) ≤ u68 ∧ u68 ≤ 2147483647 by omega)
        have hF74 : qFr [(86, 15), (86, 23), (86, 30), (86, 35), (86, 36), (86, 37), (86, 38), (86, 39)] [96, 109] σ α σ39 α71 := by rw [e72]; exact qFr_r hF58 109 _ (by decide)
        refine qr_aload_n 111 rfl g62 rfl ?_
        refine qr_get 114 rfl rfl rfl (by decide) rfl ?_
        refine qr_bipush 116 rfl (by decide) rfl ?_
        refine qr_aload_n 117 rfl g62 rfl ?_
        refine qr_iload_n 118 rfl g64 rfl ?_
        refine qr_iload_n 119 rfl g65 rfl ?_
        refine qr_callN 122 rfl rfl rfl (sf_187_86 (d := d + 42) hI73 (by omega) (by omega)) ?_
        rintro _ _ ⟨σ78, α79, rfl, hI80, hG81, hw77, v75, rfl, hv75, hp76⟩
        have hF82 : qFr [(86, 15), (86, 23), (86, 30), (86, 35), (86, 36), (86, 37), (86, 38), (86, 39)] [96, 109] σ α σ78 α79 := qFr_t hF74 hG81 (by decide) (by decide)
        have hs83 : 0 ≤ σ78 86 15 ∧ σ78 86 15 ≤ 1 := hI80.1 86 15
        show qr_W (qe L xs vb) (d + 45) qx_e228 _ (122, _, [.int (qz v75), .int (qz 6), .ref 109], qw σ78 α79 κ ρ, 0, 0)
        refine qr_bipush 124 rfl (by decide) rfl ?_
        have hJ105 : ∀ (ls : qm_L) (u98 : Int) (σ99 α100 : Nat → Nat → Int), qm_get ls 0 = some (.ref 86) → qm_get ls 1 = some (.int (qz x1)) → qm_get ls 2 = some (.int (qz x2)) → qm_get ls 4 = some (.int (qz x4)) → qm_get ls 5 = some (.long (ql x5)) → (0 ≤ u98 ∧ u98 ≤ 99) → qI σ99 α100 κ ρ → qFr [(86, 15), (86, 23), (86, 30), (86, 35), (86, 36), (86, 37), (86, 38), (86, 39)] [96, 109] σ α σ99 α100 → σ99 86 6 = (σ 86 6) → qr_W (qe L xs vb) (d + 45) qx_e228 (fun r w' => ∃ σ' α', w' = qw σ' α' κ ρ ∧ qI σ' α' κ ρ ∧ qFr [(86, 15), (86, 23), (86, 30), (86, 35), (86, 36), (86, 37), (86, 38), (86, 39)] [96, 109] σ α σ' α' ∧ ∃ v : Int, r = some (.int (qz v)) ∧ ((-2147483648) ≤ v ∧ v ≤ 2147483647)) (138, ls, [.int (qz u98), .int (qz 6), .ref 109], qw σ99 α100 κ ρ, 0, 0) := by
          intro ls u98 σ99 α100 g93 g94 g95 g96 g97 hf104 hI101 hF102 hk103
          refine qr_iastore 139 rfl (by decide) rfl (by omega) (by decide) rfl ?_
          refine qy_wA (qw_r α100 109 (qzu (α100 109) (6 : Int).toNat u98)) rfl (fun α106 e107 => ?_)
          have hI108 : qI σ99 α106 κ ρ := by rw [e107]; exact qI_r hI101 109 _ rfl (show (-2147483648) ≤ u98 ∧ u98 ≤ 2147483647 by omega)
          have hF109 : qFr [(86, 15), (86, 23), (86, 30), (86, 35), (86, 36), (86, 37), (86, 38), (86, 39)] [96, 109] σ α σ99 α106 := by rw [e107]; exact qFr_r hF102 109 _ (by decide)
          refine qr_aload_n 140 rfl g93 rfl ?_
          refine qr_get 143 rfl rfl rfl (by decide) rfl ?_
          refine qr_bipush 145 rfl (by decide) rfl ?_
          refine qr_iconst 146 rfl rfl ?_
          refine qr_iastore 147 rfl (by decide) rfl (by omega) (by decide) rfl ?_
          refine qy_wA (qw_r α106 109 (qzu (α106 109) (7 : Int).toNat 0)) rfl (fun α110 e111 => ?_)
          have hI112 : qI σ99 α110 κ ρ := by rw [e111]; exact qI_r hI108 109 _ rfl (show (-2147483648) ≤ 0 ∧ 0 ≤ 2147483647 by omega)
          have hF113 : qFr [(86, 15), (86, 23), (86, 30), (86, 35), (86, 36), (86, 37), (86, 38), (86, 39)] [96, 109] σ α σ99 α110 := by rw [e111]; exact qFr_r hF109 109 _ (by decide)
          refine qr_iconst 148 rfl rfl ?_
          refine qr_istore _ 150 rfl (by decide) rfl rfl ?_
          have hL3049 : ∀ (n : Nat) (ls : qm_L) (u3043 : Int) (α3045 : Nat → Nat → Int), 32 - u3043 < (n : Int) → qm_get ls 0 = some (.ref 86) → qm_get ls 1 = some (.int (qz x1)) → qm_get ls 2 = some (.int (qz x2)) → qm_get ls 4 = some (.int (qz x4)) → qm_get ls 5 = some (.long (ql x5)) → qm_get ls 9 = some (.int (qz u3043)) → (0 ≤ u3043 ∧ u3043 ≤ 32) → qI σ99 α3045 κ ρ → qFr [(86, 15), (86, 23), (86, 30), (86, 35), (86, 36), (86, 37), (86, 38), (86, 39)] [96, 109] σ α σ99 α3045 → qr_W (qe L xs vb) (d + 45) qx_e228 (fun r w' => ∃ σ' α', w' = qw σ' α' κ ρ ∧ qI σ' α' κ ρ ∧ qFr [(86, 15), (86, 23), (86, 30), (86, 35), (86, 36), (86, 37), (86, 38), (86, 39)] [96, 109] σ α σ' α' ∧ ∃ v : Int, r = some (.int (qz v)) ∧ ((-2147483648) ≤ v ∧ v ≤ 2147483647)) (150, ls, [], qw σ99 α3045 κ ρ, 0, 0) := by
            intro n
            induction n with
            | zero => intro ls u3043 α3045 hm g3037 g3038 g3039 g3040 g3041 g3042 hf3048 hI3046 hF3047; exact False.elim (by omega)
            | succ n ih3050 =>
              intro ls u3043 α3045 hm g3037 g3038 g3039 g3040 g3041 g3042 hf3048 hI3046 hF3047
              refine qr_iload 152 rfl g3042 rfl ?_
              refine qr_aload_n 153 rfl g3037 rfl ?_
              refine qr_get 156 rfl rfl rfl (by decide) rfl ?_
              refine qy_v (σ 86 6) ((hk103).trans rfl) ?_
              refine qr_icmp_ge 251 159 rfl rfl rfl (by omega) (by omega) (fun h3114 => ?_) (fun h3114 => ?_)
              · skip
                refine qr_aload_n 252 rfl g3037 rfl ?_
                refine qr_get 255 rfl rfl rfl (by decide) rfl ?_
                refine qr_bipush 257 rfl (by decide) rfl ?_
                refine qr_iload 259 rfl g3040 rfl ?_
                have hJ3142 : ∀ (ls : qm_L) (u3135 : Int) (σ3136 α3137 : Nat → Nat → Int), qm_get ls 0 = some (.ref 86) → qm_get ls 1 = some (.int (qz x1)) → (0 ≤ u3135 ∧ u3135 ≤ 99) → qI σ3136 α3137 κ ρ → qFr [(86, 15), (86, 23), (86, 30), (86, 35), (86, 36), (86, 37), (86, 38), (86, 39)] [96, 109] σ α σ3136 α3137 → σ3136 86 6 = (σ 86 6) → qr_W (qe L xs vb) (d + 45) qx_e228 (fun r w' => ∃ σ' α', w' = qw σ' α' κ ρ ∧ qI σ' α' κ ρ ∧ qFr [(86, 15), (86, 23), (86, 30), (86, 35), (86, 36), (86, 37), (86, 38), (86, 39)] [96, 109] σ α σ' α' ∧ ∃ v : Int, r = some (.int (qz v)) ∧ ((-2147483648) ≤ v ∧ v ≤ 2147483647)) (290, ls, [.int (qz u3135), .int (qz 8), .ref 109], qw σ3136 α3137 κ ρ, 0, 0) := by
                  intro ls u3135 σ3136 α3137 g3133 g3134 hf3141 hI3138 hF3139 hk3140
                  refine qr_iastore 291 rfl (by decide) rfl (by omega) (by decide) rfl ?_
                  refine qy_wA (qw_r α3137 109 (qzu (α3137 109) (8 : Int).toNat u3135)) rfl (fun α3143 e3144 => ?_)
                  have hI3145 : qI σ3136 α3143 κ ρ := by rw [e3144]; exact qI_r hI3138 109 _ rfl (show (-2147483648) ≤ u3135 ∧ u3135 ≤ 2147483647 by omega)
                  have hF3146 : qFr [(86, 15), (86, 23), (86, 30), (86, 35), (86, 36), (86, 37), (86, 38), (86, 39)] [96, 109] σ α σ3136 α3143 := by rw [e3144]; exact qFr_r hF3139 109 _ (by decide)
                  refine qr_aload_n 292 rfl g3133 rfl ?_
                  refine qr_get 295 rfl rfl rfl (by decide) rfl ?_
                  refine qr_iload_n 296 rfl g3134 rfl ?_
                  refine qr_iaload 297 rfl rfl (by omega) (by decide) rfl ?_
                  refine qr_topI (fun v3147 hv3147 => ?_)
                  have hs3148 : (-1) ≤ v3147 ∧ v3147 ≤ 120 := by rw [hv3147]; exact hI3145.2.1 108 _ (show _ < 2 by omega)
                  refine qr_if_lt 315 300 rfl rfl rfl (by omega) (fun h3149 => ?_) (fun h3149 => ?_)
                  · skip
                    refine qr_iload_n 316 rfl g3134 rfl ?_
                    have hJ3160 : ∀ (ls : qm_L) (u3158 : Int), (0 ≤ u3158 ∧ u3158 ≤ 1) → qr_W (qe L xs vb) (d + 45) qx_e228 (fun r w' => ∃ σ' α', w' = qw σ' α' κ ρ ∧ qI σ' α' κ ρ ∧ qFr [(86, 15), (86, 23), (86, 30), (86, 35), (86, 36), (86, 37), (86, 38), (86, 39)] [96, 109] σ α σ' α' ∧ ∃ v : Int, r = some (.int (qz v)) ∧ ((-2147483648) ≤ v ∧ v ≤ 2147483647)) (372, ls, [.int (qz u3158)], qw σ3136 α3143 κ ρ, 0, 0) := by
                      intro ls u3158 hf3159
                      refine qr_istore _ 374 rfl (by decide) rfl rfl ?_
                      refine qr_iload 376 rfl (qm_ge _ _ _) rfl ?_
                      refine qr_if_eq 383 379 rfl rfl rfl (by omega) (fun h3161 => ?_) (fun h3161 => ?_)
                      · skip
                        refine qr_iconst 384 rfl rfl ?_
                        refine qr_retI rfl rfl (by decide) (by decide) ?_
                        exact ⟨_, _, rfl, hI3145, hF3146, 0, rfl, by omega⟩
                      · skip
                        refine qr_iconst 380 rfl rfl ?_
                        refine qr_goto 384 rfl rfl ?_
                        refine qr_retI rfl rfl (by decide) (by decide) ?_
                        exact ⟨_, _, rfl, hI3145, hF3146, 1, rfl, by omega⟩
                    refine qr_if_ne 346 319 rfl rfl rfl (by omega) (fun h3162 => ?_) (fun h3162 => ?_)
                    · skip
                      refine qr_aload_n 347 rfl g3133 rfl ?_
                      refine qr_get 350 rfl rfl rfl (by decide) rfl ?_
                      refine qr_bipush 352 rfl (by decide) rfl ?_
                      refine qr_iaload 353 rfl rfl (by omega) (by decide) rfl ?_
                      refine qr_topI (fun v3163 hv3163 => ?_)
                      have hs3164 : (-2147483648) ≤ v3163 ∧ v3163 ≤ 2147483647 := by rw [hv3163]; exact hI3145.2.1 109 _ (show _ < 9 by omega)
                      refine qr_iconst 354 rfl rfl ?_
                      refine qr_icmp_ge 371 357 rfl rfl rfl (by omega) (by omega) (fun h3165 => ?_) (fun h3165 => ?_)
                      · skip
                        refine qr_iconst 372 rfl rfl ?_
                        exact hJ3160 _ 0 (by omega)
                      · skip
                        refine qr_aload_n 358 rfl g3133 rfl ?_
                        refine qr_get 361 rfl rfl rfl (by decide) rfl ?_
                        refine qr_iconst 362 rfl rfl ?_
                        refine qr_iaload 363 rfl rfl (by omega) (by decide) rfl ?_
                        refine qr_topI (fun v3166 hv3166 => ?_)
                        have hs3167 : (-2147483648) ≤ v3166 ∧ v3166 ≤ 2147483647 := by rw [hv3166]; exact hI3145.2.1 109 _ (show _ < 9 by omega)
                        refine qr_iconst 364 rfl rfl ?_
                        refine qr_icmp_ne 371 367 rfl rfl rfl (by omega) (by omega) (fun h3168 => ?_) (fun h3168 => ?_)
                        · skip
                          refine qr_iconst 372 rfl rfl ?_
                          exact hJ3160 _ 0 (by omega)
                        · skip
                          refine qr_iconst 368 rfl rfl ?_
                          refine qr_goto 372 rfl rfl ?_
                          exact hJ3160 _ 1 (by omega)
                    · skip
                      refine qr_aload_n 320 rfl g3133 rfl ?_
                      refine qr_get 323 rfl rfl rfl (by decide) rfl ?_
                      refine qr_iconst 324 rfl rfl ?_
                      refine qr_iaload 325 rfl rfl (by omega) (by decide) rfl ?_
                      refine qr_topI (fun v3169 hv3169 => ?_)
                      have hs3170 : (-2147483648) ≤ v3169 ∧ v3169 ≤ 2147483647 := by rw [hv3169]; exact hI3145.2.1 109 _ (show _ < 9 by omega)
                      refine qr_iconst 326 rfl rfl ?_
                      refine qr_icmp_ne 342 329 rfl rfl rfl (by omega) (by omega) (fun h3171 => ?_) (fun h3171 => ?_)
                      · skip
                        refine qr_iconst 343 rfl rfl ?_
                        refine qr_goto 372 rfl rfl ?_
                        exact hJ3160 _ 0 (by omega)
                      · skip
                        refine qr_aload_n 330 rfl g3133 rfl ?_
                        refine qr_get 333 rfl rfl rfl (by decide) rfl ?_
                        refine qr_iconst 334 rfl rfl ?_
                        refine qr_iaload 335 rfl rfl (by omega) (by decide) rfl ?_
                        refine qr_topI (fun v3172 hv3172 => ?_)
                        have hs3173 : (-2147483648) ≤ v3172 ∧ v3172 ≤ 2147483647 := by rw [hv3172]; exact hI3145.2.1 109 _ (show _ < 9 by omega)
                        refine qr_if_ne 342 338 rfl rfl rfl (by omega) (fun h3174 => ?_) (fun h3174 => ?_)
                        · skip
                          refine qr_iconst 343 rfl rfl ?_
                          refine qr_goto 372 rfl rfl ?_
                          exact hJ3160 _ 0 (by omega)
                        · skip
                          refine qr_iconst 339 rfl rfl ?_
                          refine qr_goto 372 rfl rfl ?_
                          exact hJ3160 _ 1 (by omega)
                  · skip
                    refine qr_aload_n 301 rfl g3133 rfl ?_
                    refine qr_bipush 303 rfl (by decide) rfl ?_
                    refine qr_iload_n 304 rfl g3134 rfl ?_
                    refine qr_imul 305 rfl rfl ?_
                    refine qr_aload_n 306 rfl g3133 rfl ?_
                    refine qr_get 309 rfl rfl rfl (by decide) rfl ?_
                    refine qr_iload_n 310 rfl g3134 rfl ?_
                    refine qr_iaload 311 rfl rfl (by omega) (by decide) rfl ?_
                    refine qr_topI (fun v3175 hv3175 => ?_)
                    have hs3176 : (-1) ≤ v3175 ∧ v3175 ≤ 120 := by rw [hv3175]; exact hI3145.2.1 108 _ (show _ < 2 by omega)
                    refine qr_callN 314 rfl rfl rfl (sf_213_86 (d := d + 0) hI3145 (by omega) (by omega)) ?_
                    rintro _ _ ⟨σ3178, rfl, hI3179, hG3180, v3177, rfl, hv3177⟩
                    have hF3181 : qFr [(86, 15), (86, 23), (86, 30), (86, 35), (86, 36), (86, 37), (86, 38), (86, 39)] [96, 109] σ α σ3178 α3143 := qFr_t hF3146 hG3180 (by decide) (by decide)
                    show qr_W (qe L xs vb) (d + 45) qx_e228 _ (314, _, [.int (qz v3177)], qw σ3178 α3143 κ ρ, 0, 0)
                    refine qr_retI rfl rfl (by decide) (by decide) ?_
                    exact ⟨_, _, rfl, hI3179, hF3181, v3177, rfl, by omega⟩
                refine qr_if_ge 266 262 rfl rfl rfl (by omega) (fun h3182 => ?_) (fun h3182 => ?_)
                · skip
                  refine qr_aload_n 267 rfl g3037 rfl ?_
                  refine qr_iload_n 268 rfl g3039 rfl ?_
                  refine qr_iload 270 rfl g3040 rfl ?_
                  refine qr_callN 273 rfl rfl rfl (sf_187_86 (d := d + 42) hI3046 (by omega) (by omega)) ?_
                  rintro _ _ ⟨σ3186, α3187, rfl, hI3188, hG3189, hw3185, v3183, rfl, hv3183, hp3184⟩
                  have hF3190 : qFr [(86, 15), (86, 23), (86, 30), (86, 35), (86, 36), (86, 37), (86, 38), (86, 39)] [96, 109] σ α σ3186 α3187 := qFr_t hF3047 hG3189 (by decide) (by decide)
                  have hs3191 : 0 ≤ σ3186 86 15 ∧ σ3186 86 15 ≤ 1 := hI3188.1 86 15
                  show qr_W (qe L xs vb) (d + 45) qx_e228 _ (273, _, [.int (qz v3183), .int (qz 8), .ref 109], qw σ3186 α3187 κ ρ, 0, 0)
                  refine qr_bipush 275 rfl (by decide) rfl ?_
                  refine qr_icmp_ne 283 278 rfl rfl rfl (by omega) (by omega) (fun h3192 => ?_) (fun h3192 => ?_)
                  · skip
                    refine qr_aload_n 284 rfl g3037 rfl ?_
                    refine qr_iload_n 285 rfl g3039 rfl ?_
                    refine qr_iload 287 rfl g3040 rfl ?_
                    refine qr_callN 290 rfl rfl rfl (sf_187_86 (d := d + 42) hI3188 (by omega) (by omega)) ?_
                    rintro _ _ ⟨σ3196, α3197, rfl, hI3198, hG3199, hw3195, v3193, rfl, hv3193, hp3194⟩
                    have hF3200 : qFr [(86, 15), (86, 23), (86, 30), (86, 35), (86, 36), (86, 37), (86, 38), (86, 39)] [96, 109] σ α σ3196 α3197 := qFr_t hF3190 hG3199 (by decide) (by decide)
                    have hs3201 : 0 ≤ σ3196 86 15 ∧ σ3196 86 15 ≤ 1 := hI3198.1 86 15
                    show qr_W (qe L xs vb) (d + 45) qx_e228 _ (290, _, [.int (qz v3193), .int (qz 8), .ref 109], qw σ3196 α3197 κ ρ, 0, 0)
                    exact hJ3142 _ v3193 σ3196 α3197 g3037 g3038 (by omega) hI3198 hF3200 ((hG3199.1 86 6 (by decide)).trans ((hG3189.1 86 6 (by decide)).trans ((hk103).trans rfl)))
                  · skip
                    refine qr_bipush 280 rfl (by decide) rfl ?_
                    refine qr_goto 290 rfl rfl ?_
                    exact hJ3142 _ 9 σ3186 α3187 g3037 g3038 (by omega) hI3188 hF3190 ((hG3189.1 86 6 (by decide)).trans ((hk103).trans rfl))
                · skip
                  refine qr_iconst 263 rfl rfl ?_
                  refine qr_goto 290 rfl rfl ?_
                  exact hJ3142 _ 0 σ99 α3045 g3037 g3038 (by omega) hI3046 hF3047 ((hk103).trans rfl)
              · skip
                refine qr_lload 161 rfl g3041 rfl ?_
                refine qr_iload 163 rfl g3042 rfl ?_
                refine qr_lshr 164 rfl rfl ?_
                refine qy_canl (fun v3202 hv3202 => ?_)
                refine qr_lconst 165 rfl rfl ?_
                refine qy_vl 1 rfl ?_
                refine qr_land 166 rfl rfl ?_
                refine qy_canl (fun v3203 hv3203 => ?_)
                refine qr_lconst 167 rfl rfl ?_
                refine qy_vl 1 rfl ?_
                have hJ3232 : ∀ (ls : qm_L) (u3230 : Int), qm_get ls 0 = some (.ref 86) → qm_get ls 1 = some (.int (qz x1)) → qm_get ls 2 = some (.int (qz x2)) → qm_get ls 4 = some (.int (qz x4)) → qm_get ls 5 = some (.long (ql x5)) → qm_get ls 9 = some (.int (qz u3043)) → (0 ≤ u3230 ∧ u3230 ≤ 1) → qr_W (qe L xs vb) (d + 45) qx_e228 (fun r w' => ∃ σ' α', w' = qw σ' α' κ ρ ∧ qI σ' α' κ ρ ∧ qFr [(86, 15), (86, 23), (86, 30), (86, 35), (86, 36), (86, 37), (86, 38), (86, 39)] [96, 109] σ α σ' α' ∧ ∃ v : Int, r = some (.int (qz v)) ∧ ((-2147483648) ≤ v ∧ v ≤ 2147483647)) (223, ls, [.int (qz u3230)], qw σ99 α3045 κ ρ, 0, 0) := by
                  intro ls u3230 g3224 g3225 g3226 g3227 g3228 g3229 hf3231
                  refine qr_istore _ 225 rfl (by decide) rfl rfl ?_
                  refine qr_aload_n 226 rfl (qm_gk g3224 (by decide) (Or.inl (by decide))) rfl ?_
                  refine qr_get 229 rfl rfl rfl (by decide) rfl ?_
                  refine qr_bipush 231 rfl (by decide) rfl ?_
                  refine qr_dup2 232 rfl rfl rfl rfl ?_
                  refine qr_iaload 233 rfl rfl (by omega) (by decide) rfl ?_
                  refine qr_topI (fun v3233 hv3233 => ?_)
                  have hs3234 : (-2147483648) ≤ v3233 ∧ v3233 ≤ 2147483647 := by rw [hv3233]; exact hI3046.2.1 109 _ (show _ < 9 by omega)
                  refine qr_iload 235 rfl (qm_ge _ _ _) rfl ?_
                  have hJ3243 : ∀ (ls : qm_L) (u3241 : Int), qm_get ls 0 = some (.ref 86) → qm_get ls 1 = some (.int (qz x1)) → qm_get ls 2 = some (.int (qz x2)) → qm_get ls 4 = some (.int (qz x4)) → qm_get ls 5 = some (.long (ql x5)) → qm_get ls 9 = some (.int (qz u3043)) → (0 ≤ u3241 ∧ u3241 ≤ 1) → qr_W (qe L xs vb) (d + 45) qx_e228 (fun r w' => ∃ σ' α', w' = qw σ' α' κ ρ ∧ qI σ' α' κ ρ ∧ qFr [(86, 15), (86, 23), (86, 30), (86, 35), (86, 36), (86, 37), (86, 38), (86, 39)] [96, 109] σ α σ' α' ∧ ∃ v : Int, r = some (.int (qz v)) ∧ ((-2147483648) ≤ v ∧ v ≤ 2147483647)) (243, ls, [.int (qz u3241), .int (qz v3233), .int (qz 7), .ref 109], qw σ99 α3045 κ ρ, 0, 0) := by
                    intro ls u3241 g3235 g3236 g3237 g3238 g3239 g3240 hf3242
                    refine qr_iadd 244 rfl rfl ?_
                    refine qy_can (fun v3244 hv3244 => ?_)
                    refine qr_iastore 245 rfl (by decide) rfl (by omega) (by decide) rfl ?_
                    refine qy_wA (qw_r α3045 109 (qzu (α3045 109) (7 : Int).toNat v3244)) rfl (fun α3245 e3246 => ?_)
                    have hI3247 : qI σ99 α3245 κ ρ := by rw [e3246]; exact qI_r hI3046 109 _ rfl (show (-2147483648) ≤ v3244 ∧ v3244 ≤ 2147483647 by omega)
                    have hF3248 : qFr [(86, 15), (86, 23), (86, 30), (86, 35), (86, 36), (86, 37), (86, 38), (86, 39)] [96, 109] σ α σ99 α3245 := by rw [e3246]; exact qFr_r hF3047 109 _ (by decide)
                    refine qr_iinc _ 248 rfl g3240 (by decide) rfl rfl ?_
                    refine qr_goto 150 rfl rfl ?_
                    exact ih3050 _ (u3043 + 1) α3245 (by omega) (qm_gk g3235 (by decide) (Or.inl (by decide))) (qm_gk g3236 (by decide) (Or.inl (by decide))) (qm_gk g3237 (by decide) (Or.inl (by decide))) (qm_gk g3238 (by decide) (Or.inl (by decide))) (qm_gk g3239 (by decide) (Or.inl (by decide))) (qm_ge _ _ _) (by omega) hI3247 hF3248
                  refine qr_if_eq 242 238 rfl rfl rfl (by omega) (fun h3249 => ?_) (fun h3249 => ?_)
                  · skip
                    refine qr_iconst 243 rfl rfl ?_
                    exact hJ3243 _ 0 (qm_gk g3224 (by decide) (Or.inl (by decide))) (qm_gk g3225 (by decide) (Or.inl (by decide))) (qm_gk g3226 (by decide) (Or.inl (by decide))) (qm_gk g3227 (by decide) (Or.inl (by decide))) (qm_gk g3228 (by decide) (Or.inl (by decide))) (qm_gk g3229 (by decide) (Or.inr rfl)) (by omega)
                  · skip
                    refine qr_iconst 239 rfl rfl ?_
                    refine qr_goto 243 rfl rfl ?_
                    exact hJ3243 _ 1 (qm_gk g3224 (by decide) (Or.inl (by decide))) (qm_gk g3225 (by decide) (Or.inl (by decide))) (qm_gk g3226 (by decide) (Or.inl (by decide))) (qm_gk g3227 (by decide) (Or.inl (by decide))) (qm_gk g3228 (by decide) (Or.inl (by decide))) (qm_gk g3229 (by decide) (Or.inr rfl)) (by omega)
                refine qr_lc_ne 222 171 rfl rfl rfl rfl (by omega) (by omega) (fun h3250 => ?_) (fun h3250 => ?_)
                · skip
                  refine qr_iconst 223 rfl rfl ?_
                  exact hJ3232 _ 0 g3037 g3038 g3039 g3040 g3041 g3042 (by omega)
                · skip
                  refine qr_aload_n 172 rfl g3037 rfl ?_
                  refine qr_get 175 rfl rfl rfl (by decide) rfl ?_
                  have hs3251 : 0 ≤ σ99 86 41 ∧ σ99 86 41 ≤ 1 := hI3046.1 86 41
                  refine qr_if_ne 187 178 rfl rfl rfl (by omega) (fun h3252 => ?_) (fun h3252 => ?_)
                  · skip
                    refine qr_iload 189 rfl g3042 rfl ?_
                    refine qr_iload_n 190 rfl g3039 rfl ?_
                    refine qr_icmp_eq 218 193 rfl rfl rfl (by omega) (by omega) (fun h3253 => ?_) (fun h3253 => ?_)
                    · skip
                      refine qr_iconst 219 rfl rfl ?_
                      refine qr_goto 223 rfl rfl ?_
                      exact hJ3232 _ 1 g3037 g3038 g3039 g3040 g3041 g3042 (by omega)
                    · skip
                      refine qr_aload_n 194 rfl g3037 rfl ?_
                      refine qr_get 197 rfl rfl rfl (by decide) rfl ?_
                      refine qr_iload_n 198 rfl g3039 rfl ?_
                      refine qr_iaload 199 rfl rfl (by omega) (by decide) rfl ?_
                      refine qr_topI (fun v3254 hv3254 => ?_)
                      have hs3255 : (-1) ≤ v3254 ∧ v3254 ≤ 31 := by rw [hv3254]; exact hI3046.2.1 91 _ (show _ < 32 by omega)
                      have hs3256 := hI3046.2.2.2.2.2.2.1 (x2 : Int).toNat (by omega)
                      refine qr_if_lt 222 202 rfl rfl rfl (by omega) (fun h3257 => ?_) (fun h3257 => ?_)
                      · skip
                        refine qr_iconst 223 rfl rfl ?_
                        exact hJ3232 _ 0 g3037 g3038 g3039 g3040 g3041 g3042 (by omega)
                      · skip
                        refine qr_aload_n 203 rfl g3037 rfl ?_
                        refine qr_get 206 rfl rfl rfl (by decide) rfl ?_
                        refine qr_iload 208 rfl g3042 rfl ?_
                        refine qr_iaload 209 rfl rfl (by omega) (by decide) rfl ?_
                        refine qr_topI (fun v3258 hv3258 => ?_)
                        have hs3259 : (-1) ≤ v3258 ∧ v3258 ≤ 31 := by rw [hv3258]; exact hI3046.2.1 91 _ (show _ < 32 by omega)
                        have hs3260 := hI3046.2.2.2.2.2.2.1 (u3043 : Int).toNat (by omega)
                        refine qr_aload_n 210 rfl g3037 rfl ?_
                        refine qr_get 213 rfl rfl rfl (by decide) rfl ?_
                        refine qr_iload_n 214 rfl g3039 rfl ?_
                        refine qr_iaload 215 rfl rfl (by omega) (by decide) rfl ?_
                        refine qr_topI (fun v3261 hv3261 => ?_)
                        have hs3262 : (-1) ≤ v3261 ∧ v3261 ≤ 31 := by rw [hv3261]; exact hI3046.2.1 91 _ (show _ < 32 by omega)
                        have hs3263 := hI3046.2.2.2.2.2.2.1 (x2 : Int).toNat (by omega)
                        refine qr_icmp_ne 222 218 rfl rfl rfl (by omega) (by omega) (fun h3264 => ?_) (fun h3264 => ?_)
                        · skip
                          refine qr_iconst 223 rfl rfl ?_
                          exact hJ3232 _ 0 g3037 g3038 g3039 g3040 g3041 g3042 (by omega)
                        · skip
                          refine qr_iconst 219 rfl rfl ?_
                          refine qr_goto 223 rfl rfl ?_
                          exact hJ3232 _ 1 g3037 g3038 g3039 g3040 g3041 g3042 (by omega)
                  · skip
                    refine qr_aload_n 179 rfl g3037 rfl ?_
                    refine qr_iload 181 rfl g3042 rfl ?_
                    refine qr_callN 184 rfl rfl rfl (sf_181_86 (d := d + 44) hI3046 (by omega)) ?_
                    rintro _ _ ⟨rfl, v3265, rfl, hv3265⟩
                    show qr_W (qe L xs vb) (d + 45) qx_e228 _ (184, _, [.int (qz v3265)], qw σ99 α3045 κ ρ, 0, 0)
                    refine qr_if_ne 222 187 rfl rfl rfl (by omega) (fun h3266 => ?_) (fun h3266 => ?_)
                    · skip
                      refine qr_iconst 223 rfl rfl ?_
                      exact hJ3232 _ 0 g3037 g3038 g3039 g3040 g3041 g3042 (by omega)
                    · skip
                      refine qr_iload 189 rfl g3042 rfl ?_
                      refine qr_iload_n 190 rfl g3039 rfl ?_
                      refine qr_icmp_eq 218 193 rfl rfl rfl (by omega) (by omega) (fun h3267 => ?_) (fun h3267 => ?_)
                      · skip
                        refine qr_iconst 219 rfl rfl ?_
                        refine qr_goto 223 rfl rfl ?_
                        exact hJ3232 _ 1 g3037 g3038 g3039 g3040 g3041 g3042 (by omega)
                      · skip
                        refine qr_aload_n 194 rfl g3037 rfl ?_
                        refine qr_get 197 rfl rfl rfl (by decide) rfl ?_
                        refine qr_iload_n 198 rfl g3039 rfl ?_
                        refine qr_iaload 199 rfl rfl (by omega) (by decide) rfl ?_
                        refine qr_topI (fun v3268 hv3268 => ?_)
                        have hs3269 : (-1) ≤ v3268 ∧ v3268 ≤ 31 := by rw [hv3268]; exact hI3046.2.1 91 _ (show _ < 32 by omega)
                        have hs3270 := hI3046.2.2.2.2.2.2.1 (x2 : Int).toNat (by omega)
                        refine qr_if_lt 222 202 rfl rfl rfl (by omega) (fun h3271 => ?_) (fun h3271 => ?_)
                        · skip
                          refine qr_iconst 223 rfl rfl ?_
                          exact hJ3232 _ 0 g3037 g3038 g3039 g3040 g3041 g3042 (by omega)
                        · skip
                          refine qr_aload_n 203 rfl g3037 rfl ?_
                          refine qr_get 206 rfl rfl rfl (by decide) rfl ?_
                          refine qr_iload 208 rfl g3042 rfl ?_
                          refine qr_iaload 209 rfl rfl (by omega) (by decide) rfl ?_
                          refine qr_topI (fun v3272 hv3272 => ?_)
                          have hs3273 : (-1) ≤ v3272 ∧ v3272 ≤ 31 := by rw [hv3272]; exact hI3046.2.1 91 _ (show _ < 32 by omega)
                          have hs3274 := hI3046.2.2.2.2.2.2.1 (u3043 : Int).toNat (by omega)
                          refine qr_aload_n 210 rfl g3037 rfl ?_
                          refine qr_get 213 rfl rfl rfl (by decide) rfl ?_
                          refine qr_iload_n 214 rfl g3039 rfl ?_
                          refine qr_iaload 215 rfl rfl (by omega) (by decide) rfl ?_
                          refine qr_topI (fun v3275 hv3275 => ?_)
                          have hs3276 : (-1) ≤ v3275 ∧ v3275 ≤ 31 := by rw [hv3275]; exact hI3046.2.1 91 _ (show _ < 32 by omega)
                          have hs3277 := hI3046.2.2.2.2.2.2.1 (x2 : Int).toNat (by omega)
                          refine qr_icmp_ne 222 218 rfl rfl rfl (by omega) (by omega) (fun h3278 => ?_) (fun h3278 => ?_)
                          · skip
                            refine qr_iconst 223 rfl rfl ?_
                            exact hJ3232 _ 0 g3037 g3038 g3039 g3040 g3041 g3042 (by omega)
                          · skip
                            refine qr_iconst 219 rfl rfl ?_
                            refine qr_goto 223 rfl rfl ?_
                            exact hJ3232 _ 1 g3037 g3038 g3039 g3040 g3041 g3042 (by omega)
          exact hL3049 ((32 - 0 + 1 : Int)).toNat _ 0 α110 (by omega) (qm_gk g93 (by decide) (Or.inl (by decide))) (qm_gk g94 (by decide) (Or.inl (by decide))) (qm_gk g95 (by decide) (Or.inl (by decide))) (qm_gk g96 (by decide) (Or.inl (by decide))) (qm_gk g97 (by decide) (Or.inl (by decide))) (qm_ge _ _ _) (by omega) hI112 hF113
        refine qr_icmp_ne 132 127 rfl rfl rfl (by omega) (by omega) (fun h3279 => ?_) (fun h3279 => ?_)
        · skip
          refine qr_aload_n 133 rfl g62 rfl ?_
          refine qr_iload_n 134 rfl g64 rfl ?_
          refine qr_iload_n 135 rfl g65 rfl ?_
          refine qr_callN 138 rfl rfl rfl (sf_187_86 (d := d + 42) hI80 (by omega) (by omega)) ?_
          rintro _ _ ⟨σ3283, α3284, rfl, hI3285, hG3286, hw3282, v3280, rfl, hv3280, hp3281⟩
          have hF3287 : qFr [(86, 15), (86, 23), (86, 30), (86, 35), (86, 36), (86, 37), (86, 38), (86, 39)] [96, 109] σ α σ3283 α3284 := qFr_t hF82 hG3286 (by decide) (by decide)
          have hs3288 : 0 ≤ σ3283 86 15 ∧ σ3283 86 15 ≤ 1 := hI3285.1 86 15
          show qr_W (qe L xs vb) (d + 45) qx_e228 _ (138, _, [.int (qz v3280), .int (qz 6), .ref 109], qw σ3283 α3284 κ ρ, 0, 0)
          exact hJ105 _ v3280 σ3283 α3284 g62 g63 g64 g66 g67 (by omega) hI3285 hF3287 ((hG3286.1 86 6 (by decide)).trans ((hG81.1 86 6 (by decide)).trans ((hG41.1 86 6 (by decide)).trans ((hG5.1 86 6 (by decide)).trans rfl))))
        · skip
          refine qr_bipush 129 rfl (by decide) rfl ?_
          refine qr_goto 138 rfl rfl ?_
          exact hJ105 _ 9 σ78 α79 g62 g63 g64 g66 g67 (by omega) hI80 hF82 ((hG81.1 86 6 (by decide)).trans ((hG41.1 86 6 (by decide)).trans ((hG5.1 86 6 (by decide)).trans rfl)))
      refine qr_if_eq 108 104 rfl rfl rfl (by omega) (fun h3289 => ?_) (fun h3289 => ?_)
      · skip
        refine qr_iconst 109 rfl rfl ?_
        exact hJ70 _ 0 g22 g23 g24 g25 g26 g27 (by omega)
      · skip
        refine qr_iconst 105 rfl rfl ?_
        refine qr_goto 109 rfl rfl ?_
        exact hJ70 _ 1 g22 g23 g24 g25 g26 g27 (by omega)
    refine qr_icmp_ne 45 40 rfl rfl rfl (by omega) (by omega) (fun h3290 => ?_) (fun h3290 => ?_)
    · skip
      refine qr_iload 47 rfl g14 rfl ?_
      exact hJ31 _ v1 g7 g8 g9 g10 g11 g12 g13 (by omega)
    · skip
      refine qr_bipush 42 rfl (by decide) rfl ?_
      refine qr_goto 47 rfl rfl ?_
      exact hJ31 _ 9 g7 g8 g9 g10 g11 g12 g13 (by omega)
  refine qr_icmp_ne 26 22 rfl rfl rfl (by omega) (by omega) (fun h3291 => ?_) (fun h3291 => ?_)
  · skip
    refine qr_iconst 27 rfl rfl ?_
    exact hJ17 _ 1 rfl rfl rfl rfl rfl rfl rfl rfl (by omega)
  · skip
    refine qr_iconst 23 rfl rfl ?_
    refine qr_goto 27 rfl rfl ?_
    exact hJ17 _ 0 rfl rfl rfl rfl rfl rfl rfl rfl (by omega)

set_option maxHeartbeats 4000000 in
set_option maxRecDepth 20000 in
/-- OneRoofModel.mustNow -/
theorem sf_227_86 {L : Nat} {xs : Nat → Int} {vb : Bool} {d : Nat} {σ α : Nat → Nat → Int} {κ : Nat → Option Nat} {ρ : Nat} {x1 : Int} {x2 : Int} {x3 : Int} {x4 : Int} (hI : qI σ α κ ρ) (r1 : 0 ≤ x1 ∧ x1 ≤ 31) (r2 : 0 ≤ x2 ∧ x2 ≤ 31) (r3 : (-9223372036854775808) ≤ x3 ∧ x3 ≤ 9223372036854775807) (r4 : (-2147483648) ≤ x4 ∧ x4 ≤ 2147483647) (p0 : 1 ≤ σ 86 6) : qm_T (qe L xs vb) (d + 47) 227 [.ref 86, .int (qz x1), .int (qz x2), .long (ql x3), .int (qz x4)] (qw σ α κ ρ) (fun r w' => ∃ σ' α', w' = qw σ' α' κ ρ ∧ qI σ' α' κ ρ ∧ qFr [(86, 15), (86, 23), (86, 30), (86, 35), (86, 36), (86, 37), (86, 38), (86, 39)] [96, 109] σ α σ' α' ∧ ∃ v : Int, r = some (.int (qz v)) ∧ ((-2147483648) ≤ v ∧ v ≤ 2147483647)) := by
  refine qr_start (d := d + 46) qv_e227 (Nat.le_of_ble_eq_true rfl) ?_
  show qr_W (qe L xs vb) (d + 46) qx_e227 _ (0, [(0, .ref 86), (1, .int (qz x1)), (2, .int (qz x2)), (3, .long (ql x3)), (5, .int (qz x4))], [], _, 0, 0)
  have hF0 := qFr_rf [(86, 15), (86, 23), (86, 30), (86, 35), (86, 36), (86, 37), (86, 38), (86, 39)] [96, 109] σ α
  have hz86_6 : 0 ≤ σ 86 6 ∧ σ 86 6 ≤ 32 := hI.1 86 6
  refine qr_aload_n 1 rfl rfl rfl ?_
  refine qr_iconst 2 rfl rfl ?_
  refine qr_iload_n 3 rfl rfl rfl ?_
  refine qr_iload_n 4 rfl rfl rfl ?_
  refine qr_iconst 5 rfl rfl ?_
  refine qr_lload_n 6 rfl rfl rfl ?_
  refine qr_iload 8 rfl rfl rfl ?_
  have hs1 : 0 ≤ σ 86 6 ∧ σ 86 6 ≤ 32 := hI.1 86 6
  refine qr_callN 11 rfl rfl rfl (sf_228_86 (d := d + 0) hI (by omega) (by omega) (by omega) (by omega) (by omega) (by omega) (by omega)) ?_
  rintro _ _ ⟨σ3, α4, rfl, hI5, hG6, v2, rfl, hv2⟩
  have hF7 : qFr [(86, 15), (86, 23), (86, 30), (86, 35), (86, 36), (86, 37), (86, 38), (86, 39)] [96, 109] σ α σ3 α4 := qFr_t hF0 hG6 (by decide) (by decide)
  show qr_W (qe L xs vb) (d + 46) qx_e227 _ (11, _, [.int (qz v2)], qw σ3 α4 κ ρ, 0, 0)
  refine qr_retI rfl rfl (by decide) (by decide) ?_
  exact ⟨_, _, rfl, hI5, hF7, v2, rfl, by omega⟩

set_option maxHeartbeats 4000000 in
set_option maxRecDepth 20000 in
/-- OneRoofModel.must -/
theorem sf_224_86 {L : Nat} {xs : Nat → Int} {vb : Bool} {d : Nat} {σ α : Nat → Nat → Int} {κ : Nat → Option Nat} {ρ : Nat} {x1 : Int} {x2 : Int} {x3 : Int} (hI : qI σ α κ ρ) (r1 : (-2147483648) ≤ x1 ∧ x1 ≤ 2147483647) (r2 : (-9223372036854775808) ≤ x2 ∧ x2 ≤ 9223372036854775807) (r3 : (-2147483648) ≤ x3 ∧ x3 ≤ 2147483647) : qm_T (qe L xs vb) (d + 48) 224 [.ref 86, .int (qz x1), .long (ql x2), .int (qz x3)] (qw σ α κ ρ) (fun r w' => ∃ σ' α', w' = qw σ' α' κ ρ ∧ qI σ' α' κ ρ ∧ qFr [(86, 15), (86, 23), (86, 30), (86, 35), (86, 36), (86, 37), (86, 38), (86, 39)] [96, 109] σ α σ' α' ∧ ∃ v : Int, r = some (.int (qz v)) ∧ ((-2147483648) ≤ v ∧ v ≤ 2147483647)) := by
  refine qr_start (d := d + 47) qv_e224 (Nat.le_of_ble_eq_true rfl) ?_
  show qr_W (qe L xs vb) (d + 47) qx_e224 _ (0, [(0, .ref 86), (1, .int (qz x1)), (2, .long (ql x2)), (4, .int (qz x3))], [], _, 0, 0)
  have hF0 := qFr_rf [(86, 15), (86, 23), (86, 30), (86, 35), (86, 36), (86, 37), (86, 38), (86, 39)] [96, 109] σ α
  refine qr_aload_n 1 rfl rfl rfl ?_
  refine qr_iload_n 2 rfl rfl rfl ?_
  refine qr_callN 5 rfl rfl rfl (sf_191_86 (d := d + 44) hI (by omega)) ?_
  have hs3 : 0 ≤ σ 86 6 ∧ σ 86 6 ≤ 32 := hI.1 86 6
  rintro _ _ ⟨rfl, v1, rfl, hv1, hp2⟩
  show qr_W (qe L xs vb) (d + 47) qx_e224 _ (5, _, [.int (qz v1)], qw σ α κ ρ, 0, 0)
  refine qr_if_eq 24 8 rfl rfl rfl (by omega) (fun h4 => ?_) (fun h4 => ?_)
  · skip
    refine qr_ldcw (-2000000000) 27 rfl (by decide) rfl ?_
    refine qr_retI rfl rfl (by decide) (by decide) ?_
    exact ⟨_, _, rfl, hI, hF0, (-2000000000), rfl, by omega⟩
  · skip
    refine qr_aload_n 9 rfl rfl rfl ?_
    refine qr_lload_n 10 rfl rfl rfl ?_
    refine qr_callN 13 rfl rfl rfl (sf_225_86 (d := d + 46) hI (by omega)) ?_
    rintro _ _ ⟨rfl, v5, rfl, hv5⟩
    show qr_W (qe L xs vb) (d + 47) qx_e224 _ (13, _, [.int (qz v5)], qw σ α κ ρ, 0, 0)
    refine qr_if_eq 24 16 rfl rfl rfl (by omega) (fun h6 => ?_) (fun h6 => ?_)
    · skip
      refine qr_ldcw (-2000000000) 27 rfl (by decide) rfl ?_
      refine qr_retI rfl rfl (by decide) (by decide) ?_
      exact ⟨_, _, rfl, hI, hF0, (-2000000000), rfl, by omega⟩
    · skip
      refine qr_iload 18 rfl rfl rfl ?_
      refine qr_callN 21 rfl rfl rfl (sf_192 (d := d + 45) hI (by omega)) ?_
      rintro _ _ ⟨rfl, v7, rfl, hv7, hp8⟩
      show qr_W (qe L xs vb) (d + 47) qx_e224 _ (21, _, [.int (qz v7)], qw σ α κ ρ, 0, 0)
      refine qr_if_ne 28 24 rfl rfl rfl (by omega) (fun h9 => ?_) (fun h9 => ?_)
      · skip
        refine qr_lload_n 29 rfl rfl rfl ?_
        refine qr_aload_n 30 rfl rfl rfl ?_
        refine qr_get 33 rfl rfl rfl (by decide) rfl ?_
        have hs10 : (-9223372036854775808) ≤ σ 86 10 ∧ σ 86 10 ≤ 9223372036854775807 := hI.1 86 10
        refine qr_ldc2 (-1) 36 rfl (by decide) rfl ?_
        refine qr_lxor 37 rfl rfl ?_
        refine qy_canl (fun v11 hv11 => ?_)
        refine qr_land 38 rfl rfl ?_
        refine qy_canl (fun v12 hv12 => ?_)
        refine qr_lstore _ 40 rfl (by decide) rfl rfl ?_
        refine qr_lload 42 rfl rfl rfl ?_
        refine qr_iload_n 43 rfl rfl rfl ?_
        refine qr_bipush 45 rfl (by decide) rfl ?_
        refine qr_idiv 46 rfl (by omega) (by omega) rfl ?_
        refine qr_callN 49 rfl rfl rfl (sf_226 (d := d + 46) hI (by omega) (by omega)) ?_
        rintro _ _ ⟨rfl, v13, rfl, hv13⟩
        show qr_W (qe L xs vb) (d + 47) qx_e224 _ (49, _, [.int (qz v13)], qw σ α κ ρ, 0, 0)
        refine qr_if_eq 83 52 rfl rfl rfl (by omega) (fun h14 => ?_) (fun h14 => ?_)
        · skip
          refine qr_ldcw (-2000000000) 86 rfl (by decide) rfl ?_
          refine qr_retI rfl rfl (by decide) (by decide) ?_
          exact ⟨_, _, rfl, hI, hF0, (-2000000000), rfl, by omega⟩
        · skip
          refine qr_lload 54 rfl rfl rfl ?_
          refine qr_iload_n 55 rfl rfl rfl ?_
          refine qr_bipush 57 rfl (by decide) rfl ?_
          refine qr_irem 58 rfl (by omega) (by omega) rfl ?_
          refine qr_callN 61 rfl rfl rfl (sf_226 (d := d + 46) hI (by omega) (by omega)) ?_
          rintro _ _ ⟨rfl, v15, rfl, hv15⟩
          show qr_W (qe L xs vb) (d + 47) qx_e224 _ (61, _, [.int (qz v15)], qw σ α κ ρ, 0, 0)
          refine qr_if_eq 83 64 rfl rfl rfl (by omega) (fun h16 => ?_) (fun h16 => ?_)
          · skip
            refine qr_ldcw (-2000000000) 86 rfl (by decide) rfl ?_
            refine qr_retI rfl rfl (by decide) (by decide) ?_
            exact ⟨_, _, rfl, hI, hF0, (-2000000000), rfl, by omega⟩
          · skip
            refine qr_aload_n 65 rfl rfl rfl ?_
            refine qr_iload_n 66 rfl rfl rfl ?_
            refine qr_bipush 68 rfl (by decide) rfl ?_
            refine qr_idiv 69 rfl (by omega) (by omega) rfl ?_
            refine qr_iload_n 70 rfl rfl rfl ?_
            refine qr_bipush 72 rfl (by decide) rfl ?_
            refine qr_irem 73 rfl (by omega) (by omega) rfl ?_
            refine qr_lload 75 rfl rfl rfl ?_
            refine qr_iload 77 rfl rfl rfl ?_
            have hs17 : 0 ≤ σ 86 6 ∧ σ 86 6 ≤ 32 := hI.1 86 6
            refine qr_callN 80 rfl rfl rfl (sf_227_86 (d := d + 0) hI (by omega) (by omega) (by omega) (by omega) (by omega)) ?_
            rintro _ _ ⟨σ19, α20, rfl, hI21, hG22, v18, rfl, hv18⟩
            have hF23 : qFr [(86, 15), (86, 23), (86, 30), (86, 35), (86, 36), (86, 37), (86, 38), (86, 39)] [96, 109] σ α σ19 α20 := qFr_t hF0 hG22 (by decide) (by decide)
            show qr_W (qe L xs vb) (d + 47) qx_e224 _ (80, _, [.int (qz v18)], qw σ19 α20 κ ρ, 0, 0)
            refine qr_goto 86 rfl rfl ?_
            refine qr_retI rfl rfl (by decide) (by decide) ?_
            exact ⟨_, _, rfl, hI21, hF23, v18, rfl, by omega⟩
      · skip
        refine qr_ldcw (-2000000000) 27 rfl (by decide) rfl ?_
        refine qr_retI rfl rfl (by decide) (by decide) ?_
        exact ⟨_, _, rfl, hI, hF0, (-2000000000), rfl, by omega⟩

set_option maxHeartbeats 4000000 in
set_option maxRecDepth 20000 in
/-- OneRoofModel.together -/
theorem sf_229_86 {L : Nat} {xs : Nat → Int} {vb : Bool} {d : Nat} {σ α : Nat → Nat → Int} {κ : Nat → Option Nat} {ρ : Nat} {x1 : Int} {x2 : Int} {x3 : Int} (hI : qI σ α κ ρ) (r1 : (-9223372036854775808) ≤ x1 ∧ x1 ≤ 9223372036854775807) (r2 : (-2147483648) ≤ x2 ∧ x2 ≤ 2147483647) (r3 : (-2147483648) ≤ x3 ∧ x3 ≤ 2147483647) : qm_T (qe L xs vb) (d + 48) 229 [.ref 86, .long (ql x1), .int (qz x2), .int (qz x3)] (qw σ α κ ρ) (fun r w' => ∃ σ' α', w' = qw σ' α' κ ρ ∧ qI σ' α' κ ρ ∧ qFr [(86, 15), (86, 23), (86, 30), (86, 35), (86, 36), (86, 37), (86, 38), (86, 39)] [96, 109] σ α σ' α' ∧ ∃ v : Int, r = some (.int (qz v)) ∧ ((-2147483648) ≤ v ∧ v ≤ 2147483647)) := by
  refine qr_start (d := d + 47) qv_e229 (Nat.le_of_ble_eq_true rfl) ?_
  show qr_W (qe L xs vb) (d + 47) qx_e229 _ (0, [(0, .ref 86), (1, .long (ql x1)), (3, .int (qz x2)), (4, .int (qz x3))], [], _, 0, 0)
  have hF0 := qFr_rf [(86, 15), (86, 23), (86, 30), (86, 35), (86, 36), (86, 37), (86, 38), (86, 39)] [96, 109] σ α
  refine qr_aload_n 1 rfl rfl rfl ?_
  refine qr_lload_n 2 rfl rfl rfl ?_
  refine qr_callN 5 rfl rfl rfl (sf_225_86 (d := d + 46) hI (by omega)) ?_
  rintro _ _ ⟨rfl, v1, rfl, hv1⟩
  show qr_W (qe L xs vb) (d + 47) qx_e229 _ (5, _, [.int (qz v1)], qw σ α κ ρ, 0, 0)
  refine qr_if_eq 28 8 rfl rfl rfl (by omega) (fun h2 => ?_) (fun h2 => ?_)
  · skip
    refine qr_iconst 29 rfl rfl ?_
    refine qr_retI rfl rfl (by decide) (by decide) ?_
    exact ⟨_, _, rfl, hI, hF0, (-1), rfl, by omega⟩
  · skip
    refine qr_iload_n 9 rfl rfl rfl ?_
    refine qr_callN 12 rfl rfl rfl (sf_230 (d := d + 44) hI (by omega)) ?_
    rintro _ _ ⟨rfl, v3, rfl, hv3, hp4⟩
    show qr_W (qe L xs vb) (d + 47) qx_e229 _ (12, _, [.int (qz v3)], qw σ α κ ρ, 0, 0)
    refine qr_if_eq 28 15 rfl rfl rfl (by omega) (fun h5 => ?_) (fun h5 => ?_)
    · skip
      refine qr_iconst 29 rfl rfl ?_
      refine qr_retI rfl rfl (by decide) (by decide) ?_
      exact ⟨_, _, rfl, hI, hF0, (-1), rfl, by omega⟩
    · skip
      refine qr_iload 17 rfl rfl rfl ?_
      refine qr_i2l 18 rfl (by omega) rfl ?_
      refine qr_lconst 19 rfl rfl ?_
      refine qy_vl 0 rfl ?_
      refine qr_ldc2 2 22 rfl (by decide) rfl ?_
      refine qr_callN 25 rfl rfl rfl (sf_176 (d := d + 46) hI (by omega) (by omega) (by omega)) ?_
      rintro _ _ ⟨rfl, v6, rfl, hv6, hp7⟩
      show qr_W (qe L xs vb) (d + 47) qx_e229 _ (25, _, [.int (qz v6)], qw σ α κ ρ, 0, 0)
      refine qr_if_ne 30 28 rfl rfl rfl (by omega) (fun h8 => ?_) (fun h8 => ?_)
      · skip
        refine qr_lload_n 31 rfl rfl rfl ?_
        refine qr_aload_n 32 rfl rfl rfl ?_
        refine qr_get 35 rfl rfl rfl (by decide) rfl ?_
        have hs9 : (-9223372036854775808) ≤ σ 86 10 ∧ σ 86 10 ≤ 9223372036854775807 := hI.1 86 10
        refine qr_ldc2 (-1) 38 rfl (by decide) rfl ?_
        refine qr_lxor 39 rfl rfl ?_
        refine qy_canl (fun v10 hv10 => ?_)
        refine qr_land 40 rfl rfl ?_
        refine qy_canl (fun v11 hv11 => ?_)
        refine qr_lstore _ 42 rfl (by decide) rfl rfl ?_
        refine qr_iload_n 43 rfl rfl rfl ?_
        refine qr_sipush 46 rfl (by decide) rfl ?_
        refine qr_idiv 47 rfl (by omega) (by omega) rfl ?_
        refine qr_istore _ 49 rfl (by decide) rfl rfl ?_
        have hL50281 : ∀ (n : Nat) (ls : qm_L) (u50273 : Int) (σ50274 α50275 : Nat → Nat → Int), 10000 - u50273 < (n : Int) → qm_get ls 0 = some (.ref 86) → qm_get ls 3 = some (.int (qz x2)) → qm_get ls 4 = some (.int (qz x3)) → qm_get ls 5 = some (.long (ql v11)) → qm_get ls 7 = some (.int (qz u50273)) → (0 ≤ u50273 ∧ u50273 ≤ 10000) → qI σ50274 α50275 κ ρ → qFr [(86, 15), (86, 23), (86, 30), (86, 35), (86, 36), (86, 37), (86, 38), (86, 39)] [96, 109] σ α σ50274 α50275 → σ50274 86 10 = (σ 86 10) → (x2 / 10000) ≤ u50273 → qr_W (qe L xs vb) (d + 47) qx_e229 (fun r w' => ∃ σ' α', w' = qw σ' α' κ ρ ∧ qI σ' α' κ ρ ∧ qFr [(86, 15), (86, 23), (86, 30), (86, 35), (86, 36), (86, 37), (86, 38), (86, 39)] [96, 109] σ α σ' α' ∧ ∃ v : Int, r = some (.int (qz v)) ∧ ((-2147483648) ≤ v ∧ v ≤ 2147483647)) (49, ls, [], qw σ50274 α50275 κ ρ, 0, 0) := by
          intro n
          induction n with
          | zero => intro ls u50273 σ50274 α50275 hm g50268 g50269 g50270 g50271 g50272 hf50279 hI50276 hF50277 hk50278 hx50280; exact False.elim (by omega)
          | succ n ih50282 =>
            intro ls u50273 σ50274 α50275 hm g50268 g50269 g50270 g50271 g50272 hf50279 hI50276 hF50277 hk50278 hx50280
            refine qr_iload 51 rfl g50272 rfl ?_
            refine qr_iload_n 52 rfl g50269 rfl ?_
            refine qr_sipush 55 rfl (by decide) rfl ?_
            refine qr_irem 56 rfl (by omega) (by omega) rfl ?_
            refine qr_icmp_gt 167 59 rfl rfl rfl (by omega) (by omega) (fun h50283 => ?_) (fun h50283 => ?_)
            · skip
              refine qr_bipush 169 rfl (by decide) rfl ?_
              refine qr_retI rfl rfl (by decide) (by decide) ?_
              exact ⟨_, _, rfl, hI50276, hF50277, (-2), rfl, by omega⟩
            · skip
              refine qr_iconst 60 rfl rfl ?_
              refine qr_istore _ 62 rfl (by decide) rfl rfl ?_
              have hL54218 : ∀ (n : Nat) (ls : qm_L) (u54211 : Int) (σ54212 α54213 : Nat → Nat → Int), 32 - u54211 < (n : Int) → qm_get ls 0 = some (.ref 86) → qm_get ls 3 = some (.int (qz x2)) → qm_get ls 4 = some (.int (qz x3)) → qm_get ls 5 = some (.long (ql v11)) → qm_get ls 7 = some (.int (qz u50273)) → qm_get ls 8 = some (.int (qz u54211)) → (0 ≤ u54211 ∧ u54211 ≤ 32) → qI σ54212 α54213 κ ρ → qFr [(86, 15), (86, 23), (86, 30), (86, 35), (86, 36), (86, 37), (86, 38), (86, 39)] [96, 109] σ α σ54212 α54213 → σ54212 86 10 = (σ 86 10) → qr_W (qe L xs vb) (d + 47) qx_e229 (fun r w' => ∃ σ' α', w' = qw σ' α' κ ρ ∧ qI σ' α' κ ρ ∧ qFr [(86, 15), (86, 23), (86, 30), (86, 35), (86, 36), (86, 37), (86, 38), (86, 39)] [96, 109] σ α σ' α' ∧ ∃ v : Int, r = some (.int (qz v)) ∧ ((-2147483648) ≤ v ∧ v ≤ 2147483647)) (62, ls, [], qw σ54212 α54213 κ ρ, 0, 0) := by
                intro n
                induction n with
                | zero => intro ls u54211 σ54212 α54213 hm g54205 g54206 g54207 g54208 g54209 g54210 hf54217 hI54214 hF54215 hk54216; exact False.elim (by omega)
                | succ n ih54219 =>
                  intro ls u54211 σ54212 α54213 hm g54205 g54206 g54207 g54208 g54209 g54210 hf54217 hI54214 hF54215 hk54216
                  refine qr_iload 64 rfl g54210 rfl ?_
                  refine qr_aload_n 65 rfl g54205 rfl ?_
                  refine qr_get 68 rfl rfl rfl (by decide) rfl ?_
                  have hs54220 : 0 ≤ σ54212 86 6 ∧ σ54212 86 6 ≤ 32 := hI54214.1 86 6
                  refine qr_icmp_ge 161 71 rfl rfl rfl (by omega) (by omega) (fun h54221 => ?_) (fun h54221 => ?_)
                  · skip
                    refine qr_iinc _ 164 rfl g54209 (by decide) rfl rfl ?_
                    refine qr_goto 49 rfl rfl ?_
                    exact ih50282 _ (u50273 + 1) σ54212 α54213 (by omega) (qm_gk g54205 (by decide) (Or.inl (by decide))) (qm_gk g54206 (by decide) (Or.inl (by decide))) (qm_gk g54207 (by decide) (Or.inl (by decide))) (qm_gk g54208 (by decide) (Or.inl (by decide))) (qm_ge _ _ _) (by omega) hI54214 hF54215 ((hk54216).trans rfl) (by omega)
                  · skip
                    refine qr_iconst 72 rfl rfl ?_
                    refine qr_istore _ 74 rfl (by decide) rfl rfl ?_
                    have hL54477 : ∀ (n : Nat) (ls : qm_L) (u54469 : Int) (σ54470 α54471 : Nat → Nat → Int), 32 - u54469 < (n : Int) → qm_get ls 0 = some (.ref 86) → qm_get ls 3 = some (.int (qz x2)) → qm_get ls 4 = some (.int (qz x3)) → qm_get ls 5 = some (.long (ql v11)) → qm_get ls 7 = some (.int (qz u50273)) → qm_get ls 8 = some (.int (qz u54211)) → qm_get ls 9 = some (.int (qz u54469)) → (0 ≤ u54469 ∧ u54469 ≤ 32) → qI σ54470 α54471 κ ρ → qFr [(86, 15), (86, 23), (86, 30), (86, 35), (86, 36), (86, 37), (86, 38), (86, 39)] [96, 109] σ α σ54470 α54471 → σ54470 86 6 = (σ54212 86 6) → σ54470 86 10 = (σ 86 10) → qr_W (qe L xs vb) (d + 47) qx_e229 (fun r w' => ∃ σ' α', w' = qw σ' α' κ ρ ∧ qI σ' α' κ ρ ∧ qFr [(86, 15), (86, 23), (86, 30), (86, 35), (86, 36), (86, 37), (86, 38), (86, 39)] [96, 109] σ α σ' α' ∧ ∃ v : Int, r = some (.int (qz v)) ∧ ((-2147483648) ≤ v ∧ v ≤ 2147483647)) (74, ls, [], qw σ54470 α54471 κ ρ, 0, 0) := by
                      intro n
                      induction n with
                      | zero => intro ls u54469 σ54470 α54471 hm g54462 g54463 g54464 g54465 g54466 g54467 g54468 hf54476 hI54472 hF54473 hk54474 hk54475; exact False.elim (by omega)
                      | succ n ih54478 =>
                        intro ls u54469 σ54470 α54471 hm g54462 g54463 g54464 g54465 g54466 g54467 g54468 hf54476 hI54472 hF54473 hk54474 hk54475
                        refine qr_iload 76 rfl g54468 rfl ?_
                        refine qr_aload_n 77 rfl g54462 rfl ?_
                        refine qr_get 80 rfl rfl rfl (by decide) rfl ?_
                        refine qy_v (σ54212 86 6) ((hk54474).trans rfl) ?_
                        refine qr_icmp_ge 155 83 rfl rfl rfl (by omega) (by omega) (fun h54479 => ?_) (fun h54479 => ?_)
                        · skip
                          refine qr_iinc _ 158 rfl g54467 (by decide) rfl rfl ?_
                          refine qr_goto 62 rfl rfl ?_
                          exact ih54219 _ (u54211 + 1) σ54470 α54471 (by omega) (qm_gk g54462 (by decide) (Or.inl (by decide))) (qm_gk g54463 (by decide) (Or.inl (by decide))) (qm_gk g54464 (by decide) (Or.inl (by decide))) (qm_gk g54465 (by decide) (Or.inl (by decide))) (qm_gk g54466 (by decide) (Or.inr rfl)) (qm_ge _ _ _) (by omega) hI54472 hF54473 ((hk54475).trans rfl)
                        · skip
                          refine qr_lload 85 rfl g54465 rfl ?_
                          refine qr_iload 87 rfl g54467 rfl ?_
                          refine qr_callN 90 rfl rfl rfl (sf_226 (d := d + 46) hI54472 (by omega) (by omega)) ?_
                          rintro _ _ ⟨rfl, v54480, rfl, hv54480⟩
                          show qr_W (qe L xs vb) (d + 47) qx_e229 _ (90, _, [.int (qz v54480)], qw σ54470 α54471 κ ρ, 0, 0)
                          refine qr_if_eq 155 93 rfl rfl rfl (by omega) (fun h54481 => ?_) (fun h54481 => ?_)
                          · skip
                            refine qr_iinc _ 158 rfl g54467 (by decide) rfl rfl ?_
                            refine qr_goto 62 rfl rfl ?_
                            exact ih54219 _ (u54211 + 1) σ54470 α54471 (by omega) (qm_gk g54462 (by decide) (Or.inl (by decide))) (qm_gk g54463 (by decide) (Or.inl (by decide))) (qm_gk g54464 (by decide) (Or.inl (by decide))) (qm_gk g54465 (by decide) (Or.inl (by decide))) (qm_gk g54466 (by decide) (Or.inr rfl)) (qm_ge _ _ _) (by omega) hI54472 hF54473 ((hk54475).trans rfl)
                          · skip
                            refine qr_iload 95 rfl g54467 rfl ?_
                            refine qr_iload 97 rfl g54468 rfl ?_
                            refine qr_icmp_eq 149 100 rfl rfl rfl (by omega) (by omega) (fun h54482 => ?_) (fun h54482 => ?_)
                            · skip
                              refine qr_iinc _ 152 rfl g54468 (by decide) rfl rfl ?_
                              refine qr_goto 74 rfl rfl ?_
                              exact ih54478 _ (u54469 + 1) σ54470 α54471 (by omega) (qm_gk g54462 (by decide) (Or.inl (by decide))) (qm_gk g54463 (by decide) (Or.inl (by decide))) (qm_gk g54464 (by decide) (Or.inl (by decide))) (qm_gk g54465 (by decide) (Or.inl (by decide))) (qm_gk g54466 (by decide) (Or.inl (by decide))) (qm_gk g54467 (by decide) (Or.inr rfl)) (qm_ge _ _ _) (by omega) hI54472 hF54473 ((hk54474).trans rfl) ((hk54475).trans rfl)
                            · skip
                              refine qr_lload 102 rfl g54465 rfl ?_
                              refine qr_iload 104 rfl g54468 rfl ?_
                              refine qr_callN 107 rfl rfl rfl (sf_226 (d := d + 46) hI54472 (by omega) (by omega)) ?_
                              rintro _ _ ⟨rfl, v54483, rfl, hv54483⟩
                              show qr_W (qe L xs vb) (d + 47) qx_e229 _ (107, _, [.int (qz v54483)], qw σ54470 α54471 κ ρ, 0, 0)
                              refine qr_if_eq 149 110 rfl rfl rfl (by omega) (fun h54484 => ?_) (fun h54484 => ?_)
                              · skip
                                refine qr_iinc _ 152 rfl g54468 (by decide) rfl rfl ?_
                                refine qr_goto 74 rfl rfl ?_
                                exact ih54478 _ (u54469 + 1) σ54470 α54471 (by omega) (qm_gk g54462 (by decide) (Or.inl (by decide))) (qm_gk g54463 (by decide) (Or.inl (by decide))) (qm_gk g54464 (by decide) (Or.inl (by decide))) (qm_gk g54465 (by decide) (Or.inl (by decide))) (qm_gk g54466 (by decide) (Or.inl (by decide))) (qm_gk g54467 (by decide) (Or.inr rfl)) (qm_ge _ _ _) (by omega) hI54472 hF54473 ((hk54474).trans rfl) ((hk54475).trans rfl)
                              · skip
                                refine qr_aload_n 111 rfl g54462 rfl ?_
                                refine qr_iload 113 rfl g54467 rfl ?_
                                refine qr_iload 115 rfl g54468 rfl ?_
                                refine qr_lload 117 rfl g54465 rfl ?_
                                refine qr_iload 119 rfl g54466 rfl ?_
                                have hs54485 : 0 ≤ σ54470 86 6 ∧ σ54470 86 6 ≤ 32 := hI54472.1 86 6
                                have hs54486 : σ54470 86 6 = (σ54212 86 6) := (hk54474).trans rfl
                                refine qr_callN 122 rfl rfl rfl (sf_227_86 (d := d + 0) hI54472 (by omega) (by omega) (by omega) (by omega) (by omega)) ?_
                                rintro _ _ ⟨σ54488, α54489, rfl, hI54490, hG54491, v54487, rfl, hv54487⟩
                                have hF54492 : qFr [(86, 15), (86, 23), (86, 30), (86, 35), (86, 36), (86, 37), (86, 38), (86, 39)] [96, 109] σ α σ54488 α54489 := qFr_t hF54473 hG54491 (by decide) (by decide)
                                show qr_W (qe L xs vb) (d + 47) qx_e229 _ (122, _, [.int (qz v54487)], qw σ54488 α54489 κ ρ, 0, 0)
                                refine qr_if_eq 149 125 rfl rfl rfl (by omega) (fun h54493 => ?_) (fun h54493 => ?_)
                                · skip
                                  refine qr_iinc _ 152 rfl g54468 (by decide) rfl rfl ?_
                                  refine qr_goto 74 rfl rfl ?_
                                  exact ih54478 _ (u54469 + 1) σ54488 α54489 (by omega) (qm_gk g54462 (by decide) (Or.inl (by decide))) (qm_gk g54463 (by decide) (Or.inl (by decide))) (qm_gk g54464 (by decide) (Or.inl (by decide))) (qm_gk g54465 (by decide) (Or.inl (by decide))) (qm_gk g54466 (by decide) (Or.inl (by decide))) (qm_gk g54467 (by decide) (Or.inr rfl)) (qm_ge _ _ _) (by omega) hI54490 hF54492 ((hG54491.1 86 6 (by decide)).trans ((hk54474).trans rfl)) ((hG54491.1 86 10 (by decide)).trans ((hk54475).trans rfl))
                                · skip
                                  refine qr_iload 127 rfl g54464 rfl ?_
                                  refine qr_if_ne 135 130 rfl rfl rfl (by omega) (fun h54494 => ?_) (fun h54494 => ?_)
                                  · skip
                                    refine qr_iload 137 rfl g54464 rfl ?_
                                    refine qr_iconst 138 rfl rfl ?_
                                    refine qr_icmp_ne 146 141 rfl rfl rfl (by omega) (by omega) (fun h54495 => ?_) (fun h54495 => ?_)
                                    · skip
                                      refine qr_iload 148 rfl g54468 rfl ?_
                                      refine qr_retI rfl rfl (by decide) (by decide) ?_
                                      exact ⟨_, _, rfl, hI54490, hF54492, u54469, rfl, by omega⟩
                                    · skip
                                      refine qr_iload 143 rfl g54467 rfl ?_
                                      refine qr_goto 148 rfl rfl ?_
                                      refine qr_retI rfl rfl (by decide) (by decide) ?_
                                      exact ⟨_, _, rfl, hI54490, hF54492, u54211, rfl, by omega⟩
                                  · skip
                                    refine qr_iload 132 rfl g54466 rfl ?_
                                    refine qr_goto 148 rfl rfl ?_
                                    refine qr_retI rfl rfl (by decide) (by decide) ?_
                                    exact ⟨_, _, rfl, hI54490, hF54492, u50273, rfl, by omega⟩
                    exact hL54477 ((32 - 0 + 1 : Int)).toNat _ 0 σ54212 α54213 (by omega) (qm_gk g54205 (by decide) (Or.inl (by decide))) (qm_gk g54206 (by decide) (Or.inl (by decide))) (qm_gk g54207 (by decide) (Or.inl (by decide))) (qm_gk g54208 (by decide) (Or.inl (by decide))) (qm_gk g54209 (by decide) (Or.inl (by decide))) (qm_gk g54210 (by decide) (Or.inr rfl)) (qm_ge _ _ _) (by omega) hI54214 hF54215 (rfl) ((hk54216).trans rfl)
              exact hL54218 ((32 - 0 + 1 : Int)).toNat _ 0 σ50274 α50275 (by omega) (qm_gk g50268 (by decide) (Or.inl (by decide))) (qm_gk g50269 (by decide) (Or.inl (by decide))) (qm_gk g50270 (by decide) (Or.inl (by decide))) (qm_gk g50271 (by decide) (Or.inl (by decide))) (qm_gk g50272 (by decide) (Or.inr rfl)) (qm_ge _ _ _) (by omega) hI50276 hF50277 ((hk50278).trans rfl)
        exact hL50281 ((10000 - (x2 / 10000) + 1 : Int)).toNat _ (x2 / 10000) σ α (by omega) rfl rfl rfl rfl rfl (by omega) hI hF0 (rfl) (by omega)
      · skip
        refine qr_iconst 29 rfl rfl ?_
        refine qr_retI rfl rfl (by decide) (by decide) ?_
        exact ⟨_, _, rfl, hI, hF0, (-1), rfl, by omega⟩
