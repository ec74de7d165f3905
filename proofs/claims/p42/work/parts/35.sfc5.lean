set_option maxHeartbeats 4000000 in
set_option maxRecDepth 20000 in
/-- OneRoof.blow -/
theorem sf_138_16 {L : Nat} {xs : Nat → Int} {vb : Bool} {d : Nat} {σ α : Nat → Nat → Int} {κ : Nat → Option Nat} {ρ : Nat} {x1 : Int} (hI : qI σ α κ ρ) (r1 : (-2147483648) ≤ x1 ∧ x1 ≤ 2147483647) : qm_T (qe L xs vb) (d + 1) 138 [.ref 16, .int (qz x1)] (qw σ α κ ρ) (fun r w' => w' = qw σ α κ ρ ∧ ∃ v : Int, r = some (.int (qz v)) ∧ ((-2147483648) ≤ v ∧ v ≤ 2147483647)) := by
  refine qr_start (d := d + 0) qv_e138 (Nat.le_of_ble_eq_true rfl) ?_
  show qr_W (qe L xs vb) (d + 0) qx_e138 _ (0, [(0, .ref 16), (1, .int (qz x1))], [], _, 0, 0)
  refine qr_iload_n 1 rfl rfl rfl ?_
  refine qr_if_lt 15 4 rfl rfl rfl (by omega) (fun h1 => ?_) (fun h1 => ?_)
  · skip
    refine qr_iconst 16 rfl rfl ?_
    refine qr_retI rfl rfl (by decide) (by decide) ?_
    exact ⟨rfl, (-1), rfl, by omega⟩
  · skip
    refine qr_iload_n 5 rfl rfl rfl ?_
    refine qr_aload_n 6 rfl rfl rfl ?_
    refine qr_get 9 rfl rfl rfl (by decide) rfl ?_
    refine qr_get 12 rfl rfl rfl (by decide) rfl ?_
    have hs2 : 0 ≤ σ 70 2 ∧ σ 70 2 ≤ 31 := hI.1 70 2
    refine qr_icmp_lt 17 15 rfl rfl rfl (by omega) (by omega) (fun h3 => ?_) (fun h3 => ?_)
    · skip
      refine qr_aload_n 18 rfl rfl rfl ?_
      refine qr_get 21 rfl rfl rfl (by decide) rfl ?_
      refine qr_get 24 rfl rfl rfl (by decide) rfl ?_
      refine qr_iload_n 25 rfl rfl rfl ?_
      refine qr_iaload 26 rfl rfl (by omega) (by decide) rfl ?_
      refine qr_topI (fun v4 hv4 => ?_)
      have hs5 : 0 ≤ v4 ∧ v4 ≤ 3131 := by rw [hv4]; exact hI.2.1 71 _ (show _ < 31 by omega)
      have hs6 : v4 % 100 ≤ 31 := by rw [hv4]; exact hI.2.2.2.2.1 71 (Or.inl rfl) _ (by omega)
      refine qr_retI rfl rfl (by decide) (by decide) ?_
      exact ⟨rfl, v4, rfl, by omega⟩
    · skip
      refine qr_iconst 16 rfl rfl ?_
      refine qr_retI rfl rfl (by decide) (by decide) ?_
      exact ⟨rfl, (-1), rfl, by omega⟩

set_option maxHeartbeats 4000000 in
set_option maxRecDepth 20000 in
/-- OneRoof.alive -/
theorem sf_139_16 {L : Nat} {xs : Nat → Int} {vb : Bool} {d : Nat} {σ α : Nat → Nat → Int} {κ : Nat → Option Nat} {ρ : Nat}  (hI : qI σ α κ ρ)  : qm_T (qe L xs vb) (d + 1) 139 [.ref 16] (qw σ α κ ρ) (fun r w' => w' = qw σ α κ ρ ∧ ∃ v : Int, r = some (.long (ql v)) ∧ ((-9223372036854775808) ≤ v ∧ v ≤ 9223372036854775807)) := by
  refine qr_start (d := d + 0) qv_e139 (Nat.le_of_ble_eq_true rfl) ?_
  show qr_W (qe L xs vb) (d + 0) qx_e139 _ (0, [(0, .ref 16)], [], _, 0, 0)
  refine qr_aload_n 1 rfl rfl rfl ?_
  refine qr_get 4 rfl rfl rfl (by decide) rfl ?_
  refine qr_get 7 rfl rfl rfl (by decide) rfl ?_
  have hs1 : 0 ≤ σ 70 2 ∧ σ 70 2 ≤ 31 := hI.1 70 2
  refine qr_if_ne 16 10 rfl rfl rfl (by omega) (fun h2 => ?_) (fun h2 => ?_)
  · skip
    refine qr_aload_n 17 rfl rfl rfl ?_
    refine qr_get 20 rfl rfl rfl (by decide) rfl ?_
    refine qr_get 23 rfl rfl rfl (by decide) rfl ?_
    have hs3 : (-9223372036854775808) ≤ σ 70 3 ∧ σ 70 3 ≤ 9223372036854775807 := hI.1 70 3
    refine qr_retL rfl rfl (by decide) (by decide) ?_
    exact ⟨rfl, (σ 70 3), rfl, by omega⟩
  · skip
    refine qr_ldc2 (-1) 13 rfl (by decide) rfl ?_
    refine qr_goto 23 rfl rfl ?_
    refine qr_retL rfl rfl (by decide) (by decide) ?_
    exact ⟨rfl, (-1), rfl, by omega⟩

set_option maxHeartbeats 4000000 in
set_option maxRecDepth 20000 in
/-- OneRoof.wed -/
theorem sf_141_16 {L : Nat} {xs : Nat → Int} {vb : Bool} {d : Nat} {σ α : Nat → Nat → Int} {κ : Nat → Option Nat} {ρ : Nat} {x1 : Int} {x2 : Int} {x3 : Int} (hI : qI σ α κ ρ) (r1 : (-2147483648) ≤ x1 ∧ x1 ≤ 2147483647) (r2 : (-2147483648) ≤ x2 ∧ x2 ≤ 2147483647) (r3 : (-2147483648) ≤ x3 ∧ x3 ≤ 2147483647) : qm_T (qe L xs vb) (d + 4) 141 [.ref 16, .int (qz x1), .int (qz x2), .int (qz x3)] (qw σ α κ ρ) (fun r w' => ∃ σ' α', w' = qw σ' α' κ ρ ∧ qI σ' α' κ ρ ∧ qFr [(25, 1)] [26] σ α σ' α' ∧ ∃ v : Int, r = some (.int (qz v)) ∧ ((-2147483648) ≤ v ∧ v ≤ 2147483647)) := by
  refine qr_start (d := d + 3) qv_e141 (Nat.le_of_ble_eq_true rfl) ?_
  show qr_W (qe L xs vb) (d + 3) qx_e141 _ (0, [(0, .ref 16), (1, .int (qz x1)), (2, .int (qz x2)), (3, .int (qz x3))], [], _, 0, 0)
  have hF0 := qFr_rf [(25, 1)] [26] σ α
  refine qr_aload_n 1 rfl rfl rfl ?_
  refine qr_get 4 rfl rfl rfl (by decide) rfl ?_
  refine qr_iload_n 5 rfl rfl rfl ?_
  refine qr_callN 8 rfl rfl rfl (sf_61_17 (d := d + 1) hI (by omega)) ?_
  have hs3 : 0 ≤ σ 17 6 ∧ σ 17 6 ≤ 32 := hI.1 17 6
  rintro _ _ ⟨rfl, v1, rfl, hv1, hp2⟩
  show qr_W (qe L xs vb) (d + 3) qx_e141 _ (8, _, [.int (qz v1)], qw σ α κ ρ, 0, 0)
  refine qr_if_eq 25 11 rfl rfl rfl (by omega) (fun h4 => ?_) (fun h4 => ?_)
  · skip
    refine qr_iconst 26 rfl rfl ?_
    refine qr_retI rfl rfl (by decide) (by decide) ?_
    exact ⟨_, _, rfl, hI, hF0, (-1), rfl, by omega⟩
  · skip
    refine qr_iload_n 12 rfl rfl rfl ?_
    refine qr_callN 15 rfl rfl rfl (sf_62 (d := d + 2) hI (by omega)) ?_
    rintro _ _ ⟨rfl, v5, rfl, hv5, hp6⟩
    show qr_W (qe L xs vb) (d + 3) qx_e141 _ (15, _, [.int (qz v5)], qw σ α κ ρ, 0, 0)
    refine qr_if_eq 25 18 rfl rfl rfl (by omega) (fun h7 => ?_) (fun h7 => ?_)
    · skip
      refine qr_iconst 26 rfl rfl ?_
      refine qr_retI rfl rfl (by decide) (by decide) ?_
      exact ⟨_, _, rfl, hI, hF0, (-1), rfl, by omega⟩
    · skip
      refine qr_iload_n 19 rfl rfl rfl ?_
      refine qr_callN 22 rfl rfl rfl (sf_41 (d := d + 2) hI (by omega)) ?_
      rintro _ _ ⟨rfl, v8, rfl, hv8, hp9⟩
      show qr_W (qe L xs vb) (d + 3) qx_e141 _ (22, _, [.int (qz v8)], qw σ α κ ρ, 0, 0)
      refine qr_if_ne 27 25 rfl rfl rfl (by omega) (fun h10 => ?_) (fun h10 => ?_)
      · skip
        refine qr_iload_n 28 rfl rfl rfl ?_
        refine qr_bipush 30 rfl (by decide) rfl ?_
        refine qr_idiv 31 rfl (by omega) (by omega) rfl ?_
        refine qr_istore _ 33 rfl (by decide) rfl rfl ?_
        refine qr_iload_n 34 rfl rfl rfl ?_
        refine qr_bipush 36 rfl (by decide) rfl ?_
        refine qr_irem 37 rfl (by omega) (by omega) rfl ?_
        refine qr_istore _ 39 rfl (by decide) rfl rfl ?_
        refine qr_aload_n 40 rfl rfl rfl ?_
        refine qr_get 43 rfl rfl rfl (by decide) rfl ?_
        refine qr_iload 45 rfl rfl rfl ?_
        refine qr_iload 47 rfl rfl rfl ?_
        refine qr_callN 50 rfl rfl rfl (sf_57_23 (d := d + 2) hI (by omega) (by omega)) ?_
        rintro _ _ ⟨rfl, v11, rfl, hv11⟩
        show qr_W (qe L xs vb) (d + 3) qx_e141 _ (50, _, [.int (qz v11)], qw σ α κ ρ, 0, 0)
        refine qr_iconst 51 rfl rfl ?_
        refine qr_icmp_ne 56 54 rfl rfl rfl (by omega) (by omega) (fun h12 => ?_) (fun h12 => ?_)
        · skip
          refine qr_aload_n 57 rfl rfl rfl ?_
          refine qr_get 60 rfl rfl rfl (by decide) rfl ?_
          refine qr_iload_n 61 rfl rfl rfl ?_
          refine qr_aload_n 62 rfl rfl rfl ?_
          refine qr_get 65 rfl rfl rfl (by decide) rfl ?_
          refine qr_aload_n 66 rfl rfl rfl ?_
          refine qr_get 69 rfl rfl rfl (by decide) rfl ?_
          refine qr_get 72 rfl rfl rfl (by decide) rfl ?_
          have hs13 : 0 ≤ σ 17 6 ∧ σ 17 6 ≤ 32 := hI.1 17 6
          refine qr_callN 75 rfl rfl rfl (sf_142_27_23 (d := d + 0) hI (by omega) (by omega)) ?_
          rintro _ _ ⟨rfl, v14, rfl, hv14⟩
          show qr_W (qe L xs vb) (d + 3) qx_e141 _ (75, _, [.int (qz v14)], qw σ α κ ρ, 0, 0)
          refine qr_istore _ 77 rfl (by decide) rfl rfl ?_
          refine qr_iload_n 78 rfl rfl rfl ?_
          refine qr_iconst 79 rfl rfl ?_
          refine qr_icmp_ne 85 82 rfl rfl rfl (by omega) (by omega) (fun h15 => ?_) (fun h15 => ?_)
          · skip
            refine qr_aload_n 86 rfl rfl rfl ?_
            refine qr_get 89 rfl rfl rfl (by decide) rfl ?_
            refine qr_aload_n 90 rfl rfl rfl ?_
            refine qr_get 93 rfl rfl rfl (by decide) rfl ?_
            refine qr_callN 96 rfl rfl rfl (sf_143_25_23 (d := d + 2) hI ) ?_
            rintro _ _ ⟨σ16, α17, rfl, hI18, hG19, rfl⟩
            have hF20 : qFr [(25, 1)] [26] σ α σ16 α17 := qFr_t hF0 hG19 (by decide) (by decide)
            show qr_W (qe L xs vb) (d + 3) qx_e141 _ (96, _, [], qw σ16 α17 κ ρ, 0, 0)
            refine qr_aload_n 97 rfl rfl rfl ?_
            refine qr_get 100 rfl rfl rfl (by decide) rfl ?_
            refine qr_iload 102 rfl rfl rfl ?_
            refine qr_iload 104 rfl rfl rfl ?_
            refine qr_aload_n 105 rfl rfl rfl ?_
            refine qr_get 108 rfl rfl rfl (by decide) rfl ?_
            as_aux_lemma =>
              refine qr_get 111 rfl rfl rfl (by decide) rfl ?_
              refine qy_v (σ 17 6) ((hG19.1 17 6 (by decide)).trans rfl) ?_
              refine qr_callN 114 rfl rfl rfl (sf_58_25 (d := d + 1) hI18 (by omega) (by omega) (by omega)) ?_
              rintro _ _ ⟨σ21, α22, rfl, hI23, hG24, rfl⟩
              have hF25 : qFr [(25, 1)] [26] σ α σ21 α22 := qFr_t hF20 hG24 (by decide) (by decide)
              show qr_W (qe L xs vb) (d + 3) qx_e141 _ (114, _, [], qw σ21 α22 κ ρ, 0, 0)
              refine qr_aload_n 115 rfl rfl rfl ?_
              refine qr_get 118 rfl rfl rfl (by decide) rfl ?_
              refine qr_iload_n 119 rfl rfl rfl ?_
              refine qr_aload_n 120 rfl rfl rfl ?_
              refine qr_get 123 rfl rfl rfl (by decide) rfl ?_
              refine qr_aload_n 124 rfl rfl rfl ?_
              refine qr_get 127 rfl rfl rfl (by decide) rfl ?_
              refine qr_get 130 rfl rfl rfl (by decide) rfl ?_
              refine qy_v (σ 17 6) ((hG24.1 17 6 (by decide)).trans ((hG19.1 17 6 (by decide)).trans rfl)) ?_
              refine qr_callN 133 rfl rfl rfl (sf_142_27_25 (d := d + 0) hI23 (by omega) (by omega)) ?_
              rintro _ _ ⟨rfl, v26, rfl, hv26⟩
              show qr_W (qe L xs vb) (d + 3) qx_e141 _ (133, _, [.int (qz v26)], qw σ21 α22 κ ρ, 0, 0)
              refine qr_iload 135 rfl rfl rfl ?_
              refine qr_isub 136 rfl rfl ?_
              refine qy_can (fun v27 hv27 => ?_)
              refine qr_retI rfl rfl (by decide) (by decide) ?_
              exact ⟨_, _, rfl, hI23, hF25, v27, rfl, by omega⟩
          · skip
            refine qr_iload 84 rfl rfl rfl ?_
            refine qr_retI rfl rfl (by decide) (by decide) ?_
            exact ⟨_, _, rfl, hI, hF0, v14, rfl, by omega⟩
        · skip
          refine qr_iconst 55 rfl rfl ?_
          refine qr_retI rfl rfl (by decide) (by decide) ?_
          exact ⟨_, _, rfl, hI, hF0, (-1), rfl, by omega⟩
      · skip
        refine qr_iconst 26 rfl rfl ?_
        refine qr_retI rfl rfl (by decide) (by decide) ?_
        exact ⟨_, _, rfl, hI, hF0, (-1), rfl, by omega⟩

set_option maxHeartbeats 4000000 in
set_option maxRecDepth 20000 in
/-- OneRoof.taken -/
theorem sf_167_16 {L : Nat} {xs : Nat → Int} {vb : Bool} {d : Nat} {σ α : Nat → Nat → Int} {κ : Nat → Option Nat} {ρ : Nat} {x1 : Int} {x2 : Int} (hI : qI σ α κ ρ) (r1 : (-2147483648) ≤ x1 ∧ x1 ≤ 2147483647) (r2 : (-2147483648) ≤ x2 ∧ x2 ≤ 2147483647) : qm_T (qe L xs vb) (d + 2) 167 [.ref 16, .int (qz x1), .int (qz x2)] (qw σ α κ ρ) (fun r w' => w' = qw σ α κ ρ ∧ ∃ v : Int, r = some (.int (qz v)) ∧ ((-2147483648) ≤ v ∧ v ≤ 2147483647)) := by
  refine qr_start (d := d + 1) qv_e167 (Nat.le_of_ble_eq_true rfl) ?_
  show qr_W (qe L xs vb) (d + 1) qx_e167 _ (0, [(0, .ref 16), (1, .int (qz x1)), (2, .int (qz x2))], [], _, 0, 0)
  refine qr_aload_n 1 rfl rfl rfl ?_
  refine qr_get 4 rfl rfl rfl (by decide) rfl ?_
  refine qr_iload_n 5 rfl rfl rfl ?_
  refine qr_callN 8 rfl rfl rfl (sf_44_44 (d := d + 0) hI (by omega)) ?_
  rintro _ _ ⟨rfl, v1, rfl, hv1, hp2⟩
  show qr_W (qe L xs vb) (d + 1) qx_e167 _ (8, _, [.int (qz v1)], qw σ α κ ρ, 0, 0)
  refine qr_if_eq 21 11 rfl rfl rfl (by omega) (fun h3 => ?_) (fun h3 => ?_)
  · skip
    refine qr_iconst 22 rfl rfl ?_
    refine qr_retI rfl rfl (by decide) (by decide) ?_
    exact ⟨rfl, (-1), rfl, by omega⟩
  · skip
    refine qr_iload_n 12 rfl rfl rfl ?_
    refine qr_if_lt 21 15 rfl rfl rfl (by omega) (fun h4 => ?_) (fun h4 => ?_)
    · skip
      refine qr_iconst 22 rfl rfl ?_
      refine qr_retI rfl rfl (by decide) (by decide) ?_
      exact ⟨rfl, (-1), rfl, by omega⟩
    · skip
      refine qr_iload_n 16 rfl rfl rfl ?_
      refine qr_bipush 18 rfl (by decide) rfl ?_
      refine qr_icmp_le 23 21 rfl rfl rfl (by omega) (by omega) (fun h5 => ?_) (fun h5 => ?_)
      · skip
        refine qr_aload_n 24 rfl rfl rfl ?_
        refine qr_get 27 rfl rfl rfl (by decide) rfl ?_
        refine qr_iload_n 28 rfl rfl rfl ?_
        refine qr_callN 31 rfl rfl rfl (sf_45_44 (d := d + 0) hI (by omega)) ?_
        rintro _ _ ⟨rfl, v6, rfl, hv6⟩
        show qr_W (qe L xs vb) (d + 1) qx_e167 _ (31, _, [.int (qz v6)], qw σ α κ ρ, 0, 0)
        refine qr_if_eq 37 34 rfl rfl rfl (by omega) (fun h7 => ?_) (fun h7 => ?_)
        · skip
          refine qr_aload_n 38 rfl rfl rfl ?_
          refine qr_get 41 rfl rfl rfl (by decide) rfl ?_
          refine qr_iload_n 42 rfl rfl rfl ?_
          refine qr_callN 45 rfl rfl rfl (sf_168_44 (d := d + 0) hI (by omega)) ?_
          rintro _ _ ⟨rfl, v8, rfl, hv8⟩
          show qr_W (qe L xs vb) (d + 1) qx_e167 _ (45, _, [.int (qz v8)], qw σ α κ ρ, 0, 0)
          refine qr_istore_n _ 46 rfl (by decide) rfl rfl ?_
          refine qr_aload_n 47 rfl rfl rfl ?_
          refine qr_get 50 rfl rfl rfl (by decide) rfl ?_
          refine qr_iload_n 51 rfl rfl rfl ?_
          refine qr_callN 54 rfl rfl rfl (sf_73_34 (d := d + 0) hI (by omega)) ?_
          have hs11 : 0 ≤ σ 34 7 ∧ σ 34 7 ≤ 60 := hI.1 34 7
          rintro _ _ ⟨rfl, v9, rfl, hv9, hp10⟩
          show qr_W (qe L xs vb) (d + 1) qx_e167 _ (54, _, [.int (qz v9)], qw σ α κ ρ, 0, 0)
          refine qr_if_eq 73 57 rfl rfl rfl (by omega) (fun h12 => ?_) (fun h12 => ?_)
          · skip
            refine qr_bipush 75 rfl (by decide) rfl ?_
            refine qr_retI rfl rfl (by decide) (by decide) ?_
            exact ⟨rfl, (-12), rfl, by omega⟩
          · skip
            refine qr_aload_n 58 rfl rfl rfl ?_
            refine qr_get 61 rfl rfl rfl (by decide) rfl ?_
            refine qr_get 64 rfl rfl rfl (by decide) rfl ?_
            refine qr_iload_n 65 rfl rfl rfl ?_
            refine qr_iaload 66 rfl rfl (by omega) (by decide) rfl ?_
            refine qr_topI (fun v13 hv13 => ?_)
            have hs14 : (-2147483648) ≤ v13 ∧ v13 ≤ 2147483647 := by rw [hv13]; exact hI.2.1 35 _ (show _ < 60 by omega)
            refine qr_iload_n 67 rfl rfl rfl ?_
            refine qr_callN 70 rfl rfl rfl (sf_169 (d := d + 0) hI (by omega) (by omega)) ?_
            rintro _ _ ⟨rfl, v15, rfl, hv15⟩
            show qr_W (qe L xs vb) (d + 1) qx_e167 _ (70, _, [.int (qz v15)], qw σ α κ ρ, 0, 0)
            refine qr_if_ne 76 73 rfl rfl rfl (by omega) (fun h16 => ?_) (fun h16 => ?_)
            · skip
              refine qr_aload_n 77 rfl rfl rfl ?_
              refine qr_get 80 rfl rfl rfl (by decide) rfl ?_
              refine qr_get 83 rfl rfl rfl (by decide) rfl ?_
              refine qr_iload_n 84 rfl rfl rfl ?_
              refine qr_iaload 85 rfl rfl (by omega) (by decide) rfl ?_
              refine qr_topI (fun v17 hv17 => ?_)
              have hs18 : (-2147483648) ≤ v17 ∧ v17 ≤ 2147483647 := by rw [hv17]; exact hI.2.1 35 _ (show _ < 60 by omega)
              refine qr_retI rfl rfl (by decide) (by decide) ?_
              exact ⟨rfl, v17, rfl, by omega⟩
            · skip
              refine qr_bipush 75 rfl (by decide) rfl ?_
              refine qr_retI rfl rfl (by decide) (by decide) ?_
              exact ⟨rfl, (-12), rfl, by omega⟩
        · skip
          refine qr_bipush 36 rfl (by decide) rfl ?_
          refine qr_retI rfl rfl (by decide) (by decide) ?_
          exact ⟨rfl, (-11), rfl, by omega⟩
      · skip
        refine qr_iconst 22 rfl rfl ?_
        refine qr_retI rfl rfl (by decide) (by decide) ?_
        exact ⟨rfl, (-1), rfl, by omega⟩
