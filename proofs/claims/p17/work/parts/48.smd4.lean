set_option maxHeartbeats 4000000 in
set_option maxRecDepth 20000 in
/-- OneRoofModel.one -/
theorem sf_218_86o0 {L : Nat} {xs : Nat → Int} {vb : Bool} {d : Nat} {σ α : Nat → Nat → Int} {κ : Nat → Option Nat} {ρ : Nat}  (hI : qI σ α κ ρ) (p0 : 0 ≤ σ 86 39) (p1 : σ 86 36 ≤ σ 86 37) : qm_T (qe L xs vb) (d + 38) 218 [.ref 86] (qw σ α κ ρ) (fun r w' => ∃ σ', w' = qw σ' α κ ρ ∧ qI σ' α κ ρ ∧ qFr [(86, 36), (86, 38), (86, 39)] [] σ α σ' α ∧ ∃ v : Int, r = some (.int (qz v)) ∧ ((-2147483648) ≤ v ∧ v ≤ 2147483647) ∧ σ 86 39 ≤ σ' 86 39 ∧ σ 86 36 ≤ σ' 86 36 ∧ σ' 86 36 ≤ σ' 86 37 ∧ σ' 86 37 = σ 86 37) := by
  refine qr_start (d := d + 37) qv_e218 (Nat.le_of_ble_eq_true rfl) ?_
  show qr_W (qe L xs vb) (d + 37) qx_e218 _ (0, [(0, .ref 86)], [], _, 0, 0)
  have hF0 := qFr_rf [(86, 36), (86, 38), (86, 39)] [] σ α
  have hz86_39 : 0 ≤ σ 86 39 ∧ σ 86 39 ≤ 6 := hI.1 86 39
  have hz86_36 : 0 ≤ σ 86 36 ∧ σ 86 36 ≤ 120 := hI.1 86 36
  have hz86_37 : 0 ≤ σ 86 37 ∧ σ 86 37 ≤ 120 := hI.1 86 37
  refine qr_aload_n 1 rfl rfl rfl ?_
  refine qr_get 4 rfl rfl rfl (by decide) rfl ?_
  have hs1 : (-1) ≤ σ 86 38 ∧ σ 86 38 ≤ 120 := hI.1 86 38
  refine qr_if_lt 9 7 rfl rfl rfl (by omega) (fun h2 => ?_) (fun h2 => ?_)
  · skip
    refine qr_aload_n 10 rfl rfl rfl ?_
    refine qr_callN 13 rfl rfl rfl (sf_219_86t (d := d + 36) hI ) ?_
    have hs5 : 0 ≤ σ 86 36 ∧ σ 86 36 ≤ 120 := hI.1 86 36
    have hs6 : 0 ≤ σ 86 37 ∧ σ 86 37 ≤ 120 := hI.1 86 37
    rintro _ _ ⟨rfl, v3, rfl, hv3, hp4⟩
    show qr_W (qe L xs vb) (d + 37) qx_e218 _ (13, _, [.int (qz v3)], qw σ α κ ρ, 0, 0)
    refine qr_istore_n _ 14 rfl (by decide) rfl rfl ?_
    refine qr_iload_n 15 rfl rfl rfl ?_
    refine qr_bipush 17 rfl (by decide) rfl ?_
    refine qr_icmp_eq 32 20 rfl rfl rfl (by omega) (by omega) (fun h7 => ?_) (fun h7 => ?_)
    · skip
      refine qr_aload_n 33 rfl rfl rfl ?_
      refine qr_get 36 rfl rfl rfl (by decide) rfl ?_
      refine qr_bipush 38 rfl (by decide) rfl ?_
      refine qr_icmp_ne 46 41 rfl rfl rfl (by omega) (by omega) (fun h8 => ?_) (fun h8 => ?_)
      · skip
        refine qr_aload_n 47 rfl rfl rfl ?_
        refine qr_dup 48 rfl rfl rfl ?_
        refine qr_get 51 rfl rfl rfl (by decide) rfl ?_
        refine qr_iconst 52 rfl rfl ?_
        refine qr_iadd 53 rfl rfl ?_
        refine qr_put 56 rfl (by decide) rfl (Nat.le_of_ble_eq_true rfl) (Nat.le_of_ble_eq_true rfl) (Or.inl rfl) (qr_fitI rfl _) rfl ?_
        refine qy_wS (qw_s σ 86 39 ((σ 86 39) + 1)) rfl (fun σ9 e10 => ?_)
        have hI11 : qI σ9 α κ ρ := by rw [e10]; exact qI_s hI 86 39 rfl (show 0 ≤ ((σ 86 39) + 1) ∧ ((σ 86 39) + 1) ≤ 6 by omega)
        have hF12 : qFr [(86, 36), (86, 38), (86, 39)] [] σ α σ9 α := by rw [e10]; exact qFr_s hF0 86 39 _ (by decide)
        refine qr_aload_n 57 rfl rfl rfl ?_
        refine qr_dup 58 rfl rfl rfl ?_
        refine qr_get 61 rfl rfl rfl (by decide) rfl ?_
        refine qy_v (σ 86 36) ((congrFun (congrFun e10 86) 36).trans rfl) ?_
        refine qr_iconst 62 rfl rfl ?_
        refine qr_iadd 63 rfl rfl ?_
        refine qr_put 66 rfl (by decide) rfl (Nat.le_of_ble_eq_true rfl) (Nat.le_of_ble_eq_true rfl) (Or.inl rfl) (qr_fitI rfl _) rfl ?_
        refine qy_wS (qw_s σ9 86 36 ((σ 86 36) + 1)) rfl (fun σ13 e14 => ?_)
        have hI15 : qI σ13 α κ ρ := by rw [e14]; exact qI_s hI11 86 36 rfl (show 0 ≤ ((σ 86 36) + 1) ∧ ((σ 86 36) + 1) ≤ 120 by omega)
        have hF16 : qFr [(86, 36), (86, 38), (86, 39)] [] σ α σ13 α := by rw [e14]; exact qFr_s hF12 86 36 _ (by decide)
        refine qr_iload_n 67 rfl rfl rfl ?_
        refine qr_bipush 69 rfl (by decide) rfl ?_
        refine qr_icmp_ne 79 72 rfl rfl rfl (by omega) (by omega) (fun h17 => ?_) (fun h => False.elim (by omega))
        refine qr_aload_n 80 rfl rfl rfl ?_
        refine qr_callN 83 rfl rfl rfl (sf_218_86o1 (d := d + 5) hI15 (by omega) (by omega)) ?_
        have hs20 : 0 ≤ σ13 86 36 ∧ σ13 86 36 ≤ 120 := hI15.1 86 36
        have hs21 : σ13 86 36 = ((σ 86 36) + 1) := (congrFun (congrFun e14 86) 36).trans rfl
        have hs22 : 0 ≤ σ13 86 37 ∧ σ13 86 37 ≤ 120 := hI15.1 86 37
        have hs23 : σ13 86 37 = (σ 86 37) := (congrFun (congrFun e14 86) 37).trans ((congrFun (congrFun e10 86) 37).trans rfl)
        have hs24 : 0 ≤ σ13 86 39 ∧ σ13 86 39 ≤ 6 := hI15.1 86 39
        have hs25 : σ13 86 39 = ((σ 86 39) + 1) := (congrFun (congrFun e14 86) 39).trans ((congrFun (congrFun e10 86) 39).trans rfl)
        rintro _ _ ⟨σ26, rfl, hI27, hG28, v18, rfl, hv18, hp19⟩
        have hF29 : qFr [(86, 36), (86, 38), (86, 39)] [] σ α σ26 α := qFr_t hF16 hG28 (by decide) (by decide)
        have hs30 : 0 ≤ σ26 86 36 ∧ σ26 86 36 ≤ 120 := hI27.1 86 36
        have hs31 : 0 ≤ σ26 86 37 ∧ σ26 86 37 ≤ 120 := hI27.1 86 37
        have hs32 : 0 ≤ σ26 86 39 ∧ σ26 86 39 ≤ 6 := hI27.1 86 39
        show qr_W (qe L xs vb) (d + 37) qx_e218 _ (83, _, [.int (qz v18)], qw σ26 α κ ρ, 0, 0)
        refine qr_istore_n _ 84 rfl (by decide) rfl rfl ?_
        refine qr_iload_n 85 rfl rfl rfl ?_
        refine qr_bipush 87 rfl (by decide) rfl ?_
        refine qr_icmp_ne 104 90 rfl rfl rfl (by omega) (by omega) (fun h33 => ?_) (fun h => False.elim (by omega))
        refine qr_aload_n 105 rfl rfl rfl ?_
        refine qr_dup 106 rfl rfl rfl ?_
        refine qr_get 109 rfl rfl rfl (by decide) rfl ?_
        refine qr_iconst 110 rfl rfl ?_
        refine qr_isub 111 rfl rfl ?_
        refine qr_put 114 rfl (by decide) rfl (Nat.le_of_ble_eq_true rfl) (Nat.le_of_ble_eq_true rfl) (Or.inl rfl) (qr_fitI rfl _) rfl ?_
        refine qy_wS (qw_s σ26 86 39 ((σ26 86 39) - 1)) rfl (fun σ34 e35 => ?_)
        have hI36 : qI σ34 α κ ρ := by rw [e35]; exact qI_s hI27 86 39 rfl (show 0 ≤ ((σ26 86 39) - 1) ∧ ((σ26 86 39) - 1) ≤ 6 by omega)
        have hF37 : qFr [(86, 36), (86, 38), (86, 39)] [] σ α σ34 α := by rw [e35]; exact qFr_s hF29 86 39 _ (by decide)
        refine qr_iload_n 115 rfl rfl rfl ?_
        refine qr_bipush 117 rfl (by decide) rfl ?_
        refine qr_icmp_ne 124 120 rfl rfl rfl (by omega) (by omega) (fun h38 => ?_) (fun h => False.elim (by omega))
        refine qr_iload_n 125 rfl rfl rfl ?_
        refine qr_bipush 127 rfl (by decide) rfl ?_
        refine qr_icmp_ne 135 130 rfl rfl rfl (by omega) (by omega) (fun h39 => ?_) (fun h => False.elim (by omega))
        refine qr_iload_n 136 rfl rfl rfl ?_
        refine qr_if_ne 143 139 rfl rfl rfl (by omega) (fun h40 => ?_) (fun h40 => ?_)
        · skip
          refine qr_iconst 144 rfl rfl ?_
          refine qr_retI rfl rfl (by decide) (by decide) ?_
          have hw41 : σ34 86 36 = (σ26 86 36) := (congrFun (congrFun e35 86) 36).trans rfl
          have hw42 : σ34 86 37 = (σ 86 37) := (congrFun (congrFun e35 86) 37).trans ((hG28.1 86 37 (by decide)).trans ((congrFun (congrFun e14 86) 37).trans ((congrFun (congrFun e10 86) 37).trans rfl)))
          have hw43 : σ34 86 39 = ((σ26 86 39) - 1) := (congrFun (congrFun e35 86) 39).trans rfl
          exact ⟨_, rfl, hI36, hF37, 0, rfl, by omega, by omega⟩
        · skip
          refine qr_iconst 140 rfl rfl ?_
          refine qr_goto 144 rfl rfl ?_
          as_aux_lemma =>
            refine qr_retI rfl rfl (by decide) (by decide) ?_
            have hw44 : σ34 86 36 = (σ26 86 36) := (congrFun (congrFun e35 86) 36).trans rfl
            have hw45 : σ34 86 37 = (σ 86 37) := (congrFun (congrFun e35 86) 37).trans ((hG28.1 86 37 (by decide)).trans ((congrFun (congrFun e14 86) 37).trans ((congrFun (congrFun e10 86) 37).trans rfl)))
            have hw46 : σ34 86 39 = ((σ26 86 39) - 1) := (congrFun (congrFun e35 86) 39).trans rfl
            exact ⟨_, rfl, hI36, hF37, 1, rfl, by omega, by omega⟩
      · skip
        refine qr_aload_n 42 rfl rfl rfl ?_
        refine qr_callN 45 rfl rfl rfl (sf_220_86 (d := d + 36) hI ) ?_
        rintro _ _ ⟨σ48, rfl, hI49, hG50, v47, rfl, hv47⟩
        have hF51 : qFr [(86, 36), (86, 38), (86, 39)] [] σ α σ48 α := qFr_t hF0 hG50 (by decide) (by decide)
        show qr_W (qe L xs vb) (d + 37) qx_e218 _ (45, _, [.int (qz v47)], qw σ48 α κ ρ, 0, 0)
        refine qr_retI rfl rfl (by decide) (by decide) ?_
        have hw52 : σ48 86 36 = (σ 86 36) := (hG50.1 86 36 (by decide)).trans rfl
        have hw53 : σ48 86 37 = (σ 86 37) := (hG50.1 86 37 (by decide)).trans rfl
        have hw54 : σ48 86 39 = (σ 86 39) := (hG50.1 86 39 (by decide)).trans rfl
        exact ⟨_, rfl, hI49, hF51, v47, rfl, by omega, by omega⟩
    · skip
      refine qr_iload_n 21 rfl rfl rfl ?_
      refine qr_bipush 23 rfl (by decide) rfl ?_
      refine qr_icmp_eq 32 26 rfl rfl rfl (by omega) (by omega) (fun h55 => ?_) (fun h55 => ?_)
      · skip
        refine qr_aload_n 33 rfl rfl rfl ?_
        refine qr_get 36 rfl rfl rfl (by decide) rfl ?_
        refine qr_bipush 38 rfl (by decide) rfl ?_
        refine qr_icmp_ne 46 41 rfl rfl rfl (by omega) (by omega) (fun h56 => ?_) (fun h56 => ?_)
        · skip
          refine qr_aload_n 47 rfl rfl rfl ?_
          refine qr_dup 48 rfl rfl rfl ?_
          refine qr_get 51 rfl rfl rfl (by decide) rfl ?_
          refine qr_iconst 52 rfl rfl ?_
          refine qr_iadd 53 rfl rfl ?_
          refine qr_put 56 rfl (by decide) rfl (Nat.le_of_ble_eq_true rfl) (Nat.le_of_ble_eq_true rfl) (Or.inl rfl) (qr_fitI rfl _) rfl ?_
          refine qy_wS (qw_s σ 86 39 ((σ 86 39) + 1)) rfl (fun σ57 e58 => ?_)
          have hI59 : qI σ57 α κ ρ := by rw [e58]; exact qI_s hI 86 39 rfl (show 0 ≤ ((σ 86 39) + 1) ∧ ((σ 86 39) + 1) ≤ 6 by omega)
          have hF60 : qFr [(86, 36), (86, 38), (86, 39)] [] σ α σ57 α := by rw [e58]; exact qFr_s hF0 86 39 _ (by decide)
          refine qr_aload_n 57 rfl rfl rfl ?_
          refine qr_dup 58 rfl rfl rfl ?_
          refine qr_get 61 rfl rfl rfl (by decide) rfl ?_
          refine qy_v (σ 86 36) ((congrFun (congrFun e58 86) 36).trans rfl) ?_
          refine qr_iconst 62 rfl rfl ?_
          refine qr_iadd 63 rfl rfl ?_
          refine qr_put 66 rfl (by decide) rfl (Nat.le_of_ble_eq_true rfl) (Nat.le_of_ble_eq_true rfl) (Or.inl rfl) (qr_fitI rfl _) rfl ?_
          refine qy_wS (qw_s σ57 86 36 ((σ 86 36) + 1)) rfl (fun σ61 e62 => ?_)
          have hI63 : qI σ61 α κ ρ := by rw [e62]; exact qI_s hI59 86 36 rfl (show 0 ≤ ((σ 86 36) + 1) ∧ ((σ 86 36) + 1) ≤ 120 by omega)
          have hF64 : qFr [(86, 36), (86, 38), (86, 39)] [] σ α σ61 α := by rw [e62]; exact qFr_s hF60 86 36 _ (by decide)
          refine qr_iload_n 67 rfl rfl rfl ?_
          refine qr_bipush 69 rfl (by decide) rfl ?_
          refine qr_icmp_ne 79 72 rfl rfl rfl (by omega) (by omega) (fun h65 => ?_) (fun h => False.elim (by omega))
          refine qr_aload_n 80 rfl rfl rfl ?_
          refine qr_callN 83 rfl rfl rfl (sf_218_86o1 (d := d + 5) hI63 (by omega) (by omega)) ?_
          have hs68 : 0 ≤ σ61 86 36 ∧ σ61 86 36 ≤ 120 := hI63.1 86 36
          have hs69 : σ61 86 36 = ((σ 86 36) + 1) := (congrFun (congrFun e62 86) 36).trans rfl
          have hs70 : 0 ≤ σ61 86 37 ∧ σ61 86 37 ≤ 120 := hI63.1 86 37
          have hs71 : σ61 86 37 = (σ 86 37) := (congrFun (congrFun e62 86) 37).trans ((congrFun (congrFun e58 86) 37).trans rfl)
          have hs72 : 0 ≤ σ61 86 39 ∧ σ61 86 39 ≤ 6 := hI63.1 86 39
          have hs73 : σ61 86 39 = ((σ 86 39) + 1) := (congrFun (congrFun e62 86) 39).trans ((congrFun (congrFun e58 86) 39).trans rfl)
          rintro _ _ ⟨σ74, rfl, hI75, hG76, v66, rfl, hv66, hp67⟩
          have hF77 : qFr [(86, 36), (86, 38), (86, 39)] [] σ α σ74 α := qFr_t hF64 hG76 (by decide) (by decide)
          have hs78 : 0 ≤ σ74 86 36 ∧ σ74 86 36 ≤ 120 := hI75.1 86 36
          have hs79 : 0 ≤ σ74 86 37 ∧ σ74 86 37 ≤ 120 := hI75.1 86 37
          have hs80 : 0 ≤ σ74 86 39 ∧ σ74 86 39 ≤ 6 := hI75.1 86 39
          show qr_W (qe L xs vb) (d + 37) qx_e218 _ (83, _, [.int (qz v66)], qw σ74 α κ ρ, 0, 0)
          refine qr_istore_n _ 84 rfl (by decide) rfl rfl ?_
          refine qr_iload_n 85 rfl rfl rfl ?_
          refine qr_bipush 87 rfl (by decide) rfl ?_
          refine qr_icmp_ne 104 90 rfl rfl rfl (by omega) (by omega) (fun h81 => ?_) (fun h => False.elim (by omega))
          refine qr_aload_n 105 rfl rfl rfl ?_
          refine qr_dup 106 rfl rfl rfl ?_
          refine qr_get 109 rfl rfl rfl (by decide) rfl ?_
          refine qr_iconst 110 rfl rfl ?_
          refine qr_isub 111 rfl rfl ?_
          refine qr_put 114 rfl (by decide) rfl (Nat.le_of_ble_eq_true rfl) (Nat.le_of_ble_eq_true rfl) (Or.inl rfl) (qr_fitI rfl _) rfl ?_
          refine qy_wS (qw_s σ74 86 39 ((σ74 86 39) - 1)) rfl (fun σ82 e83 => ?_)
          have hI84 : qI σ82 α κ ρ := by rw [e83]; exact qI_s hI75 86 39 rfl (show 0 ≤ ((σ74 86 39) - 1) ∧ ((σ74 86 39) - 1) ≤ 6 by omega)
          have hF85 : qFr [(86, 36), (86, 38), (86, 39)] [] σ α σ82 α := by rw [e83]; exact qFr_s hF77 86 39 _ (by decide)
          refine qr_iload_n 115 rfl rfl rfl ?_
          refine qr_bipush 117 rfl (by decide) rfl ?_
          refine qr_icmp_ne 124 120 rfl rfl rfl (by omega) (by omega) (fun h86 => ?_) (fun h => False.elim (by omega))
          refine qr_iload_n 125 rfl rfl rfl ?_
          refine qr_bipush 127 rfl (by decide) rfl ?_
          refine qr_icmp_ne 135 130 rfl rfl rfl (by omega) (by omega) (fun h => False.elim (by omega)) (fun h87 => ?_)
          refine qr_iload_n 131 rfl rfl rfl ?_
          as_aux_lemma =>
            refine qr_ineg 132 rfl rfl ?_
            refine qy_can (fun v88 hv88 => ?_)
            refine qr_goto 144 rfl rfl ?_
            refine qr_retI rfl rfl (by decide) (by decide) ?_
            have hw89 : σ82 86 36 = (σ74 86 36) := (congrFun (congrFun e83 86) 36).trans rfl
            have hw90 : σ82 86 37 = (σ 86 37) := (congrFun (congrFun e83 86) 37).trans ((hG76.1 86 37 (by decide)).trans ((congrFun (congrFun e62 86) 37).trans ((congrFun (congrFun e58 86) 37).trans rfl)))
            have hw91 : σ82 86 39 = ((σ74 86 39) - 1) := (congrFun (congrFun e83 86) 39).trans rfl
            exact ⟨_, rfl, hI84, hF85, v88, rfl, by omega, by omega⟩
        · skip
          refine qr_aload_n 42 rfl rfl rfl ?_
          refine qr_callN 45 rfl rfl rfl (sf_220_86 (d := d + 36) hI ) ?_
          rintro _ _ ⟨σ93, rfl, hI94, hG95, v92, rfl, hv92⟩
          have hF96 : qFr [(86, 36), (86, 38), (86, 39)] [] σ α σ93 α := qFr_t hF0 hG95 (by decide) (by decide)
          show qr_W (qe L xs vb) (d + 37) qx_e218 _ (45, _, [.int (qz v92)], qw σ93 α κ ρ, 0, 0)
          refine qr_retI rfl rfl (by decide) (by decide) ?_
          have hw97 : σ93 86 36 = (σ 86 36) := (hG95.1 86 36 (by decide)).trans rfl
          have hw98 : σ93 86 37 = (σ 86 37) := (hG95.1 86 37 (by decide)).trans rfl
          have hw99 : σ93 86 39 = (σ 86 39) := (hG95.1 86 39 (by decide)).trans rfl
          exact ⟨_, rfl, hI94, hF96, v92, rfl, by omega, by omega⟩
      · skip
        refine qr_iload_n 27 rfl rfl rfl ?_
        refine qr_bipush 29 rfl (by decide) rfl ?_
        refine qr_icmp_ne 145 32 rfl rfl rfl (by omega) (by omega) (fun h100 => ?_) (fun h100 => ?_)
        · skip
          refine qr_iload_n 146 rfl rfl rfl ?_
          refine qr_callN 149 rfl rfl rfl (sf_222 (d := d + 36) hI (by omega)) ?_
          rintro _ _ ⟨rfl, v101, rfl, hv101⟩
          show qr_W (qe L xs vb) (d + 37) qx_e218 _ (149, _, [.int (qz v101)], qw σ α κ ρ, 0, 0)
          refine qr_istore_n _ 150 rfl (by decide) rfl rfl ?_
          refine qr_iload_n 151 rfl rfl rfl ?_
          refine qr_if_lt 171 154 rfl rfl rfl (by omega) (fun h102 => ?_) (fun h102 => ?_)
          · skip
            refine qr_iconst 172 rfl rfl ?_
            refine qr_istore_n _ 173 rfl (by decide) rfl rfl ?_
            refine qr_iconst 174 rfl rfl ?_
            refine qr_istore _ 176 rfl (by decide) rfl rfl ?_
            have hL372 : ∀ (n : Nat) (ls : qm_L) (u355 u357 : Int) (σ358 : Nat → Nat → Int), 4 - u357 < (n : Int) → qm_get ls 0 = some (.ref 86) → qm_get ls 3 = some (.int (qz u355)) → qm_get ls 4 = some (.int (qz u357)) → ((-2147483648) ≤ u355 ∧ u355 ≤ 2147483647) → (0 ≤ u357 ∧ u357 ≤ 4) → qI σ358 α κ ρ → qFr [(86, 36), (86, 38), (86, 39)] [] σ α σ358 α → σ358 86 37 = (σ 86 37) → σ358 86 38 = (σ 86 38) → σ358 86 39 = (σ 86 39) → 0 ≤ σ358 86 39 → σ 86 39 ≤ σ358 86 39 → σ 86 36 ≤ σ358 86 36 → σ358 86 36 ≤ σ358 86 37 → σ358 86 37 = σ 86 37 → qr_W (qe L xs vb) (d + 37) qx_e218 (fun r w' => ∃ σ', w' = qw σ' α κ ρ ∧ qI σ' α κ ρ ∧ qFr [(86, 36), (86, 38), (86, 39)] [] σ α σ' α ∧ ∃ v : Int, r = some (.int (qz v)) ∧ ((-2147483648) ≤ v ∧ v ≤ 2147483647) ∧ σ 86 39 ≤ σ' 86 39 ∧ σ 86 36 ≤ σ' 86 36 ∧ σ' 86 36 ≤ σ' 86 37 ∧ σ' 86 37 = σ 86 37) (176, ls, [], qw σ358 α κ ρ, 0, 0) := by
              intro n
              induction n with
              | zero => intro ls u355 u357 σ358 hm g353 g354 g356 hf365 hf366 hI360 hF361 hk362 hk363 hk364 hx367 hx368 hx369 hx370 hx371; exact False.elim (by omega)
              | succ n ih373 =>
                intro ls u355 u357 σ358 hm g353 g354 g356 hf365 hf366 hI360 hF361 hk362 hk363 hk364 hx367 hx368 hx369 hx370 hx371
                have hs374 : 0 ≤ σ358 86 39 ∧ σ358 86 39 ≤ 6 := hI360.1 86 39
                have hs375 : 0 ≤ σ358 86 36 ∧ σ358 86 36 ≤ 120 := hI360.1 86 36
                have hs376 : 0 ≤ σ358 86 37 ∧ σ358 86 37 ≤ 120 := hI360.1 86 37
                refine qr_iload 178 rfl g356 rfl ?_
                refine qr_iconst 179 rfl rfl ?_
                refine qr_icmp_ge 229 182 rfl rfl rfl (by omega) (by omega) (fun h377 => ?_) (fun h377 => ?_)
                · skip
                  refine qr_iload 231 rfl g356 rfl ?_
                  refine qr_if_ne 241 234 rfl rfl rfl (by omega) (fun h378 => ?_) (fun h => False.elim (by omega))
                  refine qr_iload_n 242 rfl g354 rfl ?_
                  refine qr_retI rfl rfl (by decide) (by decide) ?_
                  have hw379 : σ358 86 36 = (σ358 86 36) := rfl
                  have hw380 : σ358 86 37 = (σ358 86 37) := rfl
                  have hw381 : σ358 86 39 = (σ358 86 39) := rfl
                  exact ⟨_, rfl, hI360, hF361, u355, rfl, by omega, by omega⟩
                · skip
                  refine qr_aload_n 183 rfl g353 rfl ?_
                  refine qr_callN 186 rfl rfl rfl (sf_219_86t (d := d + 36) hI360 ) ?_
                  have hs384 : 0 ≤ σ358 86 36 ∧ σ358 86 36 ≤ 120 := hI360.1 86 36
                  have hs385 : 0 ≤ σ358 86 37 ∧ σ358 86 37 ≤ 120 := hI360.1 86 37
                  rintro _ _ ⟨rfl, v382, rfl, hv382, hp383⟩
                  show qr_W (qe L xs vb) (d + 37) qx_e218 _ (186, _, [.int (qz v382)], qw σ358 α κ ρ, 0, 0)
                  refine qr_bipush 188 rfl (by decide) rfl ?_
                  refine qr_icmp_lt 229 191 rfl rfl rfl (by omega) (by omega) (fun h386 => ?_) (fun h386 => ?_)
                  · skip
                    refine qr_iload 231 rfl g356 rfl ?_
                    refine qr_if_ne 241 234 rfl rfl rfl (by omega) (fun h387 => ?_) (fun h387 => ?_)
                    · skip
                      refine qr_iload_n 242 rfl g354 rfl ?_
                      refine qr_retI rfl rfl (by decide) (by decide) ?_
                      have hw388 : σ358 86 36 = (σ358 86 36) := rfl
                      have hw389 : σ358 86 37 = (σ358 86 37) := rfl
                      have hw390 : σ358 86 39 = (σ358 86 39) := rfl
                      exact ⟨_, rfl, hI360, hF361, u355, rfl, by omega, by omega⟩
                    · skip
                      refine qr_aload_n 235 rfl g353 rfl ?_
                      refine qr_callN 238 rfl rfl rfl (sf_220_86 (d := d + 36) hI360 ) ?_
                      rintro _ _ ⟨σ392, rfl, hI393, hG394, v391, rfl, hv391⟩
                      have hF395 : qFr [(86, 36), (86, 38), (86, 39)] [] σ α σ392 α := qFr_t hF361 hG394 (by decide) (by decide)
                      show qr_W (qe L xs vb) (d + 37) qx_e218 _ (238, _, [.int (qz v391)], qw σ392 α κ ρ, 0, 0)
                      refine qr_goto 242 rfl rfl ?_
                      refine qr_retI rfl rfl (by decide) (by decide) ?_
                      have hw396 : σ392 86 36 = (σ358 86 36) := (hG394.1 86 36 (by decide)).trans rfl
                      have hw397 : σ392 86 37 = (σ358 86 37) := (hG394.1 86 37 (by decide)).trans rfl
                      have hw398 : σ392 86 39 = (σ358 86 39) := (hG394.1 86 39 (by decide)).trans rfl
                      exact ⟨_, rfl, hI393, hF395, v391, rfl, by omega, by omega⟩
                  · skip
                    refine qr_aload_n 192 rfl g353 rfl ?_
                    refine qr_callN 195 rfl rfl rfl (sf_219_86t (d := d + 36) hI360 ) ?_
                    have hs401 : 0 ≤ σ358 86 36 ∧ σ358 86 36 ≤ 120 := hI360.1 86 36
                    have hs402 : 0 ≤ σ358 86 37 ∧ σ358 86 37 ≤ 120 := hI360.1 86 37
                    rintro _ _ ⟨rfl, v399, rfl, hv399, hp400⟩
                    show qr_W (qe L xs vb) (d + 37) qx_e218 _ (195, _, [.int (qz v399)], qw σ358 α κ ρ, 0, 0)
                    refine qr_bipush 197 rfl (by decide) rfl ?_
                    refine qr_icmp_gt 229 200 rfl rfl rfl (by omega) (by omega) (fun h403 => ?_) (fun h403 => ?_)
                    · skip
                      refine qr_iload 231 rfl g356 rfl ?_
                      refine qr_if_ne 241 234 rfl rfl rfl (by omega) (fun h404 => ?_) (fun h404 => ?_)
                      · skip
                        refine qr_iload_n 242 rfl g354 rfl ?_
                        refine qr_retI rfl rfl (by decide) (by decide) ?_
                        have hw405 : σ358 86 36 = (σ358 86 36) := rfl
                        have hw406 : σ358 86 37 = (σ358 86 37) := rfl
                        have hw407 : σ358 86 39 = (σ358 86 39) := rfl
                        exact ⟨_, rfl, hI360, hF361, u355, rfl, by omega, by omega⟩
                      · skip
                        refine qr_aload_n 235 rfl g353 rfl ?_
                        refine qr_callN 238 rfl rfl rfl (sf_220_86 (d := d + 36) hI360 ) ?_
                        rintro _ _ ⟨σ409, rfl, hI410, hG411, v408, rfl, hv408⟩
                        have hF412 : qFr [(86, 36), (86, 38), (86, 39)] [] σ α σ409 α := qFr_t hF361 hG411 (by decide) (by decide)
                        show qr_W (qe L xs vb) (d + 37) qx_e218 _ (238, _, [.int (qz v408)], qw σ409 α κ ρ, 0, 0)
                        refine qr_goto 242 rfl rfl ?_
                        refine qr_retI rfl rfl (by decide) (by decide) ?_
                        have hw413 : σ409 86 36 = (σ358 86 36) := (hG411.1 86 36 (by decide)).trans rfl
                        have hw414 : σ409 86 37 = (σ358 86 37) := (hG411.1 86 37 (by decide)).trans rfl
                        have hw415 : σ409 86 39 = (σ358 86 39) := (hG411.1 86 39 (by decide)).trans rfl
                        exact ⟨_, rfl, hI410, hF412, v408, rfl, by omega, by omega⟩
                    · skip
                      refine qr_bipush 202 rfl (by decide) rfl ?_
                      refine qr_iload_n 203 rfl g354 rfl ?_
                      refine qr_imul 204 rfl rfl ?_
                      refine qy_can (fun v416 hv416 => ?_)
                      refine qr_aload_n 205 rfl g353 rfl ?_
                      refine qr_callN 208 rfl rfl rfl (sf_219_86t (d := d + 36) hI360 ) ?_
                      have hs419 : 0 ≤ σ358 86 36 ∧ σ358 86 36 ≤ 120 := hI360.1 86 36
                      have hs420 : 0 ≤ σ358 86 37 ∧ σ358 86 37 ≤ 120 := hI360.1 86 37
                      rintro _ _ ⟨rfl, v417, rfl, hv417, hp418⟩
                      show qr_W (qe L xs vb) (d + 37) qx_e218 _ (208, _, [.int (qz v417), .int (qz v416)], qw σ358 α κ ρ, 0, 0)
                      refine qr_iadd 209 rfl rfl ?_
                      refine qy_can (fun v421 hv421 => ?_)
                      refine qr_bipush 211 rfl (by decide) rfl ?_
                      refine qr_isub 212 rfl rfl ?_
                      refine qy_can (fun v422 hv422 => ?_)
                      refine qr_istore_n _ 213 rfl (by decide) rfl rfl ?_
                      refine qr_iinc _ 216 rfl (qm_gk g356 (by decide) (Or.inl (by decide))) (by decide) rfl rfl ?_
                      refine qr_aload_n 217 rfl (qm_gk (qm_gk g353 (by decide) (Or.inl (by decide))) (by decide) (Or.inl (by decide))) rfl ?_
                      refine qr_dup 218 rfl rfl rfl ?_
                      refine qr_get 221 rfl rfl rfl (by decide) rfl ?_
                      refine qr_iconst 222 rfl rfl ?_
                      refine qr_iadd 223 rfl rfl ?_
                      refine qr_put 226 rfl (by decide) rfl (Nat.le_of_ble_eq_true rfl) (Nat.le_of_ble_eq_true rfl) (Or.inl rfl) (qr_fitI rfl _) rfl ?_
                      refine qy_wS (qw_s σ358 86 36 ((σ358 86 36) + 1)) rfl (fun σ423 e424 => ?_)
                      have hI425 : qI σ423 α κ ρ := by rw [e424]; exact qI_s hI360 86 36 rfl (show 0 ≤ ((σ358 86 36) + 1) ∧ ((σ358 86 36) + 1) ≤ 120 by omega)
                      have hF426 : qFr [(86, 36), (86, 38), (86, 39)] [] σ α σ423 α := by rw [e424]; exact qFr_s hF361 86 36 _ (by decide)
                      refine qr_goto 176 rfl rfl ?_
                      exact ih373 _ v422 (u357 + 1) σ423 (by omega) (qm_gk (qm_gk g353 (by decide) (Or.inl (by decide))) (by decide) (Or.inl (by decide))) (qm_gk (qm_ge _ _ _) (by decide) (Or.inr rfl)) (qm_ge _ _ _) (by omega) (by omega) hI425 hF426 ((congrFun (congrFun e424 86) 37).trans rfl) ((congrFun (congrFun e424 86) 38).trans ((hk363).trans rfl)) ((congrFun (congrFun e424 86) 39).trans rfl) (by have hw0 : σ423 86 39 = (σ358 86 39) := (congrFun (congrFun e424 86) 39).trans rfl; have hw1 : σ423 86 36 = ((σ358 86 36) + 1) := (congrFun (congrFun e424 86) 36).trans rfl; have hw2 : σ423 86 37 = (σ358 86 37) := (congrFun (congrFun e424 86) 37).trans rfl; omega) (by have hw0 : σ423 86 39 = (σ358 86 39) := (congrFun (congrFun e424 86) 39).trans rfl; have hw1 : σ423 86 36 = ((σ358 86 36) + 1) := (congrFun (congrFun e424 86) 36).trans rfl; have hw2 : σ423 86 37 = (σ358 86 37) := (congrFun (congrFun e424 86) 37).trans rfl; omega) (by have hw0 : σ423 86 39 = (σ358 86 39) := (congrFun (congrFun e424 86) 39).trans rfl; have hw1 : σ423 86 36 = ((σ358 86 36) + 1) := (congrFun (congrFun e424 86) 36).trans rfl; have hw2 : σ423 86 37 = (σ358 86 37) := (congrFun (congrFun e424 86) 37).trans rfl; omega) (by have hw0 : σ423 86 39 = (σ358 86 39) := (congrFun (congrFun e424 86) 39).trans rfl; have hw1 : σ423 86 36 = ((σ358 86 36) + 1) := (congrFun (congrFun e424 86) 36).trans rfl; have hw2 : σ423 86 37 = (σ358 86 37) := (congrFun (congrFun e424 86) 37).trans rfl; omega) (by have hw0 : σ423 86 39 = (σ358 86 39) := (congrFun (congrFun e424 86) 39).trans rfl; have hw1 : σ423 86 36 = ((σ358 86 36) + 1) := (congrFun (congrFun e424 86) 36).trans rfl; have hw2 : σ423 86 37 = (σ358 86 37) := (congrFun (congrFun e424 86) 37).trans rfl; omega)
            exact hL372 ((4 - 0 + 1 : Int)).toNat _ 0 0 σ (by omega) rfl rfl rfl (by omega) (by omega) hI hF0 (rfl) (rfl) (rfl) (by have hw0 : σ 86 39 = (σ 86 39) := rfl; have hw1 : σ 86 36 = (σ 86 36) := rfl; have hw2 : σ 86 37 = (σ 86 37) := rfl; omega) (by have hw0 : σ 86 39 = (σ 86 39) := rfl; have hw1 : σ 86 36 = (σ 86 36) := rfl; have hw2 : σ 86 37 = (σ 86 37) := rfl; omega) (by have hw0 : σ 86 39 = (σ 86 39) := rfl; have hw1 : σ 86 36 = (σ 86 36) := rfl; have hw2 : σ 86 37 = (σ 86 37) := rfl; omega) (by have hw0 : σ 86 39 = (σ 86 39) := rfl; have hw1 : σ 86 36 = (σ 86 36) := rfl; have hw2 : σ 86 37 = (σ 86 37) := rfl; omega) (by have hw0 : σ 86 39 = (σ 86 39) := rfl; have hw1 : σ 86 36 = (σ 86 36) := rfl; have hw2 : σ 86 37 = (σ 86 37) := rfl; omega)
          · skip
            refine qr_aload_n 155 rfl rfl rfl ?_
            refine qr_dup 156 rfl rfl rfl ?_
            refine qr_get 159 rfl rfl rfl (by decide) rfl ?_
            refine qr_iconst 160 rfl rfl ?_
            refine qr_iadd 161 rfl rfl ?_
            refine qr_put 164 rfl (by decide) rfl (Nat.le_of_ble_eq_true rfl) (Nat.le_of_ble_eq_true rfl) (Or.inl rfl) (qr_fitI rfl _) rfl ?_
            refine qy_wS (qw_s σ 86 36 ((σ 86 36) + 1)) rfl (fun σ427 e428 => ?_)
            have hI429 : qI σ427 α κ ρ := by rw [e428]; exact qI_s hI 86 36 rfl (show 0 ≤ ((σ 86 36) + 1) ∧ ((σ 86 36) + 1) ≤ 120 by omega)
            have hF430 : qFr [(86, 36), (86, 38), (86, 39)] [] σ α σ427 α := by rw [e428]; exact qFr_s hF0 86 36 _ (by decide)
            refine qr_aload_n 165 rfl rfl rfl ?_
            refine qr_get 168 rfl rfl rfl (by decide) rfl ?_
            refine qr_iload_n 169 rfl rfl rfl ?_
            refine qr_iaload 170 rfl rfl (by omega) (by decide) rfl ?_
            refine qr_topI (fun v431 hv431 => ?_)
            have hs432 : (-2147483648) ≤ v431 ∧ v431 ≤ 2147483647 := by rw [hv431]; exact hI429.2.1 109 _ (show _ < 9 by omega)
            refine qr_retI rfl rfl (by decide) (by decide) ?_
            have hw433 : σ427 86 36 = ((σ 86 36) + 1) := (congrFun (congrFun e428 86) 36).trans rfl
            have hw434 : σ427 86 37 = (σ 86 37) := (congrFun (congrFun e428 86) 37).trans rfl
            have hw435 : σ427 86 39 = (σ 86 39) := (congrFun (congrFun e428 86) 39).trans rfl
            exact ⟨_, rfl, hI429, hF430, v431, rfl, by omega, by omega⟩
        · skip
          refine qr_aload_n 33 rfl rfl rfl ?_
          refine qr_get 36 rfl rfl rfl (by decide) rfl ?_
          refine qr_bipush 38 rfl (by decide) rfl ?_
          refine qr_icmp_ne 46 41 rfl rfl rfl (by omega) (by omega) (fun h436 => ?_) (fun h436 => ?_)
          · skip
            refine qr_aload_n 47 rfl rfl rfl ?_
            refine qr_dup 48 rfl rfl rfl ?_
            refine qr_get 51 rfl rfl rfl (by decide) rfl ?_
            refine qr_iconst 52 rfl rfl ?_
            refine qr_iadd 53 rfl rfl ?_
            refine qr_put 56 rfl (by decide) rfl (Nat.le_of_ble_eq_true rfl) (Nat.le_of_ble_eq_true rfl) (Or.inl rfl) (qr_fitI rfl _) rfl ?_
            refine qy_wS (qw_s σ 86 39 ((σ 86 39) + 1)) rfl (fun σ437 e438 => ?_)
            have hI439 : qI σ437 α κ ρ := by rw [e438]; exact qI_s hI 86 39 rfl (show 0 ≤ ((σ 86 39) + 1) ∧ ((σ 86 39) + 1) ≤ 6 by omega)
            have hF440 : qFr [(86, 36), (86, 38), (86, 39)] [] σ α σ437 α := by rw [e438]; exact qFr_s hF0 86 39 _ (by decide)
            refine qr_aload_n 57 rfl rfl rfl ?_
            refine qr_dup 58 rfl rfl rfl ?_
            refine qr_get 61 rfl rfl rfl (by decide) rfl ?_
            refine qy_v (σ 86 36) ((congrFun (congrFun e438 86) 36).trans rfl) ?_
            refine qr_iconst 62 rfl rfl ?_
            refine qr_iadd 63 rfl rfl ?_
            refine qr_put 66 rfl (by decide) rfl (Nat.le_of_ble_eq_true rfl) (Nat.le_of_ble_eq_true rfl) (Or.inl rfl) (qr_fitI rfl _) rfl ?_
            refine qy_wS (qw_s σ437 86 36 ((σ 86 36) + 1)) rfl (fun σ441 e442 => ?_)
            have hI443 : qI σ441 α κ ρ := by rw [e442]; exact qI_s hI439 86 36 rfl (show 0 ≤ ((σ 86 36) + 1) ∧ ((σ 86 36) + 1) ≤ 120 by omega)
            have hF444 : qFr [(86, 36), (86, 38), (86, 39)] [] σ α σ441 α := by rw [e442]; exact qFr_s hF440 86 36 _ (by decide)
            refine qr_iload_n 67 rfl rfl rfl ?_
            refine qr_bipush 69 rfl (by decide) rfl ?_
            refine qr_icmp_ne 79 72 rfl rfl rfl (by omega) (by omega) (fun h => False.elim (by omega)) (fun h445 => ?_)
            refine qr_aload_n 73 rfl rfl rfl ?_
            refine qr_callN 76 rfl rfl rfl (sf_213_86o1 (d := d + 0) hI443 (by omega) (by omega)) ?_
            have hs448 : 0 ≤ σ441 86 36 ∧ σ441 86 36 ≤ 120 := hI443.1 86 36
            have hs449 : σ441 86 36 = ((σ 86 36) + 1) := (congrFun (congrFun e442 86) 36).trans rfl
            have hs450 : 0 ≤ σ441 86 37 ∧ σ441 86 37 ≤ 120 := hI443.1 86 37
            have hs451 : σ441 86 37 = (σ 86 37) := (congrFun (congrFun e442 86) 37).trans ((congrFun (congrFun e438 86) 37).trans rfl)
            have hs452 : 0 ≤ σ441 86 39 ∧ σ441 86 39 ≤ 6 := hI443.1 86 39
            have hs453 : σ441 86 39 = ((σ 86 39) + 1) := (congrFun (congrFun e442 86) 39).trans ((congrFun (congrFun e438 86) 39).trans rfl)
            rintro _ _ ⟨σ454, rfl, hI455, hG456, v446, rfl, hv446, hp447⟩
            have hF457 : qFr [(86, 36), (86, 38), (86, 39)] [] σ α σ454 α := qFr_t hF444 hG456 (by decide) (by decide)
            have hs458 : 0 ≤ σ454 86 36 ∧ σ454 86 36 ≤ 120 := hI455.1 86 36
            have hs459 : 0 ≤ σ454 86 37 ∧ σ454 86 37 ≤ 120 := hI455.1 86 37
            have hs460 : 0 ≤ σ454 86 39 ∧ σ454 86 39 ≤ 6 := hI455.1 86 39
            show qr_W (qe L xs vb) (d + 37) qx_e218 _ (76, _, [.int (qz v446)], qw σ454 α κ ρ, 0, 0)
            refine qr_goto 83 rfl rfl ?_
            refine qr_istore_n _ 84 rfl (by decide) rfl rfl ?_
            refine qr_iload_n 85 rfl rfl rfl ?_
            refine qr_bipush 87 rfl (by decide) rfl ?_
            refine qr_icmp_ne 104 90 rfl rfl rfl (by omega) (by omega) (fun h => False.elim (by omega)) (fun h461 => ?_)
            refine qr_aload_n 91 rfl rfl rfl ?_
            refine qr_bipush 93 rfl (by decide) rfl ?_
            refine qr_callN 96 rfl rfl rfl (sf_221_86t (d := d + 35) hI455 (by omega) (by omega)) ?_
            have hs464 : 0 ≤ σ454 86 36 ∧ σ454 86 36 ≤ 120 := hI455.1 86 36
            have hs465 : 0 ≤ σ454 86 37 ∧ σ454 86 37 ≤ 120 := hI455.1 86 37
            have hs466 : σ454 86 37 = (σ 86 37) := (hG456.1 86 37 (by decide)).trans ((congrFun (congrFun e442 86) 37).trans ((congrFun (congrFun e438 86) 37).trans rfl))
            rintro _ _ ⟨σ467, rfl, hI468, hG469, v462, rfl, hv462, hp463⟩
            have hF470 : qFr [(86, 36), (86, 38), (86, 39)] [] σ α σ467 α := qFr_t hF457 hG469 (by decide) (by decide)
            have hs471 : 0 ≤ σ467 86 36 ∧ σ467 86 36 ≤ 120 := hI468.1 86 36
            show qr_W (qe L xs vb) (d + 37) qx_e218 _ (96, _, [.int (qz v462)], qw σ467 α κ ρ, 0, 0)
            refine qr_if_ne 104 99 rfl rfl rfl (by omega) (fun h472 => ?_) (fun h472 => ?_)
            · skip
              refine qr_aload_n 105 rfl rfl rfl ?_
              refine qr_dup 106 rfl rfl rfl ?_
              refine qr_get 109 rfl rfl rfl (by decide) rfl ?_
              refine qy_v (σ454 86 39) ((hG469.1 86 39 (by decide)).trans rfl) ?_
              refine qr_iconst 110 rfl rfl ?_
              refine qr_isub 111 rfl rfl ?_
              as_aux_lemma =>
                refine qr_put 114 rfl (by decide) rfl (Nat.le_of_ble_eq_true rfl) (Nat.le_of_ble_eq_true rfl) (Or.inl rfl) (qr_fitI rfl _) rfl ?_
                refine qy_wS (qw_s σ467 86 39 ((σ454 86 39) - 1)) rfl (fun σ473 e474 => ?_)
                have hI475 : qI σ473 α κ ρ := by rw [e474]; exact qI_s hI468 86 39 rfl (show 0 ≤ ((σ454 86 39) - 1) ∧ ((σ454 86 39) - 1) ≤ 6 by omega)
                have hF476 : qFr [(86, 36), (86, 38), (86, 39)] [] σ α σ473 α := by rw [e474]; exact qFr_s hF470 86 39 _ (by decide)
                refine qr_iload_n 115 rfl rfl rfl ?_
                refine qr_bipush 117 rfl (by decide) rfl ?_
                refine qr_icmp_ne 124 120 rfl rfl rfl (by omega) (by omega) (fun h => False.elim (by omega)) (fun h477 => ?_)
                refine qr_iload_n 121 rfl rfl rfl ?_
                refine qr_goto 144 rfl rfl ?_
                refine qr_retI rfl rfl (by decide) (by decide) ?_
                have hw478 : σ473 86 36 = (σ467 86 36) := (congrFun (congrFun e474 86) 36).trans rfl
                have hw479 : σ473 86 37 = (σ 86 37) := (congrFun (congrFun e474 86) 37).trans ((hG469.1 86 37 (by decide)).trans ((hG456.1 86 37 (by decide)).trans ((congrFun (congrFun e442 86) 37).trans ((congrFun (congrFun e438 86) 37).trans rfl))))
                have hw480 : σ473 86 39 = ((σ454 86 39) - 1) := (congrFun (congrFun e474 86) 39).trans rfl
                exact ⟨_, rfl, hI475, hF476, v446, rfl, by omega, by omega⟩
            · skip
              refine qr_aload_n 100 rfl rfl rfl ?_
              refine qr_callN 103 rfl rfl rfl (sf_220_86 (d := d + 36) hI468 ) ?_
              rintro _ _ ⟨σ482, rfl, hI483, hG484, v481, rfl, hv481⟩
              have hF485 : qFr [(86, 36), (86, 38), (86, 39)] [] σ α σ482 α := qFr_t hF470 hG484 (by decide) (by decide)
              show qr_W (qe L xs vb) (d + 37) qx_e218 _ (103, _, [.int (qz v481)], qw σ482 α κ ρ, 0, 0)
              refine qr_retI rfl rfl (by decide) (by decide) ?_
              have hw486 : σ482 86 36 = (σ467 86 36) := (hG484.1 86 36 (by decide)).trans rfl
              have hw487 : σ482 86 37 = (σ 86 37) := (hG484.1 86 37 (by decide)).trans ((hG469.1 86 37 (by decide)).trans ((hG456.1 86 37 (by decide)).trans ((congrFun (congrFun e442 86) 37).trans ((congrFun (congrFun e438 86) 37).trans rfl))))
              have hw488 : σ482 86 39 = (σ454 86 39) := (hG484.1 86 39 (by decide)).trans ((hG469.1 86 39 (by decide)).trans rfl)
              exact ⟨_, rfl, hI483, hF485, v481, rfl, by omega, by omega⟩
          · skip
            refine qr_aload_n 42 rfl rfl rfl ?_
            refine qr_callN 45 rfl rfl rfl (sf_220_86 (d := d + 36) hI ) ?_
            rintro _ _ ⟨σ490, rfl, hI491, hG492, v489, rfl, hv489⟩
            have hF493 : qFr [(86, 36), (86, 38), (86, 39)] [] σ α σ490 α := qFr_t hF0 hG492 (by decide) (by decide)
            show qr_W (qe L xs vb) (d + 37) qx_e218 _ (45, _, [.int (qz v489)], qw σ490 α κ ρ, 0, 0)
            refine qr_retI rfl rfl (by decide) (by decide) ?_
            have hw494 : σ490 86 36 = (σ 86 36) := (hG492.1 86 36 (by decide)).trans rfl
            have hw495 : σ490 86 37 = (σ 86 37) := (hG492.1 86 37 (by decide)).trans rfl
            have hw496 : σ490 86 39 = (σ 86 39) := (hG492.1 86 39 (by decide)).trans rfl
            exact ⟨_, rfl, hI491, hF493, v489, rfl, by omega, by omega⟩
  · skip
    refine qr_iconst 8 rfl rfl ?_
    refine qr_retI rfl rfl (by decide) (by decide) ?_
    have hw497 : σ 86 36 = (σ 86 36) := rfl
    have hw498 : σ 86 37 = (σ 86 37) := rfl
    have hw499 : σ 86 39 = (σ 86 39) := rfl
    exact ⟨_, rfl, hI, hF0, 0, rfl, by omega, by omega⟩

set_option maxHeartbeats 4000000 in
set_option maxRecDepth 20000 in
/-- OneRoofModel.product -/
theorem sf_217_86o0 {L : Nat} {xs : Nat → Int} {vb : Bool} {d : Nat} {σ α : Nat → Nat → Int} {κ : Nat → Option Nat} {ρ : Nat}  (hI : qI σ α κ ρ) (p0 : 0 ≤ σ 86 39) (p1 : σ 86 36 ≤ σ 86 37) : qm_T (qe L xs vb) (d + 39) 217 [.ref 86] (qw σ α κ ρ) (fun r w' => ∃ σ', w' = qw σ' α κ ρ ∧ qI σ' α κ ρ ∧ qFr [(86, 36), (86, 38), (86, 39)] [] σ α σ' α ∧ ∃ v : Int, r = some (.int (qz v)) ∧ ((-2147483648) ≤ v ∧ v ≤ 2147483647) ∧ σ 86 39 ≤ σ' 86 39 ∧ σ 86 36 ≤ σ' 86 36 ∧ σ' 86 36 ≤ σ' 86 37 ∧ σ' 86 37 = σ 86 37) := by
  refine qr_start (d := d + 38) qv_e217 (Nat.le_of_ble_eq_true rfl) ?_
  show qr_W (qe L xs vb) (d + 38) qx_e217 _ (0, [(0, .ref 86)], [], _, 0, 0)
  have hF0 := qFr_rf [(86, 36), (86, 38), (86, 39)] [] σ α
  have hz86_39 : 0 ≤ σ 86 39 ∧ σ 86 39 ≤ 6 := hI.1 86 39
  have hz86_36 : 0 ≤ σ 86 36 ∧ σ 86 36 ≤ 120 := hI.1 86 36
  have hz86_37 : 0 ≤ σ 86 37 ∧ σ 86 37 ≤ 120 := hI.1 86 37
  refine qr_aload_n 1 rfl rfl rfl ?_
  refine qr_callN 4 rfl rfl rfl (sf_218_86o0 (d := d + 0) hI (by omega) (by omega)) ?_
  have hs3 : 0 ≤ σ 86 36 ∧ σ 86 36 ≤ 120 := hI.1 86 36
  have hs4 : 0 ≤ σ 86 37 ∧ σ 86 37 ≤ 120 := hI.1 86 37
  have hs5 : 0 ≤ σ 86 39 ∧ σ 86 39 ≤ 6 := hI.1 86 39
  rintro _ _ ⟨σ6, rfl, hI7, hG8, v1, rfl, hv1, hp2⟩
  have hF9 : qFr [(86, 36), (86, 38), (86, 39)] [] σ α σ6 α := qFr_t hF0 hG8 (by decide) (by decide)
  have hs10 : 0 ≤ σ6 86 36 ∧ σ6 86 36 ≤ 120 := hI7.1 86 36
  have hs11 : 0 ≤ σ6 86 37 ∧ σ6 86 37 ≤ 120 := hI7.1 86 37
  have hs12 : 0 ≤ σ6 86 39 ∧ σ6 86 39 ≤ 6 := hI7.1 86 39
  show qr_W (qe L xs vb) (d + 38) qx_e217 _ (4, _, [.int (qz v1)], qw σ6 α κ ρ, 0, 0)
  refine qr_istore_n _ 5 rfl (by decide) rfl rfl ?_
  refine qr_aload_n 6 rfl rfl rfl ?_
  refine qr_callN 9 rfl rfl rfl (sf_219_86t (d := d + 37) hI7 ) ?_
  have hs15 : 0 ≤ σ6 86 36 ∧ σ6 86 36 ≤ 120 := hI7.1 86 36
  have hs16 : 0 ≤ σ6 86 37 ∧ σ6 86 37 ≤ 120 := hI7.1 86 37
  have hs17 : σ6 86 37 = (σ 86 37) := (hG8.1 86 37 (by decide)).trans rfl
  rintro _ _ ⟨rfl, v13, rfl, hv13, hp14⟩
  show qr_W (qe L xs vb) (d + 38) qx_e217 _ (9, _, [.int (qz v13)], qw σ6 α κ ρ, 0, 0)
  refine qr_istore_n _ 10 rfl (by decide) rfl rfl ?_
  have hL384 : ∀ (n : Nat) (ls : qm_L) (u368 u370 : Int) (σ371 : Nat → Nat → Int), ((120 - σ371 86 36).toNat : Int) < (n : Int) → qm_get ls 0 = some (.ref 86) → qm_get ls 1 = some (.int (qz u368)) → qm_get ls 2 = some (.int (qz u370)) → ((-2147483648) ≤ u368 ∧ u368 ≤ 2147483647) → ((-2147483648) ≤ u370 ∧ u370 ≤ 2147483647) → qI σ371 α κ ρ → qFr [(86, 36), (86, 38), (86, 39)] [] σ α σ371 α → σ371 86 37 = (σ 86 37) → 0 ≤ σ371 86 39 → σ 86 39 ≤ σ371 86 39 → σ 86 36 ≤ σ371 86 36 → σ371 86 36 ≤ σ371 86 37 → σ371 86 37 = σ 86 37 → (u370 = 0 ∨ σ371 86 36 < σ371 86 37) → qr_W (qe L xs vb) (d + 38) qx_e217 (fun r w' => ∃ σ', w' = qw σ' α κ ρ ∧ qI σ' α κ ρ ∧ qFr [(86, 36), (86, 38), (86, 39)] [] σ α σ' α ∧ ∃ v : Int, r = some (.int (qz v)) ∧ ((-2147483648) ≤ v ∧ v ≤ 2147483647) ∧ σ 86 39 ≤ σ' 86 39 ∧ σ 86 36 ≤ σ' 86 36 ∧ σ' 86 36 ≤ σ' 86 37 ∧ σ' 86 37 = σ 86 37) (10, ls, [], qw σ371 α κ ρ, 0, 0) := by
    intro n
    induction n with
    | zero => intro ls u368 u370 σ371 hm g366 g367 g369 hf376 hf377 hI373 hF374 hk375 hx378 hx379 hx380 hx381 hx382 hx383; exact False.elim (by omega)
    | succ n ih385 =>
      intro ls u368 u370 σ371 hm g366 g367 g369 hf376 hf377 hI373 hF374 hk375 hx378 hx379 hx380 hx381 hx382 hx383
      have hs386 : 0 ≤ σ371 86 39 ∧ σ371 86 39 ≤ 6 := hI373.1 86 39
      have hs387 : 0 ≤ σ371 86 36 ∧ σ371 86 36 ≤ 120 := hI373.1 86 36
      have hs388 : 0 ≤ σ371 86 37 ∧ σ371 86 37 ≤ 120 := hI373.1 86 37
      refine qr_aload_n 11 rfl g366 rfl ?_
      refine qr_get 14 rfl rfl rfl (by decide) rfl ?_
      have hs389 : (-1) ≤ σ371 86 38 ∧ σ371 86 38 ≤ 120 := hI373.1 86 38
      refine qr_if_ge 94 17 rfl rfl rfl (by omega) (fun h390 => ?_) (fun h390 => ?_)
      · skip
        refine qr_iload_n 95 rfl g367 rfl ?_
        refine qr_retI rfl rfl (by decide) (by decide) ?_
        have hw391 : σ371 86 36 = (σ371 86 36) := rfl
        have hw392 : σ371 86 37 = (σ371 86 37) := rfl
        have hw393 : σ371 86 39 = (σ371 86 39) := rfl
        exact ⟨_, rfl, hI373, hF374, u368, rfl, by omega, by omega⟩
      · skip
        refine qr_iload_n 18 rfl g369 rfl ?_
        refine qr_bipush 20 rfl (by decide) rfl ?_
        refine qr_icmp_eq 35 23 rfl rfl rfl (by omega) (by omega) (fun h394 => ?_) (fun h394 => ?_)
        · skip
          refine qr_aload_n 36 rfl g366 rfl ?_
          refine qr_dup 37 rfl rfl rfl ?_
          refine qr_get 40 rfl rfl rfl (by decide) rfl ?_
          refine qr_iconst 41 rfl rfl ?_
          refine qr_iadd 42 rfl rfl ?_
          refine qr_put 45 rfl (by decide) rfl (Nat.le_of_ble_eq_true rfl) (Nat.le_of_ble_eq_true rfl) (Or.inl rfl) (qr_fitI rfl _) rfl ?_
          refine qy_wS (qw_s σ371 86 36 ((σ371 86 36) + 1)) rfl (fun σ395 e396 => ?_)
          have hI397 : qI σ395 α κ ρ := by rw [e396]; exact qI_s hI373 86 36 rfl (show 0 ≤ ((σ371 86 36) + 1) ∧ ((σ371 86 36) + 1) ≤ 120 by omega)
          have hF398 : qFr [(86, 36), (86, 38), (86, 39)] [] σ α σ395 α := by rw [e396]; exact qFr_s hF374 86 36 _ (by decide)
          refine qr_aload_n 46 rfl g366 rfl ?_
          refine qr_callN 49 rfl rfl rfl (sf_218_86o0 (d := d + 0) hI397 (by omega) (by omega)) ?_
          have hs401 : 0 ≤ σ395 86 36 ∧ σ395 86 36 ≤ 120 := hI397.1 86 36
          have hs402 : σ395 86 36 = ((σ371 86 36) + 1) := (congrFun (congrFun e396 86) 36).trans rfl
          have hs403 : 0 ≤ σ395 86 37 ∧ σ395 86 37 ≤ 120 := hI397.1 86 37
          have hs404 : σ395 86 37 = (σ371 86 37) := (congrFun (congrFun e396 86) 37).trans rfl
          have hs405 : 0 ≤ σ395 86 39 ∧ σ395 86 39 ≤ 6 := hI397.1 86 39
          have hs406 : σ395 86 39 = (σ371 86 39) := (congrFun (congrFun e396 86) 39).trans rfl
          rintro _ _ ⟨σ407, rfl, hI408, hG409, v399, rfl, hv399, hp400⟩
          have hF410 : qFr [(86, 36), (86, 38), (86, 39)] [] σ α σ407 α := qFr_t hF398 hG409 (by decide) (by decide)
          have hs411 : 0 ≤ σ407 86 36 ∧ σ407 86 36 ≤ 120 := hI408.1 86 36
          have hs412 : 0 ≤ σ407 86 37 ∧ σ407 86 37 ≤ 120 := hI408.1 86 37
          have hs413 : 0 ≤ σ407 86 39 ∧ σ407 86 39 ≤ 6 := hI408.1 86 39
          show qr_W (qe L xs vb) (d + 38) qx_e217 _ (49, _, [.int (qz v399)], qw σ407 α κ ρ, 0, 0)
          refine qr_istore_n _ 50 rfl (by decide) rfl rfl ?_
          refine qr_iload_n 51 rfl (qm_gk g369 (by decide) (Or.inr rfl)) rfl ?_
          refine qr_bipush 53 rfl (by decide) rfl ?_
          refine qr_icmp_ne 62 56 rfl rfl rfl (by omega) (by omega) (fun h => False.elim (by omega)) (fun h414 => ?_)
          refine qr_iload_n 57 rfl (qm_gk g367 (by decide) (Or.inl (by decide))) rfl ?_
          refine qr_iload_n 58 rfl (qm_ge _ _ _) rfl ?_
          refine qr_imul 59 rfl rfl ?_
          refine qy_can (fun v415 hv415 => ?_)
          refine qr_goto 85 rfl rfl ?_
          refine qr_istore_n _ 86 rfl (by decide) rfl rfl ?_
          refine qr_aload_n 87 rfl (qm_gk (qm_gk g366 (by decide) (Or.inl (by decide))) (by decide) (Or.inr rfl)) rfl ?_
          refine qr_callN 90 rfl rfl rfl (sf_219_86t (d := d + 37) hI408 ) ?_
          have hs418 : 0 ≤ σ407 86 36 ∧ σ407 86 36 ≤ 120 := hI408.1 86 36
          have hs419 : 0 ≤ σ407 86 37 ∧ σ407 86 37 ≤ 120 := hI408.1 86 37
          have hs420 : σ407 86 37 = (σ371 86 37) := (hG409.1 86 37 (by decide)).trans ((congrFun (congrFun e396 86) 37).trans rfl)
          rintro _ _ ⟨rfl, v416, rfl, hv416, hp417⟩
          show qr_W (qe L xs vb) (d + 38) qx_e217 _ (90, _, [.int (qz v416)], qw σ407 α κ ρ, 0, 0)
          refine qr_istore_n _ 91 rfl (by decide) rfl rfl ?_
          refine qr_goto 10 rfl rfl ?_
          exact ih385 _ v415 v416 σ407 (by omega) (qm_gk (qm_gk (qm_gk g366 (by decide) (Or.inl (by decide))) (by decide) (Or.inr rfl)) (by decide) (Or.inl (by decide))) (qm_gk (qm_ge _ _ _) (by decide) (Or.inr rfl)) (qm_ge _ _ _) (by omega) (by omega) hI408 hF410 ((hG409.1 86 37 (by decide)).trans ((congrFun (congrFun e396 86) 37).trans rfl)) (by have hw0 : σ407 86 39 = (σ407 86 39) := rfl; have hw1 : σ407 86 36 = (σ407 86 36) := rfl; have hw2 : σ407 86 37 = (σ371 86 37) := (hG409.1 86 37 (by decide)).trans ((congrFun (congrFun e396 86) 37).trans rfl); omega) (by have hw0 : σ407 86 39 = (σ407 86 39) := rfl; have hw1 : σ407 86 36 = (σ407 86 36) := rfl; have hw2 : σ407 86 37 = (σ371 86 37) := (hG409.1 86 37 (by decide)).trans ((congrFun (congrFun e396 86) 37).trans rfl); omega) (by have hw0 : σ407 86 39 = (σ407 86 39) := rfl; have hw1 : σ407 86 36 = (σ407 86 36) := rfl; have hw2 : σ407 86 37 = (σ371 86 37) := (hG409.1 86 37 (by decide)).trans ((congrFun (congrFun e396 86) 37).trans rfl); omega) (by have hw0 : σ407 86 39 = (σ407 86 39) := rfl; have hw1 : σ407 86 36 = (σ407 86 36) := rfl; have hw2 : σ407 86 37 = (σ371 86 37) := (hG409.1 86 37 (by decide)).trans ((congrFun (congrFun e396 86) 37).trans rfl); omega) (by have hw0 : σ407 86 39 = (σ407 86 39) := rfl; have hw1 : σ407 86 36 = (σ407 86 36) := rfl; have hw2 : σ407 86 37 = (σ371 86 37) := (hG409.1 86 37 (by decide)).trans ((congrFun (congrFun e396 86) 37).trans rfl); omega) (by have hw0 : σ407 86 39 = (σ407 86 39) := rfl; have hw1 : σ407 86 36 = (σ407 86 36) := rfl; have hw2 : σ407 86 37 = (σ371 86 37) := (hG409.1 86 37 (by decide)).trans ((congrFun (congrFun e396 86) 37).trans rfl); omega)
        · skip
          refine qr_iload_n 24 rfl g369 rfl ?_
          refine qr_bipush 26 rfl (by decide) rfl ?_
          refine qr_icmp_eq 35 29 rfl rfl rfl (by omega) (by omega) (fun h421 => ?_) (fun h421 => ?_)
          · skip
            refine qr_aload_n 36 rfl g366 rfl ?_
            refine qr_dup 37 rfl rfl rfl ?_
            refine qr_get 40 rfl rfl rfl (by decide) rfl ?_
            refine qr_iconst 41 rfl rfl ?_
            refine qr_iadd 42 rfl rfl ?_
            refine qr_put 45 rfl (by decide) rfl (Nat.le_of_ble_eq_true rfl) (Nat.le_of_ble_eq_true rfl) (Or.inl rfl) (qr_fitI rfl _) rfl ?_
            refine qy_wS (qw_s σ371 86 36 ((σ371 86 36) + 1)) rfl (fun σ422 e423 => ?_)
            have hI424 : qI σ422 α κ ρ := by rw [e423]; exact qI_s hI373 86 36 rfl (show 0 ≤ ((σ371 86 36) + 1) ∧ ((σ371 86 36) + 1) ≤ 120 by omega)
            have hF425 : qFr [(86, 36), (86, 38), (86, 39)] [] σ α σ422 α := by rw [e423]; exact qFr_s hF374 86 36 _ (by decide)
            refine qr_aload_n 46 rfl g366 rfl ?_
            refine qr_callN 49 rfl rfl rfl (sf_218_86o0 (d := d + 0) hI424 (by omega) (by omega)) ?_
            have hs428 : 0 ≤ σ422 86 36 ∧ σ422 86 36 ≤ 120 := hI424.1 86 36
            have hs429 : σ422 86 36 = ((σ371 86 36) + 1) := (congrFun (congrFun e423 86) 36).trans rfl
            have hs430 : 0 ≤ σ422 86 37 ∧ σ422 86 37 ≤ 120 := hI424.1 86 37
            have hs431 : σ422 86 37 = (σ371 86 37) := (congrFun (congrFun e423 86) 37).trans rfl
            have hs432 : 0 ≤ σ422 86 39 ∧ σ422 86 39 ≤ 6 := hI424.1 86 39
            have hs433 : σ422 86 39 = (σ371 86 39) := (congrFun (congrFun e423 86) 39).trans rfl
            rintro _ _ ⟨σ434, rfl, hI435, hG436, v426, rfl, hv426, hp427⟩
            have hF437 : qFr [(86, 36), (86, 38), (86, 39)] [] σ α σ434 α := qFr_t hF425 hG436 (by decide) (by decide)
            have hs438 : 0 ≤ σ434 86 36 ∧ σ434 86 36 ≤ 120 := hI435.1 86 36
            have hs439 : 0 ≤ σ434 86 37 ∧ σ434 86 37 ≤ 120 := hI435.1 86 37
            have hs440 : 0 ≤ σ434 86 39 ∧ σ434 86 39 ≤ 6 := hI435.1 86 39
            show qr_W (qe L xs vb) (d + 38) qx_e217 _ (49, _, [.int (qz v426)], qw σ434 α κ ρ, 0, 0)
            refine qr_istore_n _ 50 rfl (by decide) rfl rfl ?_
            refine qr_iload_n 51 rfl (qm_gk g369 (by decide) (Or.inr rfl)) rfl ?_
            refine qr_bipush 53 rfl (by decide) rfl ?_
            refine qr_icmp_ne 62 56 rfl rfl rfl (by omega) (by omega) (fun h441 => ?_) (fun h => False.elim (by omega))
            refine qr_iload_n 63 rfl (qm_ge _ _ _) rfl ?_
            have hJ446 : ∀ (ls : qm_L) (u444 : Int), qm_get ls 0 = some (.ref 86) → ((-2147483648) ≤ u444 ∧ u444 ≤ 2147483647) → qr_W (qe L xs vb) (d + 38) qx_e217 (fun r w' => ∃ σ', w' = qw σ' α κ ρ ∧ qI σ' α κ ρ ∧ qFr [(86, 36), (86, 38), (86, 39)] [] σ α σ' α ∧ ∃ v : Int, r = some (.int (qz v)) ∧ ((-2147483648) ≤ v ∧ v ≤ 2147483647) ∧ σ 86 39 ≤ σ' 86 39 ∧ σ 86 36 ≤ σ' 86 36 ∧ σ' 86 36 ≤ σ' 86 37 ∧ σ' 86 37 = σ 86 37) (85, ls, [.int (qz u444)], qw σ434 α κ ρ, 0, 0) := by
              intro ls u444 g443 hf445
              refine qr_istore_n _ 86 rfl (by decide) rfl rfl ?_
              refine qr_aload_n 87 rfl (qm_gk g443 (by decide) (Or.inr rfl)) rfl ?_
              refine qr_callN 90 rfl rfl rfl (sf_219_86t (d := d + 37) hI435 ) ?_
              have hs449 : 0 ≤ σ434 86 36 ∧ σ434 86 36 ≤ 120 := hI435.1 86 36
              have hs450 : 0 ≤ σ434 86 37 ∧ σ434 86 37 ≤ 120 := hI435.1 86 37
              have hs451 : σ434 86 37 = (σ371 86 37) := (hG436.1 86 37 (by decide)).trans ((congrFun (congrFun e423 86) 37).trans rfl)
              rintro _ _ ⟨rfl, v447, rfl, hv447, hp448⟩
              show qr_W (qe L xs vb) (d + 38) qx_e217 _ (90, _, [.int (qz v447)], qw σ434 α κ ρ, 0, 0)
              refine qr_istore_n _ 91 rfl (by decide) rfl rfl ?_
              refine qr_goto 10 rfl rfl ?_
              exact ih385 _ u444 v447 σ434 (by omega) (qm_gk (qm_gk g443 (by decide) (Or.inr rfl)) (by decide) (Or.inl (by decide))) (qm_gk (qm_ge _ _ _) (by decide) (Or.inr rfl)) (qm_ge _ _ _) (by omega) (by omega) hI435 hF437 ((hG436.1 86 37 (by decide)).trans ((congrFun (congrFun e423 86) 37).trans rfl)) (by have hw0 : σ434 86 39 = (σ434 86 39) := rfl; have hw1 : σ434 86 36 = (σ434 86 36) := rfl; have hw2 : σ434 86 37 = (σ371 86 37) := (hG436.1 86 37 (by decide)).trans ((congrFun (congrFun e423 86) 37).trans rfl); omega) (by have hw0 : σ434 86 39 = (σ434 86 39) := rfl; have hw1 : σ434 86 36 = (σ434 86 36) := rfl; have hw2 : σ434 86 37 = (σ371 86 37) := (hG436.1 86 37 (by decide)).trans ((congrFun (congrFun e423 86) 37).trans rfl); omega) (by have hw0 : σ434 86 39 = (σ434 86 39) := rfl; have hw1 : σ434 86 36 = (σ434 86 36) := rfl; have hw2 : σ434 86 37 = (σ371 86 37) := (hG436.1 86 37 (by decide)).trans ((congrFun (congrFun e423 86) 37).trans rfl); omega) (by have hw0 : σ434 86 39 = (σ434 86 39) := rfl; have hw1 : σ434 86 36 = (σ434 86 36) := rfl; have hw2 : σ434 86 37 = (σ371 86 37) := (hG436.1 86 37 (by decide)).trans ((congrFun (congrFun e423 86) 37).trans rfl); omega) (by have hw0 : σ434 86 39 = (σ434 86 39) := rfl; have hw1 : σ434 86 36 = (σ434 86 36) := rfl; have hw2 : σ434 86 37 = (σ371 86 37) := (hG436.1 86 37 (by decide)).trans ((congrFun (congrFun e423 86) 37).trans rfl); omega) (by have hw0 : σ434 86 39 = (σ434 86 39) := rfl; have hw1 : σ434 86 36 = (σ434 86 36) := rfl; have hw2 : σ434 86 37 = (σ371 86 37) := (hG436.1 86 37 (by decide)).trans ((congrFun (congrFun e423 86) 37).trans rfl); omega)
            refine qr_if_ne 70 66 rfl rfl rfl (by omega) (fun h452 => ?_) (fun h452 => ?_)
            · skip
              refine qr_iload_n 71 rfl (qm_gk g369 (by decide) (Or.inr rfl)) rfl ?_
              refine qr_bipush 73 rfl (by decide) rfl ?_
              refine qr_icmp_ne 82 76 rfl rfl rfl (by omega) (by omega) (fun h => False.elim (by omega)) (fun h453 => ?_)
              refine qr_iload_n 77 rfl (qm_gk g367 (by decide) (Or.inl (by decide))) rfl ?_
              refine qr_iload_n 78 rfl (qm_ge _ _ _) rfl ?_
              refine qr_idivW 79 rfl (by omega) rfl ?_
              refine qy_can (fun v454 hv454 => ?_)
              refine qr_goto 85 rfl rfl ?_
              exact hJ446 _ v454 (qm_gk g366 (by decide) (Or.inl (by decide))) (by omega)
            · skip
              refine qr_iconst 67 rfl rfl ?_
              refine qr_goto 85 rfl rfl ?_
              exact hJ446 _ 0 (qm_gk g366 (by decide) (Or.inl (by decide))) (by omega)
          · skip
            refine qr_iload_n 30 rfl g369 rfl ?_
            refine qr_bipush 32 rfl (by decide) rfl ?_
            refine qr_icmp_ne 94 35 rfl rfl rfl (by omega) (by omega) (fun h455 => ?_) (fun h455 => ?_)
            · skip
              refine qr_iload_n 95 rfl g367 rfl ?_
              refine qr_retI rfl rfl (by decide) (by decide) ?_
              have hw456 : σ371 86 36 = (σ371 86 36) := rfl
              have hw457 : σ371 86 37 = (σ371 86 37) := rfl
              have hw458 : σ371 86 39 = (σ371 86 39) := rfl
              exact ⟨_, rfl, hI373, hF374, u368, rfl, by omega, by omega⟩
            · skip
              refine qr_aload_n 36 rfl g366 rfl ?_
              refine qr_dup 37 rfl rfl rfl ?_
              refine qr_get 40 rfl rfl rfl (by decide) rfl ?_
              refine qr_iconst 41 rfl rfl ?_
              refine qr_iadd 42 rfl rfl ?_
              refine qr_put 45 rfl (by decide) rfl (Nat.le_of_ble_eq_true rfl) (Nat.le_of_ble_eq_true rfl) (Or.inl rfl) (qr_fitI rfl _) rfl ?_
              refine qy_wS (qw_s σ371 86 36 ((σ371 86 36) + 1)) rfl (fun σ459 e460 => ?_)
              have hI461 : qI σ459 α κ ρ := by rw [e460]; exact qI_s hI373 86 36 rfl (show 0 ≤ ((σ371 86 36) + 1) ∧ ((σ371 86 36) + 1) ≤ 120 by omega)
              have hF462 : qFr [(86, 36), (86, 38), (86, 39)] [] σ α σ459 α := by rw [e460]; exact qFr_s hF374 86 36 _ (by decide)
              refine qr_aload_n 46 rfl g366 rfl ?_
              refine qr_callN 49 rfl rfl rfl (sf_218_86o0 (d := d + 0) hI461 (by omega) (by omega)) ?_
              have hs465 : 0 ≤ σ459 86 36 ∧ σ459 86 36 ≤ 120 := hI461.1 86 36
              have hs466 : σ459 86 36 = ((σ371 86 36) + 1) := (congrFun (congrFun e460 86) 36).trans rfl
              have hs467 : 0 ≤ σ459 86 37 ∧ σ459 86 37 ≤ 120 := hI461.1 86 37
              have hs468 : σ459 86 37 = (σ371 86 37) := (congrFun (congrFun e460 86) 37).trans rfl
              have hs469 : 0 ≤ σ459 86 39 ∧ σ459 86 39 ≤ 6 := hI461.1 86 39
              have hs470 : σ459 86 39 = (σ371 86 39) := (congrFun (congrFun e460 86) 39).trans rfl
              rintro _ _ ⟨σ471, rfl, hI472, hG473, v463, rfl, hv463, hp464⟩
              have hF474 : qFr [(86, 36), (86, 38), (86, 39)] [] σ α σ471 α := qFr_t hF462 hG473 (by decide) (by decide)
              have hs475 : 0 ≤ σ471 86 36 ∧ σ471 86 36 ≤ 120 := hI472.1 86 36
              have hs476 : 0 ≤ σ471 86 37 ∧ σ471 86 37 ≤ 120 := hI472.1 86 37
              have hs477 : 0 ≤ σ471 86 39 ∧ σ471 86 39 ≤ 6 := hI472.1 86 39
              show qr_W (qe L xs vb) (d + 38) qx_e217 _ (49, _, [.int (qz v463)], qw σ471 α κ ρ, 0, 0)
              refine qr_istore_n _ 50 rfl (by decide) rfl rfl ?_
              refine qr_iload_n 51 rfl (qm_gk g369 (by decide) (Or.inr rfl)) rfl ?_
              refine qr_bipush 53 rfl (by decide) rfl ?_
              refine qr_icmp_ne 62 56 rfl rfl rfl (by omega) (by omega) (fun h478 => ?_) (fun h => False.elim (by omega))
              refine qr_iload_n 63 rfl (qm_ge _ _ _) rfl ?_
              have hJ483 : ∀ (ls : qm_L) (u481 : Int), qm_get ls 0 = some (.ref 86) → ((-2147483648) ≤ u481 ∧ u481 ≤ 2147483647) → qr_W (qe L xs vb) (d + 38) qx_e217 (fun r w' => ∃ σ', w' = qw σ' α κ ρ ∧ qI σ' α κ ρ ∧ qFr [(86, 36), (86, 38), (86, 39)] [] σ α σ' α ∧ ∃ v : Int, r = some (.int (qz v)) ∧ ((-2147483648) ≤ v ∧ v ≤ 2147483647) ∧ σ 86 39 ≤ σ' 86 39 ∧ σ 86 36 ≤ σ' 86 36 ∧ σ' 86 36 ≤ σ' 86 37 ∧ σ' 86 37 = σ 86 37) (85, ls, [.int (qz u481)], qw σ471 α κ ρ, 0, 0) := by
                intro ls u481 g480 hf482
                refine qr_istore_n _ 86 rfl (by decide) rfl rfl ?_
                refine qr_aload_n 87 rfl (qm_gk g480 (by decide) (Or.inr rfl)) rfl ?_
                refine qr_callN 90 rfl rfl rfl (sf_219_86t (d := d + 37) hI472 ) ?_
                have hs486 : 0 ≤ σ471 86 36 ∧ σ471 86 36 ≤ 120 := hI472.1 86 36
                have hs487 : 0 ≤ σ471 86 37 ∧ σ471 86 37 ≤ 120 := hI472.1 86 37
                have hs488 : σ471 86 37 = (σ371 86 37) := (hG473.1 86 37 (by decide)).trans ((congrFun (congrFun e460 86) 37).trans rfl)
                rintro _ _ ⟨rfl, v484, rfl, hv484, hp485⟩
                show qr_W (qe L xs vb) (d + 38) qx_e217 _ (90, _, [.int (qz v484)], qw σ471 α κ ρ, 0, 0)
                refine qr_istore_n _ 91 rfl (by decide) rfl rfl ?_
                refine qr_goto 10 rfl rfl ?_
                exact ih385 _ u481 v484 σ471 (by omega) (qm_gk (qm_gk g480 (by decide) (Or.inr rfl)) (by decide) (Or.inl (by decide))) (qm_gk (qm_ge _ _ _) (by decide) (Or.inr rfl)) (qm_ge _ _ _) (by omega) (by omega) hI472 hF474 ((hG473.1 86 37 (by decide)).trans ((congrFun (congrFun e460 86) 37).trans rfl)) (by have hw0 : σ471 86 39 = (σ471 86 39) := rfl; have hw1 : σ471 86 36 = (σ471 86 36) := rfl; have hw2 : σ471 86 37 = (σ371 86 37) := (hG473.1 86 37 (by decide)).trans ((congrFun (congrFun e460 86) 37).trans rfl); omega) (by have hw0 : σ471 86 39 = (σ471 86 39) := rfl; have hw1 : σ471 86 36 = (σ471 86 36) := rfl; have hw2 : σ471 86 37 = (σ371 86 37) := (hG473.1 86 37 (by decide)).trans ((congrFun (congrFun e460 86) 37).trans rfl); omega) (by have hw0 : σ471 86 39 = (σ471 86 39) := rfl; have hw1 : σ471 86 36 = (σ471 86 36) := rfl; have hw2 : σ471 86 37 = (σ371 86 37) := (hG473.1 86 37 (by decide)).trans ((congrFun (congrFun e460 86) 37).trans rfl); omega) (by have hw0 : σ471 86 39 = (σ471 86 39) := rfl; have hw1 : σ471 86 36 = (σ471 86 36) := rfl; have hw2 : σ471 86 37 = (σ371 86 37) := (hG473.1 86 37 (by decide)).trans ((congrFun (congrFun e460 86) 37).trans rfl); omega) (by have hw0 : σ471 86 39 = (σ471 86 39) := rfl; have hw1 : σ471 86 36 = (σ471 86 36) := rfl; have hw2 : σ471 86 37 = (σ371 86 37) := (hG473.1 86 37 (by decide)).trans ((congrFun (congrFun e460 86) 37).trans rfl); omega) (by have hw0 : σ471 86 39 = (σ471 86 39) := rfl; have hw1 : σ471 86 36 = (σ471 86 36) := rfl; have hw2 : σ471 86 37 = (σ371 86 37) := (hG473.1 86 37 (by decide)).trans ((congrFun (congrFun e460 86) 37).trans rfl); omega)
              refine qr_if_ne 70 66 rfl rfl rfl (by omega) (fun h489 => ?_) (fun h489 => ?_)
              · skip
                refine qr_iload_n 71 rfl (qm_gk g369 (by decide) (Or.inr rfl)) rfl ?_
                refine qr_bipush 73 rfl (by decide) rfl ?_
                refine qr_icmp_ne 82 76 rfl rfl rfl (by omega) (by omega) (fun h490 => ?_) (fun h => False.elim (by omega))
                refine qr_iload_n 83 rfl (qm_gk g367 (by decide) (Or.inl (by decide))) rfl ?_
                refine qr_iload_n 84 rfl (qm_ge _ _ _) rfl ?_
                refine qr_iremW 85 rfl (by omega) rfl ?_
                refine qy_can (fun v491 hv491 => ?_)
                exact hJ483 _ v491 (qm_gk g366 (by decide) (Or.inl (by decide))) (by omega)
              · skip
                refine qr_iconst 67 rfl rfl ?_
                refine qr_goto 85 rfl rfl ?_
                exact hJ483 _ 0 (qm_gk g366 (by decide) (Or.inl (by decide))) (by omega)
  exact hL384 ((((120 - σ6 86 36).toNat : Int) + 1 : Int)).toNat _ v1 v13 σ6 (by omega) rfl rfl rfl (by omega) (by omega) hI7 hF9 ((hG8.1 86 37 (by decide)).trans rfl) (by have hw0 : σ6 86 39 = (σ6 86 39) := rfl; have hw1 : σ6 86 36 = (σ6 86 36) := rfl; have hw2 : σ6 86 37 = (σ 86 37) := (hG8.1 86 37 (by decide)).trans rfl; omega) (by have hw0 : σ6 86 39 = (σ6 86 39) := rfl; have hw1 : σ6 86 36 = (σ6 86 36) := rfl; have hw2 : σ6 86 37 = (σ 86 37) := (hG8.1 86 37 (by decide)).trans rfl; omega) (by have hw0 : σ6 86 39 = (σ6 86 39) := rfl; have hw1 : σ6 86 36 = (σ6 86 36) := rfl; have hw2 : σ6 86 37 = (σ 86 37) := (hG8.1 86 37 (by decide)).trans rfl; omega) (by have hw0 : σ6 86 39 = (σ6 86 39) := rfl; have hw1 : σ6 86 36 = (σ6 86 36) := rfl; have hw2 : σ6 86 37 = (σ 86 37) := (hG8.1 86 37 (by decide)).trans rfl; omega) (by have hw0 : σ6 86 39 = (σ6 86 39) := rfl; have hw1 : σ6 86 36 = (σ6 86 36) := rfl; have hw2 : σ6 86 37 = (σ 86 37) := (hG8.1 86 37 (by decide)).trans rfl; omega) (by have hw0 : σ6 86 39 = (σ6 86 39) := rfl; have hw1 : σ6 86 36 = (σ6 86 36) := rfl; have hw2 : σ6 86 37 = (σ 86 37) := (hG8.1 86 37 (by decide)).trans rfl; omega)

set_option maxHeartbeats 4000000 in
set_option maxRecDepth 20000 in
/-- OneRoofModel.sums -/
theorem sf_216_86o0 {L : Nat} {xs : Nat → Int} {vb : Bool} {d : Nat} {σ α : Nat → Nat → Int} {κ : Nat → Option Nat} {ρ : Nat}  (hI : qI σ α κ ρ) (p0 : 0 ≤ σ 86 39) (p1 : σ 86 36 ≤ σ 86 37) : qm_T (qe L xs vb) (d + 40) 216 [.ref 86] (qw σ α κ ρ) (fun r w' => ∃ σ', w' = qw σ' α κ ρ ∧ qI σ' α κ ρ ∧ qFr [(86, 36), (86, 38), (86, 39)] [] σ α σ' α ∧ ∃ v : Int, r = some (.int (qz v)) ∧ ((-2147483648) ≤ v ∧ v ≤ 2147483647) ∧ σ 86 39 ≤ σ' 86 39 ∧ σ 86 36 ≤ σ' 86 36 ∧ σ' 86 36 ≤ σ' 86 37 ∧ σ' 86 37 = σ 86 37) := by
  refine qr_start (d := d + 39) qv_e216 (Nat.le_of_ble_eq_true rfl) ?_
  show qr_W (qe L xs vb) (d + 39) qx_e216 _ (0, [(0, .ref 86)], [], _, 0, 0)
  have hF0 := qFr_rf [(86, 36), (86, 38), (86, 39)] [] σ α
  have hz86_39 : 0 ≤ σ 86 39 ∧ σ 86 39 ≤ 6 := hI.1 86 39
  have hz86_36 : 0 ≤ σ 86 36 ∧ σ 86 36 ≤ 120 := hI.1 86 36
  have hz86_37 : 0 ≤ σ 86 37 ∧ σ 86 37 ≤ 120 := hI.1 86 37
  refine qr_aload_n 1 rfl rfl rfl ?_
  refine qr_callN 4 rfl rfl rfl (sf_217_86o0 (d := d + 0) hI (by omega) (by omega)) ?_
  have hs3 : 0 ≤ σ 86 36 ∧ σ 86 36 ≤ 120 := hI.1 86 36
  have hs4 : 0 ≤ σ 86 37 ∧ σ 86 37 ≤ 120 := hI.1 86 37
  have hs5 : 0 ≤ σ 86 39 ∧ σ 86 39 ≤ 6 := hI.1 86 39
  rintro _ _ ⟨σ6, rfl, hI7, hG8, v1, rfl, hv1, hp2⟩
  have hF9 : qFr [(86, 36), (86, 38), (86, 39)] [] σ α σ6 α := qFr_t hF0 hG8 (by decide) (by decide)
  have hs10 : 0 ≤ σ6 86 36 ∧ σ6 86 36 ≤ 120 := hI7.1 86 36
  have hs11 : 0 ≤ σ6 86 37 ∧ σ6 86 37 ≤ 120 := hI7.1 86 37
  have hs12 : 0 ≤ σ6 86 39 ∧ σ6 86 39 ≤ 6 := hI7.1 86 39
  show qr_W (qe L xs vb) (d + 39) qx_e216 _ (4, _, [.int (qz v1)], qw σ6 α κ ρ, 0, 0)
  refine qr_istore_n _ 5 rfl (by decide) rfl rfl ?_
  have hL435 : ∀ (n : Nat) (ls : qm_L) (u423 : Int) (σ424 : Nat → Nat → Int), ((120 - σ424 86 36).toNat : Int) < (n : Int) → qm_get ls 0 = some (.ref 86) → qm_get ls 1 = some (.int (qz u423)) → ((-2147483648) ≤ u423 ∧ u423 ≤ 2147483647) → qI σ424 α κ ρ → qFr [(86, 36), (86, 38), (86, 39)] [] σ α σ424 α → σ424 86 37 = (σ 86 37) → 0 ≤ σ424 86 39 → σ 86 39 ≤ σ424 86 39 → σ 86 36 ≤ σ424 86 36 → σ424 86 36 ≤ σ424 86 37 → σ424 86 37 = σ 86 37 → qr_W (qe L xs vb) (d + 39) qx_e216 (fun r w' => ∃ σ', w' = qw σ' α κ ρ ∧ qI σ' α κ ρ ∧ qFr [(86, 36), (86, 38), (86, 39)] [] σ α σ' α ∧ ∃ v : Int, r = some (.int (qz v)) ∧ ((-2147483648) ≤ v ∧ v ≤ 2147483647) ∧ σ 86 39 ≤ σ' 86 39 ∧ σ 86 36 ≤ σ' 86 36 ∧ σ' 86 36 ≤ σ' 86 37 ∧ σ' 86 37 = σ 86 37) (5, ls, [], qw σ424 α κ ρ, 0, 0) := by
    intro n
    induction n with
    | zero => intro ls u423 σ424 hm g421 g422 hf429 hI426 hF427 hk428 hx430 hx431 hx432 hx433 hx434; exact False.elim (by omega)
    | succ n ih436 =>
      intro ls u423 σ424 hm g421 g422 hf429 hI426 hF427 hk428 hx430 hx431 hx432 hx433 hx434
      have hs437 : 0 ≤ σ424 86 39 ∧ σ424 86 39 ≤ 6 := hI426.1 86 39
      have hs438 : 0 ≤ σ424 86 36 ∧ σ424 86 36 ≤ 120 := hI426.1 86 36
      have hs439 : 0 ≤ σ424 86 37 ∧ σ424 86 37 ≤ 120 := hI426.1 86 37
      refine qr_aload_n 6 rfl g421 rfl ?_
      refine qr_get 9 rfl rfl rfl (by decide) rfl ?_
      have hs440 : (-1) ≤ σ424 86 38 ∧ σ424 86 38 ≤ 120 := hI426.1 86 38
      refine qr_if_ge 77 12 rfl rfl rfl (by omega) (fun h441 => ?_) (fun h441 => ?_)
      · skip
        refine qr_iload_n 78 rfl g422 rfl ?_
        refine qr_retI rfl rfl (by decide) (by decide) ?_
        have hw442 : σ424 86 36 = (σ424 86 36) := rfl
        have hw443 : σ424 86 37 = (σ424 86 37) := rfl
        have hw444 : σ424 86 39 = (σ424 86 39) := rfl
        exact ⟨_, rfl, hI426, hF427, u423, rfl, by omega, by omega⟩
      · skip
        refine qr_aload_n 13 rfl g421 rfl ?_
        refine qr_callN 16 rfl rfl rfl (sf_219_86t (d := d + 38) hI426 ) ?_
        have hs447 : 0 ≤ σ424 86 36 ∧ σ424 86 36 ≤ 120 := hI426.1 86 36
        have hs448 : 0 ≤ σ424 86 37 ∧ σ424 86 37 ≤ 120 := hI426.1 86 37
        rintro _ _ ⟨rfl, v445, rfl, hv445, hp446⟩
        show qr_W (qe L xs vb) (d + 39) qx_e216 _ (16, _, [.int (qz v445)], qw σ424 α κ ρ, 0, 0)
        refine qr_bipush 18 rfl (by decide) rfl ?_
        refine qr_icmp_eq 30 21 rfl rfl rfl (by omega) (by omega) (fun h449 => ?_) (fun h449 => ?_)
        · skip
          refine qr_aload_n 31 rfl g421 rfl ?_
          refine qr_callN 34 rfl rfl rfl (sf_219_86t (d := d + 38) hI426 ) ?_
          have hs452 : 0 ≤ σ424 86 36 ∧ σ424 86 36 ≤ 120 := hI426.1 86 36
          have hs453 : 0 ≤ σ424 86 37 ∧ σ424 86 37 ≤ 120 := hI426.1 86 37
          rintro _ _ ⟨rfl, v450, rfl, hv450, hp451⟩
          show qr_W (qe L xs vb) (d + 39) qx_e216 _ (34, _, [.int (qz v450)], qw σ424 α κ ρ, 0, 0)
          refine qr_bipush 36 rfl (by decide) rfl ?_
          refine qr_icmp_ne 43 39 rfl rfl rfl (by omega) (by omega) (fun h454 => ?_) (fun h454 => ?_)
          · skip
            refine qr_iconst 44 rfl rfl ?_
            refine qr_istore_n _ 45 rfl (by decide) rfl rfl ?_
            refine qr_aload_n 46 rfl (qm_gk g421 (by decide) (Or.inl (by decide))) rfl ?_
            refine qr_dup 47 rfl rfl rfl ?_
            refine qr_get 50 rfl rfl rfl (by decide) rfl ?_
            refine qr_iconst 51 rfl rfl ?_
            refine qr_iadd 52 rfl rfl ?_
            refine qr_put 55 rfl (by decide) rfl (Nat.le_of_ble_eq_true rfl) (Nat.le_of_ble_eq_true rfl) (Or.inl rfl) (qr_fitI rfl _) rfl ?_
            refine qy_wS (qw_s σ424 86 36 ((σ424 86 36) + 1)) rfl (fun σ455 e456 => ?_)
            have hI457 : qI σ455 α κ ρ := by rw [e456]; exact qI_s hI426 86 36 rfl (show 0 ≤ ((σ424 86 36) + 1) ∧ ((σ424 86 36) + 1) ≤ 120 by omega)
            have hF458 : qFr [(86, 36), (86, 38), (86, 39)] [] σ α σ455 α := by rw [e456]; exact qFr_s hF427 86 36 _ (by decide)
            refine qr_aload_n 56 rfl (qm_gk g421 (by decide) (Or.inl (by decide))) rfl ?_
            refine qr_callN 59 rfl rfl rfl (sf_217_86o0 (d := d + 0) hI457 (by omega) (by omega)) ?_
            have hs461 : 0 ≤ σ455 86 36 ∧ σ455 86 36 ≤ 120 := hI457.1 86 36
            have hs462 : σ455 86 36 = ((σ424 86 36) + 1) := (congrFun (congrFun e456 86) 36).trans rfl
            have hs463 : 0 ≤ σ455 86 37 ∧ σ455 86 37 ≤ 120 := hI457.1 86 37
            have hs464 : σ455 86 37 = (σ424 86 37) := (congrFun (congrFun e456 86) 37).trans rfl
            have hs465 : 0 ≤ σ455 86 39 ∧ σ455 86 39 ≤ 6 := hI457.1 86 39
            have hs466 : σ455 86 39 = (σ424 86 39) := (congrFun (congrFun e456 86) 39).trans rfl
            rintro _ _ ⟨σ467, rfl, hI468, hG469, v459, rfl, hv459, hp460⟩
            have hF470 : qFr [(86, 36), (86, 38), (86, 39)] [] σ α σ467 α := qFr_t hF458 hG469 (by decide) (by decide)
            have hs471 : 0 ≤ σ467 86 36 ∧ σ467 86 36 ≤ 120 := hI468.1 86 36
            have hs472 : 0 ≤ σ467 86 37 ∧ σ467 86 37 ≤ 120 := hI468.1 86 37
            have hs473 : 0 ≤ σ467 86 39 ∧ σ467 86 39 ≤ 6 := hI468.1 86 39
            show qr_W (qe L xs vb) (d + 39) qx_e216 _ (59, _, [.int (qz v459)], qw σ467 α κ ρ, 0, 0)
            refine qr_istore_n _ 60 rfl (by decide) rfl rfl ?_
            refine qr_iload_n 61 rfl (qm_gk (qm_ge _ _ _) (by decide) (Or.inr rfl)) rfl ?_
            refine qr_if_eq 70 64 rfl rfl rfl (by omega) (fun h474 => ?_) (fun h => False.elim (by omega))
            refine qr_iload_n 71 rfl (qm_gk (qm_gk g422 (by decide) (Or.inr rfl)) (by decide) (Or.inl (by decide))) rfl ?_
            refine qr_iload_n 72 rfl (qm_ge _ _ _) rfl ?_
            refine qr_isub 73 rfl rfl ?_
            refine qy_can (fun v475 hv475 => ?_)
            refine qr_istore_n _ 74 rfl (by decide) rfl rfl ?_
            refine qr_goto 5 rfl rfl ?_
            exact ih436 _ v475 σ467 (by omega) (qm_gk (qm_gk (qm_gk g421 (by decide) (Or.inl (by decide))) (by decide) (Or.inl (by decide))) (by decide) (Or.inr rfl)) (qm_ge _ _ _) (by omega) hI468 hF470 ((hG469.1 86 37 (by decide)).trans ((congrFun (congrFun e456 86) 37).trans rfl)) (by have hw0 : σ467 86 39 = (σ467 86 39) := rfl; have hw1 : σ467 86 36 = (σ467 86 36) := rfl; have hw2 : σ467 86 37 = (σ424 86 37) := (hG469.1 86 37 (by decide)).trans ((congrFun (congrFun e456 86) 37).trans rfl); omega) (by have hw0 : σ467 86 39 = (σ467 86 39) := rfl; have hw1 : σ467 86 36 = (σ467 86 36) := rfl; have hw2 : σ467 86 37 = (σ424 86 37) := (hG469.1 86 37 (by decide)).trans ((congrFun (congrFun e456 86) 37).trans rfl); omega) (by have hw0 : σ467 86 39 = (σ467 86 39) := rfl; have hw1 : σ467 86 36 = (σ467 86 36) := rfl; have hw2 : σ467 86 37 = (σ424 86 37) := (hG469.1 86 37 (by decide)).trans ((congrFun (congrFun e456 86) 37).trans rfl); omega) (by have hw0 : σ467 86 39 = (σ467 86 39) := rfl; have hw1 : σ467 86 36 = (σ467 86 36) := rfl; have hw2 : σ467 86 37 = (σ424 86 37) := (hG469.1 86 37 (by decide)).trans ((congrFun (congrFun e456 86) 37).trans rfl); omega) (by have hw0 : σ467 86 39 = (σ467 86 39) := rfl; have hw1 : σ467 86 36 = (σ467 86 36) := rfl; have hw2 : σ467 86 37 = (σ424 86 37) := (hG469.1 86 37 (by decide)).trans ((congrFun (congrFun e456 86) 37).trans rfl); omega)
          · skip
            refine qr_iconst 40 rfl rfl ?_
            refine qr_goto 44 rfl rfl ?_
            refine qr_istore_n _ 45 rfl (by decide) rfl rfl ?_
            refine qr_aload_n 46 rfl (qm_gk g421 (by decide) (Or.inl (by decide))) rfl ?_
            refine qr_dup 47 rfl rfl rfl ?_
            refine qr_get 50 rfl rfl rfl (by decide) rfl ?_
            refine qr_iconst 51 rfl rfl ?_
            refine qr_iadd 52 rfl rfl ?_
            refine qr_put 55 rfl (by decide) rfl (Nat.le_of_ble_eq_true rfl) (Nat.le_of_ble_eq_true rfl) (Or.inl rfl) (qr_fitI rfl _) rfl ?_
            refine qy_wS (qw_s σ424 86 36 ((σ424 86 36) + 1)) rfl (fun σ476 e477 => ?_)
            have hI478 : qI σ476 α κ ρ := by rw [e477]; exact qI_s hI426 86 36 rfl (show 0 ≤ ((σ424 86 36) + 1) ∧ ((σ424 86 36) + 1) ≤ 120 by omega)
            have hF479 : qFr [(86, 36), (86, 38), (86, 39)] [] σ α σ476 α := by rw [e477]; exact qFr_s hF427 86 36 _ (by decide)
            refine qr_aload_n 56 rfl (qm_gk g421 (by decide) (Or.inl (by decide))) rfl ?_
            refine qr_callN 59 rfl rfl rfl (sf_217_86o0 (d := d + 0) hI478 (by omega) (by omega)) ?_
            have hs482 : 0 ≤ σ476 86 36 ∧ σ476 86 36 ≤ 120 := hI478.1 86 36
            have hs483 : σ476 86 36 = ((σ424 86 36) + 1) := (congrFun (congrFun e477 86) 36).trans rfl
            have hs484 : 0 ≤ σ476 86 37 ∧ σ476 86 37 ≤ 120 := hI478.1 86 37
            have hs485 : σ476 86 37 = (σ424 86 37) := (congrFun (congrFun e477 86) 37).trans rfl
            have hs486 : 0 ≤ σ476 86 39 ∧ σ476 86 39 ≤ 6 := hI478.1 86 39
            have hs487 : σ476 86 39 = (σ424 86 39) := (congrFun (congrFun e477 86) 39).trans rfl
            rintro _ _ ⟨σ488, rfl, hI489, hG490, v480, rfl, hv480, hp481⟩
            have hF491 : qFr [(86, 36), (86, 38), (86, 39)] [] σ α σ488 α := qFr_t hF479 hG490 (by decide) (by decide)
            have hs492 : 0 ≤ σ488 86 36 ∧ σ488 86 36 ≤ 120 := hI489.1 86 36
            have hs493 : 0 ≤ σ488 86 37 ∧ σ488 86 37 ≤ 120 := hI489.1 86 37
            have hs494 : 0 ≤ σ488 86 39 ∧ σ488 86 39 ≤ 6 := hI489.1 86 39
            show qr_W (qe L xs vb) (d + 39) qx_e216 _ (59, _, [.int (qz v480)], qw σ488 α κ ρ, 0, 0)
            refine qr_istore_n _ 60 rfl (by decide) rfl rfl ?_
            refine qr_iload_n 61 rfl (qm_gk (qm_ge _ _ _) (by decide) (Or.inr rfl)) rfl ?_
            refine qr_if_eq 70 64 rfl rfl rfl (by omega) (fun h => False.elim (by omega)) (fun h495 => ?_)
            refine qr_iload_n 65 rfl (qm_gk (qm_gk g422 (by decide) (Or.inr rfl)) (by decide) (Or.inl (by decide))) rfl ?_
            refine qr_iload_n 66 rfl (qm_ge _ _ _) rfl ?_
            refine qr_iadd 67 rfl rfl ?_
            refine qy_can (fun v496 hv496 => ?_)
            refine qr_goto 73 rfl rfl ?_
            refine qr_istore_n _ 74 rfl (by decide) rfl rfl ?_
            refine qr_goto 5 rfl rfl ?_
            exact ih436 _ v496 σ488 (by omega) (qm_gk (qm_gk (qm_gk g421 (by decide) (Or.inl (by decide))) (by decide) (Or.inl (by decide))) (by decide) (Or.inr rfl)) (qm_ge _ _ _) (by omega) hI489 hF491 ((hG490.1 86 37 (by decide)).trans ((congrFun (congrFun e477 86) 37).trans rfl)) (by have hw0 : σ488 86 39 = (σ488 86 39) := rfl; have hw1 : σ488 86 36 = (σ488 86 36) := rfl; have hw2 : σ488 86 37 = (σ424 86 37) := (hG490.1 86 37 (by decide)).trans ((congrFun (congrFun e477 86) 37).trans rfl); omega) (by have hw0 : σ488 86 39 = (σ488 86 39) := rfl; have hw1 : σ488 86 36 = (σ488 86 36) := rfl; have hw2 : σ488 86 37 = (σ424 86 37) := (hG490.1 86 37 (by decide)).trans ((congrFun (congrFun e477 86) 37).trans rfl); omega) (by have hw0 : σ488 86 39 = (σ488 86 39) := rfl; have hw1 : σ488 86 36 = (σ488 86 36) := rfl; have hw2 : σ488 86 37 = (σ424 86 37) := (hG490.1 86 37 (by decide)).trans ((congrFun (congrFun e477 86) 37).trans rfl); omega) (by have hw0 : σ488 86 39 = (σ488 86 39) := rfl; have hw1 : σ488 86 36 = (σ488 86 36) := rfl; have hw2 : σ488 86 37 = (σ424 86 37) := (hG490.1 86 37 (by decide)).trans ((congrFun (congrFun e477 86) 37).trans rfl); omega) (by have hw0 : σ488 86 39 = (σ488 86 39) := rfl; have hw1 : σ488 86 36 = (σ488 86 36) := rfl; have hw2 : σ488 86 37 = (σ424 86 37) := (hG490.1 86 37 (by decide)).trans ((congrFun (congrFun e477 86) 37).trans rfl); omega)
        · skip
          refine qr_aload_n 22 rfl g421 rfl ?_
          refine qr_callN 25 rfl rfl rfl (sf_219_86t (d := d + 38) hI426 ) ?_
          have hs499 : 0 ≤ σ424 86 36 ∧ σ424 86 36 ≤ 120 := hI426.1 86 36
          have hs500 : 0 ≤ σ424 86 37 ∧ σ424 86 37 ≤ 120 := hI426.1 86 37
          rintro _ _ ⟨rfl, v497, rfl, hv497, hp498⟩
          show qr_W (qe L xs vb) (d + 39) qx_e216 _ (25, _, [.int (qz v497)], qw σ424 α κ ρ, 0, 0)
          refine qr_bipush 27 rfl (by decide) rfl ?_
          refine qr_icmp_ne 77 30 rfl rfl rfl (by omega) (by omega) (fun h501 => ?_) (fun h501 => ?_)
          · skip
            refine qr_iload_n 78 rfl g422 rfl ?_
            refine qr_retI rfl rfl (by decide) (by decide) ?_
            have hw502 : σ424 86 36 = (σ424 86 36) := rfl
            have hw503 : σ424 86 37 = (σ424 86 37) := rfl
            have hw504 : σ424 86 39 = (σ424 86 39) := rfl
            exact ⟨_, rfl, hI426, hF427, u423, rfl, by omega, by omega⟩
          · skip
            refine qr_aload_n 31 rfl g421 rfl ?_
            refine qr_callN 34 rfl rfl rfl (sf_219_86t (d := d + 38) hI426 ) ?_
            have hs507 : 0 ≤ σ424 86 36 ∧ σ424 86 36 ≤ 120 := hI426.1 86 36
            have hs508 : 0 ≤ σ424 86 37 ∧ σ424 86 37 ≤ 120 := hI426.1 86 37
            rintro _ _ ⟨rfl, v505, rfl, hv505, hp506⟩
            show qr_W (qe L xs vb) (d + 39) qx_e216 _ (34, _, [.int (qz v505)], qw σ424 α κ ρ, 0, 0)
            refine qr_bipush 36 rfl (by decide) rfl ?_
            refine qr_icmp_ne 43 39 rfl rfl rfl (by omega) (by omega) (fun h509 => ?_) (fun h509 => ?_)
            · skip
              refine qr_iconst 44 rfl rfl ?_
              refine qr_istore_n _ 45 rfl (by decide) rfl rfl ?_
              refine qr_aload_n 46 rfl (qm_gk g421 (by decide) (Or.inl (by decide))) rfl ?_
              refine qr_dup 47 rfl rfl rfl ?_
              refine qr_get 50 rfl rfl rfl (by decide) rfl ?_
              refine qr_iconst 51 rfl rfl ?_
              refine qr_iadd 52 rfl rfl ?_
              refine qr_put 55 rfl (by decide) rfl (Nat.le_of_ble_eq_true rfl) (Nat.le_of_ble_eq_true rfl) (Or.inl rfl) (qr_fitI rfl _) rfl ?_
              refine qy_wS (qw_s σ424 86 36 ((σ424 86 36) + 1)) rfl (fun σ510 e511 => ?_)
              have hI512 : qI σ510 α κ ρ := by rw [e511]; exact qI_s hI426 86 36 rfl (show 0 ≤ ((σ424 86 36) + 1) ∧ ((σ424 86 36) + 1) ≤ 120 by omega)
              have hF513 : qFr [(86, 36), (86, 38), (86, 39)] [] σ α σ510 α := by rw [e511]; exact qFr_s hF427 86 36 _ (by decide)
              refine qr_aload_n 56 rfl (qm_gk g421 (by decide) (Or.inl (by decide))) rfl ?_
              refine qr_callN 59 rfl rfl rfl (sf_217_86o0 (d := d + 0) hI512 (by omega) (by omega)) ?_
              have hs516 : 0 ≤ σ510 86 36 ∧ σ510 86 36 ≤ 120 := hI512.1 86 36
              have hs517 : σ510 86 36 = ((σ424 86 36) + 1) := (congrFun (congrFun e511 86) 36).trans rfl
              have hs518 : 0 ≤ σ510 86 37 ∧ σ510 86 37 ≤ 120 := hI512.1 86 37
              have hs519 : σ510 86 37 = (σ424 86 37) := (congrFun (congrFun e511 86) 37).trans rfl
              have hs520 : 0 ≤ σ510 86 39 ∧ σ510 86 39 ≤ 6 := hI512.1 86 39
              have hs521 : σ510 86 39 = (σ424 86 39) := (congrFun (congrFun e511 86) 39).trans rfl
              rintro _ _ ⟨σ522, rfl, hI523, hG524, v514, rfl, hv514, hp515⟩
              have hF525 : qFr [(86, 36), (86, 38), (86, 39)] [] σ α σ522 α := qFr_t hF513 hG524 (by decide) (by decide)
              have hs526 : 0 ≤ σ522 86 36 ∧ σ522 86 36 ≤ 120 := hI523.1 86 36
              have hs527 : 0 ≤ σ522 86 37 ∧ σ522 86 37 ≤ 120 := hI523.1 86 37
              have hs528 : 0 ≤ σ522 86 39 ∧ σ522 86 39 ≤ 6 := hI523.1 86 39
              show qr_W (qe L xs vb) (d + 39) qx_e216 _ (59, _, [.int (qz v514)], qw σ522 α κ ρ, 0, 0)
              refine qr_istore_n _ 60 rfl (by decide) rfl rfl ?_
              refine qr_iload_n 61 rfl (qm_gk (qm_ge _ _ _) (by decide) (Or.inr rfl)) rfl ?_
              refine qr_if_eq 70 64 rfl rfl rfl (by omega) (fun h529 => ?_) (fun h => False.elim (by omega))
              refine qr_iload_n 71 rfl (qm_gk (qm_gk g422 (by decide) (Or.inr rfl)) (by decide) (Or.inl (by decide))) rfl ?_
              refine qr_iload_n 72 rfl (qm_ge _ _ _) rfl ?_
              refine qr_isub 73 rfl rfl ?_
              refine qy_can (fun v530 hv530 => ?_)
              refine qr_istore_n _ 74 rfl (by decide) rfl rfl ?_
              refine qr_goto 5 rfl rfl ?_
              exact ih436 _ v530 σ522 (by omega) (qm_gk (qm_gk (qm_gk g421 (by decide) (Or.inl (by decide))) (by decide) (Or.inl (by decide))) (by decide) (Or.inr rfl)) (qm_ge _ _ _) (by omega) hI523 hF525 ((hG524.1 86 37 (by decide)).trans ((congrFun (congrFun e511 86) 37).trans rfl)) (by have hw0 : σ522 86 39 = (σ522 86 39) := rfl; have hw1 : σ522 86 36 = (σ522 86 36) := rfl; have hw2 : σ522 86 37 = (σ424 86 37) := (hG524.1 86 37 (by decide)).trans ((congrFun (congrFun e511 86) 37).trans rfl); omega) (by have hw0 : σ522 86 39 = (σ522 86 39) := rfl; have hw1 : σ522 86 36 = (σ522 86 36) := rfl; have hw2 : σ522 86 37 = (σ424 86 37) := (hG524.1 86 37 (by decide)).trans ((congrFun (congrFun e511 86) 37).trans rfl); omega) (by have hw0 : σ522 86 39 = (σ522 86 39) := rfl; have hw1 : σ522 86 36 = (σ522 86 36) := rfl; have hw2 : σ522 86 37 = (σ424 86 37) := (hG524.1 86 37 (by decide)).trans ((congrFun (congrFun e511 86) 37).trans rfl); omega) (by have hw0 : σ522 86 39 = (σ522 86 39) := rfl; have hw1 : σ522 86 36 = (σ522 86 36) := rfl; have hw2 : σ522 86 37 = (σ424 86 37) := (hG524.1 86 37 (by decide)).trans ((congrFun (congrFun e511 86) 37).trans rfl); omega) (by have hw0 : σ522 86 39 = (σ522 86 39) := rfl; have hw1 : σ522 86 36 = (σ522 86 36) := rfl; have hw2 : σ522 86 37 = (σ424 86 37) := (hG524.1 86 37 (by decide)).trans ((congrFun (congrFun e511 86) 37).trans rfl); omega)
            · skip
              refine qr_iconst 40 rfl rfl ?_
              refine qr_goto 44 rfl rfl ?_
              refine qr_istore_n _ 45 rfl (by decide) rfl rfl ?_
              refine qr_aload_n 46 rfl (qm_gk g421 (by decide) (Or.inl (by decide))) rfl ?_
              refine qr_dup 47 rfl rfl rfl ?_
              refine qr_get 50 rfl rfl rfl (by decide) rfl ?_
              refine qr_iconst 51 rfl rfl ?_
              refine qr_iadd 52 rfl rfl ?_
              refine qr_put 55 rfl (by decide) rfl (Nat.le_of_ble_eq_true rfl) (Nat.le_of_ble_eq_true rfl) (Or.inl rfl) (qr_fitI rfl _) rfl ?_
              refine qy_wS (qw_s σ424 86 36 ((σ424 86 36) + 1)) rfl (fun σ531 e532 => ?_)
              have hI533 : qI σ531 α κ ρ := by rw [e532]; exact qI_s hI426 86 36 rfl (show 0 ≤ ((σ424 86 36) + 1) ∧ ((σ424 86 36) + 1) ≤ 120 by omega)
              have hF534 : qFr [(86, 36), (86, 38), (86, 39)] [] σ α σ531 α := by rw [e532]; exact qFr_s hF427 86 36 _ (by decide)
              refine qr_aload_n 56 rfl (qm_gk g421 (by decide) (Or.inl (by decide))) rfl ?_
              refine qr_callN 59 rfl rfl rfl (sf_217_86o0 (d := d + 0) hI533 (by omega) (by omega)) ?_
              have hs537 : 0 ≤ σ531 86 36 ∧ σ531 86 36 ≤ 120 := hI533.1 86 36
              have hs538 : σ531 86 36 = ((σ424 86 36) + 1) := (congrFun (congrFun e532 86) 36).trans rfl
              have hs539 : 0 ≤ σ531 86 37 ∧ σ531 86 37 ≤ 120 := hI533.1 86 37
              have hs540 : σ531 86 37 = (σ424 86 37) := (congrFun (congrFun e532 86) 37).trans rfl
              have hs541 : 0 ≤ σ531 86 39 ∧ σ531 86 39 ≤ 6 := hI533.1 86 39
              have hs542 : σ531 86 39 = (σ424 86 39) := (congrFun (congrFun e532 86) 39).trans rfl
              rintro _ _ ⟨σ543, rfl, hI544, hG545, v535, rfl, hv535, hp536⟩
              have hF546 : qFr [(86, 36), (86, 38), (86, 39)] [] σ α σ543 α := qFr_t hF534 hG545 (by decide) (by decide)
              have hs547 : 0 ≤ σ543 86 36 ∧ σ543 86 36 ≤ 120 := hI544.1 86 36
              have hs548 : 0 ≤ σ543 86 37 ∧ σ543 86 37 ≤ 120 := hI544.1 86 37
              have hs549 : 0 ≤ σ543 86 39 ∧ σ543 86 39 ≤ 6 := hI544.1 86 39
              show qr_W (qe L xs vb) (d + 39) qx_e216 _ (59, _, [.int (qz v535)], qw σ543 α κ ρ, 0, 0)
              refine qr_istore_n _ 60 rfl (by decide) rfl rfl ?_
              refine qr_iload_n 61 rfl (qm_gk (qm_ge _ _ _) (by decide) (Or.inr rfl)) rfl ?_
              refine qr_if_eq 70 64 rfl rfl rfl (by omega) (fun h => False.elim (by omega)) (fun h550 => ?_)
              refine qr_iload_n 65 rfl (qm_gk (qm_gk g422 (by decide) (Or.inr rfl)) (by decide) (Or.inl (by decide))) rfl ?_
              refine qr_iload_n 66 rfl (qm_ge _ _ _) rfl ?_
              refine qr_iadd 67 rfl rfl ?_
              refine qy_can (fun v551 hv551 => ?_)
              refine qr_goto 73 rfl rfl ?_
              refine qr_istore_n _ 74 rfl (by decide) rfl rfl ?_
              refine qr_goto 5 rfl rfl ?_
              exact ih436 _ v551 σ543 (by omega) (qm_gk (qm_gk (qm_gk g421 (by decide) (Or.inl (by decide))) (by decide) (Or.inl (by decide))) (by decide) (Or.inr rfl)) (qm_ge _ _ _) (by omega) hI544 hF546 ((hG545.1 86 37 (by decide)).trans ((congrFun (congrFun e532 86) 37).trans rfl)) (by have hw0 : σ543 86 39 = (σ543 86 39) := rfl; have hw1 : σ543 86 36 = (σ543 86 36) := rfl; have hw2 : σ543 86 37 = (σ424 86 37) := (hG545.1 86 37 (by decide)).trans ((congrFun (congrFun e532 86) 37).trans rfl); omega) (by have hw0 : σ543 86 39 = (σ543 86 39) := rfl; have hw1 : σ543 86 36 = (σ543 86 36) := rfl; have hw2 : σ543 86 37 = (σ424 86 37) := (hG545.1 86 37 (by decide)).trans ((congrFun (congrFun e532 86) 37).trans rfl); omega) (by have hw0 : σ543 86 39 = (σ543 86 39) := rfl; have hw1 : σ543 86 36 = (σ543 86 36) := rfl; have hw2 : σ543 86 37 = (σ424 86 37) := (hG545.1 86 37 (by decide)).trans ((congrFun (congrFun e532 86) 37).trans rfl); omega) (by have hw0 : σ543 86 39 = (σ543 86 39) := rfl; have hw1 : σ543 86 36 = (σ543 86 36) := rfl; have hw2 : σ543 86 37 = (σ424 86 37) := (hG545.1 86 37 (by decide)).trans ((congrFun (congrFun e532 86) 37).trans rfl); omega) (by have hw0 : σ543 86 39 = (σ543 86 39) := rfl; have hw1 : σ543 86 36 = (σ543 86 36) := rfl; have hw2 : σ543 86 37 = (σ424 86 37) := (hG545.1 86 37 (by decide)).trans ((congrFun (congrFun e532 86) 37).trans rfl); omega)
  exact hL435 ((((120 - σ6 86 36).toNat : Int) + 1 : Int)).toNat _ v1 σ6 (by omega) rfl rfl (by omega) hI7 hF9 ((hG8.1 86 37 (by decide)).trans rfl) (by have hw0 : σ6 86 39 = (σ6 86 39) := rfl; have hw1 : σ6 86 36 = (σ6 86 36) := rfl; have hw2 : σ6 86 37 = (σ 86 37) := (hG8.1 86 37 (by decide)).trans rfl; omega) (by have hw0 : σ6 86 39 = (σ6 86 39) := rfl; have hw1 : σ6 86 36 = (σ6 86 36) := rfl; have hw2 : σ6 86 37 = (σ 86 37) := (hG8.1 86 37 (by decide)).trans rfl; omega) (by have hw0 : σ6 86 39 = (σ6 86 39) := rfl; have hw1 : σ6 86 36 = (σ6 86 36) := rfl; have hw2 : σ6 86 37 = (σ 86 37) := (hG8.1 86 37 (by decide)).trans rfl; omega) (by have hw0 : σ6 86 39 = (σ6 86 39) := rfl; have hw1 : σ6 86 36 = (σ6 86 36) := rfl; have hw2 : σ6 86 37 = (σ 86 37) := (hG8.1 86 37 (by decide)).trans rfl; omega) (by have hw0 : σ6 86 39 = (σ6 86 39) := rfl; have hw1 : σ6 86 36 = (σ6 86 36) := rfl; have hw2 : σ6 86 37 = (σ 86 37) := (hG8.1 86 37 (by decide)).trans rfl; omega)

set_option maxHeartbeats 4000000 in
set_option maxRecDepth 20000 in
/-- OneRoofModel.compared -/
theorem sf_215_86o0 {L : Nat} {xs : Nat → Int} {vb : Bool} {d : Nat} {σ α : Nat → Nat → Int} {κ : Nat → Option Nat} {ρ : Nat}  (hI : qI σ α κ ρ) (p0 : 0 ≤ σ 86 39) (p1 : σ 86 36 ≤ σ 86 37) : qm_T (qe L xs vb) (d + 41) 215 [.ref 86] (qw σ α κ ρ) (fun r w' => ∃ σ', w' = qw σ' α κ ρ ∧ qI σ' α κ ρ ∧ qFr [(86, 36), (86, 38), (86, 39)] [] σ α σ' α ∧ ∃ v : Int, r = some (.int (qz v)) ∧ ((-2147483648) ≤ v ∧ v ≤ 2147483647) ∧ σ 86 39 ≤ σ' 86 39 ∧ σ 86 36 ≤ σ' 86 36 ∧ σ' 86 36 ≤ σ' 86 37 ∧ σ' 86 37 = σ 86 37) := by
  refine qr_start (d := d + 40) qv_e215 (Nat.le_of_ble_eq_true rfl) ?_
  show qr_W (qe L xs vb) (d + 40) qx_e215 _ (0, [(0, .ref 86)], [], _, 0, 0)
  have hF0 := qFr_rf [(86, 36), (86, 38), (86, 39)] [] σ α
  have hz86_39 : 0 ≤ σ 86 39 ∧ σ 86 39 ≤ 6 := hI.1 86 39
  have hz86_36 : 0 ≤ σ 86 36 ∧ σ 86 36 ≤ 120 := hI.1 86 36
  have hz86_37 : 0 ≤ σ 86 37 ∧ σ 86 37 ≤ 120 := hI.1 86 37
  refine qr_aload_n 1 rfl rfl rfl ?_
  refine qr_callN 4 rfl rfl rfl (sf_216_86o0 (d := d + 0) hI (by omega) (by omega)) ?_
  have hs3 : 0 ≤ σ 86 36 ∧ σ 86 36 ≤ 120 := hI.1 86 36
  have hs4 : 0 ≤ σ 86 37 ∧ σ 86 37 ≤ 120 := hI.1 86 37
  have hs5 : 0 ≤ σ 86 39 ∧ σ 86 39 ≤ 6 := hI.1 86 39
  rintro _ _ ⟨σ6, rfl, hI7, hG8, v1, rfl, hv1, hp2⟩
  have hF9 : qFr [(86, 36), (86, 38), (86, 39)] [] σ α σ6 α := qFr_t hF0 hG8 (by decide) (by decide)
  have hs10 : 0 ≤ σ6 86 36 ∧ σ6 86 36 ≤ 120 := hI7.1 86 36
  have hs11 : 0 ≤ σ6 86 37 ∧ σ6 86 37 ≤ 120 := hI7.1 86 37
  have hs12 : 0 ≤ σ6 86 39 ∧ σ6 86 39 ≤ 6 := hI7.1 86 39
  show qr_W (qe L xs vb) (d + 40) qx_e215 _ (4, _, [.int (qz v1)], qw σ6 α κ ρ, 0, 0)
  refine qr_istore_n _ 5 rfl (by decide) rfl rfl ?_
  refine qr_aload_n 6 rfl rfl rfl ?_
  refine qr_callN 9 rfl rfl rfl (sf_219_86t (d := d + 39) hI7 ) ?_
  have hs15 : 0 ≤ σ6 86 36 ∧ σ6 86 36 ≤ 120 := hI7.1 86 36
  have hs16 : 0 ≤ σ6 86 37 ∧ σ6 86 37 ≤ 120 := hI7.1 86 37
  have hs17 : σ6 86 37 = (σ 86 37) := (hG8.1 86 37 (by decide)).trans rfl
  rintro _ _ ⟨rfl, v13, rfl, hv13, hp14⟩
  show qr_W (qe L xs vb) (d + 40) qx_e215 _ (9, _, [.int (qz v13)], qw σ6 α κ ρ, 0, 0)
  refine qr_istore_n _ 10 rfl (by decide) rfl rfl ?_
  refine qr_aload_n 11 rfl rfl rfl ?_
  refine qr_get 14 rfl rfl rfl (by decide) rfl ?_
  have hs18 : (-1) ≤ σ6 86 38 ∧ σ6 86 38 ≤ 120 := hI7.1 86 38
  refine qr_if_ge 35 17 rfl rfl rfl (by omega) (fun h19 => ?_) (fun h19 => ?_)
  · skip
    refine qr_iload_n 36 rfl rfl rfl ?_
    refine qr_retI rfl rfl (by decide) (by decide) ?_
    have hw20 : σ6 86 36 = (σ6 86 36) := rfl
    have hw21 : σ6 86 37 = (σ 86 37) := (hG8.1 86 37 (by decide)).trans rfl
    have hw22 : σ6 86 39 = (σ6 86 39) := rfl
    exact ⟨_, rfl, hI7, hF9, v1, rfl, by omega, by omega⟩
  · skip
    refine qr_iload_n 18 rfl rfl rfl ?_
    refine qr_bipush 20 rfl (by decide) rfl ?_
    refine qr_icmp_eq 37 23 rfl rfl rfl (by omega) (by omega) (fun h23 => ?_) (fun h23 => ?_)
    · skip
      refine qr_aload_n 38 rfl rfl rfl ?_
      refine qr_dup 39 rfl rfl rfl ?_
      refine qr_get 42 rfl rfl rfl (by decide) rfl ?_
      refine qr_iconst 43 rfl rfl ?_
      refine qr_iadd 44 rfl rfl ?_
      refine qr_put 47 rfl (by decide) rfl (Nat.le_of_ble_eq_true rfl) (Nat.le_of_ble_eq_true rfl) (Or.inl rfl) (qr_fitI rfl _) rfl ?_
      refine qy_wS (qw_s σ6 86 36 ((σ6 86 36) + 1)) rfl (fun σ24 e25 => ?_)
      have hI26 : qI σ24 α κ ρ := by rw [e25]; exact qI_s hI7 86 36 rfl (show 0 ≤ ((σ6 86 36) + 1) ∧ ((σ6 86 36) + 1) ≤ 120 by omega)
      have hF27 : qFr [(86, 36), (86, 38), (86, 39)] [] σ α σ24 α := by rw [e25]; exact qFr_s hF9 86 36 _ (by decide)
      refine qr_aload_n 48 rfl rfl rfl ?_
      refine qr_callN 51 rfl rfl rfl (sf_216_86o0 (d := d + 0) hI26 (by omega) (by omega)) ?_
      have hs30 : 0 ≤ σ24 86 36 ∧ σ24 86 36 ≤ 120 := hI26.1 86 36
      have hs31 : σ24 86 36 = ((σ6 86 36) + 1) := (congrFun (congrFun e25 86) 36).trans rfl
      have hs32 : 0 ≤ σ24 86 37 ∧ σ24 86 37 ≤ 120 := hI26.1 86 37
      have hs33 : σ24 86 37 = (σ 86 37) := (congrFun (congrFun e25 86) 37).trans ((hG8.1 86 37 (by decide)).trans rfl)
      have hs34 : 0 ≤ σ24 86 39 ∧ σ24 86 39 ≤ 6 := hI26.1 86 39
      have hs35 : σ24 86 39 = (σ6 86 39) := (congrFun (congrFun e25 86) 39).trans rfl
      rintro _ _ ⟨σ36, rfl, hI37, hG38, v28, rfl, hv28, hp29⟩
      have hF39 : qFr [(86, 36), (86, 38), (86, 39)] [] σ α σ36 α := qFr_t hF27 hG38 (by decide) (by decide)
      have hs40 : 0 ≤ σ36 86 36 ∧ σ36 86 36 ≤ 120 := hI37.1 86 36
      have hs41 : 0 ≤ σ36 86 37 ∧ σ36 86 37 ≤ 120 := hI37.1 86 37
      have hs42 : 0 ≤ σ36 86 39 ∧ σ36 86 39 ≤ 6 := hI37.1 86 39
      show qr_W (qe L xs vb) (d + 40) qx_e215 _ (51, _, [.int (qz v28)], qw σ36 α κ ρ, 0, 0)
      refine qr_istore_n _ 52 rfl (by decide) rfl rfl ?_
      refine qr_iload_n 53 rfl rfl rfl ?_
      refine qr_bipush 55 rfl (by decide) rfl ?_
      refine qr_icmp_ne 66 58 rfl rfl rfl (by omega) (by omega) (fun h => False.elim (by omega)) (fun h43 => ?_)
      refine qr_iload_n 59 rfl rfl rfl ?_
      refine qr_iload_n 60 rfl rfl rfl ?_
      refine qr_icmp_ge 89 63 rfl rfl rfl (by omega) (by omega) (fun h44 => ?_) (fun h44 => ?_)
      · skip
        refine qr_iconst 90 rfl rfl ?_
        refine qr_retI rfl rfl (by decide) (by decide) ?_
        have hw45 : σ36 86 36 = (σ36 86 36) := rfl
        have hw46 : σ36 86 37 = (σ 86 37) := (hG38.1 86 37 (by decide)).trans ((congrFun (congrFun e25 86) 37).trans ((hG8.1 86 37 (by decide)).trans rfl))
        have hw47 : σ36 86 39 = (σ36 86 39) := rfl
        exact ⟨_, rfl, hI37, hF39, 0, rfl, by omega, by omega⟩
      · skip
        refine qr_goto 85 rfl rfl ?_
        refine qr_iconst 86 rfl rfl ?_
        refine qr_goto 90 rfl rfl ?_
        refine qr_retI rfl rfl (by decide) (by decide) ?_
        have hw48 : σ36 86 36 = (σ36 86 36) := rfl
        have hw49 : σ36 86 37 = (σ 86 37) := (hG38.1 86 37 (by decide)).trans ((congrFun (congrFun e25 86) 37).trans ((hG8.1 86 37 (by decide)).trans rfl))
        have hw50 : σ36 86 39 = (σ36 86 39) := rfl
        exact ⟨_, rfl, hI37, hF39, 1, rfl, by omega, by omega⟩
    · skip
      refine qr_iload_n 24 rfl rfl rfl ?_
      refine qr_bipush 26 rfl (by decide) rfl ?_
      refine qr_icmp_eq 37 29 rfl rfl rfl (by omega) (by omega) (fun h51 => ?_) (fun h51 => ?_)
      · skip
        refine qr_aload_n 38 rfl rfl rfl ?_
        refine qr_dup 39 rfl rfl rfl ?_
        refine qr_get 42 rfl rfl rfl (by decide) rfl ?_
        refine qr_iconst 43 rfl rfl ?_
        refine qr_iadd 44 rfl rfl ?_
        refine qr_put 47 rfl (by decide) rfl (Nat.le_of_ble_eq_true rfl) (Nat.le_of_ble_eq_true rfl) (Or.inl rfl) (qr_fitI rfl _) rfl ?_
        refine qy_wS (qw_s σ6 86 36 ((σ6 86 36) + 1)) rfl (fun σ52 e53 => ?_)
        have hI54 : qI σ52 α κ ρ := by rw [e53]; exact qI_s hI7 86 36 rfl (show 0 ≤ ((σ6 86 36) + 1) ∧ ((σ6 86 36) + 1) ≤ 120 by omega)
        have hF55 : qFr [(86, 36), (86, 38), (86, 39)] [] σ α σ52 α := by rw [e53]; exact qFr_s hF9 86 36 _ (by decide)
        refine qr_aload_n 48 rfl rfl rfl ?_
        refine qr_callN 51 rfl rfl rfl (sf_216_86o0 (d := d + 0) hI54 (by omega) (by omega)) ?_
        have hs58 : 0 ≤ σ52 86 36 ∧ σ52 86 36 ≤ 120 := hI54.1 86 36
        have hs59 : σ52 86 36 = ((σ6 86 36) + 1) := (congrFun (congrFun e53 86) 36).trans rfl
        have hs60 : 0 ≤ σ52 86 37 ∧ σ52 86 37 ≤ 120 := hI54.1 86 37
        have hs61 : σ52 86 37 = (σ 86 37) := (congrFun (congrFun e53 86) 37).trans ((hG8.1 86 37 (by decide)).trans rfl)
        have hs62 : 0 ≤ σ52 86 39 ∧ σ52 86 39 ≤ 6 := hI54.1 86 39
        have hs63 : σ52 86 39 = (σ6 86 39) := (congrFun (congrFun e53 86) 39).trans rfl
        rintro _ _ ⟨σ64, rfl, hI65, hG66, v56, rfl, hv56, hp57⟩
        have hF67 : qFr [(86, 36), (86, 38), (86, 39)] [] σ α σ64 α := qFr_t hF55 hG66 (by decide) (by decide)
        have hs68 : 0 ≤ σ64 86 36 ∧ σ64 86 36 ≤ 120 := hI65.1 86 36
        have hs69 : 0 ≤ σ64 86 37 ∧ σ64 86 37 ≤ 120 := hI65.1 86 37
        have hs70 : 0 ≤ σ64 86 39 ∧ σ64 86 39 ≤ 6 := hI65.1 86 39
        show qr_W (qe L xs vb) (d + 40) qx_e215 _ (51, _, [.int (qz v56)], qw σ64 α κ ρ, 0, 0)
        refine qr_istore_n _ 52 rfl (by decide) rfl rfl ?_
        refine qr_iload_n 53 rfl rfl rfl ?_
        refine qr_bipush 55 rfl (by decide) rfl ?_
        refine qr_icmp_ne 66 58 rfl rfl rfl (by omega) (by omega) (fun h71 => ?_) (fun h => False.elim (by omega))
        refine qr_iload_n 67 rfl rfl rfl ?_
        refine qr_bipush 69 rfl (by decide) rfl ?_
        refine qr_icmp_ne 80 72 rfl rfl rfl (by omega) (by omega) (fun h => False.elim (by omega)) (fun h72 => ?_)
        refine qr_iload_n 73 rfl rfl rfl ?_
        refine qr_iload_n 74 rfl rfl rfl ?_
        refine qr_icmp_ne 89 77 rfl rfl rfl (by omega) (by omega) (fun h73 => ?_) (fun h73 => ?_)
        · skip
          refine qr_iconst 90 rfl rfl ?_
          refine qr_retI rfl rfl (by decide) (by decide) ?_
          have hw74 : σ64 86 36 = (σ64 86 36) := rfl
          have hw75 : σ64 86 37 = (σ 86 37) := (hG66.1 86 37 (by decide)).trans ((congrFun (congrFun e53 86) 37).trans ((hG8.1 86 37 (by decide)).trans rfl))
          have hw76 : σ64 86 39 = (σ64 86 39) := rfl
          exact ⟨_, rfl, hI65, hF67, 0, rfl, by omega, by omega⟩
        · skip
          refine qr_goto 85 rfl rfl ?_
          refine qr_iconst 86 rfl rfl ?_
          refine qr_goto 90 rfl rfl ?_
          refine qr_retI rfl rfl (by decide) (by decide) ?_
          have hw77 : σ64 86 36 = (σ64 86 36) := rfl
          have hw78 : σ64 86 37 = (σ 86 37) := (hG66.1 86 37 (by decide)).trans ((congrFun (congrFun e53 86) 37).trans ((hG8.1 86 37 (by decide)).trans rfl))
          have hw79 : σ64 86 39 = (σ64 86 39) := rfl
          exact ⟨_, rfl, hI65, hF67, 1, rfl, by omega, by omega⟩
      · skip
        refine qr_iload_n 30 rfl rfl rfl ?_
        refine qr_bipush 32 rfl (by decide) rfl ?_
        refine qr_icmp_eq 37 35 rfl rfl rfl (by omega) (by omega) (fun h80 => ?_) (fun h80 => ?_)
        · skip
          refine qr_aload_n 38 rfl rfl rfl ?_
          refine qr_dup 39 rfl rfl rfl ?_
          refine qr_get 42 rfl rfl rfl (by decide) rfl ?_
          refine qr_iconst 43 rfl rfl ?_
          refine qr_iadd 44 rfl rfl ?_
          refine qr_put 47 rfl (by decide) rfl (Nat.le_of_ble_eq_true rfl) (Nat.le_of_ble_eq_true rfl) (Or.inl rfl) (qr_fitI rfl _) rfl ?_
          refine qy_wS (qw_s σ6 86 36 ((σ6 86 36) + 1)) rfl (fun σ81 e82 => ?_)
          have hI83 : qI σ81 α κ ρ := by rw [e82]; exact qI_s hI7 86 36 rfl (show 0 ≤ ((σ6 86 36) + 1) ∧ ((σ6 86 36) + 1) ≤ 120 by omega)
          have hF84 : qFr [(86, 36), (86, 38), (86, 39)] [] σ α σ81 α := by rw [e82]; exact qFr_s hF9 86 36 _ (by decide)
          refine qr_aload_n 48 rfl rfl rfl ?_
          refine qr_callN 51 rfl rfl rfl (sf_216_86o0 (d := d + 0) hI83 (by omega) (by omega)) ?_
          have hs87 : 0 ≤ σ81 86 36 ∧ σ81 86 36 ≤ 120 := hI83.1 86 36
          have hs88 : σ81 86 36 = ((σ6 86 36) + 1) := (congrFun (congrFun e82 86) 36).trans rfl
          have hs89 : 0 ≤ σ81 86 37 ∧ σ81 86 37 ≤ 120 := hI83.1 86 37
          have hs90 : σ81 86 37 = (σ 86 37) := (congrFun (congrFun e82 86) 37).trans ((hG8.1 86 37 (by decide)).trans rfl)
          have hs91 : 0 ≤ σ81 86 39 ∧ σ81 86 39 ≤ 6 := hI83.1 86 39
          have hs92 : σ81 86 39 = (σ6 86 39) := (congrFun (congrFun e82 86) 39).trans rfl
          rintro _ _ ⟨σ93, rfl, hI94, hG95, v85, rfl, hv85, hp86⟩
          have hF96 : qFr [(86, 36), (86, 38), (86, 39)] [] σ α σ93 α := qFr_t hF84 hG95 (by decide) (by decide)
          have hs97 : 0 ≤ σ93 86 36 ∧ σ93 86 36 ≤ 120 := hI94.1 86 36
          have hs98 : 0 ≤ σ93 86 37 ∧ σ93 86 37 ≤ 120 := hI94.1 86 37
          have hs99 : 0 ≤ σ93 86 39 ∧ σ93 86 39 ≤ 6 := hI94.1 86 39
          show qr_W (qe L xs vb) (d + 40) qx_e215 _ (51, _, [.int (qz v85)], qw σ93 α κ ρ, 0, 0)
          refine qr_istore_n _ 52 rfl (by decide) rfl rfl ?_
          refine qr_iload_n 53 rfl rfl rfl ?_
          refine qr_bipush 55 rfl (by decide) rfl ?_
          refine qr_icmp_ne 66 58 rfl rfl rfl (by omega) (by omega) (fun h100 => ?_) (fun h => False.elim (by omega))
          refine qr_iload_n 67 rfl rfl rfl ?_
          refine qr_bipush 69 rfl (by decide) rfl ?_
          refine qr_icmp_ne 80 72 rfl rfl rfl (by omega) (by omega) (fun h101 => ?_) (fun h => False.elim (by omega))
          refine qr_iload_n 81 rfl rfl rfl ?_
          refine qr_iload_n 82 rfl rfl rfl ?_
          refine qr_icmp_le 89 85 rfl rfl rfl (by omega) (by omega) (fun h102 => ?_) (fun h102 => ?_)
          · skip
            refine qr_iconst 90 rfl rfl ?_
            refine qr_retI rfl rfl (by decide) (by decide) ?_
            have hw103 : σ93 86 36 = (σ93 86 36) := rfl
            have hw104 : σ93 86 37 = (σ 86 37) := (hG95.1 86 37 (by decide)).trans ((congrFun (congrFun e82 86) 37).trans ((hG8.1 86 37 (by decide)).trans rfl))
            have hw105 : σ93 86 39 = (σ93 86 39) := rfl
            exact ⟨_, rfl, hI94, hF96, 0, rfl, by omega, by omega⟩
          · skip
            refine qr_iconst 86 rfl rfl ?_
            refine qr_goto 90 rfl rfl ?_
            refine qr_retI rfl rfl (by decide) (by decide) ?_
            have hw106 : σ93 86 36 = (σ93 86 36) := rfl
            have hw107 : σ93 86 37 = (σ 86 37) := (hG95.1 86 37 (by decide)).trans ((congrFun (congrFun e82 86) 37).trans ((hG8.1 86 37 (by decide)).trans rfl))
            have hw108 : σ93 86 39 = (σ93 86 39) := rfl
            exact ⟨_, rfl, hI94, hF96, 1, rfl, by omega, by omega⟩
        · skip
          refine qr_iload_n 36 rfl rfl rfl ?_
          refine qr_retI rfl rfl (by decide) (by decide) ?_
          have hw109 : σ6 86 36 = (σ6 86 36) := rfl
          have hw110 : σ6 86 37 = (σ 86 37) := (hG8.1 86 37 (by decide)).trans rfl
          have hw111 : σ6 86 39 = (σ6 86 39) := rfl
          exact ⟨_, rfl, hI7, hF9, v1, rfl, by omega, by omega⟩

set_option maxHeartbeats 4000000 in
set_option maxRecDepth 20000 in
/-- OneRoofModel.both -/
theorem sf_214_86o0 {L : Nat} {xs : Nat → Int} {vb : Bool} {d : Nat} {σ α : Nat → Nat → Int} {κ : Nat → Option Nat} {ρ : Nat}  (hI : qI σ α κ ρ) (p0 : 0 ≤ σ 86 39) (p1 : σ 86 36 ≤ σ 86 37) : qm_T (qe L xs vb) (d + 42) 214 [.ref 86] (qw σ α κ ρ) (fun r w' => ∃ σ', w' = qw σ' α κ ρ ∧ qI σ' α κ ρ ∧ qFr [(86, 36), (86, 38), (86, 39)] [] σ α σ' α ∧ ∃ v : Int, r = some (.int (qz v)) ∧ ((-2147483648) ≤ v ∧ v ≤ 2147483647) ∧ σ 86 39 ≤ σ' 86 39 ∧ σ 86 36 ≤ σ' 86 36 ∧ σ' 86 36 ≤ σ' 86 37 ∧ σ' 86 37 = σ 86 37) := by
  refine qr_start (d := d + 41) qv_e214 (Nat.le_of_ble_eq_true rfl) ?_
  show qr_W (qe L xs vb) (d + 41) qx_e214 _ (0, [(0, .ref 86)], [], _, 0, 0)
  have hF0 := qFr_rf [(86, 36), (86, 38), (86, 39)] [] σ α
  have hz86_39 : 0 ≤ σ 86 39 ∧ σ 86 39 ≤ 6 := hI.1 86 39
  have hz86_36 : 0 ≤ σ 86 36 ∧ σ 86 36 ≤ 120 := hI.1 86 36
  have hz86_37 : 0 ≤ σ 86 37 ∧ σ 86 37 ≤ 120 := hI.1 86 37
  refine qr_aload_n 1 rfl rfl rfl ?_
  refine qr_callN 4 rfl rfl rfl (sf_215_86o0 (d := d + 0) hI (by omega) (by omega)) ?_
  have hs3 : 0 ≤ σ 86 36 ∧ σ 86 36 ≤ 120 := hI.1 86 36
  have hs4 : 0 ≤ σ 86 37 ∧ σ 86 37 ≤ 120 := hI.1 86 37
  have hs5 : 0 ≤ σ 86 39 ∧ σ 86 39 ≤ 6 := hI.1 86 39
  rintro _ _ ⟨σ6, rfl, hI7, hG8, v1, rfl, hv1, hp2⟩
  have hF9 : qFr [(86, 36), (86, 38), (86, 39)] [] σ α σ6 α := qFr_t hF0 hG8 (by decide) (by decide)
  have hs10 : 0 ≤ σ6 86 36 ∧ σ6 86 36 ≤ 120 := hI7.1 86 36
  have hs11 : 0 ≤ σ6 86 37 ∧ σ6 86 37 ≤ 120 := hI7.1 86 37
  have hs12 : 0 ≤ σ6 86 39 ∧ σ6 86 39 ≤ 6 := hI7.1 86 39
  show qr_W (qe L xs vb) (d + 41) qx_e214 _ (4, _, [.int (qz v1)], qw σ6 α κ ρ, 0, 0)
  refine qr_istore_n _ 5 rfl (by decide) rfl rfl ?_
  have hL139 : ∀ (n : Nat) (ls : qm_L) (u127 : Int) (σ128 : Nat → Nat → Int), ((120 - σ128 86 36).toNat : Int) < (n : Int) → qm_get ls 0 = some (.ref 86) → qm_get ls 1 = some (.int (qz u127)) → ((-2147483648) ≤ u127 ∧ u127 ≤ 2147483647) → qI σ128 α κ ρ → qFr [(86, 36), (86, 38), (86, 39)] [] σ α σ128 α → σ128 86 37 = (σ 86 37) → 0 ≤ σ128 86 39 → σ 86 39 ≤ σ128 86 39 → σ 86 36 ≤ σ128 86 36 → σ128 86 36 ≤ σ128 86 37 → σ128 86 37 = σ 86 37 → qr_W (qe L xs vb) (d + 41) qx_e214 (fun r w' => ∃ σ', w' = qw σ' α κ ρ ∧ qI σ' α κ ρ ∧ qFr [(86, 36), (86, 38), (86, 39)] [] σ α σ' α ∧ ∃ v : Int, r = some (.int (qz v)) ∧ ((-2147483648) ≤ v ∧ v ≤ 2147483647) ∧ σ 86 39 ≤ σ' 86 39 ∧ σ 86 36 ≤ σ' 86 36 ∧ σ' 86 36 ≤ σ' 86 37 ∧ σ' 86 37 = σ 86 37) (5, ls, [], qw σ128 α κ ρ, 0, 0) := by
    intro n
    induction n with
    | zero => intro ls u127 σ128 hm g125 g126 hf133 hI130 hF131 hk132 hx134 hx135 hx136 hx137 hx138; exact False.elim (by omega)
    | succ n ih140 =>
      intro ls u127 σ128 hm g125 g126 hf133 hI130 hF131 hk132 hx134 hx135 hx136 hx137 hx138
      have hs141 : 0 ≤ σ128 86 39 ∧ σ128 86 39 ≤ 6 := hI130.1 86 39
      have hs142 : 0 ≤ σ128 86 36 ∧ σ128 86 36 ≤ 120 := hI130.1 86 36
      have hs143 : 0 ≤ σ128 86 37 ∧ σ128 86 37 ≤ 120 := hI130.1 86 37
      refine qr_aload_n 6 rfl g125 rfl ?_
      refine qr_bipush 8 rfl (by decide) rfl ?_
      refine qr_callN 11 rfl rfl rfl (sf_221_86t (d := d + 39) hI130 (by omega) (by omega)) ?_
      have hs146 : 0 ≤ σ128 86 36 ∧ σ128 86 36 ≤ 120 := hI130.1 86 36
      have hs147 : 0 ≤ σ128 86 37 ∧ σ128 86 37 ≤ 120 := hI130.1 86 37
      rintro _ _ ⟨σ148, rfl, hI149, hG150, v144, rfl, hv144, hp145⟩
      have hF151 : qFr [(86, 36), (86, 38), (86, 39)] [] σ α σ148 α := qFr_t hF131 hG150 (by decide) (by decide)
      have hs152 : 0 ≤ σ148 86 36 ∧ σ148 86 36 ≤ 120 := hI149.1 86 36
      show qr_W (qe L xs vb) (d + 41) qx_e214 _ (11, _, [.int (qz v144)], qw σ148 α κ ρ, 0, 0)
      refine qr_if_eq 36 14 rfl rfl rfl (by omega) (fun h153 => ?_) (fun h153 => ?_)
      · skip
        refine qr_iload_n 37 rfl g126 rfl ?_
        refine qr_retI rfl rfl (by decide) (by decide) ?_
        have hw154 : σ148 86 36 = (σ148 86 36) := rfl
        have hw155 : σ148 86 37 = (σ128 86 37) := (hG150.1 86 37 (by decide)).trans rfl
        have hw156 : σ148 86 39 = (σ128 86 39) := (hG150.1 86 39 (by decide)).trans rfl
        exact ⟨_, rfl, hI149, hF151, u127, rfl, by omega, by omega⟩
      · skip
        refine qr_aload_n 15 rfl g125 rfl ?_
        refine qr_callN 18 rfl rfl rfl (sf_215_86o0 (d := d + 0) hI149 (by omega) (by omega)) ?_
        have hs159 : 0 ≤ σ148 86 36 ∧ σ148 86 36 ≤ 120 := hI149.1 86 36
        have hs160 : 0 ≤ σ148 86 37 ∧ σ148 86 37 ≤ 120 := hI149.1 86 37
        have hs161 : σ148 86 37 = (σ128 86 37) := (hG150.1 86 37 (by decide)).trans rfl
        have hs162 : 0 ≤ σ148 86 39 ∧ σ148 86 39 ≤ 6 := hI149.1 86 39
        have hs163 : σ148 86 39 = (σ128 86 39) := (hG150.1 86 39 (by decide)).trans rfl
        rintro _ _ ⟨σ164, rfl, hI165, hG166, v157, rfl, hv157, hp158⟩
        have hF167 : qFr [(86, 36), (86, 38), (86, 39)] [] σ α σ164 α := qFr_t hF151 hG166 (by decide) (by decide)
        have hs168 : 0 ≤ σ164 86 36 ∧ σ164 86 36 ≤ 120 := hI165.1 86 36
        have hs169 : 0 ≤ σ164 86 37 ∧ σ164 86 37 ≤ 120 := hI165.1 86 37
        have hs170 : 0 ≤ σ164 86 39 ∧ σ164 86 39 ≤ 6 := hI165.1 86 39
        show qr_W (qe L xs vb) (d + 41) qx_e214 _ (18, _, [.int (qz v157)], qw σ164 α κ ρ, 0, 0)
        refine qr_istore_n _ 19 rfl (by decide) rfl rfl ?_
        refine qr_iload_n 20 rfl (qm_gk g126 (by decide) (Or.inr rfl)) rfl ?_
        refine qr_if_eq 31 23 rfl rfl rfl (by omega) (fun h171 => ?_) (fun h171 => ?_)
        · skip
          refine qr_iconst 32 rfl rfl ?_
          refine qr_istore_n _ 33 rfl (by decide) rfl rfl ?_
          refine qr_goto 5 rfl rfl ?_
          exact ih140 _ 0 σ164 (by omega) (qm_gk (qm_gk g125 (by decide) (Or.inl (by decide))) (by decide) (Or.inr rfl)) (qm_ge _ _ _) (by omega) hI165 hF167 ((hG166.1 86 37 (by decide)).trans ((hG150.1 86 37 (by decide)).trans rfl)) (by have hw0 : σ164 86 39 = (σ164 86 39) := rfl; have hw1 : σ164 86 36 = (σ164 86 36) := rfl; have hw2 : σ164 86 37 = (σ128 86 37) := (hG166.1 86 37 (by decide)).trans ((hG150.1 86 37 (by decide)).trans rfl); omega) (by have hw0 : σ164 86 39 = (σ164 86 39) := rfl; have hw1 : σ164 86 36 = (σ164 86 36) := rfl; have hw2 : σ164 86 37 = (σ128 86 37) := (hG166.1 86 37 (by decide)).trans ((hG150.1 86 37 (by decide)).trans rfl); omega) (by have hw0 : σ164 86 39 = (σ164 86 39) := rfl; have hw1 : σ164 86 36 = (σ164 86 36) := rfl; have hw2 : σ164 86 37 = (σ128 86 37) := (hG166.1 86 37 (by decide)).trans ((hG150.1 86 37 (by decide)).trans rfl); omega) (by have hw0 : σ164 86 39 = (σ164 86 39) := rfl; have hw1 : σ164 86 36 = (σ164 86 36) := rfl; have hw2 : σ164 86 37 = (σ128 86 37) := (hG166.1 86 37 (by decide)).trans ((hG150.1 86 37 (by decide)).trans rfl); omega) (by have hw0 : σ164 86 39 = (σ164 86 39) := rfl; have hw1 : σ164 86 36 = (σ164 86 36) := rfl; have hw2 : σ164 86 37 = (σ128 86 37) := (hG166.1 86 37 (by decide)).trans ((hG150.1 86 37 (by decide)).trans rfl); omega)
        · skip
          refine qr_iload_n 24 rfl (qm_ge _ _ _) rfl ?_
          refine qr_if_eq 31 27 rfl rfl rfl (by omega) (fun h172 => ?_) (fun h172 => ?_)
          · skip
            refine qr_iconst 32 rfl rfl ?_
            refine qr_istore_n _ 33 rfl (by decide) rfl rfl ?_
            refine qr_goto 5 rfl rfl ?_
            exact ih140 _ 0 σ164 (by omega) (qm_gk (qm_gk g125 (by decide) (Or.inl (by decide))) (by decide) (Or.inr rfl)) (qm_ge _ _ _) (by omega) hI165 hF167 ((hG166.1 86 37 (by decide)).trans ((hG150.1 86 37 (by decide)).trans rfl)) (by have hw0 : σ164 86 39 = (σ164 86 39) := rfl; have hw1 : σ164 86 36 = (σ164 86 36) := rfl; have hw2 : σ164 86 37 = (σ128 86 37) := (hG166.1 86 37 (by decide)).trans ((hG150.1 86 37 (by decide)).trans rfl); omega) (by have hw0 : σ164 86 39 = (σ164 86 39) := rfl; have hw1 : σ164 86 36 = (σ164 86 36) := rfl; have hw2 : σ164 86 37 = (σ128 86 37) := (hG166.1 86 37 (by decide)).trans ((hG150.1 86 37 (by decide)).trans rfl); omega) (by have hw0 : σ164 86 39 = (σ164 86 39) := rfl; have hw1 : σ164 86 36 = (σ164 86 36) := rfl; have hw2 : σ164 86 37 = (σ128 86 37) := (hG166.1 86 37 (by decide)).trans ((hG150.1 86 37 (by decide)).trans rfl); omega) (by have hw0 : σ164 86 39 = (σ164 86 39) := rfl; have hw1 : σ164 86 36 = (σ164 86 36) := rfl; have hw2 : σ164 86 37 = (σ128 86 37) := (hG166.1 86 37 (by decide)).trans ((hG150.1 86 37 (by decide)).trans rfl); omega) (by have hw0 : σ164 86 39 = (σ164 86 39) := rfl; have hw1 : σ164 86 36 = (σ164 86 36) := rfl; have hw2 : σ164 86 37 = (σ128 86 37) := (hG166.1 86 37 (by decide)).trans ((hG150.1 86 37 (by decide)).trans rfl); omega)
          · skip
            refine qr_iconst 28 rfl rfl ?_
            refine qr_goto 32 rfl rfl ?_
            refine qr_istore_n _ 33 rfl (by decide) rfl rfl ?_
            refine qr_goto 5 rfl rfl ?_
            exact ih140 _ 1 σ164 (by omega) (qm_gk (qm_gk g125 (by decide) (Or.inl (by decide))) (by decide) (Or.inr rfl)) (qm_ge _ _ _) (by omega) hI165 hF167 ((hG166.1 86 37 (by decide)).trans ((hG150.1 86 37 (by decide)).trans rfl)) (by have hw0 : σ164 86 39 = (σ164 86 39) := rfl; have hw1 : σ164 86 36 = (σ164 86 36) := rfl; have hw2 : σ164 86 37 = (σ128 86 37) := (hG166.1 86 37 (by decide)).trans ((hG150.1 86 37 (by decide)).trans rfl); omega) (by have hw0 : σ164 86 39 = (σ164 86 39) := rfl; have hw1 : σ164 86 36 = (σ164 86 36) := rfl; have hw2 : σ164 86 37 = (σ128 86 37) := (hG166.1 86 37 (by decide)).trans ((hG150.1 86 37 (by decide)).trans rfl); omega) (by have hw0 : σ164 86 39 = (σ164 86 39) := rfl; have hw1 : σ164 86 36 = (σ164 86 36) := rfl; have hw2 : σ164 86 37 = (σ128 86 37) := (hG166.1 86 37 (by decide)).trans ((hG150.1 86 37 (by decide)).trans rfl); omega) (by have hw0 : σ164 86 39 = (σ164 86 39) := rfl; have hw1 : σ164 86 36 = (σ164 86 36) := rfl; have hw2 : σ164 86 37 = (σ128 86 37) := (hG166.1 86 37 (by decide)).trans ((hG150.1 86 37 (by decide)).trans rfl); omega) (by have hw0 : σ164 86 39 = (σ164 86 39) := rfl; have hw1 : σ164 86 36 = (σ164 86 36) := rfl; have hw2 : σ164 86 37 = (σ128 86 37) := (hG166.1 86 37 (by decide)).trans ((hG150.1 86 37 (by decide)).trans rfl); omega)
  exact hL139 ((((120 - σ6 86 36).toNat : Int) + 1 : Int)).toNat _ v1 σ6 (by omega) rfl rfl (by omega) hI7 hF9 ((hG8.1 86 37 (by decide)).trans rfl) (by have hw0 : σ6 86 39 = (σ6 86 39) := rfl; have hw1 : σ6 86 36 = (σ6 86 36) := rfl; have hw2 : σ6 86 37 = (σ 86 37) := (hG8.1 86 37 (by decide)).trans rfl; omega) (by have hw0 : σ6 86 39 = (σ6 86 39) := rfl; have hw1 : σ6 86 36 = (σ6 86 36) := rfl; have hw2 : σ6 86 37 = (σ 86 37) := (hG8.1 86 37 (by decide)).trans rfl; omega) (by have hw0 : σ6 86 39 = (σ6 86 39) := rfl; have hw1 : σ6 86 36 = (σ6 86 36) := rfl; have hw2 : σ6 86 37 = (σ 86 37) := (hG8.1 86 37 (by decide)).trans rfl; omega) (by have hw0 : σ6 86 39 = (σ6 86 39) := rfl; have hw1 : σ6 86 36 = (σ6 86 36) := rfl; have hw2 : σ6 86 37 = (σ 86 37) := (hG8.1 86 37 (by decide)).trans rfl; omega) (by have hw0 : σ6 86 39 = (σ6 86 39) := rfl; have hw1 : σ6 86 36 = (σ6 86 36) := rfl; have hw2 : σ6 86 37 = (σ 86 37) := (hG8.1 86 37 (by decide)).trans rfl; omega)

set_option maxHeartbeats 4000000 in
set_option maxRecDepth 20000 in
/-- OneRoofModel.either -/
theorem sf_213_86o0 {L : Nat} {xs : Nat → Int} {vb : Bool} {d : Nat} {σ α : Nat → Nat → Int} {κ : Nat → Option Nat} {ρ : Nat}  (hI : qI σ α κ ρ) (p0 : 0 ≤ σ 86 39) (p1 : σ 86 36 ≤ σ 86 37) : qm_T (qe L xs vb) (d + 43) 213 [.ref 86] (qw σ α κ ρ) (fun r w' => ∃ σ', w' = qw σ' α κ ρ ∧ qI σ' α κ ρ ∧ qFr [(86, 36), (86, 38), (86, 39)] [] σ α σ' α ∧ ∃ v : Int, r = some (.int (qz v)) ∧ ((-2147483648) ≤ v ∧ v ≤ 2147483647) ∧ σ 86 39 ≤ σ' 86 39 ∧ σ 86 36 ≤ σ' 86 36 ∧ σ' 86 36 ≤ σ' 86 37 ∧ σ' 86 37 = σ 86 37) := by
  refine qr_start (d := d + 42) qv_e213 (Nat.le_of_ble_eq_true rfl) ?_
  show qr_W (qe L xs vb) (d + 42) qx_e213 _ (0, [(0, .ref 86)], [], _, 0, 0)
  have hF0 := qFr_rf [(86, 36), (86, 38), (86, 39)] [] σ α
  have hz86_39 : 0 ≤ σ 86 39 ∧ σ 86 39 ≤ 6 := hI.1 86 39
  have hz86_36 : 0 ≤ σ 86 36 ∧ σ 86 36 ≤ 120 := hI.1 86 36
  have hz86_37 : 0 ≤ σ 86 37 ∧ σ 86 37 ≤ 120 := hI.1 86 37
  refine qr_aload_n 1 rfl rfl rfl ?_
  refine qr_callN 4 rfl rfl rfl (sf_214_86o0 (d := d + 0) hI (by omega) (by omega)) ?_
  have hs3 : 0 ≤ σ 86 36 ∧ σ 86 36 ≤ 120 := hI.1 86 36
  have hs4 : 0 ≤ σ 86 37 ∧ σ 86 37 ≤ 120 := hI.1 86 37
  have hs5 : 0 ≤ σ 86 39 ∧ σ 86 39 ≤ 6 := hI.1 86 39
  rintro _ _ ⟨σ6, rfl, hI7, hG8, v1, rfl, hv1, hp2⟩
  have hF9 : qFr [(86, 36), (86, 38), (86, 39)] [] σ α σ6 α := qFr_t hF0 hG8 (by decide) (by decide)
  have hs10 : 0 ≤ σ6 86 36 ∧ σ6 86 36 ≤ 120 := hI7.1 86 36
  have hs11 : 0 ≤ σ6 86 37 ∧ σ6 86 37 ≤ 120 := hI7.1 86 37
  have hs12 : 0 ≤ σ6 86 39 ∧ σ6 86 39 ≤ 6 := hI7.1 86 39
  show qr_W (qe L xs vb) (d + 42) qx_e213 _ (4, _, [.int (qz v1)], qw σ6 α κ ρ, 0, 0)
  refine qr_istore_n _ 5 rfl (by decide) rfl rfl ?_
  have hL139 : ∀ (n : Nat) (ls : qm_L) (u127 : Int) (σ128 : Nat → Nat → Int), ((120 - σ128 86 36).toNat : Int) < (n : Int) → qm_get ls 0 = some (.ref 86) → qm_get ls 1 = some (.int (qz u127)) → ((-2147483648) ≤ u127 ∧ u127 ≤ 2147483647) → qI σ128 α κ ρ → qFr [(86, 36), (86, 38), (86, 39)] [] σ α σ128 α → σ128 86 37 = (σ 86 37) → 0 ≤ σ128 86 39 → σ 86 39 ≤ σ128 86 39 → σ 86 36 ≤ σ128 86 36 → σ128 86 36 ≤ σ128 86 37 → σ128 86 37 = σ 86 37 → qr_W (qe L xs vb) (d + 42) qx_e213 (fun r w' => ∃ σ', w' = qw σ' α κ ρ ∧ qI σ' α κ ρ ∧ qFr [(86, 36), (86, 38), (86, 39)] [] σ α σ' α ∧ ∃ v : Int, r = some (.int (qz v)) ∧ ((-2147483648) ≤ v ∧ v ≤ 2147483647) ∧ σ 86 39 ≤ σ' 86 39 ∧ σ 86 36 ≤ σ' 86 36 ∧ σ' 86 36 ≤ σ' 86 37 ∧ σ' 86 37 = σ 86 37) (5, ls, [], qw σ128 α κ ρ, 0, 0) := by
    intro n
    induction n with
    | zero => intro ls u127 σ128 hm g125 g126 hf133 hI130 hF131 hk132 hx134 hx135 hx136 hx137 hx138; exact False.elim (by omega)
    | succ n ih140 =>
      intro ls u127 σ128 hm g125 g126 hf133 hI130 hF131 hk132 hx134 hx135 hx136 hx137 hx138
      have hs141 : 0 ≤ σ128 86 39 ∧ σ128 86 39 ≤ 6 := hI130.1 86 39
      have hs142 : 0 ≤ σ128 86 36 ∧ σ128 86 36 ≤ 120 := hI130.1 86 36
      have hs143 : 0 ≤ σ128 86 37 ∧ σ128 86 37 ≤ 120 := hI130.1 86 37
      refine qr_aload_n 6 rfl g125 rfl ?_
      refine qr_bipush 8 rfl (by decide) rfl ?_
      refine qr_callN 11 rfl rfl rfl (sf_221_86t (d := d + 40) hI130 (by omega) (by omega)) ?_
      have hs146 : 0 ≤ σ128 86 36 ∧ σ128 86 36 ≤ 120 := hI130.1 86 36
      have hs147 : 0 ≤ σ128 86 37 ∧ σ128 86 37 ≤ 120 := hI130.1 86 37
      rintro _ _ ⟨σ148, rfl, hI149, hG150, v144, rfl, hv144, hp145⟩
      have hF151 : qFr [(86, 36), (86, 38), (86, 39)] [] σ α σ148 α := qFr_t hF131 hG150 (by decide) (by decide)
      have hs152 : 0 ≤ σ148 86 36 ∧ σ148 86 36 ≤ 120 := hI149.1 86 36
      show qr_W (qe L xs vb) (d + 42) qx_e213 _ (11, _, [.int (qz v144)], qw σ148 α κ ρ, 0, 0)
      refine qr_if_eq 36 14 rfl rfl rfl (by omega) (fun h153 => ?_) (fun h153 => ?_)
      · skip
        refine qr_iload_n 37 rfl g126 rfl ?_
        refine qr_retI rfl rfl (by decide) (by decide) ?_
        have hw154 : σ148 86 36 = (σ148 86 36) := rfl
        have hw155 : σ148 86 37 = (σ128 86 37) := (hG150.1 86 37 (by decide)).trans rfl
        have hw156 : σ148 86 39 = (σ128 86 39) := (hG150.1 86 39 (by decide)).trans rfl
        exact ⟨_, rfl, hI149, hF151, u127, rfl, by omega, by omega⟩
      · skip
        refine qr_aload_n 15 rfl g125 rfl ?_
        refine qr_callN 18 rfl rfl rfl (sf_214_86o0 (d := d + 0) hI149 (by omega) (by omega)) ?_
        have hs159 : 0 ≤ σ148 86 36 ∧ σ148 86 36 ≤ 120 := hI149.1 86 36
        have hs160 : 0 ≤ σ148 86 37 ∧ σ148 86 37 ≤ 120 := hI149.1 86 37
        have hs161 : σ148 86 37 = (σ128 86 37) := (hG150.1 86 37 (by decide)).trans rfl
        have hs162 : 0 ≤ σ148 86 39 ∧ σ148 86 39 ≤ 6 := hI149.1 86 39
        have hs163 : σ148 86 39 = (σ128 86 39) := (hG150.1 86 39 (by decide)).trans rfl
        rintro _ _ ⟨σ164, rfl, hI165, hG166, v157, rfl, hv157, hp158⟩
        have hF167 : qFr [(86, 36), (86, 38), (86, 39)] [] σ α σ164 α := qFr_t hF151 hG166 (by decide) (by decide)
        have hs168 : 0 ≤ σ164 86 36 ∧ σ164 86 36 ≤ 120 := hI165.1 86 36
        have hs169 : 0 ≤ σ164 86 37 ∧ σ164 86 37 ≤ 120 := hI165.1 86 37
        have hs170 : 0 ≤ σ164 86 39 ∧ σ164 86 39 ≤ 6 := hI165.1 86 39
        show qr_W (qe L xs vb) (d + 42) qx_e213 _ (18, _, [.int (qz v157)], qw σ164 α κ ρ, 0, 0)
        refine qr_istore_n _ 19 rfl (by decide) rfl rfl ?_
        refine qr_iload_n 20 rfl (qm_gk g126 (by decide) (Or.inr rfl)) rfl ?_
        refine qr_if_ne 27 23 rfl rfl rfl (by omega) (fun h171 => ?_) (fun h171 => ?_)
        · skip
          refine qr_iconst 28 rfl rfl ?_
          refine qr_goto 32 rfl rfl ?_
          refine qr_istore_n _ 33 rfl (by decide) rfl rfl ?_
          refine qr_goto 5 rfl rfl ?_
          exact ih140 _ 1 σ164 (by omega) (qm_gk (qm_gk g125 (by decide) (Or.inl (by decide))) (by decide) (Or.inr rfl)) (qm_ge _ _ _) (by omega) hI165 hF167 ((hG166.1 86 37 (by decide)).trans ((hG150.1 86 37 (by decide)).trans rfl)) (by have hw0 : σ164 86 39 = (σ164 86 39) := rfl; have hw1 : σ164 86 36 = (σ164 86 36) := rfl; have hw2 : σ164 86 37 = (σ128 86 37) := (hG166.1 86 37 (by decide)).trans ((hG150.1 86 37 (by decide)).trans rfl); omega) (by have hw0 : σ164 86 39 = (σ164 86 39) := rfl; have hw1 : σ164 86 36 = (σ164 86 36) := rfl; have hw2 : σ164 86 37 = (σ128 86 37) := (hG166.1 86 37 (by decide)).trans ((hG150.1 86 37 (by decide)).trans rfl); omega) (by have hw0 : σ164 86 39 = (σ164 86 39) := rfl; have hw1 : σ164 86 36 = (σ164 86 36) := rfl; have hw2 : σ164 86 37 = (σ128 86 37) := (hG166.1 86 37 (by decide)).trans ((hG150.1 86 37 (by decide)).trans rfl); omega) (by have hw0 : σ164 86 39 = (σ164 86 39) := rfl; have hw1 : σ164 86 36 = (σ164 86 36) := rfl; have hw2 : σ164 86 37 = (σ128 86 37) := (hG166.1 86 37 (by decide)).trans ((hG150.1 86 37 (by decide)).trans rfl); omega) (by have hw0 : σ164 86 39 = (σ164 86 39) := rfl; have hw1 : σ164 86 36 = (σ164 86 36) := rfl; have hw2 : σ164 86 37 = (σ128 86 37) := (hG166.1 86 37 (by decide)).trans ((hG150.1 86 37 (by decide)).trans rfl); omega)
        · skip
          refine qr_iload_n 24 rfl (qm_ge _ _ _) rfl ?_
          refine qr_if_eq 31 27 rfl rfl rfl (by omega) (fun h172 => ?_) (fun h172 => ?_)
          · skip
            refine qr_iconst 32 rfl rfl ?_
            refine qr_istore_n _ 33 rfl (by decide) rfl rfl ?_
            refine qr_goto 5 rfl rfl ?_
            exact ih140 _ 0 σ164 (by omega) (qm_gk (qm_gk g125 (by decide) (Or.inl (by decide))) (by decide) (Or.inr rfl)) (qm_ge _ _ _) (by omega) hI165 hF167 ((hG166.1 86 37 (by decide)).trans ((hG150.1 86 37 (by decide)).trans rfl)) (by have hw0 : σ164 86 39 = (σ164 86 39) := rfl; have hw1 : σ164 86 36 = (σ164 86 36) := rfl; have hw2 : σ164 86 37 = (σ128 86 37) := (hG166.1 86 37 (by decide)).trans ((hG150.1 86 37 (by decide)).trans rfl); omega) (by have hw0 : σ164 86 39 = (σ164 86 39) := rfl; have hw1 : σ164 86 36 = (σ164 86 36) := rfl; have hw2 : σ164 86 37 = (σ128 86 37) := (hG166.1 86 37 (by decide)).trans ((hG150.1 86 37 (by decide)).trans rfl); omega) (by have hw0 : σ164 86 39 = (σ164 86 39) := rfl; have hw1 : σ164 86 36 = (σ164 86 36) := rfl; have hw2 : σ164 86 37 = (σ128 86 37) := (hG166.1 86 37 (by decide)).trans ((hG150.1 86 37 (by decide)).trans rfl); omega) (by have hw0 : σ164 86 39 = (σ164 86 39) := rfl; have hw1 : σ164 86 36 = (σ164 86 36) := rfl; have hw2 : σ164 86 37 = (σ128 86 37) := (hG166.1 86 37 (by decide)).trans ((hG150.1 86 37 (by decide)).trans rfl); omega) (by have hw0 : σ164 86 39 = (σ164 86 39) := rfl; have hw1 : σ164 86 36 = (σ164 86 36) := rfl; have hw2 : σ164 86 37 = (σ128 86 37) := (hG166.1 86 37 (by decide)).trans ((hG150.1 86 37 (by decide)).trans rfl); omega)
          · skip
            refine qr_iconst 28 rfl rfl ?_
            refine qr_goto 32 rfl rfl ?_
            refine qr_istore_n _ 33 rfl (by decide) rfl rfl ?_
            refine qr_goto 5 rfl rfl ?_
            exact ih140 _ 1 σ164 (by omega) (qm_gk (qm_gk g125 (by decide) (Or.inl (by decide))) (by decide) (Or.inr rfl)) (qm_ge _ _ _) (by omega) hI165 hF167 ((hG166.1 86 37 (by decide)).trans ((hG150.1 86 37 (by decide)).trans rfl)) (by have hw0 : σ164 86 39 = (σ164 86 39) := rfl; have hw1 : σ164 86 36 = (σ164 86 36) := rfl; have hw2 : σ164 86 37 = (σ128 86 37) := (hG166.1 86 37 (by decide)).trans ((hG150.1 86 37 (by decide)).trans rfl); omega) (by have hw0 : σ164 86 39 = (σ164 86 39) := rfl; have hw1 : σ164 86 36 = (σ164 86 36) := rfl; have hw2 : σ164 86 37 = (σ128 86 37) := (hG166.1 86 37 (by decide)).trans ((hG150.1 86 37 (by decide)).trans rfl); omega) (by have hw0 : σ164 86 39 = (σ164 86 39) := rfl; have hw1 : σ164 86 36 = (σ164 86 36) := rfl; have hw2 : σ164 86 37 = (σ128 86 37) := (hG166.1 86 37 (by decide)).trans ((hG150.1 86 37 (by decide)).trans rfl); omega) (by have hw0 : σ164 86 39 = (σ164 86 39) := rfl; have hw1 : σ164 86 36 = (σ164 86 36) := rfl; have hw2 : σ164 86 37 = (σ128 86 37) := (hG166.1 86 37 (by decide)).trans ((hG150.1 86 37 (by decide)).trans rfl); omega) (by have hw0 : σ164 86 39 = (σ164 86 39) := rfl; have hw1 : σ164 86 36 = (σ164 86 36) := rfl; have hw2 : σ164 86 37 = (σ128 86 37) := (hG166.1 86 37 (by decide)).trans ((hG150.1 86 37 (by decide)).trans rfl); omega)
  exact hL139 ((((120 - σ6 86 36).toNat : Int) + 1 : Int)).toNat _ v1 σ6 (by omega) rfl rfl (by omega) hI7 hF9 ((hG8.1 86 37 (by decide)).trans rfl) (by have hw0 : σ6 86 39 = (σ6 86 39) := rfl; have hw1 : σ6 86 36 = (σ6 86 36) := rfl; have hw2 : σ6 86 37 = (σ 86 37) := (hG8.1 86 37 (by decide)).trans rfl; omega) (by have hw0 : σ6 86 39 = (σ6 86 39) := rfl; have hw1 : σ6 86 36 = (σ6 86 36) := rfl; have hw2 : σ6 86 37 = (σ 86 37) := (hG8.1 86 37 (by decide)).trans rfl; omega) (by have hw0 : σ6 86 39 = (σ6 86 39) := rfl; have hw1 : σ6 86 36 = (σ6 86 36) := rfl; have hw2 : σ6 86 37 = (σ 86 37) := (hG8.1 86 37 (by decide)).trans rfl; omega) (by have hw0 : σ6 86 39 = (σ6 86 39) := rfl; have hw1 : σ6 86 36 = (σ6 86 36) := rfl; have hw2 : σ6 86 37 = (σ 86 37) := (hG8.1 86 37 (by decide)).trans rfl; omega) (by have hw0 : σ6 86 39 = (σ6 86 39) := rfl; have hw1 : σ6 86 36 = (σ6 86 36) := rfl; have hw2 : σ6 86 37 = (σ 86 37) := (hG8.1 86 37 (by decide)).trans rfl; omega)

set_option maxHeartbeats 4000000 in
set_option maxRecDepth 20000 in
/-- OneRoofModel.workOut -/
theorem sf_212_86 {L : Nat} {xs : Nat → Int} {vb : Bool} {d : Nat} {σ α : Nat → Nat → Int} {κ : Nat → Option Nat} {ρ : Nat} {x1 : Int} {x2 : Int} (hI : qI σ α κ ρ) (r1 : (-1) ≤ x1 ∧ x1 ≤ 120) (r2 : 0 ≤ x2 ∧ x2 ≤ 120) : qm_T (qe L xs vb) (d + 44) 212 [.ref 86, .int (qz x1), .int (qz x2)] (qw σ α κ ρ) (fun r w' => ∃ σ', w' = qw σ' α κ ρ ∧ qI σ' α κ ρ ∧ qFr [(86, 35), (86, 36), (86, 37), (86, 38), (86, 39)] [] σ α σ' α ∧ ∃ v : Int, r = some (.int (qz v)) ∧ ((-2147483648) ≤ v ∧ v ≤ 2147483647)) := by
  refine qr_start (d := d + 43) qv_e212 (Nat.le_of_ble_eq_true rfl) ?_
  show qr_W (qe L xs vb) (d + 43) qx_e212 _ (0, [(0, .ref 86), (1, .int (qz x1)), (2, .int (qz x2))], [], _, 0, 0)
  have hF0 := qFr_rf [(86, 35), (86, 36), (86, 37), (86, 38), (86, 39)] [] σ α
  refine qr_aload_n 1 rfl rfl rfl ?_
  refine qr_iload_n 2 rfl rfl rfl ?_
  refine qr_put 5 rfl (by decide) rfl (Nat.le_of_ble_eq_true rfl) (Nat.le_of_ble_eq_true rfl) (Or.inl rfl) (qr_fitI rfl _) rfl ?_
  refine qy_wS (qw_s σ 86 35 x1) rfl (fun σ1 e2 => ?_)
  have hI3 : qI σ1 α κ ρ := by rw [e2]; exact qI_s hI 86 35 rfl (show (-1) ≤ x1 ∧ x1 ≤ 120 by omega)
  have hF4 : qFr [(86, 35), (86, 36), (86, 37), (86, 38), (86, 39)] [] σ α σ1 α := by rw [e2]; exact qFr_s hF0 86 35 _ (by decide)
  refine qr_aload_n 6 rfl rfl rfl ?_
  refine qr_iconst 7 rfl rfl ?_
  refine qr_put 10 rfl (by decide) rfl (Nat.le_of_ble_eq_true rfl) (Nat.le_of_ble_eq_true rfl) (Or.inl rfl) (qr_fitI rfl _) rfl ?_
  refine qy_wS (qw_s σ1 86 36 0) rfl (fun σ5 e6 => ?_)
  have hI7 : qI σ5 α κ ρ := by rw [e6]; exact qI_s hI3 86 36 rfl (show 0 ≤ 0 ∧ 0 ≤ 120 by omega)
  have hF8 : qFr [(86, 35), (86, 36), (86, 37), (86, 38), (86, 39)] [] σ α σ5 α := by rw [e6]; exact qFr_s hF4 86 36 _ (by decide)
  refine qr_aload_n 11 rfl rfl rfl ?_
  refine qr_iload_n 12 rfl rfl rfl ?_
  refine qr_put 15 rfl (by decide) rfl (Nat.le_of_ble_eq_true rfl) (Nat.le_of_ble_eq_true rfl) (Or.inl rfl) (qr_fitI rfl _) rfl ?_
  refine qy_wS (qw_s σ5 86 37 x2) rfl (fun σ9 e10 => ?_)
  have hI11 : qI σ9 α κ ρ := by rw [e10]; exact qI_s hI7 86 37 rfl (show 0 ≤ x2 ∧ x2 ≤ 120 by omega)
  have hF12 : qFr [(86, 35), (86, 36), (86, 37), (86, 38), (86, 39)] [] σ α σ9 α := by rw [e10]; exact qFr_s hF8 86 37 _ (by decide)
  refine qr_aload_n 16 rfl rfl rfl ?_
  refine qr_iconst 17 rfl rfl ?_
  refine qr_put 20 rfl (by decide) rfl (Nat.le_of_ble_eq_true rfl) (Nat.le_of_ble_eq_true rfl) (Or.inl rfl) (qr_fitI rfl _) rfl ?_
  refine qy_wS (qw_s σ9 86 38 (-1)) rfl (fun σ13 e14 => ?_)
  have hI15 : qI σ13 α κ ρ := by rw [e14]; exact qI_s hI11 86 38 rfl (show (-1) ≤ (-1) ∧ (-1) ≤ 120 by omega)
  have hF16 : qFr [(86, 35), (86, 36), (86, 37), (86, 38), (86, 39)] [] σ α σ13 α := by rw [e14]; exact qFr_s hF12 86 38 _ (by decide)
  refine qr_aload_n 21 rfl rfl rfl ?_
  refine qr_iconst 22 rfl rfl ?_
  refine qr_put 25 rfl (by decide) rfl (Nat.le_of_ble_eq_true rfl) (Nat.le_of_ble_eq_true rfl) (Or.inl rfl) (qr_fitI rfl _) rfl ?_
  refine qy_wS (qw_s σ13 86 39 0) rfl (fun σ17 e18 => ?_)
  have hI19 : qI σ17 α κ ρ := by rw [e18]; exact qI_s hI15 86 39 rfl (show 0 ≤ 0 ∧ 0 ≤ 6 by omega)
  have hF20 : qFr [(86, 35), (86, 36), (86, 37), (86, 38), (86, 39)] [] σ α σ17 α := by rw [e18]; exact qFr_s hF16 86 39 _ (by decide)
  refine qr_iconst 26 rfl rfl ?_
  refine qr_istore_n _ 27 rfl (by decide) rfl rfl ?_
  refine qr_iconst 28 rfl rfl ?_
  refine qr_istore _ 30 rfl (by decide) rfl rfl ?_
  refine qr_iconst 31 rfl rfl ?_
  refine qr_istore _ 33 rfl (by decide) rfl rfl ?_
  have hL741 : ∀ (n : Nat) (ls : qm_L) (u722 u724 u726 : Int) (σ727 : Nat → Nat → Int), 2 * ((120 - σ727 86 36).toNat : Int) + u726 < (n : Int) → qm_get ls 0 = some (.ref 86) → qm_get ls 3 = some (.int (qz u722)) → qm_get ls 4 = some (.int (qz u724)) → qm_get ls 5 = some (.int (qz u726)) → (0 ≤ u722 ∧ u722 ≤ 1) → ((-2147483648) ≤ u724 ∧ u724 ≤ 2147483647) → (0 ≤ u726 ∧ u726 ≤ 1) → qI σ727 α κ ρ → qFr [(86, 35), (86, 36), (86, 37), (86, 38), (86, 39)] [] σ α σ727 α → σ727 86 35 = x1 → σ727 86 37 = x2 → 0 ≤ σ727 86 39 → σ 86 39 ≤ σ727 86 39 → σ 86 36 ≤ σ727 86 36 → σ727 86 36 ≤ σ727 86 37 → σ727 86 37 = σ 86 37 → qr_W (qe L xs vb) (d + 43) qx_e212 (fun r w' => ∃ σ', w' = qw σ' α κ ρ ∧ qI σ' α κ ρ ∧ qFr [(86, 35), (86, 36), (86, 37), (86, 38), (86, 39)] [] σ α σ' α ∧ ∃ v : Int, r = some (.int (qz v)) ∧ ((-2147483648) ≤ v ∧ v ≤ 2147483647)) (33, ls, [], qw σ727 α κ ρ, 0, 0) := by
    intro n
    induction n with
    | zero => intro ls u722 u724 u726 σ727 hm g720 g721 g723 g725 hf733 hf734 hf735 hI729 hF730 hk731 hk732 hx736 hx737 hx738 hx739 hx740; exact False.elim (by omega)
    | succ n ih742 =>
      intro ls u722 u724 u726 σ727 hm g720 g721 g723 g725 hf733 hf734 hf735 hI729 hF730 hk731 hk732 hx736 hx737 hx738 hx739 hx740
      have hs743 : 0 ≤ σ727 86 39 ∧ σ727 86 39 ≤ 6 := hI729.1 86 39
      have hs744 : 0 ≤ σ727 86 36 ∧ σ727 86 36 ≤ 120 := hI729.1 86 36
      have hs745 : 0 ≤ σ727 86 37 ∧ σ727 86 37 ≤ 120 := hI729.1 86 37
      refine qr_iload 35 rfl g725 rfl ?_
      refine qr_if_eq 107 38 rfl rfl rfl (by omega) (fun h746 => ?_) (fun h746 => ?_)
      · skip
        refine qr_aload_n 108 rfl g720 rfl ?_
        refine qr_get 111 rfl rfl rfl (by decide) rfl ?_
        have hs747 : (-1) ≤ σ727 86 38 ∧ σ727 86 38 ≤ 120 := hI729.1 86 38
        refine qr_if_ge 130 114 rfl rfl rfl (by omega) (fun h748 => ?_) (fun h748 => ?_)
        · skip
          refine qr_iload 132 rfl g723 rfl ?_
          refine qr_retI rfl rfl (by decide) (by decide) ?_
          exact ⟨_, rfl, hI729, hF730, u724, rfl, by omega⟩
        · skip
          refine qr_aload_n 115 rfl g720 rfl ?_
          refine qr_get 118 rfl rfl rfl (by decide) rfl ?_
          refine qr_aload_n 119 rfl g720 rfl ?_
          refine qr_get 122 rfl rfl rfl (by decide) rfl ?_
          refine qr_icmp_ge 130 125 rfl rfl rfl (by omega) (by omega) (fun h749 => ?_) (fun h749 => ?_)
          · skip
            refine qr_iload 132 rfl g723 rfl ?_
            refine qr_retI rfl rfl (by decide) (by decide) ?_
            exact ⟨_, rfl, hI729, hF730, u724, rfl, by omega⟩
          · skip
            refine qr_aload_n 126 rfl g720 rfl ?_
            refine qr_callN 129 rfl rfl rfl (sf_220_86 (d := d + 42) hI729 ) ?_
            rintro _ _ ⟨σ751, rfl, hI752, hG753, v750, rfl, hv750⟩
            have hF754 : qFr [(86, 35), (86, 36), (86, 37), (86, 38), (86, 39)] [] σ α σ751 α := qFr_t hF730 hG753 (by decide) (by decide)
            show qr_W (qe L xs vb) (d + 43) qx_e212 _ (129, _, [.int (qz v750)], qw σ751 α κ ρ, 0, 0)
            refine qr_retI rfl rfl (by decide) (by decide) ?_
            exact ⟨_, rfl, hI752, hF754, v750, rfl, by omega⟩
      · skip
        refine qr_aload_n 39 rfl g720 rfl ?_
        refine qr_callN 42 rfl rfl rfl (sf_213_86o0 (d := d + 0) hI729 (by omega) (by omega)) ?_
        have hs757 : 0 ≤ σ727 86 36 ∧ σ727 86 36 ≤ 120 := hI729.1 86 36
        have hs758 : 0 ≤ σ727 86 37 ∧ σ727 86 37 ≤ 120 := hI729.1 86 37
        have hs759 : 0 ≤ σ727 86 39 ∧ σ727 86 39 ≤ 6 := hI729.1 86 39
        rintro _ _ ⟨σ760, rfl, hI761, hG762, v755, rfl, hv755, hp756⟩
        have hF763 : qFr [(86, 35), (86, 36), (86, 37), (86, 38), (86, 39)] [] σ α σ760 α := qFr_t hF730 hG762 (by decide) (by decide)
        have hs764 : 0 ≤ σ760 86 36 ∧ σ760 86 36 ≤ 120 := hI761.1 86 36
        have hs765 : 0 ≤ σ760 86 37 ∧ σ760 86 37 ≤ 120 := hI761.1 86 37
        have hs766 : 0 ≤ σ760 86 39 ∧ σ760 86 39 ≤ 6 := hI761.1 86 39
        show qr_W (qe L xs vb) (d + 43) qx_e212 _ (42, _, [.int (qz v755)], qw σ760 α κ ρ, 0, 0)
        refine qr_istore _ 44 rfl (by decide) rfl rfl ?_
        refine qr_iconst 45 rfl rfl ?_
        refine qr_istore _ 47 rfl (by decide) rfl rfl ?_
        refine qr_aload_n 48 rfl (qm_gk (qm_gk g720 (by decide) (Or.inl (by decide))) (by decide) (Or.inl (by decide))) rfl ?_
        refine qr_bipush 50 rfl (by decide) rfl ?_
        refine qr_callN 53 rfl rfl rfl (sf_221_86t (d := d + 41) hI761 (by omega) (by omega)) ?_
        have hs769 : 0 ≤ σ760 86 36 ∧ σ760 86 36 ≤ 120 := hI761.1 86 36
        have hs770 : 0 ≤ σ760 86 37 ∧ σ760 86 37 ≤ 120 := hI761.1 86 37
        have hs771 : σ760 86 37 = (σ727 86 37) := (hG762.1 86 37 (by decide)).trans rfl
        rintro _ _ ⟨σ772, rfl, hI773, hG774, v767, rfl, hv767, hp768⟩
        have hF775 : qFr [(86, 35), (86, 36), (86, 37), (86, 38), (86, 39)] [] σ α σ772 α := qFr_t hF763 hG774 (by decide) (by decide)
        have hs776 : 0 ≤ σ772 86 36 ∧ σ772 86 36 ≤ 120 := hI773.1 86 36
        show qr_W (qe L xs vb) (d + 43) qx_e212 _ (53, _, [.int (qz v767)], qw σ772 α κ ρ, 0, 0)
        refine qr_if_eq 74 56 rfl rfl rfl (by omega) (fun h777 => ?_) (fun h777 => ?_)
        · skip
          refine qr_aload_n 75 rfl (qm_gk (qm_gk g720 (by decide) (Or.inl (by decide))) (by decide) (Or.inl (by decide))) rfl ?_
          refine qr_get 78 rfl rfl rfl (by decide) rfl ?_
          have hs778 : (-1) ≤ σ772 86 38 ∧ σ772 86 38 ≤ 120 := hI773.1 86 38
          refine qr_if_ge 96 81 rfl rfl rfl (by omega) (fun h779 => ?_) (fun h779 => ?_)
          · skip
            refine qr_aload_n 97 rfl (qm_gk (qm_gk g720 (by decide) (Or.inl (by decide))) (by decide) (Or.inl (by decide))) rfl ?_
            refine qr_bipush 99 rfl (by decide) rfl ?_
            refine qr_callN 102 rfl rfl rfl (sf_221_86t (d := d + 41) hI773 (by omega) (by omega)) ?_
            have hs782 : 0 ≤ σ772 86 36 ∧ σ772 86 36 ≤ 120 := hI773.1 86 36
            have hs783 : 0 ≤ σ772 86 37 ∧ σ772 86 37 ≤ 120 := hI773.1 86 37
            have hs784 : σ772 86 37 = (σ727 86 37) := (hG774.1 86 37 (by decide)).trans ((hG762.1 86 37 (by decide)).trans rfl)
            rintro _ _ ⟨σ785, rfl, hI786, hG787, v780, rfl, hv780, hp781⟩
            have hF788 : qFr [(86, 35), (86, 36), (86, 37), (86, 38), (86, 39)] [] σ α σ785 α := qFr_t hF775 hG787 (by decide) (by decide)
            have hs789 : 0 ≤ σ785 86 36 ∧ σ785 86 36 ≤ 120 := hI786.1 86 36
            show qr_W (qe L xs vb) (d + 43) qx_e212 _ (102, _, [.int (qz v780)], qw σ785 α κ ρ, 0, 0)
            refine qr_istore _ 104 rfl (by decide) rfl rfl ?_
            refine qr_goto 33 rfl rfl ?_
            exact ih742 _ u722 u724 v780 σ785 (by omega) (qm_gk (qm_gk (qm_gk g720 (by decide) (Or.inl (by decide))) (by decide) (Or.inl (by decide))) (by decide) (Or.inl (by decide))) (qm_gk (qm_gk (qm_gk g721 (by decide) (Or.inl (by decide))) (by decide) (Or.inl (by decide))) (by decide) (Or.inl (by decide))) (qm_gk (qm_gk (qm_gk g723 (by decide) (Or.inl (by decide))) (by decide) (Or.inl (by decide))) (by decide) (Or.inr rfl)) (qm_ge _ _ _) (by omega) (by omega) (by omega) hI786 hF788 ((hG787.1 86 35 (by decide)).trans ((hG774.1 86 35 (by decide)).trans ((hG762.1 86 35 (by decide)).trans ((hk731).trans rfl)))) ((hG787.1 86 37 (by decide)).trans ((hG774.1 86 37 (by decide)).trans ((hG762.1 86 37 (by decide)).trans rfl))) (by have hw0 : σ785 86 39 = (σ760 86 39) := (hG787.1 86 39 (by decide)).trans ((hG774.1 86 39 (by decide)).trans rfl); have hw1 : σ785 86 36 = (σ785 86 36) := rfl; have hw2 : σ785 86 37 = (σ727 86 37) := (hG787.1 86 37 (by decide)).trans ((hG774.1 86 37 (by decide)).trans ((hG762.1 86 37 (by decide)).trans rfl)); omega) (by have hw0 : σ785 86 39 = (σ760 86 39) := (hG787.1 86 39 (by decide)).trans ((hG774.1 86 39 (by decide)).trans rfl); have hw1 : σ785 86 36 = (σ785 86 36) := rfl; have hw2 : σ785 86 37 = (σ727 86 37) := (hG787.1 86 37 (by decide)).trans ((hG774.1 86 37 (by decide)).trans ((hG762.1 86 37 (by decide)).trans rfl)); omega) (by have hw0 : σ785 86 39 = (σ760 86 39) := (hG787.1 86 39 (by decide)).trans ((hG774.1 86 39 (by decide)).trans rfl); have hw1 : σ785 86 36 = (σ785 86 36) := rfl; have hw2 : σ785 86 37 = (σ727 86 37) := (hG787.1 86 37 (by decide)).trans ((hG774.1 86 37 (by decide)).trans ((hG762.1 86 37 (by decide)).trans rfl)); omega) (by have hw0 : σ785 86 39 = (σ760 86 39) := (hG787.1 86 39 (by decide)).trans ((hG774.1 86 39 (by decide)).trans rfl); have hw1 : σ785 86 36 = (σ785 86 36) := rfl; have hw2 : σ785 86 37 = (σ727 86 37) := (hG787.1 86 37 (by decide)).trans ((hG774.1 86 37 (by decide)).trans ((hG762.1 86 37 (by decide)).trans rfl)); omega) (by have hw0 : σ785 86 39 = (σ760 86 39) := (hG787.1 86 39 (by decide)).trans ((hG774.1 86 39 (by decide)).trans rfl); have hw1 : σ785 86 36 = (σ785 86 36) := rfl; have hw2 : σ785 86 37 = (σ727 86 37) := (hG787.1 86 37 (by decide)).trans ((hG774.1 86 37 (by decide)).trans ((hG762.1 86 37 (by decide)).trans rfl)); omega)
          · skip
            refine qr_iload 83 rfl (qm_ge _ _ _) rfl ?_
            refine qr_if_eq 96 86 rfl rfl rfl (by omega) (fun h => False.elim (by omega)) (fun h790 => ?_)
            refine qr_iload_n 87 rfl (qm_gk (qm_gk g721 (by decide) (Or.inl (by decide))) (by decide) (Or.inl (by decide))) rfl ?_
            refine qr_if_ne 96 90 rfl rfl rfl (by omega) (fun h791 => ?_) (fun h791 => ?_)
            · skip
              refine qr_aload_n 97 rfl (qm_gk (qm_gk g720 (by decide) (Or.inl (by decide))) (by decide) (Or.inl (by decide))) rfl ?_
              refine qr_bipush 99 rfl (by decide) rfl ?_
              refine qr_callN 102 rfl rfl rfl (sf_221_86t (d := d + 41) hI773 (by omega) (by omega)) ?_
              have hs794 : 0 ≤ σ772 86 36 ∧ σ772 86 36 ≤ 120 := hI773.1 86 36
              have hs795 : 0 ≤ σ772 86 37 ∧ σ772 86 37 ≤ 120 := hI773.1 86 37
              have hs796 : σ772 86 37 = (σ727 86 37) := (hG774.1 86 37 (by decide)).trans ((hG762.1 86 37 (by decide)).trans rfl)
              rintro _ _ ⟨σ797, rfl, hI798, hG799, v792, rfl, hv792, hp793⟩
              have hF800 : qFr [(86, 35), (86, 36), (86, 37), (86, 38), (86, 39)] [] σ α σ797 α := qFr_t hF775 hG799 (by decide) (by decide)
              have hs801 : 0 ≤ σ797 86 36 ∧ σ797 86 36 ≤ 120 := hI798.1 86 36
              show qr_W (qe L xs vb) (d + 43) qx_e212 _ (102, _, [.int (qz v792)], qw σ797 α κ ρ, 0, 0)
              refine qr_istore _ 104 rfl (by decide) rfl rfl ?_
              refine qr_goto 33 rfl rfl ?_
              exact ih742 _ u722 u724 v792 σ797 (by omega) (qm_gk (qm_gk (qm_gk g720 (by decide) (Or.inl (by decide))) (by decide) (Or.inl (by decide))) (by decide) (Or.inl (by decide))) (qm_gk (qm_gk (qm_gk g721 (by decide) (Or.inl (by decide))) (by decide) (Or.inl (by decide))) (by decide) (Or.inl (by decide))) (qm_gk (qm_gk (qm_gk g723 (by decide) (Or.inl (by decide))) (by decide) (Or.inl (by decide))) (by decide) (Or.inr rfl)) (qm_ge _ _ _) (by omega) (by omega) (by omega) hI798 hF800 ((hG799.1 86 35 (by decide)).trans ((hG774.1 86 35 (by decide)).trans ((hG762.1 86 35 (by decide)).trans ((hk731).trans rfl)))) ((hG799.1 86 37 (by decide)).trans ((hG774.1 86 37 (by decide)).trans ((hG762.1 86 37 (by decide)).trans rfl))) (by have hw0 : σ797 86 39 = (σ760 86 39) := (hG799.1 86 39 (by decide)).trans ((hG774.1 86 39 (by decide)).trans rfl); have hw1 : σ797 86 36 = (σ797 86 36) := rfl; have hw2 : σ797 86 37 = (σ727 86 37) := (hG799.1 86 37 (by decide)).trans ((hG774.1 86 37 (by decide)).trans ((hG762.1 86 37 (by decide)).trans rfl)); omega) (by have hw0 : σ797 86 39 = (σ760 86 39) := (hG799.1 86 39 (by decide)).trans ((hG774.1 86 39 (by decide)).trans rfl); have hw1 : σ797 86 36 = (σ797 86 36) := rfl; have hw2 : σ797 86 37 = (σ727 86 37) := (hG799.1 86 37 (by decide)).trans ((hG774.1 86 37 (by decide)).trans ((hG762.1 86 37 (by decide)).trans rfl)); omega) (by have hw0 : σ797 86 39 = (σ760 86 39) := (hG799.1 86 39 (by decide)).trans ((hG774.1 86 39 (by decide)).trans rfl); have hw1 : σ797 86 36 = (σ797 86 36) := rfl; have hw2 : σ797 86 37 = (σ727 86 37) := (hG799.1 86 37 (by decide)).trans ((hG774.1 86 37 (by decide)).trans ((hG762.1 86 37 (by decide)).trans rfl)); omega) (by have hw0 : σ797 86 39 = (σ760 86 39) := (hG799.1 86 39 (by decide)).trans ((hG774.1 86 39 (by decide)).trans rfl); have hw1 : σ797 86 36 = (σ797 86 36) := rfl; have hw2 : σ797 86 37 = (σ727 86 37) := (hG799.1 86 37 (by decide)).trans ((hG774.1 86 37 (by decide)).trans ((hG762.1 86 37 (by decide)).trans rfl)); omega) (by have hw0 : σ797 86 39 = (σ760 86 39) := (hG799.1 86 39 (by decide)).trans ((hG774.1 86 39 (by decide)).trans rfl); have hw1 : σ797 86 36 = (σ797 86 36) := rfl; have hw2 : σ797 86 37 = (σ727 86 37) := (hG799.1 86 37 (by decide)).trans ((hG774.1 86 37 (by decide)).trans ((hG762.1 86 37 (by decide)).trans rfl)); omega)
            · skip
              refine qr_iconst 91 rfl rfl ?_
              refine qr_istore_n _ 92 rfl (by decide) rfl rfl ?_
              refine qr_iload 94 rfl (qm_gk (qm_gk (qm_ge _ _ _) (by decide) (Or.inr rfl)) (by decide) (Or.inl (by decide))) rfl ?_
              refine qr_istore _ 96 rfl (by decide) rfl rfl ?_
              refine qr_aload_n 97 rfl (qm_gk (qm_gk (qm_gk (qm_gk g720 (by decide) (Or.inl (by decide))) (by decide) (Or.inl (by decide))) (by decide) (Or.inl (by decide))) (by decide) (Or.inl (by decide))) rfl ?_
              refine qr_bipush 99 rfl (by decide) rfl ?_
              refine qr_callN 102 rfl rfl rfl (sf_221_86t (d := d + 41) hI773 (by omega) (by omega)) ?_
              have hs804 : 0 ≤ σ772 86 36 ∧ σ772 86 36 ≤ 120 := hI773.1 86 36
              have hs805 : 0 ≤ σ772 86 37 ∧ σ772 86 37 ≤ 120 := hI773.1 86 37
              have hs806 : σ772 86 37 = (σ727 86 37) := (hG774.1 86 37 (by decide)).trans ((hG762.1 86 37 (by decide)).trans rfl)
              rintro _ _ ⟨σ807, rfl, hI808, hG809, v802, rfl, hv802, hp803⟩
              have hF810 : qFr [(86, 35), (86, 36), (86, 37), (86, 38), (86, 39)] [] σ α σ807 α := qFr_t hF775 hG809 (by decide) (by decide)
              have hs811 : 0 ≤ σ807 86 36 ∧ σ807 86 36 ≤ 120 := hI808.1 86 36
              show qr_W (qe L xs vb) (d + 43) qx_e212 _ (102, _, [.int (qz v802)], qw σ807 α κ ρ, 0, 0)
              refine qr_istore _ 104 rfl (by decide) rfl rfl ?_
              refine qr_goto 33 rfl rfl ?_
              exact ih742 _ 1 v755 v802 σ807 (by omega) (qm_gk (qm_gk (qm_gk (qm_gk (qm_gk g720 (by decide) (Or.inl (by decide))) (by decide) (Or.inl (by decide))) (by decide) (Or.inl (by decide))) (by decide) (Or.inl (by decide))) (by decide) (Or.inl (by decide))) (qm_gk (qm_gk (qm_ge _ _ _) (by decide) (Or.inr rfl)) (by decide) (Or.inl (by decide))) (qm_gk (qm_ge _ _ _) (by decide) (Or.inr rfl)) (qm_ge _ _ _) (by omega) (by omega) (by omega) hI808 hF810 ((hG809.1 86 35 (by decide)).trans ((hG774.1 86 35 (by decide)).trans ((hG762.1 86 35 (by decide)).trans ((hk731).trans rfl)))) ((hG809.1 86 37 (by decide)).trans ((hG774.1 86 37 (by decide)).trans ((hG762.1 86 37 (by decide)).trans rfl))) (by have hw0 : σ807 86 39 = (σ760 86 39) := (hG809.1 86 39 (by decide)).trans ((hG774.1 86 39 (by decide)).trans rfl); have hw1 : σ807 86 36 = (σ807 86 36) := rfl; have hw2 : σ807 86 37 = (σ727 86 37) := (hG809.1 86 37 (by decide)).trans ((hG774.1 86 37 (by decide)).trans ((hG762.1 86 37 (by decide)).trans rfl)); omega) (by have hw0 : σ807 86 39 = (σ760 86 39) := (hG809.1 86 39 (by decide)).trans ((hG774.1 86 39 (by decide)).trans rfl); have hw1 : σ807 86 36 = (σ807 86 36) := rfl; have hw2 : σ807 86 37 = (σ727 86 37) := (hG809.1 86 37 (by decide)).trans ((hG774.1 86 37 (by decide)).trans ((hG762.1 86 37 (by decide)).trans rfl)); omega) (by have hw0 : σ807 86 39 = (σ760 86 39) := (hG809.1 86 39 (by decide)).trans ((hG774.1 86 39 (by decide)).trans rfl); have hw1 : σ807 86 36 = (σ807 86 36) := rfl; have hw2 : σ807 86 37 = (σ727 86 37) := (hG809.1 86 37 (by decide)).trans ((hG774.1 86 37 (by decide)).trans ((hG762.1 86 37 (by decide)).trans rfl)); omega) (by have hw0 : σ807 86 39 = (σ760 86 39) := (hG809.1 86 39 (by decide)).trans ((hG774.1 86 39 (by decide)).trans rfl); have hw1 : σ807 86 36 = (σ807 86 36) := rfl; have hw2 : σ807 86 37 = (σ727 86 37) := (hG809.1 86 37 (by decide)).trans ((hG774.1 86 37 (by decide)).trans ((hG762.1 86 37 (by decide)).trans rfl)); omega) (by have hw0 : σ807 86 39 = (σ760 86 39) := (hG809.1 86 39 (by decide)).trans ((hG774.1 86 39 (by decide)).trans rfl); have hw1 : σ807 86 36 = (σ807 86 36) := rfl; have hw2 : σ807 86 37 = (σ727 86 37) := (hG809.1 86 37 (by decide)).trans ((hG774.1 86 37 (by decide)).trans ((hG762.1 86 37 (by decide)).trans rfl)); omega)
        · skip
          refine qr_iload 58 rfl (qm_gk (qm_ge _ _ _) (by decide) (Or.inr rfl)) rfl ?_
          refine qr_if_eq 65 61 rfl rfl rfl (by omega) (fun h812 => ?_) (fun h812 => ?_)
          · skip
            refine qr_iconst 66 rfl rfl ?_
            refine qr_istore _ 68 rfl (by decide) rfl rfl ?_
            refine qr_aload_n 69 rfl (qm_gk (qm_gk (qm_gk g720 (by decide) (Or.inl (by decide))) (by decide) (Or.inl (by decide))) (by decide) (Or.inl (by decide))) rfl ?_
            refine qr_callN 72 rfl rfl rfl (sf_213_86o0 (d := d + 0) hI773 (by omega) (by omega)) ?_
            have hs815 : 0 ≤ σ772 86 36 ∧ σ772 86 36 ≤ 120 := hI773.1 86 36
            have hs816 : 0 ≤ σ772 86 37 ∧ σ772 86 37 ≤ 120 := hI773.1 86 37
            have hs817 : σ772 86 37 = (σ727 86 37) := (hG774.1 86 37 (by decide)).trans ((hG762.1 86 37 (by decide)).trans rfl)
            have hs818 : 0 ≤ σ772 86 39 ∧ σ772 86 39 ≤ 6 := hI773.1 86 39
            have hs819 : σ772 86 39 = (σ760 86 39) := (hG774.1 86 39 (by decide)).trans rfl
            rintro _ _ ⟨σ820, rfl, hI821, hG822, v813, rfl, hv813, hp814⟩
            have hF823 : qFr [(86, 35), (86, 36), (86, 37), (86, 38), (86, 39)] [] σ α σ820 α := qFr_t hF775 hG822 (by decide) (by decide)
            have hs824 : 0 ≤ σ820 86 36 ∧ σ820 86 36 ≤ 120 := hI821.1 86 36
            have hs825 : 0 ≤ σ820 86 37 ∧ σ820 86 37 ≤ 120 := hI821.1 86 37
            have hs826 : 0 ≤ σ820 86 39 ∧ σ820 86 39 ≤ 6 := hI821.1 86 39
            show qr_W (qe L xs vb) (d + 43) qx_e212 _ (72, _, [.int (qz v813)], qw σ820 α κ ρ, 0, 0)
            refine qr_istore _ 74 rfl (by decide) rfl rfl ?_
            refine qr_aload_n 75 rfl (qm_gk (qm_gk (qm_gk (qm_gk g720 (by decide) (Or.inl (by decide))) (by decide) (Or.inl (by decide))) (by decide) (Or.inl (by decide))) (by decide) (Or.inl (by decide))) rfl ?_
            refine qr_get 78 rfl rfl rfl (by decide) rfl ?_
            have hs827 : (-1) ≤ σ820 86 38 ∧ σ820 86 38 ≤ 120 := hI821.1 86 38
            refine qr_if_ge 96 81 rfl rfl rfl (by omega) (fun h828 => ?_) (fun h828 => ?_)
            · skip
              refine qr_aload_n 97 rfl (qm_gk (qm_gk (qm_gk (qm_gk g720 (by decide) (Or.inl (by decide))) (by decide) (Or.inl (by decide))) (by decide) (Or.inl (by decide))) (by decide) (Or.inl (by decide))) rfl ?_
              refine qr_bipush 99 rfl (by decide) rfl ?_
              refine qr_callN 102 rfl rfl rfl (sf_221_86t (d := d + 41) hI821 (by omega) (by omega)) ?_
              have hs831 : 0 ≤ σ820 86 36 ∧ σ820 86 36 ≤ 120 := hI821.1 86 36
              have hs832 : 0 ≤ σ820 86 37 ∧ σ820 86 37 ≤ 120 := hI821.1 86 37
              have hs833 : σ820 86 37 = (σ727 86 37) := (hG822.1 86 37 (by decide)).trans ((hG774.1 86 37 (by decide)).trans ((hG762.1 86 37 (by decide)).trans rfl))
              rintro _ _ ⟨σ834, rfl, hI835, hG836, v829, rfl, hv829, hp830⟩
              have hF837 : qFr [(86, 35), (86, 36), (86, 37), (86, 38), (86, 39)] [] σ α σ834 α := qFr_t hF823 hG836 (by decide) (by decide)
              have hs838 : 0 ≤ σ834 86 36 ∧ σ834 86 36 ≤ 120 := hI835.1 86 36
              show qr_W (qe L xs vb) (d + 43) qx_e212 _ (102, _, [.int (qz v829)], qw σ834 α κ ρ, 0, 0)
              refine qr_istore _ 104 rfl (by decide) rfl rfl ?_
              refine qr_goto 33 rfl rfl ?_
              exact ih742 _ u722 u724 v829 σ834 (by omega) (qm_gk (qm_gk (qm_gk (qm_gk (qm_gk g720 (by decide) (Or.inl (by decide))) (by decide) (Or.inl (by decide))) (by decide) (Or.inl (by decide))) (by decide) (Or.inl (by decide))) (by decide) (Or.inl (by decide))) (qm_gk (qm_gk (qm_gk (qm_gk (qm_gk g721 (by decide) (Or.inl (by decide))) (by decide) (Or.inl (by decide))) (by decide) (Or.inl (by decide))) (by decide) (Or.inl (by decide))) (by decide) (Or.inl (by decide))) (qm_gk (qm_gk (qm_gk (qm_gk (qm_gk g723 (by decide) (Or.inl (by decide))) (by decide) (Or.inl (by decide))) (by decide) (Or.inl (by decide))) (by decide) (Or.inl (by decide))) (by decide) (Or.inr rfl)) (qm_ge _ _ _) (by omega) (by omega) (by omega) hI835 hF837 ((hG836.1 86 35 (by decide)).trans ((hG822.1 86 35 (by decide)).trans ((hG774.1 86 35 (by decide)).trans ((hG762.1 86 35 (by decide)).trans ((hk731).trans rfl))))) ((hG836.1 86 37 (by decide)).trans ((hG822.1 86 37 (by decide)).trans ((hG774.1 86 37 (by decide)).trans ((hG762.1 86 37 (by decide)).trans rfl)))) (by have hw0 : σ834 86 39 = (σ820 86 39) := (hG836.1 86 39 (by decide)).trans rfl; have hw1 : σ834 86 36 = (σ834 86 36) := rfl; have hw2 : σ834 86 37 = (σ727 86 37) := (hG836.1 86 37 (by decide)).trans ((hG822.1 86 37 (by decide)).trans ((hG774.1 86 37 (by decide)).trans ((hG762.1 86 37 (by decide)).trans rfl))); omega) (by have hw0 : σ834 86 39 = (σ820 86 39) := (hG836.1 86 39 (by decide)).trans rfl; have hw1 : σ834 86 36 = (σ834 86 36) := rfl; have hw2 : σ834 86 37 = (σ727 86 37) := (hG836.1 86 37 (by decide)).trans ((hG822.1 86 37 (by decide)).trans ((hG774.1 86 37 (by decide)).trans ((hG762.1 86 37 (by decide)).trans rfl))); omega) (by have hw0 : σ834 86 39 = (σ820 86 39) := (hG836.1 86 39 (by decide)).trans rfl; have hw1 : σ834 86 36 = (σ834 86 36) := rfl; have hw2 : σ834 86 37 = (σ727 86 37) := (hG836.1 86 37 (by decide)).trans ((hG822.1 86 37 (by decide)).trans ((hG774.1 86 37 (by decide)).trans ((hG762.1 86 37 (by decide)).trans rfl))); omega) (by have hw0 : σ834 86 39 = (σ820 86 39) := (hG836.1 86 39 (by decide)).trans rfl; have hw1 : σ834 86 36 = (σ834 86 36) := rfl; have hw2 : σ834 86 37 = (σ727 86 37) := (hG836.1 86 37 (by decide)).trans ((hG822.1 86 37 (by decide)).trans ((hG774.1 86 37 (by decide)).trans ((hG762.1 86 37 (by decide)).trans rfl))); omega) (by have hw0 : σ834 86 39 = (σ820 86 39) := (hG836.1 86 39 (by decide)).trans rfl; have hw1 : σ834 86 36 = (σ834 86 36) := rfl; have hw2 : σ834 86 37 = (σ727 86 37) := (hG836.1 86 37 (by decide)).trans ((hG822.1 86 37 (by decide)).trans ((hG774.1 86 37 (by decide)).trans ((hG762.1 86 37 (by decide)).trans rfl))); omega)
            · skip
              refine qr_iload 83 rfl (qm_gk (qm_ge _ _ _) (by decide) (Or.inl (by decide))) rfl ?_
              refine qr_if_eq 96 86 rfl rfl rfl (by omega) (fun h839 => ?_) (fun h => False.elim (by omega))
              refine qr_aload_n 97 rfl (qm_gk (qm_gk (qm_gk (qm_gk g720 (by decide) (Or.inl (by decide))) (by decide) (Or.inl (by decide))) (by decide) (Or.inl (by decide))) (by decide) (Or.inl (by decide))) rfl ?_
              refine qr_bipush 99 rfl (by decide) rfl ?_
              refine qr_callN 102 rfl rfl rfl (sf_221_86t (d := d + 41) hI821 (by omega) (by omega)) ?_
              have hs842 : 0 ≤ σ820 86 36 ∧ σ820 86 36 ≤ 120 := hI821.1 86 36
              have hs843 : 0 ≤ σ820 86 37 ∧ σ820 86 37 ≤ 120 := hI821.1 86 37
              have hs844 : σ820 86 37 = (σ727 86 37) := (hG822.1 86 37 (by decide)).trans ((hG774.1 86 37 (by decide)).trans ((hG762.1 86 37 (by decide)).trans rfl))
              rintro _ _ ⟨σ845, rfl, hI846, hG847, v840, rfl, hv840, hp841⟩
              have hF848 : qFr [(86, 35), (86, 36), (86, 37), (86, 38), (86, 39)] [] σ α σ845 α := qFr_t hF823 hG847 (by decide) (by decide)
              have hs849 : 0 ≤ σ845 86 36 ∧ σ845 86 36 ≤ 120 := hI846.1 86 36
              show qr_W (qe L xs vb) (d + 43) qx_e212 _ (102, _, [.int (qz v840)], qw σ845 α κ ρ, 0, 0)
              refine qr_istore _ 104 rfl (by decide) rfl rfl ?_
              refine qr_goto 33 rfl rfl ?_
              exact ih742 _ u722 u724 v840 σ845 (by omega) (qm_gk (qm_gk (qm_gk (qm_gk (qm_gk g720 (by decide) (Or.inl (by decide))) (by decide) (Or.inl (by decide))) (by decide) (Or.inl (by decide))) (by decide) (Or.inl (by decide))) (by decide) (Or.inl (by decide))) (qm_gk (qm_gk (qm_gk (qm_gk (qm_gk g721 (by decide) (Or.inl (by decide))) (by decide) (Or.inl (by decide))) (by decide) (Or.inl (by decide))) (by decide) (Or.inl (by decide))) (by decide) (Or.inl (by decide))) (qm_gk (qm_gk (qm_gk (qm_gk (qm_gk g723 (by decide) (Or.inl (by decide))) (by decide) (Or.inl (by decide))) (by decide) (Or.inl (by decide))) (by decide) (Or.inl (by decide))) (by decide) (Or.inr rfl)) (qm_ge _ _ _) (by omega) (by omega) (by omega) hI846 hF848 ((hG847.1 86 35 (by decide)).trans ((hG822.1 86 35 (by decide)).trans ((hG774.1 86 35 (by decide)).trans ((hG762.1 86 35 (by decide)).trans ((hk731).trans rfl))))) ((hG847.1 86 37 (by decide)).trans ((hG822.1 86 37 (by decide)).trans ((hG774.1 86 37 (by decide)).trans ((hG762.1 86 37 (by decide)).trans rfl)))) (by have hw0 : σ845 86 39 = (σ820 86 39) := (hG847.1 86 39 (by decide)).trans rfl; have hw1 : σ845 86 36 = (σ845 86 36) := rfl; have hw2 : σ845 86 37 = (σ727 86 37) := (hG847.1 86 37 (by decide)).trans ((hG822.1 86 37 (by decide)).trans ((hG774.1 86 37 (by decide)).trans ((hG762.1 86 37 (by decide)).trans rfl))); omega) (by have hw0 : σ845 86 39 = (σ820 86 39) := (hG847.1 86 39 (by decide)).trans rfl; have hw1 : σ845 86 36 = (σ845 86 36) := rfl; have hw2 : σ845 86 37 = (σ727 86 37) := (hG847.1 86 37 (by decide)).trans ((hG822.1 86 37 (by decide)).trans ((hG774.1 86 37 (by decide)).trans ((hG762.1 86 37 (by decide)).trans rfl))); omega) (by have hw0 : σ845 86 39 = (σ820 86 39) := (hG847.1 86 39 (by decide)).trans rfl; have hw1 : σ845 86 36 = (σ845 86 36) := rfl; have hw2 : σ845 86 37 = (σ727 86 37) := (hG847.1 86 37 (by decide)).trans ((hG822.1 86 37 (by decide)).trans ((hG774.1 86 37 (by decide)).trans ((hG762.1 86 37 (by decide)).trans rfl))); omega) (by have hw0 : σ845 86 39 = (σ820 86 39) := (hG847.1 86 39 (by decide)).trans rfl; have hw1 : σ845 86 36 = (σ845 86 36) := rfl; have hw2 : σ845 86 37 = (σ727 86 37) := (hG847.1 86 37 (by decide)).trans ((hG822.1 86 37 (by decide)).trans ((hG774.1 86 37 (by decide)).trans ((hG762.1 86 37 (by decide)).trans rfl))); omega) (by have hw0 : σ845 86 39 = (σ820 86 39) := (hG847.1 86 39 (by decide)).trans rfl; have hw1 : σ845 86 36 = (σ845 86 36) := rfl; have hw2 : σ845 86 37 = (σ727 86 37) := (hG847.1 86 37 (by decide)).trans ((hG822.1 86 37 (by decide)).trans ((hG774.1 86 37 (by decide)).trans ((hG762.1 86 37 (by decide)).trans rfl))); omega)
          · skip
            refine qr_iconst 62 rfl rfl ?_
            refine qr_goto 66 rfl rfl ?_
            refine qr_istore _ 68 rfl (by decide) rfl rfl ?_
            refine qr_aload_n 69 rfl (qm_gk (qm_gk (qm_gk g720 (by decide) (Or.inl (by decide))) (by decide) (Or.inl (by decide))) (by decide) (Or.inl (by decide))) rfl ?_
            refine qr_callN 72 rfl rfl rfl (sf_213_86o0 (d := d + 0) hI773 (by omega) (by omega)) ?_
            have hs852 : 0 ≤ σ772 86 36 ∧ σ772 86 36 ≤ 120 := hI773.1 86 36
            have hs853 : 0 ≤ σ772 86 37 ∧ σ772 86 37 ≤ 120 := hI773.1 86 37
            have hs854 : σ772 86 37 = (σ727 86 37) := (hG774.1 86 37 (by decide)).trans ((hG762.1 86 37 (by decide)).trans rfl)
            have hs855 : 0 ≤ σ772 86 39 ∧ σ772 86 39 ≤ 6 := hI773.1 86 39
            have hs856 : σ772 86 39 = (σ760 86 39) := (hG774.1 86 39 (by decide)).trans rfl
            rintro _ _ ⟨σ857, rfl, hI858, hG859, v850, rfl, hv850, hp851⟩
            have hF860 : qFr [(86, 35), (86, 36), (86, 37), (86, 38), (86, 39)] [] σ α σ857 α := qFr_t hF775 hG859 (by decide) (by decide)
            have hs861 : 0 ≤ σ857 86 36 ∧ σ857 86 36 ≤ 120 := hI858.1 86 36
            have hs862 : 0 ≤ σ857 86 37 ∧ σ857 86 37 ≤ 120 := hI858.1 86 37
            have hs863 : 0 ≤ σ857 86 39 ∧ σ857 86 39 ≤ 6 := hI858.1 86 39
            show qr_W (qe L xs vb) (d + 43) qx_e212 _ (72, _, [.int (qz v850)], qw σ857 α κ ρ, 0, 0)
            refine qr_istore _ 74 rfl (by decide) rfl rfl ?_
            refine qr_aload_n 75 rfl (qm_gk (qm_gk (qm_gk (qm_gk g720 (by decide) (Or.inl (by decide))) (by decide) (Or.inl (by decide))) (by decide) (Or.inl (by decide))) (by decide) (Or.inl (by decide))) rfl ?_
            refine qr_get 78 rfl rfl rfl (by decide) rfl ?_
            have hs864 : (-1) ≤ σ857 86 38 ∧ σ857 86 38 ≤ 120 := hI858.1 86 38
            refine qr_if_ge 96 81 rfl rfl rfl (by omega) (fun h865 => ?_) (fun h865 => ?_)
            · skip
              refine qr_aload_n 97 rfl (qm_gk (qm_gk (qm_gk (qm_gk g720 (by decide) (Or.inl (by decide))) (by decide) (Or.inl (by decide))) (by decide) (Or.inl (by decide))) (by decide) (Or.inl (by decide))) rfl ?_
              refine qr_bipush 99 rfl (by decide) rfl ?_
              refine qr_callN 102 rfl rfl rfl (sf_221_86t (d := d + 41) hI858 (by omega) (by omega)) ?_
              have hs868 : 0 ≤ σ857 86 36 ∧ σ857 86 36 ≤ 120 := hI858.1 86 36
              have hs869 : 0 ≤ σ857 86 37 ∧ σ857 86 37 ≤ 120 := hI858.1 86 37
              have hs870 : σ857 86 37 = (σ727 86 37) := (hG859.1 86 37 (by decide)).trans ((hG774.1 86 37 (by decide)).trans ((hG762.1 86 37 (by decide)).trans rfl))
              rintro _ _ ⟨σ871, rfl, hI872, hG873, v866, rfl, hv866, hp867⟩
              have hF874 : qFr [(86, 35), (86, 36), (86, 37), (86, 38), (86, 39)] [] σ α σ871 α := qFr_t hF860 hG873 (by decide) (by decide)
              have hs875 : 0 ≤ σ871 86 36 ∧ σ871 86 36 ≤ 120 := hI872.1 86 36
              show qr_W (qe L xs vb) (d + 43) qx_e212 _ (102, _, [.int (qz v866)], qw σ871 α κ ρ, 0, 0)
              refine qr_istore _ 104 rfl (by decide) rfl rfl ?_
              refine qr_goto 33 rfl rfl ?_
              exact ih742 _ u722 u724 v866 σ871 (by omega) (qm_gk (qm_gk (qm_gk (qm_gk (qm_gk g720 (by decide) (Or.inl (by decide))) (by decide) (Or.inl (by decide))) (by decide) (Or.inl (by decide))) (by decide) (Or.inl (by decide))) (by decide) (Or.inl (by decide))) (qm_gk (qm_gk (qm_gk (qm_gk (qm_gk g721 (by decide) (Or.inl (by decide))) (by decide) (Or.inl (by decide))) (by decide) (Or.inl (by decide))) (by decide) (Or.inl (by decide))) (by decide) (Or.inl (by decide))) (qm_gk (qm_gk (qm_gk (qm_gk (qm_gk g723 (by decide) (Or.inl (by decide))) (by decide) (Or.inl (by decide))) (by decide) (Or.inl (by decide))) (by decide) (Or.inl (by decide))) (by decide) (Or.inr rfl)) (qm_ge _ _ _) (by omega) (by omega) (by omega) hI872 hF874 ((hG873.1 86 35 (by decide)).trans ((hG859.1 86 35 (by decide)).trans ((hG774.1 86 35 (by decide)).trans ((hG762.1 86 35 (by decide)).trans ((hk731).trans rfl))))) ((hG873.1 86 37 (by decide)).trans ((hG859.1 86 37 (by decide)).trans ((hG774.1 86 37 (by decide)).trans ((hG762.1 86 37 (by decide)).trans rfl)))) (by have hw0 : σ871 86 39 = (σ857 86 39) := (hG873.1 86 39 (by decide)).trans rfl; have hw1 : σ871 86 36 = (σ871 86 36) := rfl; have hw2 : σ871 86 37 = (σ727 86 37) := (hG873.1 86 37 (by decide)).trans ((hG859.1 86 37 (by decide)).trans ((hG774.1 86 37 (by decide)).trans ((hG762.1 86 37 (by decide)).trans rfl))); omega) (by have hw0 : σ871 86 39 = (σ857 86 39) := (hG873.1 86 39 (by decide)).trans rfl; have hw1 : σ871 86 36 = (σ871 86 36) := rfl; have hw2 : σ871 86 37 = (σ727 86 37) := (hG873.1 86 37 (by decide)).trans ((hG859.1 86 37 (by decide)).trans ((hG774.1 86 37 (by decide)).trans ((hG762.1 86 37 (by decide)).trans rfl))); omega) (by have hw0 : σ871 86 39 = (σ857 86 39) := (hG873.1 86 39 (by decide)).trans rfl; have hw1 : σ871 86 36 = (σ871 86 36) := rfl; have hw2 : σ871 86 37 = (σ727 86 37) := (hG873.1 86 37 (by decide)).trans ((hG859.1 86 37 (by decide)).trans ((hG774.1 86 37 (by decide)).trans ((hG762.1 86 37 (by decide)).trans rfl))); omega) (by have hw0 : σ871 86 39 = (σ857 86 39) := (hG873.1 86 39 (by decide)).trans rfl; have hw1 : σ871 86 36 = (σ871 86 36) := rfl; have hw2 : σ871 86 37 = (σ727 86 37) := (hG873.1 86 37 (by decide)).trans ((hG859.1 86 37 (by decide)).trans ((hG774.1 86 37 (by decide)).trans ((hG762.1 86 37 (by decide)).trans rfl))); omega) (by have hw0 : σ871 86 39 = (σ857 86 39) := (hG873.1 86 39 (by decide)).trans rfl; have hw1 : σ871 86 36 = (σ871 86 36) := rfl; have hw2 : σ871 86 37 = (σ727 86 37) := (hG873.1 86 37 (by decide)).trans ((hG859.1 86 37 (by decide)).trans ((hG774.1 86 37 (by decide)).trans ((hG762.1 86 37 (by decide)).trans rfl))); omega)
            · skip
              refine qr_iload 83 rfl (qm_gk (qm_ge _ _ _) (by decide) (Or.inl (by decide))) rfl ?_
              refine qr_if_eq 96 86 rfl rfl rfl (by omega) (fun h => False.elim (by omega)) (fun h876 => ?_)
              refine qr_iload_n 87 rfl (qm_gk (qm_gk (qm_gk (qm_gk g721 (by decide) (Or.inl (by decide))) (by decide) (Or.inl (by decide))) (by decide) (Or.inl (by decide))) (by decide) (Or.inl (by decide))) rfl ?_
              refine qr_if_ne 96 90 rfl rfl rfl (by omega) (fun h877 => ?_) (fun h877 => ?_)
              · skip
                refine qr_aload_n 97 rfl (qm_gk (qm_gk (qm_gk (qm_gk g720 (by decide) (Or.inl (by decide))) (by decide) (Or.inl (by decide))) (by decide) (Or.inl (by decide))) (by decide) (Or.inl (by decide))) rfl ?_
                refine qr_bipush 99 rfl (by decide) rfl ?_
                refine qr_callN 102 rfl rfl rfl (sf_221_86t (d := d + 41) hI858 (by omega) (by omega)) ?_
                have hs880 : 0 ≤ σ857 86 36 ∧ σ857 86 36 ≤ 120 := hI858.1 86 36
                have hs881 : 0 ≤ σ857 86 37 ∧ σ857 86 37 ≤ 120 := hI858.1 86 37
                have hs882 : σ857 86 37 = (σ727 86 37) := (hG859.1 86 37 (by decide)).trans ((hG774.1 86 37 (by decide)).trans ((hG762.1 86 37 (by decide)).trans rfl))
                rintro _ _ ⟨σ883, rfl, hI884, hG885, v878, rfl, hv878, hp879⟩
                have hF886 : qFr [(86, 35), (86, 36), (86, 37), (86, 38), (86, 39)] [] σ α σ883 α := qFr_t hF860 hG885 (by decide) (by decide)
                have hs887 : 0 ≤ σ883 86 36 ∧ σ883 86 36 ≤ 120 := hI884.1 86 36
                show qr_W (qe L xs vb) (d + 43) qx_e212 _ (102, _, [.int (qz v878)], qw σ883 α κ ρ, 0, 0)
                refine qr_istore _ 104 rfl (by decide) rfl rfl ?_
                refine qr_goto 33 rfl rfl ?_
                exact ih742 _ u722 u724 v878 σ883 (by omega) (qm_gk (qm_gk (qm_gk (qm_gk (qm_gk g720 (by decide) (Or.inl (by decide))) (by decide) (Or.inl (by decide))) (by decide) (Or.inl (by decide))) (by decide) (Or.inl (by decide))) (by decide) (Or.inl (by decide))) (qm_gk (qm_gk (qm_gk (qm_gk (qm_gk g721 (by decide) (Or.inl (by decide))) (by decide) (Or.inl (by decide))) (by decide) (Or.inl (by decide))) (by decide) (Or.inl (by decide))) (by decide) (Or.inl (by decide))) (qm_gk (qm_gk (qm_gk (qm_gk (qm_gk g723 (by decide) (Or.inl (by decide))) (by decide) (Or.inl (by decide))) (by decide) (Or.inl (by decide))) (by decide) (Or.inl (by decide))) (by decide) (Or.inr rfl)) (qm_ge _ _ _) (by omega) (by omega) (by omega) hI884 hF886 ((hG885.1 86 35 (by decide)).trans ((hG859.1 86 35 (by decide)).trans ((hG774.1 86 35 (by decide)).trans ((hG762.1 86 35 (by decide)).trans ((hk731).trans rfl))))) ((hG885.1 86 37 (by decide)).trans ((hG859.1 86 37 (by decide)).trans ((hG774.1 86 37 (by decide)).trans ((hG762.1 86 37 (by decide)).trans rfl)))) (by have hw0 : σ883 86 39 = (σ857 86 39) := (hG885.1 86 39 (by decide)).trans rfl; have hw1 : σ883 86 36 = (σ883 86 36) := rfl; have hw2 : σ883 86 37 = (σ727 86 37) := (hG885.1 86 37 (by decide)).trans ((hG859.1 86 37 (by decide)).trans ((hG774.1 86 37 (by decide)).trans ((hG762.1 86 37 (by decide)).trans rfl))); omega) (by have hw0 : σ883 86 39 = (σ857 86 39) := (hG885.1 86 39 (by decide)).trans rfl; have hw1 : σ883 86 36 = (σ883 86 36) := rfl; have hw2 : σ883 86 37 = (σ727 86 37) := (hG885.1 86 37 (by decide)).trans ((hG859.1 86 37 (by decide)).trans ((hG774.1 86 37 (by decide)).trans ((hG762.1 86 37 (by decide)).trans rfl))); omega) (by have hw0 : σ883 86 39 = (σ857 86 39) := (hG885.1 86 39 (by decide)).trans rfl; have hw1 : σ883 86 36 = (σ883 86 36) := rfl; have hw2 : σ883 86 37 = (σ727 86 37) := (hG885.1 86 37 (by decide)).trans ((hG859.1 86 37 (by decide)).trans ((hG774.1 86 37 (by decide)).trans ((hG762.1 86 37 (by decide)).trans rfl))); omega) (by have hw0 : σ883 86 39 = (σ857 86 39) := (hG885.1 86 39 (by decide)).trans rfl; have hw1 : σ883 86 36 = (σ883 86 36) := rfl; have hw2 : σ883 86 37 = (σ727 86 37) := (hG885.1 86 37 (by decide)).trans ((hG859.1 86 37 (by decide)).trans ((hG774.1 86 37 (by decide)).trans ((hG762.1 86 37 (by decide)).trans rfl))); omega) (by have hw0 : σ883 86 39 = (σ857 86 39) := (hG885.1 86 39 (by decide)).trans rfl; have hw1 : σ883 86 36 = (σ883 86 36) := rfl; have hw2 : σ883 86 37 = (σ727 86 37) := (hG885.1 86 37 (by decide)).trans ((hG859.1 86 37 (by decide)).trans ((hG774.1 86 37 (by decide)).trans ((hG762.1 86 37 (by decide)).trans rfl))); omega)
              · skip
                refine qr_iconst 91 rfl rfl ?_
                refine qr_istore_n _ 92 rfl (by decide) rfl rfl ?_
                refine qr_iload 94 rfl (qm_gk (qm_ge _ _ _) (by decide) (Or.inl (by decide))) rfl ?_
                refine qr_istore _ 96 rfl (by decide) rfl rfl ?_
                refine qr_aload_n 97 rfl (qm_gk (qm_gk (qm_gk (qm_gk (qm_gk (qm_gk g720 (by decide) (Or.inl (by decide))) (by decide) (Or.inl (by decide))) (by decide) (Or.inl (by decide))) (by decide) (Or.inl (by decide))) (by decide) (Or.inl (by decide))) (by decide) (Or.inl (by decide))) rfl ?_
                refine qr_bipush 99 rfl (by decide) rfl ?_
                refine qr_callN 102 rfl rfl rfl (sf_221_86t (d := d + 41) hI858 (by omega) (by omega)) ?_
                have hs890 : 0 ≤ σ857 86 36 ∧ σ857 86 36 ≤ 120 := hI858.1 86 36
                have hs891 : 0 ≤ σ857 86 37 ∧ σ857 86 37 ≤ 120 := hI858.1 86 37
                have hs892 : σ857 86 37 = (σ727 86 37) := (hG859.1 86 37 (by decide)).trans ((hG774.1 86 37 (by decide)).trans ((hG762.1 86 37 (by decide)).trans rfl))
                rintro _ _ ⟨σ893, rfl, hI894, hG895, v888, rfl, hv888, hp889⟩
                have hF896 : qFr [(86, 35), (86, 36), (86, 37), (86, 38), (86, 39)] [] σ α σ893 α := qFr_t hF860 hG895 (by decide) (by decide)
                have hs897 : 0 ≤ σ893 86 36 ∧ σ893 86 36 ≤ 120 := hI894.1 86 36
                show qr_W (qe L xs vb) (d + 43) qx_e212 _ (102, _, [.int (qz v888)], qw σ893 α κ ρ, 0, 0)
                refine qr_istore _ 104 rfl (by decide) rfl rfl ?_
                refine qr_goto 33 rfl rfl ?_
                exact ih742 _ 1 v850 v888 σ893 (by omega) (qm_gk (qm_gk (qm_gk (qm_gk (qm_gk (qm_gk (qm_gk g720 (by decide) (Or.inl (by decide))) (by decide) (Or.inl (by decide))) (by decide) (Or.inl (by decide))) (by decide) (Or.inl (by decide))) (by decide) (Or.inl (by decide))) (by decide) (Or.inl (by decide))) (by decide) (Or.inl (by decide))) (qm_gk (qm_gk (qm_ge _ _ _) (by decide) (Or.inr rfl)) (by decide) (Or.inl (by decide))) (qm_gk (qm_ge _ _ _) (by decide) (Or.inr rfl)) (qm_ge _ _ _) (by omega) (by omega) (by omega) hI894 hF896 ((hG895.1 86 35 (by decide)).trans ((hG859.1 86 35 (by decide)).trans ((hG774.1 86 35 (by decide)).trans ((hG762.1 86 35 (by decide)).trans ((hk731).trans rfl))))) ((hG895.1 86 37 (by decide)).trans ((hG859.1 86 37 (by decide)).trans ((hG774.1 86 37 (by decide)).trans ((hG762.1 86 37 (by decide)).trans rfl)))) (by have hw0 : σ893 86 39 = (σ857 86 39) := (hG895.1 86 39 (by decide)).trans rfl; have hw1 : σ893 86 36 = (σ893 86 36) := rfl; have hw2 : σ893 86 37 = (σ727 86 37) := (hG895.1 86 37 (by decide)).trans ((hG859.1 86 37 (by decide)).trans ((hG774.1 86 37 (by decide)).trans ((hG762.1 86 37 (by decide)).trans rfl))); omega) (by have hw0 : σ893 86 39 = (σ857 86 39) := (hG895.1 86 39 (by decide)).trans rfl; have hw1 : σ893 86 36 = (σ893 86 36) := rfl; have hw2 : σ893 86 37 = (σ727 86 37) := (hG895.1 86 37 (by decide)).trans ((hG859.1 86 37 (by decide)).trans ((hG774.1 86 37 (by decide)).trans ((hG762.1 86 37 (by decide)).trans rfl))); omega) (by have hw0 : σ893 86 39 = (σ857 86 39) := (hG895.1 86 39 (by decide)).trans rfl; have hw1 : σ893 86 36 = (σ893 86 36) := rfl; have hw2 : σ893 86 37 = (σ727 86 37) := (hG895.1 86 37 (by decide)).trans ((hG859.1 86 37 (by decide)).trans ((hG774.1 86 37 (by decide)).trans ((hG762.1 86 37 (by decide)).trans rfl))); omega) (by have hw0 : σ893 86 39 = (σ857 86 39) := (hG895.1 86 39 (by decide)).trans rfl; have hw1 : σ893 86 36 = (σ893 86 36) := rfl; have hw2 : σ893 86 37 = (σ727 86 37) := (hG895.1 86 37 (by decide)).trans ((hG859.1 86 37 (by decide)).trans ((hG774.1 86 37 (by decide)).trans ((hG762.1 86 37 (by decide)).trans rfl))); omega) (by have hw0 : σ893 86 39 = (σ857 86 39) := (hG895.1 86 39 (by decide)).trans rfl; have hw1 : σ893 86 36 = (σ893 86 36) := rfl; have hw2 : σ893 86 37 = (σ727 86 37) := (hG895.1 86 37 (by decide)).trans ((hG859.1 86 37 (by decide)).trans ((hG774.1 86 37 (by decide)).trans ((hG762.1 86 37 (by decide)).trans rfl))); omega)
  exact hL741 ((2 * ((120 - σ17 86 36).toNat : Int) + 1 + 1 : Int)).toNat _ 0 0 1 σ17 (by omega) rfl rfl rfl rfl (by omega) (by omega) (by omega) hI19 hF20 ((congrFun (congrFun e18 86) 35).trans ((congrFun (congrFun e14 86) 35).trans ((congrFun (congrFun e10 86) 35).trans ((congrFun (congrFun e6 86) 35).trans ((congrFun (congrFun e2 86) 35).trans rfl))))) ((congrFun (congrFun e18 86) 37).trans ((congrFun (congrFun e14 86) 37).trans ((congrFun (congrFun e10 86) 37).trans rfl))) (by have hw0 : σ17 86 39 = 0 := (congrFun (congrFun e18 86) 39).trans rfl; have hw1 : σ17 86 36 = 0 := (congrFun (congrFun e18 86) 36).trans ((congrFun (congrFun e14 86) 36).trans ((congrFun (congrFun e10 86) 36).trans ((congrFun (congrFun e6 86) 36).trans rfl))); have hw2 : σ17 86 37 = x2 := (congrFun (congrFun e18 86) 37).trans ((congrFun (congrFun e14 86) 37).trans ((congrFun (congrFun e10 86) 37).trans rfl)); omega) (by have hw0 : σ17 86 39 = 0 := (congrFun (congrFun e18 86) 39).trans rfl; have hw1 : σ17 86 36 = 0 := (congrFun (congrFun e18 86) 36).trans ((congrFun (congrFun e14 86) 36).trans ((congrFun (congrFun e10 86) 36).trans ((congrFun (congrFun e6 86) 36).trans rfl))); have hw2 : σ17 86 37 = x2 := (congrFun (congrFun e18 86) 37).trans ((congrFun (congrFun e14 86) 37).trans ((congrFun (congrFun e10 86) 37).trans rfl)); omega) (by have hw0 : σ17 86 39 = 0 := (congrFun (congrFun e18 86) 39).trans rfl; have hw1 : σ17 86 36 = 0 := (congrFun (congrFun e18 86) 36).trans ((congrFun (congrFun e14 86) 36).trans ((congrFun (congrFun e10 86) 36).trans ((congrFun (congrFun e6 86) 36).trans rfl))); have hw2 : σ17 86 37 = x2 := (congrFun (congrFun e18 86) 37).trans ((congrFun (congrFun e14 86) 37).trans ((congrFun (congrFun e10 86) 37).trans rfl)); omega) (by have hw0 : σ17 86 39 = 0 := (congrFun (congrFun e18 86) 39).trans rfl; have hw1 : σ17 86 36 = 0 := (congrFun (congrFun e18 86) 36).trans ((congrFun (congrFun e14 86) 36).trans ((congrFun (congrFun e10 86) 36).trans ((congrFun (congrFun e6 86) 36).trans rfl))); have hw2 : σ17 86 37 = x2 := (congrFun (congrFun e18 86) 37).trans ((congrFun (congrFun e14 86) 37).trans ((congrFun (congrFun e10 86) 37).trans rfl)); omega) (by have hw0 : σ17 86 39 = 0 := (congrFun (congrFun e18 86) 39).trans rfl; have hw1 : σ17 86 36 = 0 := (congrFun (congrFun e18 86) 36).trans ((congrFun (congrFun e14 86) 36).trans ((congrFun (congrFun e10 86) 36).trans ((congrFun (congrFun e6 86) 36).trans rfl))); have hw2 : σ17 86 37 = x2 := (congrFun (congrFun e18 86) 37).trans ((congrFun (congrFun e14 86) 37).trans ((congrFun (congrFun e10 86) 37).trans rfl)); omega)

set_option maxHeartbeats 4000000 in
set_option maxRecDepth 20000 in
/-- OneRoofModel.custom -/
theorem sf_211_86 {L : Nat} {xs : Nat → Int} {vb : Bool} {d : Nat} {σ α : Nat → Nat → Int} {κ : Nat → Option Nat} {ρ : Nat} {x1 : Int} (hI : qI σ α κ ρ) (r1 : (-2147483648) ≤ x1 ∧ x1 ≤ 2147483647) : qm_T (qe L xs vb) (d + 45) 211 [.ref 86, .int (qz x1)] (qw σ α κ ρ) (fun r w' => ∃ σ' α', w' = qw σ' α' κ ρ ∧ qI σ' α' κ ρ ∧ qFr [(86, 32), (86, 35), (86, 36), (86, 37), (86, 38), (86, 39)] [107, 108] σ α σ' α' ∧ ∃ v : Int, r = some (.int (qz v)) ∧ ((-2147483648) ≤ v ∧ v ≤ 2147483647)) := by
  refine qr_start (d := d + 44) qv_e211 (Nat.le_of_ble_eq_true rfl) ?_
  show qr_W (qe L xs vb) (d + 44) qx_e211 _ (0, [(0, .ref 86), (1, .int (qz x1))], [], _, 0, 0)
  have hF0 := qFr_rf [(86, 32), (86, 35), (86, 36), (86, 37), (86, 38), (86, 39)] [107, 108] σ α
  refine qr_iload_n 1 rfl rfl rfl ?_
  refine qr_i2l 2 rfl (by omega) rfl ?_
  refine qr_lconst 3 rfl rfl ?_
  refine qy_vl 0 rfl ?_
  refine qr_lconst 4 rfl rfl ?_
  refine qy_vl 1 rfl ?_
  refine qr_callN 7 rfl rfl rfl (sf_175 (d := d + 43) hI (by omega) (by omega) (by omega)) ?_
  rintro _ _ ⟨rfl, v1, rfl, hv1, hp2⟩
  show qr_W (qe L xs vb) (d + 44) qx_e211 _ (7, _, [.int (qz v1)], qw σ α κ ρ, 0, 0)
  refine qr_if_ne 12 10 rfl rfl rfl (by omega) (fun h3 => ?_) (fun h3 => ?_)
  · skip
    refine qr_aload_n 13 rfl rfl rfl ?_
    refine qr_iconst 14 rfl rfl ?_
    refine qr_aload_n 15 rfl rfl rfl ?_
    refine qr_get 18 rfl rfl rfl (by decide) rfl ?_
    have hs4 : 0 ≤ σ 86 32 ∧ σ 86 32 ≤ 120 := hI.1 86 32
    refine qr_callN 21 rfl rfl rfl (sf_212_86 (d := d + 0) hI (by omega) (by omega)) ?_
    rintro _ _ ⟨σ6, rfl, hI7, hG8, v5, rfl, hv5⟩
    have hF9 : qFr [(86, 32), (86, 35), (86, 36), (86, 37), (86, 38), (86, 39)] [107, 108] σ α σ6 α := qFr_t hF0 hG8 (by decide) (by decide)
    show qr_W (qe L xs vb) (d + 44) qx_e211 _ (21, _, [.int (qz v5)], qw σ6 α κ ρ, 0, 0)
    refine qr_istore_n _ 22 rfl (by decide) rfl rfl ?_
    refine qr_aload_n 23 rfl rfl rfl ?_
    refine qr_get 26 rfl rfl rfl (by decide) rfl ?_
    refine qy_v (σ 86 32) ((hG8.1 86 32 (by decide)).trans rfl) ?_
    refine qr_istore_n _ 27 rfl (by decide) rfl rfl ?_
    refine qr_aload_n 28 rfl rfl rfl ?_
    refine qr_iconst 29 rfl rfl ?_
    refine qr_put 32 rfl (by decide) rfl (Nat.le_of_ble_eq_true rfl) (Nat.le_of_ble_eq_true rfl) (Or.inl rfl) (qr_fitI rfl _) rfl ?_
    refine qy_wS (qw_s σ6 86 32 0) rfl (fun σ10 e11 => ?_)
    have hI12 : qI σ10 α κ ρ := by rw [e11]; exact qI_s hI7 86 32 rfl (show 0 ≤ 0 ∧ 0 ≤ 120 by omega)
    have hF13 : qFr [(86, 32), (86, 35), (86, 36), (86, 37), (86, 38), (86, 39)] [107, 108] σ α σ10 α := by rw [e11]; exact qFr_s hF9 86 32 _ (by decide)
    refine qr_aload_n 33 rfl rfl rfl ?_
    refine qr_get 36 rfl rfl rfl (by decide) rfl ?_
    have hs14 : (-1) ≤ σ10 86 38 ∧ σ10 86 38 ≤ 120 := hI12.1 86 38
    refine qr_if_lt 47 39 rfl rfl rfl (by omega) (fun h15 => ?_) (fun h15 => ?_)
    · skip
      refine qr_iconst 48 rfl rfl ?_
      refine qr_istore _ 50 rfl (by decide) rfl rfl ?_
      have hL646 : ∀ (n : Nat) (ls : qm_L) (u640 : Int) (α642 : Nat → Nat → Int), 120 - u640 < (n : Int) → qm_get ls 0 = some (.ref 86) → qm_get ls 1 = some (.int (qz x1)) → qm_get ls 3 = some (.int (qz (σ 86 32))) → qm_get ls 4 = some (.int (qz u640)) → (0 ≤ u640 ∧ u640 ≤ 120) → qI σ10 α642 κ ρ → qFr [(86, 32), (86, 35), (86, 36), (86, 37), (86, 38), (86, 39)] [107, 108] σ α σ10 α642 → qr_W (qe L xs vb) (d + 44) qx_e211 (fun r w' => ∃ σ' α', w' = qw σ' α' κ ρ ∧ qI σ' α' κ ρ ∧ qFr [(86, 32), (86, 35), (86, 36), (86, 37), (86, 38), (86, 39)] [107, 108] σ α σ' α' ∧ ∃ v : Int, r = some (.int (qz v)) ∧ ((-2147483648) ≤ v ∧ v ≤ 2147483647)) (50, ls, [], qw σ10 α642 κ ρ, 0, 0) := by
        intro n
        induction n with
        | zero => intro ls u640 α642 hm g636 g637 g638 g639 hf645 hI643 hF644; exact False.elim (by omega)
        | succ n ih647 =>
          intro ls u640 α642 hm g636 g637 g638 g639 hf645 hI643 hF644
          refine qr_iload 52 rfl g639 rfl ?_
          refine qr_iload_n 53 rfl g638 rfl ?_
          refine qr_icmp_ge 81 56 rfl rfl rfl (by omega) (by omega) (fun h654 => ?_) (fun h654 => ?_)
          · skip
            refine qr_aload_n 82 rfl g636 rfl ?_
            refine qr_get 85 rfl rfl rfl (by decide) rfl ?_
            refine qr_iload_n 86 rfl g637 rfl ?_
            refine qr_iload_n 87 rfl g638 rfl ?_
            refine qr_iastore 88 rfl (by decide) rfl (by omega) (by decide) rfl ?_
            refine qy_wA (qw_r α642 108 (qzu (α642 108) (x1 : Int).toNat (σ 86 32))) rfl (fun α655 e656 => ?_)
            have hI657 : qI σ10 α655 κ ρ := by rw [e656]; exact qI_r hI643 108 _ rfl (show (-1) ≤ (σ 86 32) ∧ (σ 86 32) ≤ 120 by omega)
            have hF658 : qFr [(86, 32), (86, 35), (86, 36), (86, 37), (86, 38), (86, 39)] [107, 108] σ α σ10 α655 := by rw [e656]; exact qFr_r hF644 108 _ (by decide)
            refine qr_iconst 89 rfl rfl ?_
            refine qr_retI rfl rfl (by decide) (by decide) ?_
            exact ⟨_, _, rfl, hI657, hF658, 1, rfl, by omega⟩
          · skip
            refine qr_aload_n 57 rfl g636 rfl ?_
            refine qr_get 60 rfl rfl rfl (by decide) rfl ?_
            refine qr_bipush 62 rfl (by decide) rfl ?_
            refine qr_iload_n 63 rfl g637 rfl ?_
            refine qr_imul 64 rfl rfl ?_
            refine qr_iload 66 rfl g639 rfl ?_
            refine qr_iadd 67 rfl rfl ?_
            refine qr_aload_n 68 rfl g636 rfl ?_
            refine qr_get 71 rfl rfl rfl (by decide) rfl ?_
            refine qr_iload 73 rfl g639 rfl ?_
            refine qr_iaload 74 rfl rfl (by omega) (by decide) rfl ?_
            refine qr_topI (fun v659 hv659 => ?_)
            have hs660 : (-2147483648) ≤ v659 ∧ v659 ≤ 2147483647 := by rw [hv659]; exact hI643.2.1 106 _ (show _ < 120 by omega)
            refine qr_iastore 75 rfl (by decide) rfl (by omega) (by decide) rfl ?_
            refine qy_wA (qw_r α642 107 (qzu (α642 107) (((120 * x1) + u640) : Int).toNat v659)) rfl (fun α661 e662 => ?_)
            have hI663 : qI σ10 α661 κ ρ := by rw [e662]; exact qI_r hI643 107 _ rfl (show (-2147483648) ≤ v659 ∧ v659 ≤ 2147483647 by omega)
            have hF664 : qFr [(86, 32), (86, 35), (86, 36), (86, 37), (86, 38), (86, 39)] [107, 108] σ α σ10 α661 := by rw [e662]; exact qFr_r hF644 107 _ (by decide)
            refine qr_iinc _ 78 rfl g639 (by decide) rfl rfl ?_
            refine qr_goto 50 rfl rfl ?_
            exact ih647 _ (u640 + 1) α661 (by omega) (qm_gk g636 (by decide) (Or.inl (by decide))) (qm_gk g637 (by decide) (Or.inl (by decide))) (qm_gk g638 (by decide) (Or.inr rfl)) (qm_ge _ _ _) (by omega) hI663 hF664
      exact hL646 ((120 - 0 + 1 : Int)).toNat _ 0 α (by omega) rfl rfl rfl rfl (by omega) hI12 hF13
    · skip
      refine qr_bipush 41 rfl (by decide) rfl ?_
      refine qr_aload_n 42 rfl rfl rfl ?_
      refine qr_get 45 rfl rfl rfl (by decide) rfl ?_
      refine qr_isub 46 rfl rfl ?_
      refine qr_retI rfl rfl (by decide) (by decide) ?_
      exact ⟨_, _, rfl, hI12, hF13, ((-100) - (σ10 86 38)), rfl, by omega⟩
  · skip
    refine qr_iconst 11 rfl rfl ?_
    refine qr_retI rfl rfl (by decide) (by decide) ?_
    exact ⟨_, _, rfl, hI, hF0, (-1), rfl, by omega⟩

set_option maxHeartbeats 4000000 in
set_option maxRecDepth 20000 in
/-- OneRoofModel.gives -/
theorem sf_227_86 {L : Nat} {xs : Nat → Int} {vb : Bool} {d : Nat} {σ α : Nat → Nat → Int} {κ : Nat → Option Nat} {ρ : Nat} {x1 : Int} {x2 : Int} {x3 : Int} {x4 : Int} {x5 : Int} {x6 : Int} (hI : qI σ α κ ρ) (r1 : 0 ≤ x1 ∧ x1 ≤ 1) (r2 : 0 ≤ x2 ∧ x2 ≤ 31) (r3 : 0 ≤ x3 ∧ x3 ≤ 31) (r4 : (-1) ≤ x4 ∧ x4 ≤ 31) (r5 : (-9223372036854775808) ≤ x5 ∧ x5 ≤ 9223372036854775807) (r6 : (-2147483648) ≤ x6 ∧ x6 ≤ 2147483647) (p0 : 1 ≤ σ 86 6) : qm_T (qe L xs vb) (d + 45) 227 [.ref 86, .int (qz x1), .int (qz x2), .int (qz x3), .int (qz x4), .long (ql x5), .int (qz x6)] (qw σ α κ ρ) (fun r w' => ∃ σ' α', w' = qw σ' α' κ ρ ∧ qI σ' α' κ ρ ∧ qFr [(86, 15), (86, 23), (86, 30), (86, 35), (86, 36), (86, 37), (86, 38), (86, 39)] [96, 109] σ α σ' α' ∧ ∃ v : Int, r = some (.int (qz v)) ∧ ((-2147483648) ≤ v ∧ v ≤ 2147483647)) := by
  refine qr_start (d := d + 44) qv_e227 (Nat.le_of_ble_eq_true rfl) ?_
  show qr_W (qe L xs vb) (d + 44) qx_e227 _ (0, [(0, .ref 86), (1, .int (qz x1)), (2, .int (qz x2)), (3, .int (qz x3)), (4, .int (qz x4)), (5, .long (ql x5)), (7, .int (qz x6))], [], _, 0, 0)
  have hF0 := qFr_rf [(86, 15), (86, 23), (86, 30), (86, 35), (86, 36), (86, 37), (86, 38), (86, 39)] [96, 109] σ α
  have hz86_6 : 0 ≤ σ 86 6 ∧ σ 86 6 ≤ 32 := hI.1 86 6
  refine qr_aload_n 1 rfl rfl rfl ?_
  refine qr_iload_n 2 rfl rfl rfl ?_
  refine qr_iload_n 3 rfl rfl rfl ?_
  refine qr_iload 5 rfl rfl rfl ?_
  refine qr_callN 8 rfl rfl rfl (sf_194_86 (d := d + 39) hI (by omega) (by omega) (by omega)) ?_
  rintro _ _ ⟨σ2, α3, rfl, hI4, hG5, v1, rfl, hv1⟩
  have hF6 : qFr [(86, 15), (86, 23), (86, 30), (86, 35), (86, 36), (86, 37), (86, 38), (86, 39)] [96, 109] σ α σ2 α3 := qFr_t hF0 hG5 (by decide) (by decide)
  show qr_W (qe L xs vb) (d + 44) qx_e227 _ (8, _, [.int (qz v1)], qw σ2 α3 κ ρ, 0, 0)
  refine qr_istore _ 10 rfl (by decide) rfl rfl ?_
  refine qr_aload_n 11 rfl rfl rfl ?_
  refine qr_get 14 rfl rfl rfl (by decide) rfl ?_
  refine qr_iconst 15 rfl rfl ?_
  refine qr_iload 17 rfl rfl rfl ?_
  refine qr_bipush 19 rfl (by decide) rfl ?_
  have hJ17 : ∀ (ls : qm_L) (u15 : Int), qm_get ls 0 = some (.ref 86) → qm_get ls 1 = some (.int (qz x1)) → qm_get ls 2 = some (.int (qz x2)) → qm_get ls 3 = some (.int (qz x3)) → qm_get ls 4 = some (.int (qz x4)) → qm_get ls 5 = some (.long (ql x5)) → qm_get ls 7 = some (.int (qz x6)) → qm_get ls 8 = some (.int (qz v1)) → (0 ≤ u15 ∧ u15 ≤ 1) → qr_W (qe L xs vb) (d + 44) qx_e227 (fun r w' => ∃ σ' α', w' = qw σ' α' κ ρ ∧ qI σ' α' κ ρ ∧ qFr [(86, 15), (86, 23), (86, 30), (86, 35), (86, 36), (86, 37), (86, 38), (86, 39)] [96, 109] σ α σ' α' ∧ ∃ v : Int, r = some (.int (qz v)) ∧ ((-2147483648) ≤ v ∧ v ≤ 2147483647)) (27, ls, [.int (qz u15), .int (qz 0), .ref 109], qw σ2 α3 κ ρ, 0, 0) := by
    intro ls u15 g7 g8 g9 g10 g11 g12 g13 g14 hf16
    refine qr_iastore 28 rfl (by decide) rfl (by omega) (by decide) rfl ?_
    refine qy_wA (qw_r α3 109 (qzu (α3 109) (0 : Int).toNat u15)) rfl (fun α18 e19 => ?_)
    have hI20 : qI σ2 α18 κ ρ := by rw [e19]; exact qI_r hI4 109 _ rfl (show (-2147483648) ≤ u15 ∧ u15 ≤ 2147483647 by omega)
    have hF21 : qFr [(86, 15), (86, 23), (86, 30), (86, 35), (86, 36), (86, 37), (86, 38), (86, 39)] [96, 109] σ α σ2 α18 := by rw [e19]; exact qFr_r hF6 109 _ (by decide)
    refine qr_aload_n 29 rfl g7 rfl ?_
    refine qr_get 32 rfl rfl rfl (by decide) rfl ?_
    refine qr_iconst 33 rfl rfl ?_
    refine qr_iload 35 rfl g14 rfl ?_
    refine qr_bipush 37 rfl (by decide) rfl ?_
    have hJ31 : ∀ (ls : qm_L) (u29 : Int), qm_get ls 0 = some (.ref 86) → qm_get ls 1 = some (.int (qz x1)) → qm_get ls 2 = some (.int (qz x2)) → qm_get ls 3 = some (.int (qz x3)) → qm_get ls 4 = some (.int (qz x4)) → qm_get ls 5 = some (.long (ql x5)) → qm_get ls 7 = some (.int (qz x6)) → ((-2147483648) ≤ u29 ∧ u29 ≤ 2147483647) → qr_W (qe L xs vb) (d + 44) qx_e227 (fun r w' => ∃ σ' α', w' = qw σ' α' κ ρ ∧ qI σ' α' κ ρ ∧ qFr [(86, 15), (86, 23), (86, 30), (86, 35), (86, 36), (86, 37), (86, 38), (86, 39)] [96, 109] σ α σ' α' ∧ ∃ v : Int, r = some (.int (qz v)) ∧ ((-2147483648) ≤ v ∧ v ≤ 2147483647)) (47, ls, [.int (qz u29), .int (qz 1), .ref 109], qw σ2 α18 κ ρ, 0, 0) := by
      intro ls u29 g22 g23 g24 g25 g26 g27 g28 hf30
      refine qr_iastore 48 rfl (by decide) rfl (by omega) (by decide) rfl ?_
      refine qy_wA (qw_r α18 109 (qzu (α18 109) (1 : Int).toNat u29)) rfl (fun α32 e33 => ?_)
      have hI34 : qI σ2 α32 κ ρ := by rw [e33]; exact qI_r hI20 109 _ rfl (show (-2147483648) ≤ u29 ∧ u29 ≤ 2147483647 by omega)
      have hF35 : qFr [(86, 15), (86, 23), (86, 30), (86, 35), (86, 36), (86, 37), (86, 38), (86, 39)] [96, 109] σ α σ2 α32 := by rw [e33]; exact qFr_r hF21 109 _ (by decide)
      refine qr_aload_n 49 rfl g22 rfl ?_
      refine qr_get 52 rfl rfl rfl (by decide) rfl ?_
      refine qr_iconst 53 rfl rfl ?_
      refine qr_aload_n 54 rfl g22 rfl ?_
      refine qr_iload_n 55 rfl g24 rfl ?_
      refine qr_iload_n 56 rfl g25 rfl ?_
      refine qr_iload 58 rfl g28 rfl ?_
      refine qr_callN 61 rfl rfl rfl (sf_208_86 (d := d + 40) hI34 (by omega) (by omega) (by omega) (by omega)) ?_
      rintro _ _ ⟨σ37, rfl, hI38, hG39, v36, rfl, hv36⟩
      have hF40 : qFr [(86, 15), (86, 23), (86, 30), (86, 35), (86, 36), (86, 37), (86, 38), (86, 39)] [96, 109] σ α σ37 α32 := qFr_t hF35 hG39 (by decide) (by decide)
      show qr_W (qe L xs vb) (d + 44) qx_e227 _ (61, _, [.int (qz v36), .int (qz 2), .ref 109], qw σ37 α32 κ ρ, 0, 0)
      refine qr_iastore 62 rfl (by decide) rfl (by omega) (by decide) rfl ?_
      refine qy_wA (qw_r α32 109 (qzu (α32 109) (2 : Int).toNat v36)) rfl (fun α41 e42 => ?_)
      have hI43 : qI σ37 α41 κ ρ := by rw [e42]; exact qI_r hI38 109 _ rfl (show (-2147483648) ≤ v36 ∧ v36 ≤ 2147483647 by omega)
      have hF44 : qFr [(86, 15), (86, 23), (86, 30), (86, 35), (86, 36), (86, 37), (86, 38), (86, 39)] [96, 109] σ α σ37 α41 := by rw [e42]; exact qFr_r hF40 109 _ (by decide)
      refine qr_aload_n 63 rfl g22 rfl ?_
      refine qr_get 66 rfl rfl rfl (by decide) rfl ?_
      refine qr_iconst 67 rfl rfl ?_
      refine qr_aload_n 68 rfl g22 rfl ?_
      refine qr_get 71 rfl rfl rfl (by decide) rfl ?_
      refine qr_iconst 72 rfl rfl ?_
      refine qr_iload_n 73 rfl g24 rfl ?_
      refine qr_iadd 74 rfl rfl ?_
      refine qr_iaload 75 rfl rfl (by omega) (by decide) rfl ?_
      refine qr_topI (fun v45 hv45 => ?_)
      have hs46 : (-2147483648) ≤ v45 ∧ v45 ≤ 2147483647 := by rw [hv45]; exact hI43.2.1 87 _ (show _ < 252 by omega)
      refine qr_iastore 76 rfl (by decide) rfl (by omega) (by decide) rfl ?_
      refine qy_wA (qw_r α41 109 (qzu (α41 109) (3 : Int).toNat v45)) rfl (fun α47 e48 => ?_)
      have hI49 : qI σ37 α47 κ ρ := by rw [e48]; exact qI_r hI43 109 _ rfl (show (-2147483648) ≤ v45 ∧ v45 ≤ 2147483647 by omega)
      have hF50 : qFr [(86, 15), (86, 23), (86, 30), (86, 35), (86, 36), (86, 37), (86, 38), (86, 39)] [96, 109] σ α σ37 α47 := by rw [e48]; exact qFr_r hF44 109 _ (by decide)
      refine qr_aload_n 77 rfl g22 rfl ?_
      refine qr_get 80 rfl rfl rfl (by decide) rfl ?_
      refine qr_iconst 81 rfl rfl ?_
      refine qr_aload_n 82 rfl g22 rfl ?_
      refine qr_get 85 rfl rfl rfl (by decide) rfl ?_
      refine qr_iconst 86 rfl rfl ?_
      refine qr_iload_n 87 rfl g25 rfl ?_
      refine qr_iadd 88 rfl rfl ?_
      refine qr_iaload 89 rfl rfl (by omega) (by decide) rfl ?_
      refine qr_topI (fun v51 hv51 => ?_)
      have hs52 : (-2147483648) ≤ v51 ∧ v51 ≤ 2147483647 := by rw [hv51]; exact hI49.2.1 87 _ (show _ < 252 by omega)
      refine qr_iastore 90 rfl (by decide) rfl (by omega) (by decide) rfl ?_
      refine qy_wA (qw_r α47 109 (qzu (α47 109) (4 : Int).toNat v51)) rfl (fun α53 e54 => ?_)
      have hI55 : qI σ37 α53 κ ρ := by rw [e54]; exact qI_r hI49 109 _ rfl (show (-2147483648) ≤ v51 ∧ v51 ≤ 2147483647 by omega)
      have hF56 : qFr [(86, 15), (86, 23), (86, 30), (86, 35), (86, 36), (86, 37), (86, 38), (86, 39)] [96, 109] σ α σ37 α53 := by rw [e54]; exact qFr_r hF50 109 _ (by decide)
      refine qr_aload_n 91 rfl g22 rfl ?_
      refine qr_get 94 rfl rfl rfl (by decide) rfl ?_
      refine qr_iconst 95 rfl rfl ?_
      refine qr_aload_n 96 rfl g22 rfl ?_
      refine qr_iload_n 97 rfl g25 rfl ?_
      refine qr_iload_n 98 rfl g24 rfl ?_
      refine qr_callN 101 rfl rfl rfl (sf_206_86 (d := d + 43) hI55 (by omega) (by omega) (by omega)) ?_
      rintro _ _ ⟨rfl, v57, rfl, hv57⟩
      show qr_W (qe L xs vb) (d + 44) qx_e227 _ (101, _, [.int (qz v57), .int (qz 5), .ref 109], qw σ37 α53 κ ρ, 0, 0)
      have hJ66 : ∀ (ls : qm_L) (u64 : Int), qm_get ls 0 = some (.ref 86) → qm_get ls 1 = some (.int (qz x1)) → qm_get ls 2 = some (.int (qz x2)) → qm_get ls 3 = some (.int (qz x3)) → qm_get ls 4 = some (.int (qz x4)) → qm_get ls 5 = some (.long (ql x5)) → (0 ≤ u64 ∧ u64 ≤ 1) → qr_W (qe L xs vb) (d + 44) qx_e227 (fun r w' => ∃ σ' α', w' = qw σ' α' κ ρ ∧ qI σ' α' κ ρ ∧ qFr [(86, 15), (86, 23), (86, 30), (86, 35), (86, 36), (86, 37), (86, 38), (86, 39)] [96, 109] σ α σ' α' ∧ ∃ v : Int, r = some (.int (qz v)) ∧ ((-2147483648) ≤ v ∧ v ≤ 2147483647)) (109, ls, [.int (qz u64), .int (qz 5), .ref 109], qw σ37 α53 κ ρ, 0, 0) := by
        intro ls u64 g58 g59 g60 g61 g62 g63 hf65
        refine qr_iastore 110 rfl (by decide) rfl (by omega) (by decide) rfl ?_
        refine qy_wA (qw_r α53 109 (qzu (α53 109) (5 : Int).toNat u64)) rfl (fun α67 e68 => ?_)
        have hI69 : qI σ37 α67 κ ρ := by rw [e68]; exact qI_r hI55 109 _ rfl (show (-2147483648) ≤ u64 ∧ u64 ≤ 2147483647 by omega)
        have hF70 : qFr [(86, 15), (86, 23), (86, 30), (86, 35), (86, 36), (86, 37), (86, 38), (86, 39)] [96, 109] σ α σ37 α67 := by rw [e68]; exact qFr_r hF56 109 _ (by decide)
        refine qr_aload_n 111 rfl g58 rfl ?_
        refine qr_get 114 rfl rfl rfl (by decide) rfl ?_
        refine qr_bipush 116 rfl (by decide) rfl ?_
        refine qr_aload_n 117 rfl g58 rfl ?_
        refine qr_iload_n 118 rfl g60 rfl ?_
        refine qr_iload_n 119 rfl g61 rfl ?_
        refine qr_callN 122 rfl rfl rfl (sf_186_86 (d := d + 41) hI69 (by omega) (by omega)) ?_
        rintro _ _ ⟨σ72, α73, rfl, hI74, hG75, v71, rfl, hv71⟩
        have hF76 : qFr [(86, 15), (86, 23), (86, 30), (86, 35), (86, 36), (86, 37), (86, 38), (86, 39)] [96, 109] σ α σ72 α73 := qFr_t hF70 hG75 (by decide) (by decide)
        show qr_W (qe L xs vb) (d + 44) qx_e227 _ (122, _, [.int (qz v71), .int (qz 6), .ref 109], qw σ72 α73 κ ρ, 0, 0)
        refine qr_bipush 124 rfl (by decide) rfl ?_
        have hJ95 : ∀ (ls : qm_L) (u88 : Int) (σ89 α90 : Nat → Nat → Int), qm_get ls 0 = some (.ref 86) → qm_get ls 1 = some (.int (qz x1)) → qm_get ls 2 = some (.int (qz x2)) → qm_get ls 4 = some (.int (qz x4)) → qm_get ls 5 = some (.long (ql x5)) → (0 ≤ u88 ∧ u88 ≤ 99) → qI σ89 α90 κ ρ → qFr [(86, 15), (86, 23), (86, 30), (86, 35), (86, 36), (86, 37), (86, 38), (86, 39)] [96, 109] σ α σ89 α90 → σ89 86 6 = (σ 86 6) → qr_W (qe L xs vb) (d + 44) qx_e227 (fun r w' => ∃ σ' α', w' = qw σ' α' κ ρ ∧ qI σ' α' κ ρ ∧ qFr [(86, 15), (86, 23), (86, 30), (86, 35), (86, 36), (86, 37), (86, 38), (86, 39)] [96, 109] σ α σ' α' ∧ ∃ v : Int, r = some (.int (qz v)) ∧ ((-2147483648) ≤ v ∧ v ≤ 2147483647)) (138, ls, [.int (qz u88), .int (qz 6), .ref 109], qw σ89 α90 κ ρ, 0, 0) := by
          intro ls u88 σ89 α90 g83 g84 g85 g86 g87 hf94 hI91 hF92 hk93
          refine qr_iastore 139 rfl (by decide) rfl (by omega) (by decide) rfl ?_
          refine qy_wA (qw_r α90 109 (qzu (α90 109) (6 : Int).toNat u88)) rfl (fun α96 e97 => ?_)
          have hI98 : qI σ89 α96 κ ρ := by rw [e97]; exact qI_r hI91 109 _ rfl (show (-2147483648) ≤ u88 ∧ u88 ≤ 2147483647 by omega)
          have hF99 : qFr [(86, 15), (86, 23), (86, 30), (86, 35), (86, 36), (86, 37), (86, 38), (86, 39)] [96, 109] σ α σ89 α96 := by rw [e97]; exact qFr_r hF92 109 _ (by decide)
          refine qr_aload_n 140 rfl g83 rfl ?_
          refine qr_get 143 rfl rfl rfl (by decide) rfl ?_
          refine qr_bipush 145 rfl (by decide) rfl ?_
          refine qr_iconst 146 rfl rfl ?_
          refine qr_iastore 147 rfl (by decide) rfl (by omega) (by decide) rfl ?_
          refine qy_wA (qw_r α96 109 (qzu (α96 109) (7 : Int).toNat 0)) rfl (fun α100 e101 => ?_)
          have hI102 : qI σ89 α100 κ ρ := by rw [e101]; exact qI_r hI98 109 _ rfl (show (-2147483648) ≤ 0 ∧ 0 ≤ 2147483647 by omega)
          have hF103 : qFr [(86, 15), (86, 23), (86, 30), (86, 35), (86, 36), (86, 37), (86, 38), (86, 39)] [96, 109] σ α σ89 α100 := by rw [e101]; exact qFr_r hF99 109 _ (by decide)
          refine qr_iconst 148 rfl rfl ?_
          refine qr_istore _ 150 rfl (by decide) rfl rfl ?_
          have hL2871 : ∀ (n : Nat) (ls : qm_L) (u2865 : Int) (α2867 : Nat → Nat → Int), 32 - u2865 < (n : Int) → qm_get ls 0 = some (.ref 86) → qm_get ls 1 = some (.int (qz x1)) → qm_get ls 2 = some (.int (qz x2)) → qm_get ls 4 = some (.int (qz x4)) → qm_get ls 5 = some (.long (ql x5)) → qm_get ls 9 = some (.int (qz u2865)) → (0 ≤ u2865 ∧ u2865 ≤ 32) → qI σ89 α2867 κ ρ → qFr [(86, 15), (86, 23), (86, 30), (86, 35), (86, 36), (86, 37), (86, 38), (86, 39)] [96, 109] σ α σ89 α2867 → qr_W (qe L xs vb) (d + 44) qx_e227 (fun r w' => ∃ σ' α', w' = qw σ' α' κ ρ ∧ qI σ' α' κ ρ ∧ qFr [(86, 15), (86, 23), (86, 30), (86, 35), (86, 36), (86, 37), (86, 38), (86, 39)] [96, 109] σ α σ' α' ∧ ∃ v : Int, r = some (.int (qz v)) ∧ ((-2147483648) ≤ v ∧ v ≤ 2147483647)) (150, ls, [], qw σ89 α2867 κ ρ, 0, 0) := by
            intro n
            induction n with
            | zero => intro ls u2865 α2867 hm g2859 g2860 g2861 g2862 g2863 g2864 hf2870 hI2868 hF2869; exact False.elim (by omega)
            | succ n ih2872 =>
              intro ls u2865 α2867 hm g2859 g2860 g2861 g2862 g2863 g2864 hf2870 hI2868 hF2869
              refine qr_iload 152 rfl g2864 rfl ?_
              refine qr_aload_n 153 rfl g2859 rfl ?_
              refine qr_get 156 rfl rfl rfl (by decide) rfl ?_
              refine qy_v (σ 86 6) ((hk93).trans rfl) ?_
              refine qr_icmp_ge 251 159 rfl rfl rfl (by omega) (by omega) (fun h2936 => ?_) (fun h2936 => ?_)
              · skip
                refine qr_aload_n 252 rfl g2859 rfl ?_
                refine qr_get 255 rfl rfl rfl (by decide) rfl ?_
                refine qr_bipush 257 rfl (by decide) rfl ?_
                refine qr_iload 259 rfl g2862 rfl ?_
                have hJ2958 : ∀ (ls : qm_L) (u2951 : Int) (σ2952 α2953 : Nat → Nat → Int), qm_get ls 0 = some (.ref 86) → qm_get ls 1 = some (.int (qz x1)) → (0 ≤ u2951 ∧ u2951 ≤ 99) → qI σ2952 α2953 κ ρ → qFr [(86, 15), (86, 23), (86, 30), (86, 35), (86, 36), (86, 37), (86, 38), (86, 39)] [96, 109] σ α σ2952 α2953 → σ2952 86 6 = (σ 86 6) → qr_W (qe L xs vb) (d + 44) qx_e227 (fun r w' => ∃ σ' α', w' = qw σ' α' κ ρ ∧ qI σ' α' κ ρ ∧ qFr [(86, 15), (86, 23), (86, 30), (86, 35), (86, 36), (86, 37), (86, 38), (86, 39)] [96, 109] σ α σ' α' ∧ ∃ v : Int, r = some (.int (qz v)) ∧ ((-2147483648) ≤ v ∧ v ≤ 2147483647)) (290, ls, [.int (qz u2951), .int (qz 8), .ref 109], qw σ2952 α2953 κ ρ, 0, 0) := by
                  intro ls u2951 σ2952 α2953 g2949 g2950 hf2957 hI2954 hF2955 hk2956
                  refine qr_iastore 291 rfl (by decide) rfl (by omega) (by decide) rfl ?_
                  refine qy_wA (qw_r α2953 109 (qzu (α2953 109) (8 : Int).toNat u2951)) rfl (fun α2959 e2960 => ?_)
                  have hI2961 : qI σ2952 α2959 κ ρ := by rw [e2960]; exact qI_r hI2954 109 _ rfl (show (-2147483648) ≤ u2951 ∧ u2951 ≤ 2147483647 by omega)
                  have hF2962 : qFr [(86, 15), (86, 23), (86, 30), (86, 35), (86, 36), (86, 37), (86, 38), (86, 39)] [96, 109] σ α σ2952 α2959 := by rw [e2960]; exact qFr_r hF2955 109 _ (by decide)
                  refine qr_aload_n 292 rfl g2949 rfl ?_
                  refine qr_get 295 rfl rfl rfl (by decide) rfl ?_
                  refine qr_iload_n 296 rfl g2950 rfl ?_
                  refine qr_iaload 297 rfl rfl (by omega) (by decide) rfl ?_
                  refine qr_topI (fun v2963 hv2963 => ?_)
                  have hs2964 : (-1) ≤ v2963 ∧ v2963 ≤ 120 := by rw [hv2963]; exact hI2961.2.1 108 _ (show _ < 2 by omega)
                  refine qr_if_lt 315 300 rfl rfl rfl (by omega) (fun h2965 => ?_) (fun h2965 => ?_)
                  · skip
                    refine qr_iload_n 316 rfl g2950 rfl ?_
                    have hJ2976 : ∀ (ls : qm_L) (u2974 : Int), (0 ≤ u2974 ∧ u2974 ≤ 1) → qr_W (qe L xs vb) (d + 44) qx_e227 (fun r w' => ∃ σ' α', w' = qw σ' α' κ ρ ∧ qI σ' α' κ ρ ∧ qFr [(86, 15), (86, 23), (86, 30), (86, 35), (86, 36), (86, 37), (86, 38), (86, 39)] [96, 109] σ α σ' α' ∧ ∃ v : Int, r = some (.int (qz v)) ∧ ((-2147483648) ≤ v ∧ v ≤ 2147483647)) (372, ls, [.int (qz u2974)], qw σ2952 α2959 κ ρ, 0, 0) := by
                      intro ls u2974 hf2975
                      refine qr_istore _ 374 rfl (by decide) rfl rfl ?_
                      refine qr_iload 376 rfl (qm_ge _ _ _) rfl ?_
                      refine qr_if_eq 383 379 rfl rfl rfl (by omega) (fun h2977 => ?_) (fun h2977 => ?_)
                      · skip
                        refine qr_iconst 384 rfl rfl ?_
                        refine qr_retI rfl rfl (by decide) (by decide) ?_
                        exact ⟨_, _, rfl, hI2961, hF2962, 0, rfl, by omega⟩
                      · skip
                        refine qr_iconst 380 rfl rfl ?_
                        refine qr_goto 384 rfl rfl ?_
                        refine qr_retI rfl rfl (by decide) (by decide) ?_
                        exact ⟨_, _, rfl, hI2961, hF2962, 1, rfl, by omega⟩
                    refine qr_if_ne 346 319 rfl rfl rfl (by omega) (fun h2978 => ?_) (fun h2978 => ?_)
                    · skip
                      refine qr_aload_n 347 rfl g2949 rfl ?_
                      refine qr_get 350 rfl rfl rfl (by decide) rfl ?_
                      refine qr_bipush 352 rfl (by decide) rfl ?_
                      refine qr_iaload 353 rfl rfl (by omega) (by decide) rfl ?_
                      refine qr_topI (fun v2979 hv2979 => ?_)
                      have hs2980 : (-2147483648) ≤ v2979 ∧ v2979 ≤ 2147483647 := by rw [hv2979]; exact hI2961.2.1 109 _ (show _ < 9 by omega)
                      refine qr_iconst 354 rfl rfl ?_
                      refine qr_icmp_ge 371 357 rfl rfl rfl (by omega) (by omega) (fun h2981 => ?_) (fun h2981 => ?_)
                      · skip
                        refine qr_iconst 372 rfl rfl ?_
                        exact hJ2976 _ 0 (by omega)
                      · skip
                        refine qr_aload_n 358 rfl g2949 rfl ?_
                        refine qr_get 361 rfl rfl rfl (by decide) rfl ?_
                        refine qr_iconst 362 rfl rfl ?_
                        refine qr_iaload 363 rfl rfl (by omega) (by decide) rfl ?_
                        refine qr_topI (fun v2982 hv2982 => ?_)
                        have hs2983 : (-2147483648) ≤ v2982 ∧ v2982 ≤ 2147483647 := by rw [hv2982]; exact hI2961.2.1 109 _ (show _ < 9 by omega)
                        refine qr_iconst 364 rfl rfl ?_
                        refine qr_icmp_ne 371 367 rfl rfl rfl (by omega) (by omega) (fun h2984 => ?_) (fun h2984 => ?_)
                        · skip
                          refine qr_iconst 372 rfl rfl ?_
                          exact hJ2976 _ 0 (by omega)
                        · skip
                          refine qr_iconst 368 rfl rfl ?_
                          refine qr_goto 372 rfl rfl ?_
                          exact hJ2976 _ 1 (by omega)
                    · skip
                      refine qr_aload_n 320 rfl g2949 rfl ?_
                      refine qr_get 323 rfl rfl rfl (by decide) rfl ?_
                      refine qr_iconst 324 rfl rfl ?_
                      refine qr_iaload 325 rfl rfl (by omega) (by decide) rfl ?_
                      refine qr_topI (fun v2985 hv2985 => ?_)
                      have hs2986 : (-2147483648) ≤ v2985 ∧ v2985 ≤ 2147483647 := by rw [hv2985]; exact hI2961.2.1 109 _ (show _ < 9 by omega)
                      refine qr_iconst 326 rfl rfl ?_
                      refine qr_icmp_ne 342 329 rfl rfl rfl (by omega) (by omega) (fun h2987 => ?_) (fun h2987 => ?_)
                      · skip
                        refine qr_iconst 343 rfl rfl ?_
                        refine qr_goto 372 rfl rfl ?_
                        exact hJ2976 _ 0 (by omega)
                      · skip
                        refine qr_aload_n 330 rfl g2949 rfl ?_
                        refine qr_get 333 rfl rfl rfl (by decide) rfl ?_
                        refine qr_iconst 334 rfl rfl ?_
                        refine qr_iaload 335 rfl rfl (by omega) (by decide) rfl ?_
                        refine qr_topI (fun v2988 hv2988 => ?_)
                        have hs2989 : (-2147483648) ≤ v2988 ∧ v2988 ≤ 2147483647 := by rw [hv2988]; exact hI2961.2.1 109 _ (show _ < 9 by omega)
                        refine qr_if_ne 342 338 rfl rfl rfl (by omega) (fun h2990 => ?_) (fun h2990 => ?_)
                        · skip
                          refine qr_iconst 343 rfl rfl ?_
                          refine qr_goto 372 rfl rfl ?_
                          exact hJ2976 _ 0 (by omega)
                        · skip
                          refine qr_iconst 339 rfl rfl ?_
                          refine qr_goto 372 rfl rfl ?_
                          exact hJ2976 _ 1 (by omega)
                  · skip
                    refine qr_aload_n 301 rfl g2949 rfl ?_
                    refine qr_bipush 303 rfl (by decide) rfl ?_
                    refine qr_iload_n 304 rfl g2950 rfl ?_
                    refine qr_imul 305 rfl rfl ?_
                    refine qr_aload_n 306 rfl g2949 rfl ?_
                    refine qr_get 309 rfl rfl rfl (by decide) rfl ?_
                    refine qr_iload_n 310 rfl g2950 rfl ?_
                    refine qr_iaload 311 rfl rfl (by omega) (by decide) rfl ?_
                    refine qr_topI (fun v2991 hv2991 => ?_)
                    have hs2992 : (-1) ≤ v2991 ∧ v2991 ≤ 120 := by rw [hv2991]; exact hI2961.2.1 108 _ (show _ < 2 by omega)
                    refine qr_callN 314 rfl rfl rfl (sf_212_86 (d := d + 0) hI2961 (by omega) (by omega)) ?_
                    rintro _ _ ⟨σ2994, rfl, hI2995, hG2996, v2993, rfl, hv2993⟩
                    have hF2997 : qFr [(86, 15), (86, 23), (86, 30), (86, 35), (86, 36), (86, 37), (86, 38), (86, 39)] [96, 109] σ α σ2994 α2959 := qFr_t hF2962 hG2996 (by decide) (by decide)
                    show qr_W (qe L xs vb) (d + 44) qx_e227 _ (314, _, [.int (qz v2993)], qw σ2994 α2959 κ ρ, 0, 0)
                    refine qr_retI rfl rfl (by decide) (by decide) ?_
                    exact ⟨_, _, rfl, hI2995, hF2997, v2993, rfl, by omega⟩
                refine qr_if_ge 266 262 rfl rfl rfl (by omega) (fun h2998 => ?_) (fun h2998 => ?_)
                · skip
                  refine qr_aload_n 267 rfl g2859 rfl ?_
                  refine qr_iload_n 268 rfl g2861 rfl ?_
                  refine qr_iload 270 rfl g2862 rfl ?_
                  refine qr_callN 273 rfl rfl rfl (sf_186_86 (d := d + 41) hI2868 (by omega) (by omega)) ?_
                  rintro _ _ ⟨σ3000, α3001, rfl, hI3002, hG3003, v2999, rfl, hv2999⟩
                  have hF3004 : qFr [(86, 15), (86, 23), (86, 30), (86, 35), (86, 36), (86, 37), (86, 38), (86, 39)] [96, 109] σ α σ3000 α3001 := qFr_t hF2869 hG3003 (by decide) (by decide)
                  show qr_W (qe L xs vb) (d + 44) qx_e227 _ (273, _, [.int (qz v2999), .int (qz 8), .ref 109], qw σ3000 α3001 κ ρ, 0, 0)
                  refine qr_bipush 275 rfl (by decide) rfl ?_
                  refine qr_icmp_ne 283 278 rfl rfl rfl (by omega) (by omega) (fun h3005 => ?_) (fun h3005 => ?_)
                  · skip
                    refine qr_aload_n 284 rfl g2859 rfl ?_
                    refine qr_iload_n 285 rfl g2861 rfl ?_
                    refine qr_iload 287 rfl g2862 rfl ?_
                    refine qr_callN 290 rfl rfl rfl (sf_186_86 (d := d + 41) hI3002 (by omega) (by omega)) ?_
                    rintro _ _ ⟨σ3007, α3008, rfl, hI3009, hG3010, v3006, rfl, hv3006⟩
                    have hF3011 : qFr [(86, 15), (86, 23), (86, 30), (86, 35), (86, 36), (86, 37), (86, 38), (86, 39)] [96, 109] σ α σ3007 α3008 := qFr_t hF3004 hG3010 (by decide) (by decide)
                    show qr_W (qe L xs vb) (d + 44) qx_e227 _ (290, _, [.int (qz v3006), .int (qz 8), .ref 109], qw σ3007 α3008 κ ρ, 0, 0)
                    exact hJ2958 _ v3006 σ3007 α3008 g2859 g2860 (by omega) hI3009 hF3011 ((hG3010.1 86 6 (by decide)).trans ((hG3003.1 86 6 (by decide)).trans ((hk93).trans rfl)))
                  · skip
                    refine qr_bipush 280 rfl (by decide) rfl ?_
                    refine qr_goto 290 rfl rfl ?_
                    exact hJ2958 _ 9 σ3000 α3001 g2859 g2860 (by omega) hI3002 hF3004 ((hG3003.1 86 6 (by decide)).trans ((hk93).trans rfl))
                · skip
                  refine qr_iconst 263 rfl rfl ?_
                  refine qr_goto 290 rfl rfl ?_
                  exact hJ2958 _ 0 σ89 α2867 g2859 g2860 (by omega) hI2868 hF2869 ((hk93).trans rfl)
              · skip
                refine qr_lload 161 rfl g2863 rfl ?_
                refine qr_iload 163 rfl g2864 rfl ?_
                refine qr_lshr 164 rfl rfl ?_
                refine qy_canl (fun v3012 hv3012 => ?_)
                refine qr_lconst 165 rfl rfl ?_
                refine qy_vl 1 rfl ?_
                refine qr_land 166 rfl rfl ?_
                refine qy_canl (fun v3013 hv3013 => ?_)
                refine qr_lconst 167 rfl rfl ?_
                refine qy_vl 1 rfl ?_
                have hJ3042 : ∀ (ls : qm_L) (u3040 : Int), qm_get ls 0 = some (.ref 86) → qm_get ls 1 = some (.int (qz x1)) → qm_get ls 2 = some (.int (qz x2)) → qm_get ls 4 = some (.int (qz x4)) → qm_get ls 5 = some (.long (ql x5)) → qm_get ls 9 = some (.int (qz u2865)) → (0 ≤ u3040 ∧ u3040 ≤ 1) → qr_W (qe L xs vb) (d + 44) qx_e227 (fun r w' => ∃ σ' α', w' = qw σ' α' κ ρ ∧ qI σ' α' κ ρ ∧ qFr [(86, 15), (86, 23), (86, 30), (86, 35), (86, 36), (86, 37), (86, 38), (86, 39)] [96, 109] σ α σ' α' ∧ ∃ v : Int, r = some (.int (qz v)) ∧ ((-2147483648) ≤ v ∧ v ≤ 2147483647)) (223, ls, [.int (qz u3040)], qw σ89 α2867 κ ρ, 0, 0) := by
                  intro ls u3040 g3034 g3035 g3036 g3037 g3038 g3039 hf3041
                  refine qr_istore _ 225 rfl (by decide) rfl rfl ?_
                  refine qr_aload_n 226 rfl (qm_gk g3034 (by decide) (Or.inl (by decide))) rfl ?_
                  refine qr_get 229 rfl rfl rfl (by decide) rfl ?_
                  refine qr_bipush 231 rfl (by decide) rfl ?_
                  refine qr_dup2 232 rfl rfl rfl rfl ?_
                  refine qr_iaload 233 rfl rfl (by omega) (by decide) rfl ?_
                  refine qr_topI (fun v3043 hv3043 => ?_)
                  have hs3044 : (-2147483648) ≤ v3043 ∧ v3043 ≤ 2147483647 := by rw [hv3043]; exact hI2868.2.1 109 _ (show _ < 9 by omega)
                  refine qr_iload 235 rfl (qm_ge _ _ _) rfl ?_
                  have hJ3053 : ∀ (ls : qm_L) (u3051 : Int), qm_get ls 0 = some (.ref 86) → qm_get ls 1 = some (.int (qz x1)) → qm_get ls 2 = some (.int (qz x2)) → qm_get ls 4 = some (.int (qz x4)) → qm_get ls 5 = some (.long (ql x5)) → qm_get ls 9 = some (.int (qz u2865)) → (0 ≤ u3051 ∧ u3051 ≤ 1) → qr_W (qe L xs vb) (d + 44) qx_e227 (fun r w' => ∃ σ' α', w' = qw σ' α' κ ρ ∧ qI σ' α' κ ρ ∧ qFr [(86, 15), (86, 23), (86, 30), (86, 35), (86, 36), (86, 37), (86, 38), (86, 39)] [96, 109] σ α σ' α' ∧ ∃ v : Int, r = some (.int (qz v)) ∧ ((-2147483648) ≤ v ∧ v ≤ 2147483647)) (243, ls, [.int (qz u3051), .int (qz v3043), .int (qz 7), .ref 109], qw σ89 α2867 κ ρ, 0, 0) := by
                    intro ls u3051 g3045 g3046 g3047 g3048 g3049 g3050 hf3052
                    refine qr_iadd 244 rfl rfl ?_
                    refine qy_can (fun v3054 hv3054 => ?_)
                    refine qr_iastore 245 rfl (by decide) rfl (by omega) (by decide) rfl ?_
                    refine qy_wA (qw_r α2867 109 (qzu (α2867 109) (7 : Int).toNat v3054)) rfl (fun α3055 e3056 => ?_)
                    have hI3057 : qI σ89 α3055 κ ρ := by rw [e3056]; exact qI_r hI2868 109 _ rfl (show (-2147483648) ≤ v3054 ∧ v3054 ≤ 2147483647 by omega)
                    have hF3058 : qFr [(86, 15), (86, 23), (86, 30), (86, 35), (86, 36), (86, 37), (86, 38), (86, 39)] [96, 109] σ α σ89 α3055 := by rw [e3056]; exact qFr_r hF2869 109 _ (by decide)
                    refine qr_iinc _ 248 rfl g3050 (by decide) rfl rfl ?_
                    refine qr_goto 150 rfl rfl ?_
                    exact ih2872 _ (u2865 + 1) α3055 (by omega) (qm_gk g3045 (by decide) (Or.inl (by decide))) (qm_gk g3046 (by decide) (Or.inl (by decide))) (qm_gk g3047 (by decide) (Or.inl (by decide))) (qm_gk g3048 (by decide) (Or.inl (by decide))) (qm_gk g3049 (by decide) (Or.inl (by decide))) (qm_ge _ _ _) (by omega) hI3057 hF3058
                  refine qr_if_eq 242 238 rfl rfl rfl (by omega) (fun h3059 => ?_) (fun h3059 => ?_)
                  · skip
                    refine qr_iconst 243 rfl rfl ?_
                    exact hJ3053 _ 0 (qm_gk g3034 (by decide) (Or.inl (by decide))) (qm_gk g3035 (by decide) (Or.inl (by decide))) (qm_gk g3036 (by decide) (Or.inl (by decide))) (qm_gk g3037 (by decide) (Or.inl (by decide))) (qm_gk g3038 (by decide) (Or.inl (by decide))) (qm_gk g3039 (by decide) (Or.inr rfl)) (by omega)
                  · skip
                    refine qr_iconst 239 rfl rfl ?_
                    refine qr_goto 243 rfl rfl ?_
                    exact hJ3053 _ 1 (qm_gk g3034 (by decide) (Or.inl (by decide))) (qm_gk g3035 (by decide) (Or.inl (by decide))) (qm_gk g3036 (by decide) (Or.inl (by decide))) (qm_gk g3037 (by decide) (Or.inl (by decide))) (qm_gk g3038 (by decide) (Or.inl (by decide))) (qm_gk g3039 (by decide) (Or.inr rfl)) (by omega)
                refine qr_lc_ne 222 171 rfl rfl rfl rfl (by omega) (by omega) (fun h3060 => ?_) (fun h3060 => ?_)
                · skip
                  refine qr_iconst 223 rfl rfl ?_
                  exact hJ3042 _ 0 g2859 g2860 g2861 g2862 g2863 g2864 (by omega)
                · skip
                  refine qr_aload_n 172 rfl g2859 rfl ?_
                  refine qr_get 175 rfl rfl rfl (by decide) rfl ?_
                  have hs3061 : 0 ≤ σ89 86 41 ∧ σ89 86 41 ≤ 1 := hI2868.1 86 41
                  refine qr_if_ne 187 178 rfl rfl rfl (by omega) (fun h3062 => ?_) (fun h3062 => ?_)
                  · skip
                    refine qr_iload 189 rfl g2864 rfl ?_
                    refine qr_iload_n 190 rfl g2861 rfl ?_
                    refine qr_icmp_eq 218 193 rfl rfl rfl (by omega) (by omega) (fun h3063 => ?_) (fun h3063 => ?_)
                    · skip
                      refine qr_iconst 219 rfl rfl ?_
                      refine qr_goto 223 rfl rfl ?_
                      exact hJ3042 _ 1 g2859 g2860 g2861 g2862 g2863 g2864 (by omega)
                    · skip
                      refine qr_aload_n 194 rfl g2859 rfl ?_
                      refine qr_get 197 rfl rfl rfl (by decide) rfl ?_
                      refine qr_iload_n 198 rfl g2861 rfl ?_
                      refine qr_iaload 199 rfl rfl (by omega) (by decide) rfl ?_
                      refine qr_topI (fun v3064 hv3064 => ?_)
                      have hs3065 : (-1) ≤ v3064 ∧ v3064 ≤ 31 := by rw [hv3064]; exact hI2868.2.1 91 _ (show _ < 32 by omega)
                      have hs3066 := hI2868.2.2.2.2.2.2.1 (x2 : Int).toNat (by omega)
                      refine qr_if_lt 222 202 rfl rfl rfl (by omega) (fun h3067 => ?_) (fun h3067 => ?_)
                      · skip
                        refine qr_iconst 223 rfl rfl ?_
                        exact hJ3042 _ 0 g2859 g2860 g2861 g2862 g2863 g2864 (by omega)
                      · skip
                        refine qr_aload_n 203 rfl g2859 rfl ?_
                        refine qr_get 206 rfl rfl rfl (by decide) rfl ?_
                        refine qr_iload 208 rfl g2864 rfl ?_
                        refine qr_iaload 209 rfl rfl (by omega) (by decide) rfl ?_
                        refine qr_topI (fun v3068 hv3068 => ?_)
                        have hs3069 : (-1) ≤ v3068 ∧ v3068 ≤ 31 := by rw [hv3068]; exact hI2868.2.1 91 _ (show _ < 32 by omega)
                        have hs3070 := hI2868.2.2.2.2.2.2.1 (u2865 : Int).toNat (by omega)
                        refine qr_aload_n 210 rfl g2859 rfl ?_
                        refine qr_get 213 rfl rfl rfl (by decide) rfl ?_
                        refine qr_iload_n 214 rfl g2861 rfl ?_
                        refine qr_iaload 215 rfl rfl (by omega) (by decide) rfl ?_
                        refine qr_topI (fun v3071 hv3071 => ?_)
                        have hs3072 : (-1) ≤ v3071 ∧ v3071 ≤ 31 := by rw [hv3071]; exact hI2868.2.1 91 _ (show _ < 32 by omega)
                        have hs3073 := hI2868.2.2.2.2.2.2.1 (x2 : Int).toNat (by omega)
                        refine qr_icmp_ne 222 218 rfl rfl rfl (by omega) (by omega) (fun h3074 => ?_) (fun h3074 => ?_)
                        · skip
                          refine qr_iconst 223 rfl rfl ?_
                          exact hJ3042 _ 0 g2859 g2860 g2861 g2862 g2863 g2864 (by omega)
                        · skip
                          refine qr_iconst 219 rfl rfl ?_
                          refine qr_goto 223 rfl rfl ?_
                          exact hJ3042 _ 1 g2859 g2860 g2861 g2862 g2863 g2864 (by omega)
                  · skip
                    refine qr_aload_n 179 rfl g2859 rfl ?_
                    refine qr_iload 181 rfl g2864 rfl ?_
                    refine qr_callN 184 rfl rfl rfl (sf_180_86 (d := d + 43) hI2868 (by omega)) ?_
                    rintro _ _ ⟨rfl, v3075, rfl, hv3075⟩
                    show qr_W (qe L xs vb) (d + 44) qx_e227 _ (184, _, [.int (qz v3075)], qw σ89 α2867 κ ρ, 0, 0)
                    refine qr_if_ne 222 187 rfl rfl rfl (by omega) (fun h3076 => ?_) (fun h3076 => ?_)
                    · skip
                      refine qr_iconst 223 rfl rfl ?_
                      exact hJ3042 _ 0 g2859 g2860 g2861 g2862 g2863 g2864 (by omega)
                    · skip
                      refine qr_iload 189 rfl g2864 rfl ?_
                      refine qr_iload_n 190 rfl g2861 rfl ?_
                      refine qr_icmp_eq 218 193 rfl rfl rfl (by omega) (by omega) (fun h3077 => ?_) (fun h3077 => ?_)
                      · skip
                        refine qr_iconst 219 rfl rfl ?_
                        refine qr_goto 223 rfl rfl ?_
                        exact hJ3042 _ 1 g2859 g2860 g2861 g2862 g2863 g2864 (by omega)
                      · skip
                        refine qr_aload_n 194 rfl g2859 rfl ?_
                        refine qr_get 197 rfl rfl rfl (by decide) rfl ?_
                        refine qr_iload_n 198 rfl g2861 rfl ?_
                        refine qr_iaload 199 rfl rfl (by omega) (by decide) rfl ?_
                        refine qr_topI (fun v3078 hv3078 => ?_)
                        have hs3079 : (-1) ≤ v3078 ∧ v3078 ≤ 31 := by rw [hv3078]; exact hI2868.2.1 91 _ (show _ < 32 by omega)
                        have hs3080 := hI2868.2.2.2.2.2.2.1 (x2 : Int).toNat (by omega)
                        refine qr_if_lt 222 202 rfl rfl rfl (by omega) (fun h3081 => ?_) (fun h3081 => ?_)
                        · skip
                          refine qr_iconst 223 rfl rfl ?_
                          exact hJ3042 _ 0 g2859 g2860 g2861 g2862 g2863 g2864 (by omega)
                        · skip
                          refine qr_aload_n 203 rfl g2859 rfl ?_
                          refine qr_get 206 rfl rfl rfl (by decide) rfl ?_
                          refine qr_iload 208 rfl g2864 rfl ?_
                          refine qr_iaload 209 rfl rfl (by omega) (by decide) rfl ?_
                          refine qr_topI (fun v3082 hv3082 => ?_)
                          have hs3083 : (-1) ≤ v3082 ∧ v3082 ≤ 31 := by rw [hv3082]; exact hI2868.2.1 91 _ (show _ < 32 by omega)
                          have hs3084 := hI2868.2.2.2.2.2.2.1 (u2865 : Int).toNat (by omega)
                          refine qr_aload_n 210 rfl g2859 rfl ?_
                          refine qr_get 213 rfl rfl rfl (by decide) rfl ?_
                          refine qr_iload_n 214 rfl g2861 rfl ?_
                          refine qr_iaload 215 rfl rfl (by omega) (by decide) rfl ?_
                          refine qr_topI (fun v3085 hv3085 => ?_)
                          have hs3086 : (-1) ≤ v3085 ∧ v3085 ≤ 31 := by rw [hv3085]; exact hI2868.2.1 91 _ (show _ < 32 by omega)
                          have hs3087 := hI2868.2.2.2.2.2.2.1 (x2 : Int).toNat (by omega)
                          refine qr_icmp_ne 222 218 rfl rfl rfl (by omega) (by omega) (fun h3088 => ?_) (fun h3088 => ?_)
                          · skip
                            refine qr_iconst 223 rfl rfl ?_
                            exact hJ3042 _ 0 g2859 g2860 g2861 g2862 g2863 g2864 (by omega)
                          · skip
                            refine qr_iconst 219 rfl rfl ?_
                            refine qr_goto 223 rfl rfl ?_
                            exact hJ3042 _ 1 g2859 g2860 g2861 g2862 g2863 g2864 (by omega)
          exact hL2871 ((32 - 0 + 1 : Int)).toNat _ 0 α100 (by omega) (qm_gk g83 (by decide) (Or.inl (by decide))) (qm_gk g84 (by decide) (Or.inl (by decide))) (qm_gk g85 (by decide) (Or.inl (by decide))) (qm_gk g86 (by decide) (Or.inl (by decide))) (qm_gk g87 (by decide) (Or.inl (by decide))) (qm_ge _ _ _) (by omega) hI102 hF103
        refine qr_icmp_ne 132 127 rfl rfl rfl (by omega) (by omega) (fun h3089 => ?_) (fun h3089 => ?_)
        · skip
          refine qr_aload_n 133 rfl g58 rfl ?_
          refine qr_iload_n 134 rfl g60 rfl ?_
          refine qr_iload_n 135 rfl g61 rfl ?_
          refine qr_callN 138 rfl rfl rfl (sf_186_86 (d := d + 41) hI74 (by omega) (by omega)) ?_
          rintro _ _ ⟨σ3091, α3092, rfl, hI3093, hG3094, v3090, rfl, hv3090⟩
          have hF3095 : qFr [(86, 15), (86, 23), (86, 30), (86, 35), (86, 36), (86, 37), (86, 38), (86, 39)] [96, 109] σ α σ3091 α3092 := qFr_t hF76 hG3094 (by decide) (by decide)
          show qr_W (qe L xs vb) (d + 44) qx_e227 _ (138, _, [.int (qz v3090), .int (qz 6), .ref 109], qw σ3091 α3092 κ ρ, 0, 0)
          exact hJ95 _ v3090 σ3091 α3092 g58 g59 g60 g62 g63 (by omega) hI3093 hF3095 ((hG3094.1 86 6 (by decide)).trans ((hG75.1 86 6 (by decide)).trans ((hG39.1 86 6 (by decide)).trans ((hG5.1 86 6 (by decide)).trans rfl))))
        · skip
          refine qr_bipush 129 rfl (by decide) rfl ?_
          refine qr_goto 138 rfl rfl ?_
          exact hJ95 _ 9 σ72 α73 g58 g59 g60 g62 g63 (by omega) hI74 hF76 ((hG75.1 86 6 (by decide)).trans ((hG39.1 86 6 (by decide)).trans ((hG5.1 86 6 (by decide)).trans rfl)))
      refine qr_if_eq 108 104 rfl rfl rfl (by omega) (fun h3096 => ?_) (fun h3096 => ?_)
      · skip
        refine qr_iconst 109 rfl rfl ?_
        exact hJ66 _ 0 g22 g23 g24 g25 g26 g27 (by omega)
      · skip
        refine qr_iconst 105 rfl rfl ?_
        refine qr_goto 109 rfl rfl ?_
        exact hJ66 _ 1 g22 g23 g24 g25 g26 g27 (by omega)
    refine qr_icmp_ne 45 40 rfl rfl rfl (by omega) (by omega) (fun h3097 => ?_) (fun h3097 => ?_)
    · skip
      refine qr_iload 47 rfl g14 rfl ?_
      exact hJ31 _ v1 g7 g8 g9 g10 g11 g12 g13 (by omega)
    · skip
      refine qr_bipush 42 rfl (by decide) rfl ?_
      refine qr_goto 47 rfl rfl ?_
      exact hJ31 _ 9 g7 g8 g9 g10 g11 g12 g13 (by omega)
  refine qr_icmp_ne 26 22 rfl rfl rfl (by omega) (by omega) (fun h3098 => ?_) (fun h3098 => ?_)
  · skip
    refine qr_iconst 27 rfl rfl ?_
    exact hJ17 _ 1 rfl rfl rfl rfl rfl rfl rfl rfl (by omega)
  · skip
    refine qr_iconst 23 rfl rfl ?_
    refine qr_goto 27 rfl rfl ?_
    exact hJ17 _ 0 rfl rfl rfl rfl rfl rfl rfl rfl (by omega)

set_option maxHeartbeats 4000000 in
set_option maxRecDepth 20000 in
/-- OneRoofModel.mustNow -/
theorem sf_226_86 {L : Nat} {xs : Nat → Int} {vb : Bool} {d : Nat} {σ α : Nat → Nat → Int} {κ : Nat → Option Nat} {ρ : Nat} {x1 : Int} {x2 : Int} {x3 : Int} {x4 : Int} (hI : qI σ α κ ρ) (r1 : 0 ≤ x1 ∧ x1 ≤ 31) (r2 : 0 ≤ x2 ∧ x2 ≤ 31) (r3 : (-9223372036854775808) ≤ x3 ∧ x3 ≤ 9223372036854775807) (r4 : (-2147483648) ≤ x4 ∧ x4 ≤ 2147483647) (p0 : 1 ≤ σ 86 6) : qm_T (qe L xs vb) (d + 46) 226 [.ref 86, .int (qz x1), .int (qz x2), .long (ql x3), .int (qz x4)] (qw σ α κ ρ) (fun r w' => ∃ σ' α', w' = qw σ' α' κ ρ ∧ qI σ' α' κ ρ ∧ qFr [(86, 15), (86, 23), (86, 30), (86, 35), (86, 36), (86, 37), (86, 38), (86, 39)] [96, 109] σ α σ' α' ∧ ∃ v : Int, r = some (.int (qz v)) ∧ ((-2147483648) ≤ v ∧ v ≤ 2147483647)) := by
  refine qr_start (d := d + 45) qv_e226 (Nat.le_of_ble_eq_true rfl) ?_
  show qr_W (qe L xs vb) (d + 45) qx_e226 _ (0, [(0, .ref 86), (1, .int (qz x1)), (2, .int (qz x2)), (3, .long (ql x3)), (5, .int (qz x4))], [], _, 0, 0)
  have hF0 := qFr_rf [(86, 15), (86, 23), (86, 30), (86, 35), (86, 36), (86, 37), (86, 38), (86, 39)] [96, 109] σ α
  have hz86_6 : 0 ≤ σ 86 6 ∧ σ 86 6 ≤ 32 := hI.1 86 6
  refine qr_aload_n 1 rfl rfl rfl ?_
  refine qr_iconst 2 rfl rfl ?_
  refine qr_iload_n 3 rfl rfl rfl ?_
  refine qr_iload_n 4 rfl rfl rfl ?_
  refine qr_iconst 5 rfl rfl ?_
  refine qr_lload_n 6 rfl rfl rfl ?_
  refine qr_iload 8 rfl rfl rfl ?_
  refine qr_callN 11 rfl rfl rfl (sf_227_86 (d := d + 0) hI (by omega) (by omega) (by omega) (by omega) (by omega) (by omega) (by omega)) ?_
  rintro _ _ ⟨σ2, α3, rfl, hI4, hG5, v1, rfl, hv1⟩
  have hF6 : qFr [(86, 15), (86, 23), (86, 30), (86, 35), (86, 36), (86, 37), (86, 38), (86, 39)] [96, 109] σ α σ2 α3 := qFr_t hF0 hG5 (by decide) (by decide)
  show qr_W (qe L xs vb) (d + 45) qx_e226 _ (11, _, [.int (qz v1)], qw σ2 α3 κ ρ, 0, 0)
  refine qr_retI rfl rfl (by decide) (by decide) ?_
  exact ⟨_, _, rfl, hI4, hF6, v1, rfl, by omega⟩

set_option maxHeartbeats 4000000 in
set_option maxRecDepth 20000 in
/-- OneRoofModel.must -/
theorem sf_223_86 {L : Nat} {xs : Nat → Int} {vb : Bool} {d : Nat} {σ α : Nat → Nat → Int} {κ : Nat → Option Nat} {ρ : Nat} {x1 : Int} {x2 : Int} {x3 : Int} (hI : qI σ α κ ρ) (r1 : (-2147483648) ≤ x1 ∧ x1 ≤ 2147483647) (r2 : (-9223372036854775808) ≤ x2 ∧ x2 ≤ 9223372036854775807) (r3 : (-2147483648) ≤ x3 ∧ x3 ≤ 2147483647) : qm_T (qe L xs vb) (d + 47) 223 [.ref 86, .int (qz x1), .long (ql x2), .int (qz x3)] (qw σ α κ ρ) (fun r w' => ∃ σ' α', w' = qw σ' α' κ ρ ∧ qI σ' α' κ ρ ∧ qFr [(86, 15), (86, 23), (86, 30), (86, 35), (86, 36), (86, 37), (86, 38), (86, 39)] [96, 109] σ α σ' α' ∧ ∃ v : Int, r = some (.int (qz v)) ∧ ((-2147483648) ≤ v ∧ v ≤ 2147483647)) := by
  refine qr_start (d := d + 46) qv_e223 (Nat.le_of_ble_eq_true rfl) ?_
  show qr_W (qe L xs vb) (d + 46) qx_e223 _ (0, [(0, .ref 86), (1, .int (qz x1)), (2, .long (ql x2)), (4, .int (qz x3))], [], _, 0, 0)
  have hF0 := qFr_rf [(86, 15), (86, 23), (86, 30), (86, 35), (86, 36), (86, 37), (86, 38), (86, 39)] [96, 109] σ α
  refine qr_aload_n 1 rfl rfl rfl ?_
  refine qr_iload_n 2 rfl rfl rfl ?_
  refine qr_callN 5 rfl rfl rfl (sf_190_86 (d := d + 43) hI (by omega)) ?_
  have hs3 : 0 ≤ σ 86 6 ∧ σ 86 6 ≤ 32 := hI.1 86 6
  rintro _ _ ⟨rfl, v1, rfl, hv1, hp2⟩
  show qr_W (qe L xs vb) (d + 46) qx_e223 _ (5, _, [.int (qz v1)], qw σ α κ ρ, 0, 0)
  refine qr_if_eq 24 8 rfl rfl rfl (by omega) (fun h4 => ?_) (fun h4 => ?_)
  · skip
    refine qr_ldcw (-2000000000) 27 rfl (by decide) rfl ?_
    refine qr_retI rfl rfl (by decide) (by decide) ?_
    exact ⟨_, _, rfl, hI, hF0, (-2000000000), rfl, by omega⟩
  · skip
    refine qr_aload_n 9 rfl rfl rfl ?_
    refine qr_lload_n 10 rfl rfl rfl ?_
    refine qr_callN 13 rfl rfl rfl (sf_224_86 (d := d + 45) hI (by omega)) ?_
    rintro _ _ ⟨rfl, v5, rfl, hv5⟩
    show qr_W (qe L xs vb) (d + 46) qx_e223 _ (13, _, [.int (qz v5)], qw σ α κ ρ, 0, 0)
    refine qr_if_eq 24 16 rfl rfl rfl (by omega) (fun h6 => ?_) (fun h6 => ?_)
    · skip
      refine qr_ldcw (-2000000000) 27 rfl (by decide) rfl ?_
      refine qr_retI rfl rfl (by decide) (by decide) ?_
      exact ⟨_, _, rfl, hI, hF0, (-2000000000), rfl, by omega⟩
    · skip
      refine qr_iload 18 rfl rfl rfl ?_
      refine qr_callN 21 rfl rfl rfl (sf_191 (d := d + 44) hI (by omega)) ?_
      rintro _ _ ⟨rfl, v7, rfl, hv7, hp8⟩
      show qr_W (qe L xs vb) (d + 46) qx_e223 _ (21, _, [.int (qz v7)], qw σ α κ ρ, 0, 0)
      refine qr_if_ne 28 24 rfl rfl rfl (by omega) (fun h9 => ?_) (fun h9 => ?_)
      · skip
        refine qr_lload_n 29 rfl rfl rfl ?_
        refine qr_aload_n 30 rfl rfl rfl ?_
        refine qr_get 33 rfl rfl rfl (by decide) rfl ?_
        have hs10 : (-9223372036854775808) ≤ σ 86 10 ∧ σ 86 10 ≤ 9223372036854775807 := hI.1 86 10
        refine qr_ldc2 (-1) 36 rfl (by decide) rfl ?_
        refine qr_lxor 37 rfl rfl ?_
        refine qy_canl (fun v11 hv11 => ?_)
        refine qr_land 38 rfl rfl ?_
        refine qy_canl (fun v12 hv12 => ?_)
        refine qr_lstore _ 40 rfl (by decide) rfl rfl ?_
        refine qr_lload 42 rfl rfl rfl ?_
        refine qr_iload_n 43 rfl rfl rfl ?_
        refine qr_bipush 45 rfl (by decide) rfl ?_
        refine qr_idiv 46 rfl (by omega) (by omega) rfl ?_
        refine qr_callN 49 rfl rfl rfl (sf_225 (d := d + 45) hI (by omega) (by omega)) ?_
        rintro _ _ ⟨rfl, v13, rfl, hv13⟩
        show qr_W (qe L xs vb) (d + 46) qx_e223 _ (49, _, [.int (qz v13)], qw σ α κ ρ, 0, 0)
        refine qr_if_eq 83 52 rfl rfl rfl (by omega) (fun h14 => ?_) (fun h14 => ?_)
        · skip
          refine qr_ldcw (-2000000000) 86 rfl (by decide) rfl ?_
          refine qr_retI rfl rfl (by decide) (by decide) ?_
          exact ⟨_, _, rfl, hI, hF0, (-2000000000), rfl, by omega⟩
        · skip
          refine qr_lload 54 rfl rfl rfl ?_
          refine qr_iload_n 55 rfl rfl rfl ?_
          refine qr_bipush 57 rfl (by decide) rfl ?_
          refine qr_irem 58 rfl (by omega) (by omega) rfl ?_
          refine qr_callN 61 rfl rfl rfl (sf_225 (d := d + 45) hI (by omega) (by omega)) ?_
          rintro _ _ ⟨rfl, v15, rfl, hv15⟩
          show qr_W (qe L xs vb) (d + 46) qx_e223 _ (61, _, [.int (qz v15)], qw σ α κ ρ, 0, 0)
          refine qr_if_eq 83 64 rfl rfl rfl (by omega) (fun h16 => ?_) (fun h16 => ?_)
          · skip
            refine qr_ldcw (-2000000000) 86 rfl (by decide) rfl ?_
            refine qr_retI rfl rfl (by decide) (by decide) ?_
            exact ⟨_, _, rfl, hI, hF0, (-2000000000), rfl, by omega⟩
          · skip
            refine qr_aload_n 65 rfl rfl rfl ?_
            refine qr_iload_n 66 rfl rfl rfl ?_
            refine qr_bipush 68 rfl (by decide) rfl ?_
            refine qr_idiv 69 rfl (by omega) (by omega) rfl ?_
            refine qr_iload_n 70 rfl rfl rfl ?_
            refine qr_bipush 72 rfl (by decide) rfl ?_
            refine qr_irem 73 rfl (by omega) (by omega) rfl ?_
            refine qr_lload 75 rfl rfl rfl ?_
            refine qr_iload 77 rfl rfl rfl ?_
            refine qr_callN 80 rfl rfl rfl (sf_226_86 (d := d + 0) hI (by omega) (by omega) (by omega) (by omega) (by omega)) ?_
            rintro _ _ ⟨σ18, α19, rfl, hI20, hG21, v17, rfl, hv17⟩
            have hF22 : qFr [(86, 15), (86, 23), (86, 30), (86, 35), (86, 36), (86, 37), (86, 38), (86, 39)] [96, 109] σ α σ18 α19 := qFr_t hF0 hG21 (by decide) (by decide)
            show qr_W (qe L xs vb) (d + 46) qx_e223 _ (80, _, [.int (qz v17)], qw σ18 α19 κ ρ, 0, 0)
            refine qr_goto 86 rfl rfl ?_
            refine qr_retI rfl rfl (by decide) (by decide) ?_
            exact ⟨_, _, rfl, hI20, hF22, v17, rfl, by omega⟩
      · skip
        refine qr_ldcw (-2000000000) 27 rfl (by decide) rfl ?_
        refine qr_retI rfl rfl (by decide) (by decide) ?_
        exact ⟨_, _, rfl, hI, hF0, (-2000000000), rfl, by omega⟩

set_option maxHeartbeats 4000000 in
set_option maxRecDepth 20000 in
/-- OneRoofModel.together -/
theorem sf_228_86 {L : Nat} {xs : Nat → Int} {vb : Bool} {d : Nat} {σ α : Nat → Nat → Int} {κ : Nat → Option Nat} {ρ : Nat} {x1 : Int} {x2 : Int} {x3 : Int} (hI : qI σ α κ ρ) (r1 : (-9223372036854775808) ≤ x1 ∧ x1 ≤ 9223372036854775807) (r2 : (-2147483648) ≤ x2 ∧ x2 ≤ 2147483647) (r3 : (-2147483648) ≤ x3 ∧ x3 ≤ 2147483647) : qm_T (qe L xs vb) (d + 47) 228 [.ref 86, .long (ql x1), .int (qz x2), .int (qz x3)] (qw σ α κ ρ) (fun r w' => ∃ σ' α', w' = qw σ' α' κ ρ ∧ qI σ' α' κ ρ ∧ qFr [(86, 15), (86, 23), (86, 30), (86, 35), (86, 36), (86, 37), (86, 38), (86, 39)] [96, 109] σ α σ' α' ∧ ∃ v : Int, r = some (.int (qz v)) ∧ ((-2147483648) ≤ v ∧ v ≤ 2147483647)) := by
  refine qr_start (d := d + 46) qv_e228 (Nat.le_of_ble_eq_true rfl) ?_
  show qr_W (qe L xs vb) (d + 46) qx_e228 _ (0, [(0, .ref 86), (1, .long (ql x1)), (3, .int (qz x2)), (4, .int (qz x3))], [], _, 0, 0)
  have hF0 := qFr_rf [(86, 15), (86, 23), (86, 30), (86, 35), (86, 36), (86, 37), (86, 38), (86, 39)] [96, 109] σ α
  refine qr_aload_n 1 rfl rfl rfl ?_
  refine qr_lload_n 2 rfl rfl rfl ?_
  refine qr_callN 5 rfl rfl rfl (sf_224_86 (d := d + 45) hI (by omega)) ?_
  rintro _ _ ⟨rfl, v1, rfl, hv1⟩
  show qr_W (qe L xs vb) (d + 46) qx_e228 _ (5, _, [.int (qz v1)], qw σ α κ ρ, 0, 0)
  refine qr_if_eq 28 8 rfl rfl rfl (by omega) (fun h2 => ?_) (fun h2 => ?_)
  · skip
    refine qr_iconst 29 rfl rfl ?_
    refine qr_retI rfl rfl (by decide) (by decide) ?_
    exact ⟨_, _, rfl, hI, hF0, (-1), rfl, by omega⟩
  · skip
    refine qr_iload_n 9 rfl rfl rfl ?_
    refine qr_callN 12 rfl rfl rfl (sf_229 (d := d + 43) hI (by omega)) ?_
    rintro _ _ ⟨rfl, v3, rfl, hv3, hp4⟩
    show qr_W (qe L xs vb) (d + 46) qx_e228 _ (12, _, [.int (qz v3)], qw σ α κ ρ, 0, 0)
    refine qr_if_eq 28 15 rfl rfl rfl (by omega) (fun h5 => ?_) (fun h5 => ?_)
    · skip
      refine qr_iconst 29 rfl rfl ?_
      refine qr_retI rfl rfl (by decide) (by decide) ?_
      exact ⟨_, _, rfl, hI, hF0, (-1), rfl, by omega⟩
    · skip
      refine qr_iload 17 rfl rfl rfl ?_
      refine qr_i2l 18 rfl (by omega) rfl ?_
      refine qr_lconst 19 rfl rfl ?_
      refine qy_vl 0 rfl ?_
      refine qr_ldc2 2 22 rfl (by decide) rfl ?_
      refine qr_callN 25 rfl rfl rfl (sf_175 (d := d + 45) hI (by omega) (by omega) (by omega)) ?_
      rintro _ _ ⟨rfl, v6, rfl, hv6, hp7⟩
      show qr_W (qe L xs vb) (d + 46) qx_e228 _ (25, _, [.int (qz v6)], qw σ α κ ρ, 0, 0)
      refine qr_if_ne 30 28 rfl rfl rfl (by omega) (fun h8 => ?_) (fun h8 => ?_)
      · skip
        refine qr_lload_n 31 rfl rfl rfl ?_
        refine qr_aload_n 32 rfl rfl rfl ?_
        refine qr_get 35 rfl rfl rfl (by decide) rfl ?_
        have hs9 : (-9223372036854775808) ≤ σ 86 10 ∧ σ 86 10 ≤ 9223372036854775807 := hI.1 86 10
        refine qr_ldc2 (-1) 38 rfl (by decide) rfl ?_
        refine qr_lxor 39 rfl rfl ?_
        refine qy_canl (fun v10 hv10 => ?_)
        refine qr_land 40 rfl rfl ?_
        refine qy_canl (fun v11 hv11 => ?_)
        refine qr_lstore _ 42 rfl (by decide) rfl rfl ?_
        refine qr_iload_n 43 rfl rfl rfl ?_
        refine qr_sipush 46 rfl (by decide) rfl ?_
        refine qr_idiv 47 rfl (by omega) (by omega) rfl ?_
        refine qr_istore _ 49 rfl (by decide) rfl rfl ?_
        have hL44161 : ∀ (n : Nat) (ls : qm_L) (u44153 : Int) (σ44154 α44155 : Nat → Nat → Int), 10000 - u44153 < (n : Int) → qm_get ls 0 = some (.ref 86) → qm_get ls 3 = some (.int (qz x2)) → qm_get ls 4 = some (.int (qz x3)) → qm_get ls 5 = some (.long (ql v11)) → qm_get ls 7 = some (.int (qz u44153)) → (0 ≤ u44153 ∧ u44153 ≤ 10000) → qI σ44154 α44155 κ ρ → qFr [(86, 15), (86, 23), (86, 30), (86, 35), (86, 36), (86, 37), (86, 38), (86, 39)] [96, 109] σ α σ44154 α44155 → σ44154 86 10 = (σ 86 10) → (x2 / 10000) ≤ u44153 → qr_W (qe L xs vb) (d + 46) qx_e228 (fun r w' => ∃ σ' α', w' = qw σ' α' κ ρ ∧ qI σ' α' κ ρ ∧ qFr [(86, 15), (86, 23), (86, 30), (86, 35), (86, 36), (86, 37), (86, 38), (86, 39)] [96, 109] σ α σ' α' ∧ ∃ v : Int, r = some (.int (qz v)) ∧ ((-2147483648) ≤ v ∧ v ≤ 2147483647)) (49, ls, [], qw σ44154 α44155 κ ρ, 0, 0) := by
          intro n
          induction n with
          | zero => intro ls u44153 σ44154 α44155 hm g44148 g44149 g44150 g44151 g44152 hf44159 hI44156 hF44157 hk44158 hx44160; exact False.elim (by omega)
          | succ n ih44162 =>
            intro ls u44153 σ44154 α44155 hm g44148 g44149 g44150 g44151 g44152 hf44159 hI44156 hF44157 hk44158 hx44160
            refine qr_iload 51 rfl g44152 rfl ?_
            refine qr_iload_n 52 rfl g44149 rfl ?_
            refine qr_sipush 55 rfl (by decide) rfl ?_
            refine qr_irem 56 rfl (by omega) (by omega) rfl ?_
            refine qr_icmp_gt 167 59 rfl rfl rfl (by omega) (by omega) (fun h44163 => ?_) (fun h44163 => ?_)
            · skip
              refine qr_bipush 169 rfl (by decide) rfl ?_
              refine qr_retI rfl rfl (by decide) (by decide) ?_
              exact ⟨_, _, rfl, hI44156, hF44157, (-2), rfl, by omega⟩
            · skip
              refine qr_iconst 60 rfl rfl ?_
              refine qr_istore _ 62 rfl (by decide) rfl rfl ?_
              have hL47620 : ∀ (n : Nat) (ls : qm_L) (u47613 : Int) (σ47614 α47615 : Nat → Nat → Int), 32 - u47613 < (n : Int) → qm_get ls 0 = some (.ref 86) → qm_get ls 3 = some (.int (qz x2)) → qm_get ls 4 = some (.int (qz x3)) → qm_get ls 5 = some (.long (ql v11)) → qm_get ls 7 = some (.int (qz u44153)) → qm_get ls 8 = some (.int (qz u47613)) → (0 ≤ u47613 ∧ u47613 ≤ 32) → qI σ47614 α47615 κ ρ → qFr [(86, 15), (86, 23), (86, 30), (86, 35), (86, 36), (86, 37), (86, 38), (86, 39)] [96, 109] σ α σ47614 α47615 → σ47614 86 10 = (σ 86 10) → qr_W (qe L xs vb) (d + 46) qx_e228 (fun r w' => ∃ σ' α', w' = qw σ' α' κ ρ ∧ qI σ' α' κ ρ ∧ qFr [(86, 15), (86, 23), (86, 30), (86, 35), (86, 36), (86, 37), (86, 38), (86, 39)] [96, 109] σ α σ' α' ∧ ∃ v : Int, r = some (.int (qz v)) ∧ ((-2147483648) ≤ v ∧ v ≤ 2147483647)) (62, ls, [], qw σ47614 α47615 κ ρ, 0, 0) := by
                intro n
                induction n with
                | zero => intro ls u47613 σ47614 α47615 hm g47607 g47608 g47609 g47610 g47611 g47612 hf47619 hI47616 hF47617 hk47618; exact False.elim (by omega)
                | succ n ih47621 =>
                  intro ls u47613 σ47614 α47615 hm g47607 g47608 g47609 g47610 g47611 g47612 hf47619 hI47616 hF47617 hk47618
                  refine qr_iload 64 rfl g47612 rfl ?_
                  refine qr_aload_n 65 rfl g47607 rfl ?_
                  refine qr_get 68 rfl rfl rfl (by decide) rfl ?_
                  have hs47622 : 0 ≤ σ47614 86 6 ∧ σ47614 86 6 ≤ 32 := hI47616.1 86 6
                  refine qr_icmp_ge 161 71 rfl rfl rfl (by omega) (by omega) (fun h47623 => ?_) (fun h47623 => ?_)
                  · skip
                    refine qr_iinc _ 164 rfl g47611 (by decide) rfl rfl ?_
                    refine qr_goto 49 rfl rfl ?_
                    exact ih44162 _ (u44153 + 1) σ47614 α47615 (by omega) (qm_gk g47607 (by decide) (Or.inl (by decide))) (qm_gk g47608 (by decide) (Or.inl (by decide))) (qm_gk g47609 (by decide) (Or.inl (by decide))) (qm_gk g47610 (by decide) (Or.inl (by decide))) (qm_ge _ _ _) (by omega) hI47616 hF47617 ((hk47618).trans rfl) (by omega)
                  · skip
                    refine qr_iconst 72 rfl rfl ?_
                    refine qr_istore _ 74 rfl (by decide) rfl rfl ?_
                    have hL47849 : ∀ (n : Nat) (ls : qm_L) (u47841 : Int) (σ47842 α47843 : Nat → Nat → Int), 32 - u47841 < (n : Int) → qm_get ls 0 = some (.ref 86) → qm_get ls 3 = some (.int (qz x2)) → qm_get ls 4 = some (.int (qz x3)) → qm_get ls 5 = some (.long (ql v11)) → qm_get ls 7 = some (.int (qz u44153)) → qm_get ls 8 = some (.int (qz u47613)) → qm_get ls 9 = some (.int (qz u47841)) → (0 ≤ u47841 ∧ u47841 ≤ 32) → qI σ47842 α47843 κ ρ → qFr [(86, 15), (86, 23), (86, 30), (86, 35), (86, 36), (86, 37), (86, 38), (86, 39)] [96, 109] σ α σ47842 α47843 → σ47842 86 6 = (σ47614 86 6) → σ47842 86 10 = (σ 86 10) → qr_W (qe L xs vb) (d + 46) qx_e228 (fun r w' => ∃ σ' α', w' = qw σ' α' κ ρ ∧ qI σ' α' κ ρ ∧ qFr [(86, 15), (86, 23), (86, 30), (86, 35), (86, 36), (86, 37), (86, 38), (86, 39)] [96, 109] σ α σ' α' ∧ ∃ v : Int, r = some (.int (qz v)) ∧ ((-2147483648) ≤ v ∧ v ≤ 2147483647)) (74, ls, [], qw σ47842 α47843 κ ρ, 0, 0) := by
                      intro n
                      induction n with
                      | zero => intro ls u47841 σ47842 α47843 hm g47834 g47835 g47836 g47837 g47838 g47839 g47840 hf47848 hI47844 hF47845 hk47846 hk47847; exact False.elim (by omega)
                      | succ n ih47850 =>
                        intro ls u47841 σ47842 α47843 hm g47834 g47835 g47836 g47837 g47838 g47839 g47840 hf47848 hI47844 hF47845 hk47846 hk47847
                        refine qr_iload 76 rfl g47840 rfl ?_
                        refine qr_aload_n 77 rfl g47834 rfl ?_
                        refine qr_get 80 rfl rfl rfl (by decide) rfl ?_
                        refine qy_v (σ47614 86 6) ((hk47846).trans rfl) ?_
                        refine qr_icmp_ge 155 83 rfl rfl rfl (by omega) (by omega) (fun h47851 => ?_) (fun h47851 => ?_)
                        · skip
                          refine qr_iinc _ 158 rfl g47839 (by decide) rfl rfl ?_
                          refine qr_goto 62 rfl rfl ?_
                          exact ih47621 _ (u47613 + 1) σ47842 α47843 (by omega) (qm_gk g47834 (by decide) (Or.inl (by decide))) (qm_gk g47835 (by decide) (Or.inl (by decide))) (qm_gk g47836 (by decide) (Or.inl (by decide))) (qm_gk g47837 (by decide) (Or.inl (by decide))) (qm_gk g47838 (by decide) (Or.inr rfl)) (qm_ge _ _ _) (by omega) hI47844 hF47845 ((hk47847).trans rfl)
                        · skip
                          refine qr_lload 85 rfl g47837 rfl ?_
                          refine qr_iload 87 rfl g47839 rfl ?_
                          refine qr_callN 90 rfl rfl rfl (sf_225 (d := d + 45) hI47844 (by omega) (by omega)) ?_
                          rintro _ _ ⟨rfl, v47852, rfl, hv47852⟩
                          show qr_W (qe L xs vb) (d + 46) qx_e228 _ (90, _, [.int (qz v47852)], qw σ47842 α47843 κ ρ, 0, 0)
                          refine qr_if_eq 155 93 rfl rfl rfl (by omega) (fun h47853 => ?_) (fun h47853 => ?_)
                          · skip
                            refine qr_iinc _ 158 rfl g47839 (by decide) rfl rfl ?_
                            refine qr_goto 62 rfl rfl ?_
                            exact ih47621 _ (u47613 + 1) σ47842 α47843 (by omega) (qm_gk g47834 (by decide) (Or.inl (by decide))) (qm_gk g47835 (by decide) (Or.inl (by decide))) (qm_gk g47836 (by decide) (Or.inl (by decide))) (qm_gk g47837 (by decide) (Or.inl (by decide))) (qm_gk g47838 (by decide) (Or.inr rfl)) (qm_ge _ _ _) (by omega) hI47844 hF47845 ((hk47847).trans rfl)
                          · skip
                            refine qr_iload 95 rfl g47839 rfl ?_
                            refine qr_iload 97 rfl g47840 rfl ?_
                            refine qr_icmp_eq 149 100 rfl rfl rfl (by omega) (by omega) (fun h47854 => ?_) (fun h47854 => ?_)
                            · skip
                              refine qr_iinc _ 152 rfl g47840 (by decide) rfl rfl ?_
                              refine qr_goto 74 rfl rfl ?_
                              exact ih47850 _ (u47841 + 1) σ47842 α47843 (by omega) (qm_gk g47834 (by decide) (Or.inl (by decide))) (qm_gk g47835 (by decide) (Or.inl (by decide))) (qm_gk g47836 (by decide) (Or.inl (by decide))) (qm_gk g47837 (by decide) (Or.inl (by decide))) (qm_gk g47838 (by decide) (Or.inl (by decide))) (qm_gk g47839 (by decide) (Or.inr rfl)) (qm_ge _ _ _) (by omega) hI47844 hF47845 ((hk47846).trans rfl) ((hk47847).trans rfl)
                            · skip
                              refine qr_lload 102 rfl g47837 rfl ?_
                              refine qr_iload 104 rfl g47840 rfl ?_
                              refine qr_callN 107 rfl rfl rfl (sf_225 (d := d + 45) hI47844 (by omega) (by omega)) ?_
                              rintro _ _ ⟨rfl, v47855, rfl, hv47855⟩
                              show qr_W (qe L xs vb) (d + 46) qx_e228 _ (107, _, [.int (qz v47855)], qw σ47842 α47843 κ ρ, 0, 0)
                              refine qr_if_eq 149 110 rfl rfl rfl (by omega) (fun h47856 => ?_) (fun h47856 => ?_)
                              · skip
                                refine qr_iinc _ 152 rfl g47840 (by decide) rfl rfl ?_
                                refine qr_goto 74 rfl rfl ?_
                                exact ih47850 _ (u47841 + 1) σ47842 α47843 (by omega) (qm_gk g47834 (by decide) (Or.inl (by decide))) (qm_gk g47835 (by decide) (Or.inl (by decide))) (qm_gk g47836 (by decide) (Or.inl (by decide))) (qm_gk g47837 (by decide) (Or.inl (by decide))) (qm_gk g47838 (by decide) (Or.inl (by decide))) (qm_gk g47839 (by decide) (Or.inr rfl)) (qm_ge _ _ _) (by omega) hI47844 hF47845 ((hk47846).trans rfl) ((hk47847).trans rfl)
                              · skip
                                refine qr_aload_n 111 rfl g47834 rfl ?_
                                refine qr_iload 113 rfl g47839 rfl ?_
                                refine qr_iload 115 rfl g47840 rfl ?_
                                refine qr_lload 117 rfl g47837 rfl ?_
                                refine qr_iload 119 rfl g47838 rfl ?_
                                refine qr_callN 122 rfl rfl rfl (sf_226_86 (d := d + 0) hI47844 (by omega) (by omega) (by omega) (by omega) (by omega)) ?_
                                rintro _ _ ⟨σ47858, α47859, rfl, hI47860, hG47861, v47857, rfl, hv47857⟩
                                have hF47862 : qFr [(86, 15), (86, 23), (86, 30), (86, 35), (86, 36), (86, 37), (86, 38), (86, 39)] [96, 109] σ α σ47858 α47859 := qFr_t hF47845 hG47861 (by decide) (by decide)
                                show qr_W (qe L xs vb) (d + 46) qx_e228 _ (122, _, [.int (qz v47857)], qw σ47858 α47859 κ ρ, 0, 0)
                                refine qr_if_eq 149 125 rfl rfl rfl (by omega) (fun h47863 => ?_) (fun h47863 => ?_)
                                · skip
                                  refine qr_iinc _ 152 rfl g47840 (by decide) rfl rfl ?_
                                  refine qr_goto 74 rfl rfl ?_
                                  exact ih47850 _ (u47841 + 1) σ47858 α47859 (by omega) (qm_gk g47834 (by decide) (Or.inl (by decide))) (qm_gk g47835 (by decide) (Or.inl (by decide))) (qm_gk g47836 (by decide) (Or.inl (by decide))) (qm_gk g47837 (by decide) (Or.inl (by decide))) (qm_gk g47838 (by decide) (Or.inl (by decide))) (qm_gk g47839 (by decide) (Or.inr rfl)) (qm_ge _ _ _) (by omega) hI47860 hF47862 ((hG47861.1 86 6 (by decide)).trans ((hk47846).trans rfl)) ((hG47861.1 86 10 (by decide)).trans ((hk47847).trans rfl))
                                · skip
                                  refine qr_iload 127 rfl g47836 rfl ?_
                                  refine qr_if_ne 135 130 rfl rfl rfl (by omega) (fun h47864 => ?_) (fun h47864 => ?_)
                                  · skip
                                    refine qr_iload 137 rfl g47836 rfl ?_
                                    refine qr_iconst 138 rfl rfl ?_
                                    refine qr_icmp_ne 146 141 rfl rfl rfl (by omega) (by omega) (fun h47865 => ?_) (fun h47865 => ?_)
                                    · skip
                                      refine qr_iload 148 rfl g47840 rfl ?_
                                      refine qr_retI rfl rfl (by decide) (by decide) ?_
                                      exact ⟨_, _, rfl, hI47860, hF47862, u47841, rfl, by omega⟩
                                    · skip
                                      refine qr_iload 143 rfl g47839 rfl ?_
                                      refine qr_goto 148 rfl rfl ?_
                                      refine qr_retI rfl rfl (by decide) (by decide) ?_
                                      exact ⟨_, _, rfl, hI47860, hF47862, u47613, rfl, by omega⟩
                                  · skip
                                    refine qr_iload 132 rfl g47838 rfl ?_
                                    refine qr_goto 148 rfl rfl ?_
                                    refine qr_retI rfl rfl (by decide) (by decide) ?_
                                    exact ⟨_, _, rfl, hI47860, hF47862, u44153, rfl, by omega⟩
                    exact hL47849 ((32 - 0 + 1 : Int)).toNat _ 0 σ47614 α47615 (by omega) (qm_gk g47607 (by decide) (Or.inl (by decide))) (qm_gk g47608 (by decide) (Or.inl (by decide))) (qm_gk g47609 (by decide) (Or.inl (by decide))) (qm_gk g47610 (by decide) (Or.inl (by decide))) (qm_gk g47611 (by decide) (Or.inl (by decide))) (qm_gk g47612 (by decide) (Or.inr rfl)) (qm_ge _ _ _) (by omega) hI47616 hF47617 (rfl) ((hk47618).trans rfl)
              exact hL47620 ((32 - 0 + 1 : Int)).toNat _ 0 σ44154 α44155 (by omega) (qm_gk g44148 (by decide) (Or.inl (by decide))) (qm_gk g44149 (by decide) (Or.inl (by decide))) (qm_gk g44150 (by decide) (Or.inl (by decide))) (qm_gk g44151 (by decide) (Or.inl (by decide))) (qm_gk g44152 (by decide) (Or.inr rfl)) (qm_ge _ _ _) (by omega) hI44156 hF44157 ((hk44158).trans rfl)
        exact hL44161 ((10000 - (x2 / 10000) + 1 : Int)).toNat _ (x2 / 10000) σ α (by omega) rfl rfl rfl rfl rfl (by omega) hI hF0 (rfl) (by omega)
      · skip
        refine qr_iconst 29 rfl rfl ?_
        refine qr_retI rfl rfl (by decide) (by decide) ?_
        exact ⟨_, _, rfl, hI, hF0, (-1), rfl, by omega⟩

set_option maxHeartbeats 4000000 in
set_option maxRecDepth 20000 in
/-- OneRoofModel.doBar -/
theorem sf_231_86 {L : Nat} {xs : Nat → Int} {vb : Bool} {d : Nat} {σ α : Nat → Nat → Int} {κ : Nat → Option Nat} {ρ : Nat} {x1 : Int} {x2 : Int} {x3 : Int} (hI : qI σ α κ ρ) (r1 : 0 ≤ x1 ∧ x1 ≤ 31) (r2 : 0 ≤ x2 ∧ x2 ≤ 31) (r3 : 0 ≤ x3 ∧ x3 ≤ 23999999) (p0 : 1 ≤ σ 86 6) : qm_T (qe L xs vb) (d + 47) 231 [.ref 86, .int (qz x1), .int (qz x2), .int (qz x3)] (qw σ α κ ρ) (fun r w' => ∃ σ' α', w' = qw σ' α' κ ρ ∧ qI σ' α' κ ρ ∧ qFr [(86, 15), (86, 23), (86, 30), (86, 35), (86, 36), (86, 37), (86, 38), (86, 39), (86, 41)] [96, 109] σ α σ' α' ∧ ∃ v : Int, r = some (.int (qz v)) ∧ (0 ≤ v ∧ v ≤ 1)) := by
  refine qr_start (d := d + 46) qv_e231 (Nat.le_of_ble_eq_true rfl) ?_
  show qr_W (qe L xs vb) (d + 46) qx_e231 _ (0, [(0, .ref 86), (1, .int (qz x1)), (2, .int (qz x2)), (3, .int (qz x3))], [], _, 0, 0)
  have hF0 := qFr_rf [(86, 15), (86, 23), (86, 30), (86, 35), (86, 36), (86, 37), (86, 38), (86, 39), (86, 41)] [96, 109] σ α
  have hz86_6 : 0 ≤ σ 86 6 ∧ σ 86 6 ≤ 32 := hI.1 86 6
  refine qr_lconst 1 rfl rfl ?_
  refine qy_vl 1 rfl ?_
  refine qr_iload_n 2 rfl rfl rfl ?_
  refine qr_lshl 3 rfl rfl ?_
  refine qy_canl (fun v1 hv1 => ?_)
  refine qr_lconst 4 rfl rfl ?_
  refine qy_vl 1 rfl ?_
  refine qr_iload_n 5 rfl rfl rfl ?_
  refine qr_lshl 6 rfl rfl ?_
  refine qy_canl (fun v2 hv2 => ?_)
  refine qr_lor 7 rfl rfl ?_
  refine qy_canl (fun v3 hv3 => ?_)
  refine qr_lstore _ 9 rfl (by decide) rfl rfl ?_
  refine qr_iconst 10 rfl rfl ?_
  refine qr_istore _ 12 rfl (by decide) rfl rfl ?_
  refine qr_aload_n 13 rfl rfl rfl ?_
  refine qr_iconst 14 rfl rfl ?_
  refine qr_put 17 rfl (by decide) rfl (Nat.le_of_ble_eq_true rfl) (Nat.le_of_ble_eq_true rfl) (Or.inl rfl) (qr_fitZ rfl (by omega)) rfl ?_
  refine qy_wS (qw_s σ 86 41 1) rfl (fun σ4 e5 => ?_)
  have hI6 : qI σ4 α κ ρ := by rw [e5]; exact qI_s hI 86 41 rfl (show 0 ≤ 1 ∧ 1 ≤ 1 by omega)
  have hF7 : qFr [(86, 15), (86, 23), (86, 30), (86, 35), (86, 36), (86, 37), (86, 38), (86, 39), (86, 41)] [96, 109] σ α σ4 α := by rw [e5]; exact qFr_s hF0 86 41 _ (by decide)
  refine qr_iload_n 18 rfl rfl rfl ?_
  refine qr_sipush 21 rfl (by decide) rfl ?_
  refine qr_idiv 22 rfl (by omega) (by omega) rfl ?_
  refine qr_istore _ 24 rfl (by decide) rfl rfl ?_
  have hL562 : ∀ (n : Nat) (ls : qm_L) (u550 u552 : Int) (σ553 α554 : Nat → Nat → Int), 10000 - u552 < (n : Int) → qm_get ls 0 = some (.ref 86) → qm_get ls 1 = some (.int (qz x1)) → qm_get ls 2 = some (.int (qz x2)) → qm_get ls 3 = some (.int (qz x3)) → qm_get ls 4 = some (.long (ql v3)) → qm_get ls 6 = some (.int (qz u550)) → qm_get ls 7 = some (.int (qz u552)) → (0 ≤ u550 ∧ u550 ≤ 1) → (0 ≤ u552 ∧ u552 ≤ 10000) → qI σ553 α554 κ ρ → qFr [(86, 15), (86, 23), (86, 30), (86, 35), (86, 36), (86, 37), (86, 38), (86, 39), (86, 41)] [96, 109] σ α σ553 α554 → σ553 86 6 = (σ 86 6) → σ553 86 41 = 1 → (x3 / 10000) ≤ u552 → qr_W (qe L xs vb) (d + 46) qx_e231 (fun r w' => ∃ σ' α', w' = qw σ' α' κ ρ ∧ qI σ' α' κ ρ ∧ qFr [(86, 15), (86, 23), (86, 30), (86, 35), (86, 36), (86, 37), (86, 38), (86, 39), (86, 41)] [96, 109] σ α σ' α' ∧ ∃ v : Int, r = some (.int (qz v)) ∧ (0 ≤ v ∧ v ≤ 1)) (24, ls, [], qw σ553 α554 κ ρ, 0, 0) := by
    intro n
    induction n with
    | zero => intro ls u550 u552 σ553 α554 hm g544 g545 g546 g547 g548 g549 g551 hf559 hf560 hI555 hF556 hk557 hk558 hx561; exact False.elim (by omega)
    | succ n ih563 =>
      intro ls u550 u552 σ553 α554 hm g544 g545 g546 g547 g548 g549 g551 hf559 hf560 hI555 hF556 hk557 hk558 hx561
      refine qr_iload 26 rfl g551 rfl ?_
      refine qr_iload_n 27 rfl g547 rfl ?_
      refine qr_sipush 30 rfl (by decide) rfl ?_
      refine qr_irem 31 rfl (by omega) (by omega) rfl ?_
      refine qr_icmp_gt 78 34 rfl rfl rfl (by omega) (by omega) (fun h564 => ?_) (fun h564 => ?_)
      · skip
        refine qr_aload_n 79 rfl g544 rfl ?_
        refine qr_iconst 80 rfl rfl ?_
        refine qr_put 83 rfl (by decide) rfl (Nat.le_of_ble_eq_true rfl) (Nat.le_of_ble_eq_true rfl) (Or.inl rfl) (qr_fitZ rfl (by omega)) rfl ?_
        refine qy_wS (qw_s σ553 86 41 0) rfl (fun σ565 e566 => ?_)
        have hI567 : qI σ565 α554 κ ρ := by rw [e566]; exact qI_s hI555 86 41 rfl (show 0 ≤ 0 ∧ 0 ≤ 1 by omega)
        have hF568 : qFr [(86, 15), (86, 23), (86, 30), (86, 35), (86, 36), (86, 37), (86, 38), (86, 39), (86, 41)] [96, 109] σ α σ565 α554 := by rw [e566]; exact qFr_s hF556 86 41 _ (by decide)
        refine qr_iload 85 rfl g549 rfl ?_
        refine qr_retZ rfl rfl (by omega) (by decide) (by decide) ?_
        exact ⟨_, _, rfl, hI567, hF568, u550, rfl, by omega⟩
      · skip
        refine qr_iload 36 rfl g549 rfl ?_
        refine qr_if_ne 78 39 rfl rfl rfl (by omega) (fun h569 => ?_) (fun h569 => ?_)
        · skip
          refine qr_aload_n 79 rfl g544 rfl ?_
          refine qr_iconst 80 rfl rfl ?_
          refine qr_put 83 rfl (by decide) rfl (Nat.le_of_ble_eq_true rfl) (Nat.le_of_ble_eq_true rfl) (Or.inl rfl) (qr_fitZ rfl (by omega)) rfl ?_
          refine qy_wS (qw_s σ553 86 41 0) rfl (fun σ570 e571 => ?_)
          have hI572 : qI σ570 α554 κ ρ := by rw [e571]; exact qI_s hI555 86 41 rfl (show 0 ≤ 0 ∧ 0 ≤ 1 by omega)
          have hF573 : qFr [(86, 15), (86, 23), (86, 30), (86, 35), (86, 36), (86, 37), (86, 38), (86, 39), (86, 41)] [96, 109] σ α σ570 α554 := by rw [e571]; exact qFr_s hF556 86 41 _ (by decide)
          refine qr_iload 85 rfl g549 rfl ?_
          refine qr_retZ rfl rfl (by omega) (by decide) (by decide) ?_
          exact ⟨_, _, rfl, hI572, hF573, u550, rfl, by omega⟩
        · skip
          refine qr_aload_n 40 rfl g544 rfl ?_
          refine qr_iload_n 41 rfl g545 rfl ?_
          refine qr_iload_n 42 rfl g546 rfl ?_
          refine qr_lload 44 rfl g548 rfl ?_
          refine qr_iload 46 rfl g551 rfl ?_
          refine qr_callN 49 rfl rfl rfl (sf_226_86 (d := d + 0) hI555 (by omega) (by omega) (by omega) (by omega) (by omega)) ?_
          rintro _ _ ⟨σ575, α576, rfl, hI577, hG578, v574, rfl, hv574⟩
          have hF579 : qFr [(86, 15), (86, 23), (86, 30), (86, 35), (86, 36), (86, 37), (86, 38), (86, 39), (86, 41)] [96, 109] σ α σ575 α576 := qFr_t hF556 hG578 (by decide) (by decide)
          show qr_W (qe L xs vb) (d + 46) qx_e231 _ (49, _, [.int (qz v574)], qw σ575 α576 κ ρ, 0, 0)
          have hJ600 : ∀ (ls : qm_L) (u592 : Int) (σ593 α594 : Nat → Nat → Int), qm_get ls 0 = some (.ref 86) → qm_get ls 1 = some (.int (qz x1)) → qm_get ls 2 = some (.int (qz x2)) → qm_get ls 3 = some (.int (qz x3)) → qm_get ls 4 = some (.long (ql v3)) → qm_get ls 7 = some (.int (qz u552)) → (0 ≤ u592 ∧ u592 ≤ 1) → qI σ593 α594 κ ρ → qFr [(86, 15), (86, 23), (86, 30), (86, 35), (86, 36), (86, 37), (86, 38), (86, 39), (86, 41)] [96, 109] σ α σ593 α594 → σ593 86 6 = (σ 86 6) → σ593 86 41 = 1 → qr_W (qe L xs vb) (d + 46) qx_e231 (fun r w' => ∃ σ' α', w' = qw σ' α' κ ρ ∧ qI σ' α' κ ρ ∧ qFr [(86, 15), (86, 23), (86, 30), (86, 35), (86, 36), (86, 37), (86, 38), (86, 39), (86, 41)] [96, 109] σ α σ' α' ∧ ∃ v : Int, r = some (.int (qz v)) ∧ (0 ≤ v ∧ v ≤ 1)) (70, ls, [.int (qz u592)], qw σ593 α594 κ ρ, 0, 0) := by
            intro ls u592 σ593 α594 g586 g587 g588 g589 g590 g591 hf599 hI595 hF596 hk597 hk598
            refine qr_istore _ 72 rfl (by decide) rfl rfl ?_
            refine qr_iinc _ 75 rfl (qm_gk g591 (by decide) (Or.inl (by decide))) (by decide) rfl rfl ?_
            refine qr_goto 24 rfl rfl ?_
            exact ih563 _ u592 (u552 + 1) σ593 α594 (by omega) (qm_gk (qm_gk g586 (by decide) (Or.inl (by decide))) (by decide) (Or.inl (by decide))) (qm_gk (qm_gk g587 (by decide) (Or.inl (by decide))) (by decide) (Or.inl (by decide))) (qm_gk (qm_gk g588 (by decide) (Or.inl (by decide))) (by decide) (Or.inl (by decide))) (qm_gk (qm_gk g589 (by decide) (Or.inl (by decide))) (by decide) (Or.inl (by decide))) (qm_gk (qm_gk g590 (by decide) (Or.inl (by decide))) (by decide) (Or.inl (by decide))) (qm_gk (qm_ge _ _ _) (by decide) (Or.inr rfl)) (qm_ge _ _ _) (by omega) (by omega) hI595 hF596 ((hk597).trans rfl) ((hk598).trans rfl) (by omega)
          refine qr_if_ne 65 52 rfl rfl rfl (by omega) (fun h601 => ?_) (fun h601 => ?_)
          · skip
            refine qr_iconst 66 rfl rfl ?_
            refine qr_goto 70 rfl rfl ?_
            exact hJ600 _ 1 σ575 α576 g544 g545 g546 g547 g548 g551 (by omega) hI577 hF579 ((hG578.1 86 6 (by decide)).trans ((hk557).trans rfl)) ((hG578.1 86 41 (by decide)).trans ((hk558).trans rfl))
          · skip
            refine qr_aload_n 53 rfl g544 rfl ?_
            refine qr_iload_n 54 rfl g546 rfl ?_
            refine qr_iload_n 55 rfl g545 rfl ?_
            refine qr_lload 57 rfl g548 rfl ?_
            refine qr_iload 59 rfl g551 rfl ?_
            refine qr_callN 62 rfl rfl rfl (sf_226_86 (d := d + 0) hI577 (by omega) (by omega) (by omega) (by omega) (by omega)) ?_
            rintro _ _ ⟨σ603, α604, rfl, hI605, hG606, v602, rfl, hv602⟩
            have hF607 : qFr [(86, 15), (86, 23), (86, 30), (86, 35), (86, 36), (86, 37), (86, 38), (86, 39), (86, 41)] [96, 109] σ α σ603 α604 := qFr_t hF579 hG606 (by decide) (by decide)
            show qr_W (qe L xs vb) (d + 46) qx_e231 _ (62, _, [.int (qz v602)], qw σ603 α604 κ ρ, 0, 0)
            refine qr_if_eq 69 65 rfl rfl rfl (by omega) (fun h608 => ?_) (fun h608 => ?_)
            · skip
              refine qr_iconst 70 rfl rfl ?_
              exact hJ600 _ 0 σ603 α604 g544 g545 g546 g547 g548 g551 (by omega) hI605 hF607 ((hG606.1 86 6 (by decide)).trans ((hG578.1 86 6 (by decide)).trans ((hk557).trans rfl))) ((hG606.1 86 41 (by decide)).trans ((hG578.1 86 41 (by decide)).trans ((hk558).trans rfl)))
            · skip
              refine qr_iconst 66 rfl rfl ?_
              refine qr_goto 70 rfl rfl ?_
              exact hJ600 _ 1 σ603 α604 g544 g545 g546 g547 g548 g551 (by omega) hI605 hF607 ((hG606.1 86 6 (by decide)).trans ((hG578.1 86 6 (by decide)).trans ((hk557).trans rfl))) ((hG606.1 86 41 (by decide)).trans ((hG578.1 86 41 (by decide)).trans ((hk558).trans rfl)))
  exact hL562 ((10000 - (x3 / 10000) + 1 : Int)).toNat _ 0 (x3 / 10000) σ4 α (by omega) rfl rfl rfl rfl rfl rfl rfl (by omega) (by omega) hI6 hF7 ((congrFun (congrFun e5 86) 6).trans rfl) ((congrFun (congrFun e5 86) 41).trans rfl) (by omega)

set_option maxHeartbeats 4000000 in
set_option maxRecDepth 20000 in
/-- OneRoofModel.bars -/
theorem sf_230_86 {L : Nat} {xs : Nat → Int} {vb : Bool} {d : Nat} {σ α : Nat → Nat → Int} {κ : Nat → Option Nat} {ρ : Nat} {x1 : Int} {x2 : Int} (hI : qI σ α κ ρ) (r1 : (-2147483648) ≤ x1 ∧ x1 ≤ 2147483647) (r2 : (-2147483648) ≤ x2 ∧ x2 ≤ 2147483647) : qm_T (qe L xs vb) (d + 48) 230 [.ref 86, .int (qz x1), .int (qz x2)] (qw σ α κ ρ) (fun r w' => ∃ σ' α', w' = qw σ' α' κ ρ ∧ qI σ' α' κ ρ ∧ qFr [(86, 15), (86, 23), (86, 30), (86, 35), (86, 36), (86, 37), (86, 38), (86, 39), (86, 41)] [96, 109] σ α σ' α' ∧ ∃ v : Int, r = some (.int (qz v)) ∧ ((-2147483648) ≤ v ∧ v ≤ 2147483647)) := by
  refine qr_start (d := d + 47) qv_e230 (Nat.le_of_ble_eq_true rfl) ?_
  show qr_W (qe L xs vb) (d + 47) qx_e230 _ (0, [(0, .ref 86), (1, .int (qz x1)), (2, .int (qz x2))], [], _, 0, 0)
  have hF0 := qFr_rf [(86, 15), (86, 23), (86, 30), (86, 35), (86, 36), (86, 37), (86, 38), (86, 39), (86, 41)] [96, 109] σ α
  refine qr_aload_n 1 rfl rfl rfl ?_
  refine qr_iload_n 2 rfl rfl rfl ?_
  refine qr_callN 5 rfl rfl rfl (sf_190_86 (d := d + 44) hI (by omega)) ?_
  have hs3 : 0 ≤ σ 86 6 ∧ σ 86 6 ≤ 32 := hI.1 86 6
  rintro _ _ ⟨rfl, v1, rfl, hv1, hp2⟩
  show qr_W (qe L xs vb) (d + 47) qx_e230 _ (5, _, [.int (qz v1)], qw σ α κ ρ, 0, 0)
  refine qr_if_eq 15 8 rfl rfl rfl (by omega) (fun h4 => ?_) (fun h4 => ?_)
  · skip
    refine qr_iconst 16 rfl rfl ?_
    refine qr_retI rfl rfl (by decide) (by decide) ?_
    exact ⟨_, _, rfl, hI, hF0, (-1), rfl, by omega⟩
  · skip
    refine qr_iload_n 9 rfl rfl rfl ?_
    refine qr_callN 12 rfl rfl rfl (sf_229 (d := d + 44) hI (by omega)) ?_
    rintro _ _ ⟨rfl, v5, rfl, hv5, hp6⟩
    show qr_W (qe L xs vb) (d + 47) qx_e230 _ (12, _, [.int (qz v5)], qw σ α κ ρ, 0, 0)
    refine qr_if_ne 17 15 rfl rfl rfl (by omega) (fun h7 => ?_) (fun h7 => ?_)
    · skip
      refine qr_aload_n 18 rfl rfl rfl ?_
      refine qr_iload_n 19 rfl rfl rfl ?_
      refine qr_bipush 21 rfl (by decide) rfl ?_
      refine qr_idiv 22 rfl (by omega) (by omega) rfl ?_
      refine qr_iload_n 23 rfl rfl rfl ?_
      refine qr_bipush 25 rfl (by decide) rfl ?_
      refine qr_irem 26 rfl (by omega) (by omega) rfl ?_
      refine qr_iload_n 27 rfl rfl rfl ?_
      refine qr_callN 30 rfl rfl rfl (sf_231_86 (d := d + 0) hI (by omega) (by omega) (by omega) (by omega)) ?_
      rintro _ _ ⟨σ9, α10, rfl, hI11, hG12, v8, rfl, hv8⟩
      have hF13 : qFr [(86, 15), (86, 23), (86, 30), (86, 35), (86, 36), (86, 37), (86, 38), (86, 39), (86, 41)] [96, 109] σ α σ9 α10 := qFr_t hF0 hG12 (by decide) (by decide)
      show qr_W (qe L xs vb) (d + 47) qx_e230 _ (30, _, [.int (qz v8)], qw σ9 α10 κ ρ, 0, 0)
      refine qr_if_eq 37 33 rfl rfl rfl (by omega) (fun h14 => ?_) (fun h14 => ?_)
      · skip
        refine qr_iconst 38 rfl rfl ?_
        refine qr_retI rfl rfl (by decide) (by decide) ?_
        exact ⟨_, _, rfl, hI11, hF13, 0, rfl, by omega⟩
      · skip
        refine qr_iconst 34 rfl rfl ?_
        refine qr_goto 38 rfl rfl ?_
        refine qr_retI rfl rfl (by decide) (by decide) ?_
        exact ⟨_, _, rfl, hI11, hF13, 1, rfl, by omega⟩
    · skip
      refine qr_iconst 16 rfl rfl ?_
      refine qr_retI rfl rfl (by decide) (by decide) ?_
      exact ⟨_, _, rfl, hI, hF0, (-1), rfl, by omega⟩
