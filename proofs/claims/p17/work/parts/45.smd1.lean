set_option maxHeartbeats 4000000 in
set_option maxRecDepth 20000 in
/-- OneRoofModel.person -/
theorem sf_173_86 {L : Nat} {xs : Nat → Int} {vb : Bool} {d : Nat} {σ α : Nat → Nat → Int} {κ : Nat → Option Nat} {ρ : Nat} {x1 : Int} {x2 : Int} {x3 : Int} (hI : qI σ α κ ρ) (r1 : (-2147483648) ≤ x1 ∧ x1 ≤ 2147483647) (r2 : (-2147483648) ≤ x2 ∧ x2 ≤ 2147483647) (r3 : (-2147483648) ≤ x3 ∧ x3 ≤ 2147483647) : qm_T (qe L xs vb) (d + 3) 173 [.ref 86, .int (qz x1), .int (qz x2), .int (qz x3)] (qw σ α κ ρ) (fun r w' => ∃ σ' α', w' = qw σ' α' κ ρ ∧ qI σ' α' κ ρ ∧ qFr [(86, 6), (86, 15)] [87, 91, 92] σ α σ' α' ∧ ∃ v : Int, r = some (.int (qz v)) ∧ ((-3) ≤ v ∧ v ≤ 31)) := by
  refine qr_start (d := d + 2) qv_e173 (Nat.le_of_ble_eq_true rfl) ?_
  show qr_W (qe L xs vb) (d + 2) qx_e173 _ (0, [(0, .ref 86), (1, .int (qz x1)), (2, .int (qz x2)), (3, .int (qz x3))], [], _, 0, 0)
  have hF0 := qFr_rf [(86, 6), (86, 15)] [87, 91, 92] σ α
  refine qr_aload_n 1 rfl rfl rfl ?_
  refine qr_iload_n 2 rfl rfl rfl ?_
  refine qr_iload_n 3 rfl rfl rfl ?_
  refine qr_iload_n 4 rfl rfl rfl ?_
  refine qr_callN 7 rfl rfl rfl (sf_174_86 (d := d + 0) hI (by omega) (by omega) (by omega)) ?_
  have hs3 : 0 ≤ σ 86 6 ∧ σ 86 6 ≤ 32 := hI.1 86 6
  rintro _ _ ⟨rfl, v1, rfl, hv1, hp2⟩
  show qr_W (qe L xs vb) (d + 2) qx_e173 _ (7, _, [.int (qz v1)], qw σ α κ ρ, 0, 0)
  refine qr_if_ne 12 10 rfl rfl rfl (by omega) (fun h4 => ?_) (fun h4 => ?_)
  · skip
    refine qr_aload_n 13 rfl rfl rfl ?_
    refine qr_get 16 rfl rfl rfl (by decide) rfl ?_
    have hs5 : 0 ≤ σ 86 6 ∧ σ 86 6 ≤ 32 := hI.1 86 6
    refine qr_bipush 18 rfl (by decide) rfl ?_
    refine qr_icmp_ne 24 21 rfl rfl rfl (by omega) (by omega) (fun h6 => ?_) (fun h6 => ?_)
    · skip
      refine qr_aload_n 25 rfl rfl rfl ?_
      refine qr_get 28 rfl rfl rfl (by decide) rfl ?_
      refine qr_aload_n 29 rfl rfl rfl ?_
      refine qr_get 32 rfl rfl rfl (by decide) rfl ?_
      refine qr_iload_n 33 rfl rfl rfl ?_
      refine qr_iastore 34 rfl (by decide) rfl (by omega) (by decide) rfl ?_
      refine qy_wA (qw_r α 91 (qzu (α 91) ((σ 86 6) : Int).toNat x1)) rfl (fun α7 e8 => ?_)
      have hI9 : qI σ α7 κ ρ := by rw [e8]; exact qI_r91 hI _ (show (-1) ≤ x1 ∧ x1 ≤ 31 by omega) (by omega)
      have hF10 : qFr [(86, 6), (86, 15)] [87, 91, 92] σ α σ α7 := by rw [e8]; exact qFr_r hF0 91 _ (by decide)
      refine qr_aload_n 35 rfl rfl rfl ?_
      refine qr_get 38 rfl rfl rfl (by decide) rfl ?_
      refine qr_aload_n 39 rfl rfl rfl ?_
      refine qr_get 42 rfl rfl rfl (by decide) rfl ?_
      refine qr_iload_n 43 rfl rfl rfl ?_
      refine qr_iastore 44 rfl (by decide) rfl (by omega) (by decide) rfl ?_
      refine qy_wA (qw_r α7 92 (qzu (α7 92) ((σ 86 6) : Int).toNat x2)) rfl (fun α11 e12 => ?_)
      have hI13 : qI σ α11 κ ρ := by rw [e12]; exact qI_r hI9 92 _ rfl (show (-2147483648) ≤ x2 ∧ x2 ≤ 2147483647 by omega)
      have hF14 : qFr [(86, 6), (86, 15)] [87, 91, 92] σ α σ α11 := by rw [e12]; exact qFr_r hF10 92 _ (by decide)
      refine qr_aload_n 45 rfl rfl rfl ?_
      refine qr_get 48 rfl rfl rfl (by decide) rfl ?_
      refine qr_iconst 49 rfl rfl ?_
      refine qr_aload_n 50 rfl rfl rfl ?_
      refine qr_get 53 rfl rfl rfl (by decide) rfl ?_
      refine qr_iadd 54 rfl rfl ?_
      refine qr_iload_n 55 rfl rfl rfl ?_
      refine qr_iastore 56 rfl (by decide) rfl (by omega) (by decide) rfl ?_
      refine qy_wA (qw_r α11 87 (qzu (α11 87) ((0 + (σ 86 6)) : Int).toNat x3)) rfl (fun α15 e16 => ?_)
      have hI17 : qI σ α15 κ ρ := by rw [e16]; exact qI_r hI13 87 _ rfl (show (-2147483648) ≤ x3 ∧ x3 ≤ 2147483647 by omega)
      have hF18 : qFr [(86, 6), (86, 15)] [87, 91, 92] σ α σ α15 := by rw [e16]; exact qFr_r hF14 87 _ (by decide)
      refine qr_aload_n 57 rfl rfl rfl ?_
      refine qr_iconst 58 rfl rfl ?_
      refine qr_put 61 rfl (by decide) rfl (Nat.le_of_ble_eq_true rfl) (Nat.le_of_ble_eq_true rfl) (Or.inl rfl) (qr_fitZ rfl (by omega)) rfl ?_
      refine qy_wS (qw_s σ 86 15 0) rfl (fun σ19 e20 => ?_)
      have hI21 : qI σ19 α15 κ ρ := by rw [e20]; exact qI_s hI17 86 15 rfl (show 0 ≤ 0 ∧ 0 ≤ 1 by omega)
      have hF22 : qFr [(86, 6), (86, 15)] [87, 91, 92] σ α σ19 α15 := by rw [e20]; exact qFr_s hF18 86 15 _ (by decide)
      refine qr_aload_n 62 rfl rfl rfl ?_
      refine qr_dup 63 rfl rfl rfl ?_
      refine qr_get 66 rfl rfl rfl (by decide) rfl ?_
      refine qy_v (σ 86 6) ((congrFun (congrFun e20 86) 6).trans rfl) ?_
      refine qr_iconst 67 rfl rfl ?_
      refine qr_iadd 68 rfl rfl ?_
      refine qr_put 71 rfl (by decide) rfl (Nat.le_of_ble_eq_true rfl) (Nat.le_of_ble_eq_true rfl) (Or.inl rfl) (qr_fitI rfl _) rfl ?_
      refine qy_wS (qw_s σ19 86 6 ((σ 86 6) + 1)) rfl (fun σ23 e24 => ?_)
      have hI25 : qI σ23 α15 κ ρ := by rw [e24]; exact qI_s6 hI21 (by omega) (by rw [e16, qw_r_ne (by decide), e12, qw_r_ne (by decide), e8, qw_r_eq]; unfold qzu; have h0 := hI.2.2.2.2.2.2.1 0 (by decide); split; (omega); (omega))
      have hF26 : qFr [(86, 6), (86, 15)] [87, 91, 92] σ α σ23 α15 := by rw [e24]; exact qFr_s hF22 86 6 _ (by decide)
      refine qr_aload_n 72 rfl rfl rfl ?_
      refine qr_get 75 rfl rfl rfl (by decide) rfl ?_
      refine qy_v ((σ 86 6) + 1) ((congrFun (congrFun e24 86) 6).trans rfl) ?_
      refine qr_iconst 76 rfl rfl ?_
      refine qr_isub 77 rfl rfl ?_
      refine qr_retI rfl rfl (by decide) (by decide) ?_
      exact ⟨_, _, rfl, hI25, hF26, (((σ 86 6) + 1) - 1), rfl, by omega⟩
    · skip
      refine qr_bipush 23 rfl (by decide) rfl ?_
      refine qr_retI rfl rfl (by decide) (by decide) ?_
      exact ⟨_, _, rfl, hI, hF0, (-3), rfl, by omega⟩
  · skip
    refine qr_iconst 11 rfl rfl ?_
    refine qr_retI rfl rfl (by decide) (by decide) ?_
    exact ⟨_, _, rfl, hI, hF0, (-1), rfl, by omega⟩

set_option maxHeartbeats 4000000 in
set_option maxRecDepth 20000 in
/-- OneRoofModel.people -/
theorem sf_176_86 {L : Nat} {xs : Nat → Int} {vb : Bool} {d : Nat} {σ α : Nat → Nat → Int} {κ : Nat → Option Nat} {ρ : Nat} {x1 : Int} {x2 : Int} {x3 : Int} (hI : qI σ α κ ρ) (r1 : (-2147483648) ≤ x1 ∧ x1 ≤ 2147483647) (r2 : (-2147483648) ≤ x2 ∧ x2 ≤ 2147483647) (r3 : (-2147483648) ≤ x3 ∧ x3 ≤ 2147483647) : qm_T (qe L xs vb) (d + 4) 176 [.ref 86, .int (qz x1), .int (qz x2), .int (qz x3)] (qw σ α κ ρ) (fun r w' => ∃ σ' α', w' = qw σ' α' κ ρ ∧ qI σ' α' κ ρ ∧ qFr [(86, 6), (86, 15)] [87, 91, 92] σ α σ' α' ∧ ∃ v : Int, r = some (.int (qz v)) ∧ ((-2147483648) ≤ v ∧ v ≤ 2147483647)) := by
  refine qr_start (d := d + 3) qv_e176 (Nat.le_of_ble_eq_true rfl) ?_
  show qr_W (qe L xs vb) (d + 3) qx_e176 _ (0, [(0, .ref 86), (1, .int (qz x1)), (2, .int (qz x2)), (3, .int (qz x3))], [], _, 0, 0)
  have hF0 := qFr_rf [(86, 6), (86, 15)] [87, 91, 92] σ α
  refine qr_iload_n 1 rfl rfl rfl ?_
  refine qr_callN 4 rfl rfl rfl (sf_177 (d := d + 1) hI (by omega)) ?_
  rintro _ _ ⟨rfl, v1, rfl, hv1, hp2⟩
  show qr_W (qe L xs vb) (d + 3) qx_e176 _ (4, _, [.int (qz v1)], qw σ α κ ρ, 0, 0)
  refine qr_if_eq 19 7 rfl rfl rfl (by omega) (fun h3 => ?_) (fun h3 => ?_)
  · skip
    refine qr_iconst 20 rfl rfl ?_
    refine qr_retI rfl rfl (by decide) (by decide) ?_
    exact ⟨_, _, rfl, hI, hF0, (-1), rfl, by omega⟩
  · skip
    refine qr_iload_n 8 rfl rfl rfl ?_
    refine qr_i2l 9 rfl (by omega) rfl ?_
    refine qr_lconst 10 rfl rfl ?_
    refine qy_vl 1 rfl ?_
    refine qr_ldc2 20 13 rfl (by decide) rfl ?_
    refine qr_callN 16 rfl rfl rfl (sf_175 (d := d + 2) hI (by omega) (by omega) (by omega)) ?_
    rintro _ _ ⟨rfl, v4, rfl, hv4, hp5⟩
    show qr_W (qe L xs vb) (d + 3) qx_e176 _ (16, _, [.int (qz v4)], qw σ α κ ρ, 0, 0)
    refine qr_if_ne 21 19 rfl rfl rfl (by omega) (fun h6 => ?_) (fun h6 => ?_)
    · skip
      refine qr_aload_n 22 rfl rfl rfl ?_
      refine qr_get 25 rfl rfl rfl (by decide) rfl ?_
      refine qr_iload_n 26 rfl rfl rfl ?_
      refine qr_iaload 27 rfl rfl (by omega) (by decide) rfl ?_
      refine qr_topI (fun v7 hv7 => ?_)
      have hs8 : (-1) ≤ v7 ∧ v7 ≤ 64 := by rw [hv7]; exact hI.2.1 121 _ (show _ < 6 by omega)
      refine qr_if_lt 44 30 rfl rfl rfl (by omega) (fun h9 => ?_) (fun h9 => ?_)
      · skip
        refine qr_iconst 45 rfl rfl ?_
        refine qr_istore _ 47 rfl (by decide) rfl rfl ?_
        refine qr_aload_n 48 rfl rfl rfl ?_
        refine qr_get 51 rfl rfl rfl (by decide) rfl ?_
        refine qr_iload_n 52 rfl rfl rfl ?_
        refine qr_iaload 53 rfl rfl (by omega) (by decide) rfl ?_
        refine qr_topI (fun v10 hv10 => ?_)
        have hs11 : (-1) ≤ v10 ∧ v10 ≤ 64 := by rw [hv10]; exact hI.2.1 121 _ (show _ < 6 by omega)
        refine qr_bipush 55 rfl (by decide) rfl ?_
        refine qr_icmp_ne 66 58 rfl rfl rfl (by omega) (by omega) (fun h12 => ?_) (fun h12 => ?_)
        · skip
          refine qr_iconst 67 rfl rfl ?_
          refine qr_istore _ 69 rfl (by decide) rfl rfl ?_
          have hL43 : ∀ (n : Nat) (ls : qm_L) (u34 u36 : Int) (σ37 α38 : Nat → Nat → Int), 2 * (20 - u34) + u36 < (n : Int) → qm_get ls 0 = some (.ref 86) → qm_get ls 1 = some (.int (qz x1)) → qm_get ls 2 = some (.int (qz x2)) → qm_get ls 3 = some (.int (qz x3)) → qm_get ls 4 = some (.int (qz u34)) → qm_get ls 5 = some (.int (qz u36)) → (0 ≤ u34 ∧ u34 ≤ 0) → (0 ≤ u36 ∧ u36 ≤ 0) → qI σ37 α38 κ ρ → qFr [(86, 6), (86, 15)] [87, 91, 92] σ α σ37 α38 → qr_W (qe L xs vb) (d + 3) qx_e176 (fun r w' => ∃ σ' α', w' = qw σ' α' κ ρ ∧ qI σ' α' κ ρ ∧ qFr [(86, 6), (86, 15)] [87, 91, 92] σ α σ' α' ∧ ∃ v : Int, r = some (.int (qz v)) ∧ ((-2147483648) ≤ v ∧ v ≤ 2147483647)) (69, ls, [], qw σ37 α38 κ ρ, 0, 0) := by
            intro n
            induction n with
            | zero => intro ls u34 u36 σ37 α38 hm g29 g30 g31 g32 g33 g35 hf41 hf42 hI39 hF40; exact False.elim (by omega)
            | succ n ih44 =>
              intro ls u34 u36 σ37 α38 hm g29 g30 g31 g32 g33 g35 hf41 hf42 hI39 hF40
              refine qr_iload 71 rfl g35 rfl ?_
              refine qr_if_eq 218 74 rfl rfl rfl (by omega) (fun h45 => ?_) (fun h => False.elim (by omega))
              refine qr_iload 220 rfl g33 rfl ?_
              refine qr_retI rfl rfl (by decide) (by decide) ?_
              exact ⟨_, _, rfl, hI39, hF40, u34, rfl, by omega⟩
          exact hL43 ((2 * (20 - 0) + 0 + 1 : Int)).toNat _ 0 0 σ α (by omega) rfl rfl rfl rfl rfl rfl (by omega) (by omega) hI hF0
        · skip
          refine qr_iload_n 59 rfl rfl rfl ?_
          refine qr_if_lt 66 62 rfl rfl rfl (by omega) (fun h46 => ?_) (fun h46 => ?_)
          · skip
            refine qr_iconst 67 rfl rfl ?_
            refine qr_istore _ 69 rfl (by decide) rfl rfl ?_
            have hL77 : ∀ (n : Nat) (ls : qm_L) (u68 u70 : Int) (σ71 α72 : Nat → Nat → Int), 2 * (20 - u68) + u70 < (n : Int) → qm_get ls 0 = some (.ref 86) → qm_get ls 1 = some (.int (qz x1)) → qm_get ls 2 = some (.int (qz x2)) → qm_get ls 3 = some (.int (qz x3)) → qm_get ls 4 = some (.int (qz u68)) → qm_get ls 5 = some (.int (qz u70)) → (0 ≤ u68 ∧ u68 ≤ 0) → (0 ≤ u70 ∧ u70 ≤ 0) → qI σ71 α72 κ ρ → qFr [(86, 6), (86, 15)] [87, 91, 92] σ α σ71 α72 → qr_W (qe L xs vb) (d + 3) qx_e176 (fun r w' => ∃ σ' α', w' = qw σ' α' κ ρ ∧ qI σ' α' κ ρ ∧ qFr [(86, 6), (86, 15)] [87, 91, 92] σ α σ' α' ∧ ∃ v : Int, r = some (.int (qz v)) ∧ ((-2147483648) ≤ v ∧ v ≤ 2147483647)) (69, ls, [], qw σ71 α72 κ ρ, 0, 0) := by
              intro n
              induction n with
              | zero => intro ls u68 u70 σ71 α72 hm g63 g64 g65 g66 g67 g69 hf75 hf76 hI73 hF74; exact False.elim (by omega)
              | succ n ih78 =>
                intro ls u68 u70 σ71 α72 hm g63 g64 g65 g66 g67 g69 hf75 hf76 hI73 hF74
                refine qr_iload 71 rfl g69 rfl ?_
                refine qr_if_eq 218 74 rfl rfl rfl (by omega) (fun h79 => ?_) (fun h => False.elim (by omega))
                refine qr_iload 220 rfl g67 rfl ?_
                refine qr_retI rfl rfl (by decide) (by decide) ?_
                exact ⟨_, _, rfl, hI73, hF74, u68, rfl, by omega⟩
            exact hL77 ((2 * (20 - 0) + 0 + 1 : Int)).toNat _ 0 0 σ α (by omega) rfl rfl rfl rfl rfl rfl (by omega) (by omega) hI hF0
          · skip
            refine qr_iconst 63 rfl rfl ?_
            refine qr_goto 67 rfl rfl ?_
            refine qr_istore _ 69 rfl (by decide) rfl rfl ?_
            have hL561 : ∀ (n : Nat) (ls : qm_L) (u552 u554 : Int) (σ555 α556 : Nat → Nat → Int), 2 * (20 - u552) + u554 < (n : Int) → qm_get ls 0 = some (.ref 86) → qm_get ls 1 = some (.int (qz x1)) → qm_get ls 2 = some (.int (qz x2)) → qm_get ls 3 = some (.int (qz x3)) → qm_get ls 4 = some (.int (qz u552)) → qm_get ls 5 = some (.int (qz u554)) → (0 ≤ u552 ∧ u552 ≤ 20) → (0 ≤ u554 ∧ u554 ≤ 1) → qI σ555 α556 κ ρ → qFr [(86, 6), (86, 15)] [87, 91, 92] σ α σ555 α556 → qr_W (qe L xs vb) (d + 3) qx_e176 (fun r w' => ∃ σ' α', w' = qw σ' α' κ ρ ∧ qI σ' α' κ ρ ∧ qFr [(86, 6), (86, 15)] [87, 91, 92] σ α σ' α' ∧ ∃ v : Int, r = some (.int (qz v)) ∧ ((-2147483648) ≤ v ∧ v ≤ 2147483647)) (69, ls, [], qw σ555 α556 κ ρ, 0, 0) := by
              intro n
              induction n with
              | zero => intro ls u552 u554 σ555 α556 hm g547 g548 g549 g550 g551 g553 hf559 hf560 hI557 hF558; exact False.elim (by omega)
              | succ n ih562 =>
                intro ls u552 u554 σ555 α556 hm g547 g548 g549 g550 g551 g553 hf559 hf560 hI557 hF558
                refine qr_iload 71 rfl g553 rfl ?_
                refine qr_if_eq 218 74 rfl rfl rfl (by omega) (fun h563 => ?_) (fun h563 => ?_)
                · skip
                  refine qr_iload 220 rfl g551 rfl ?_
                  refine qr_retI rfl rfl (by decide) (by decide) ?_
                  exact ⟨_, _, rfl, hI557, hF558, u552, rfl, by omega⟩
                · skip
                  refine qr_iload 76 rfl g551 rfl ?_
                  refine qr_iload_n 77 rfl g550 rfl ?_
                  refine qr_icmp_ge 218 80 rfl rfl rfl (by omega) (by omega) (fun h564 => ?_) (fun h564 => ?_)
                  · skip
                    refine qr_iload 220 rfl g551 rfl ?_
                    refine qr_retI rfl rfl (by decide) (by decide) ?_
                    exact ⟨_, _, rfl, hI557, hF558, u552, rfl, by omega⟩
                  · skip
                    refine qr_iload_n 81 rfl g549 rfl ?_
                    refine qr_aload_n 82 rfl g547 rfl ?_
                    refine qr_get 85 rfl rfl rfl (by decide) rfl ?_
                    refine qr_iload_n 86 rfl g548 rfl ?_
                    refine qr_iaload 87 rfl rfl (by omega) (by decide) rfl ?_
                    refine qr_topI (fun v565 hv565 => ?_)
                    have hs566 : 0 ≤ v565 ∧ v565 ≤ 60 := by rw [hv565]; exact hI557.2.1 122 _ (show _ < 6 by omega)
                    refine qr_iconst 88 rfl rfl ?_
                    refine qr_isub 89 rfl rfl ?_
                    refine qr_iconst 90 rfl rfl ?_
                    refine qr_iload 92 rfl g551 rfl ?_
                    refine qr_imul 93 rfl rfl ?_
                    refine qr_isub 94 rfl rfl ?_
                    refine qr_icmp_gt 110 97 rfl rfl rfl (by omega) (by omega) (fun h567 => ?_) (fun h567 => ?_)
                    · skip
                      refine qr_iconst 111 rfl rfl ?_
                      refine qr_istore _ 113 rfl (by decide) rfl rfl ?_
                      refine qr_bipush 115 rfl (by decide) rfl ?_
                      refine qr_iload_n 116 rfl (qm_gk g548 (by decide) (Or.inl (by decide))) rfl ?_
                      refine qr_imul 117 rfl rfl ?_
                      refine qr_iload_n 118 rfl (qm_gk g549 (by decide) (Or.inl (by decide))) rfl ?_
                      refine qr_iadd 119 rfl rfl ?_
                      refine qy_can (fun v568 hv568 => ?_)
                      refine qr_iconst 120 rfl rfl ?_
                      refine qr_iload 122 rfl (qm_gk g551 (by decide) (Or.inr rfl)) rfl ?_
                      refine qr_imul 123 rfl rfl ?_
                      refine qr_iadd 124 rfl rfl ?_
                      refine qy_can (fun v569 hv569 => ?_)
                      refine qr_istore _ 126 rfl (by decide) rfl rfl ?_
                      refine qr_iload 128 rfl (qm_gk (qm_ge _ _ _) (by decide) (Or.inr rfl)) rfl ?_
                      refine qr_if_eq 170 131 rfl rfl rfl (by omega) (fun h570 => ?_) (fun h => False.elim (by omega))
                      refine qr_iconst 171 rfl rfl ?_
                      refine qr_istore _ 173 rfl (by decide) rfl rfl ?_
                      refine qr_iload 175 rfl (qm_ge _ _ _) rfl ?_
                      refine qr_if_eq 215 178 rfl rfl rfl (by omega) (fun h571 => ?_) (fun h => False.elim (by omega))
                      refine qr_goto 69 rfl rfl ?_
                      exact ih562 _ u552 0 σ555 α556 (by omega) (qm_gk (qm_gk (qm_gk g547 (by decide) (Or.inl (by decide))) (by decide) (Or.inl (by decide))) (by decide) (Or.inl (by decide))) (qm_gk (qm_gk (qm_gk g548 (by decide) (Or.inl (by decide))) (by decide) (Or.inl (by decide))) (by decide) (Or.inl (by decide))) (qm_gk (qm_gk (qm_gk g549 (by decide) (Or.inl (by decide))) (by decide) (Or.inl (by decide))) (by decide) (Or.inl (by decide))) (qm_gk (qm_gk (qm_gk g550 (by decide) (Or.inl (by decide))) (by decide) (Or.inl (by decide))) (by decide) (Or.inl (by decide))) (qm_gk (qm_gk (qm_gk g551 (by decide) (Or.inr rfl)) (by decide) (Or.inl (by decide))) (by decide) (Or.inr rfl)) (qm_ge _ _ _) (by omega) (by omega) hI557 hF558
                    · skip
                      refine qr_aload_n 98 rfl g547 rfl ?_
                      refine qr_get 101 rfl rfl rfl (by decide) rfl ?_
                      have hs572 : 0 ≤ σ555 86 6 ∧ σ555 86 6 ≤ 32 := hI557.1 86 6
                      refine qr_bipush 103 rfl (by decide) rfl ?_
                      refine qr_icmp_ge 110 106 rfl rfl rfl (by omega) (by omega) (fun h573 => ?_) (fun h573 => ?_)
                      · skip
                        refine qr_iconst 111 rfl rfl ?_
                        refine qr_istore _ 113 rfl (by decide) rfl rfl ?_
                        refine qr_bipush 115 rfl (by decide) rfl ?_
                        refine qr_iload_n 116 rfl (qm_gk g548 (by decide) (Or.inl (by decide))) rfl ?_
                        refine qr_imul 117 rfl rfl ?_
                        refine qr_iload_n 118 rfl (qm_gk g549 (by decide) (Or.inl (by decide))) rfl ?_
                        refine qr_iadd 119 rfl rfl ?_
                        refine qr_iconst 120 rfl rfl ?_
                        refine qr_iload 122 rfl (qm_gk g551 (by decide) (Or.inr rfl)) rfl ?_
                        refine qr_imul 123 rfl rfl ?_
                        refine qr_iadd 124 rfl rfl ?_
                        refine qr_istore _ 126 rfl (by decide) rfl rfl ?_
                        refine qr_iload 128 rfl (qm_gk (qm_ge _ _ _) (by decide) (Or.inr rfl)) rfl ?_
                        refine qr_if_eq 170 131 rfl rfl rfl (by omega) (fun h574 => ?_) (fun h => False.elim (by omega))
                        refine qr_iconst 171 rfl rfl ?_
                        refine qr_istore _ 173 rfl (by decide) rfl rfl ?_
                        refine qr_iload 175 rfl (qm_ge _ _ _) rfl ?_
                        refine qr_if_eq 215 178 rfl rfl rfl (by omega) (fun h575 => ?_) (fun h => False.elim (by omega))
                        refine qr_goto 69 rfl rfl ?_
                        exact ih562 _ u552 0 σ555 α556 (by omega) (qm_gk (qm_gk (qm_gk g547 (by decide) (Or.inl (by decide))) (by decide) (Or.inl (by decide))) (by decide) (Or.inl (by decide))) (qm_gk (qm_gk (qm_gk g548 (by decide) (Or.inl (by decide))) (by decide) (Or.inl (by decide))) (by decide) (Or.inl (by decide))) (qm_gk (qm_gk (qm_gk g549 (by decide) (Or.inl (by decide))) (by decide) (Or.inl (by decide))) (by decide) (Or.inl (by decide))) (qm_gk (qm_gk (qm_gk g550 (by decide) (Or.inl (by decide))) (by decide) (Or.inl (by decide))) (by decide) (Or.inl (by decide))) (qm_gk (qm_gk (qm_gk g551 (by decide) (Or.inr rfl)) (by decide) (Or.inl (by decide))) (by decide) (Or.inr rfl)) (qm_ge _ _ _) (by omega) (by omega) hI557 hF558
                      · skip
                        refine qr_iconst 107 rfl rfl ?_
                        refine qr_goto 111 rfl rfl ?_
                        refine qr_istore _ 113 rfl (by decide) rfl rfl ?_
                        refine qr_bipush 115 rfl (by decide) rfl ?_
                        refine qr_iload_n 116 rfl (qm_gk g548 (by decide) (Or.inl (by decide))) rfl ?_
                        refine qr_imul 117 rfl rfl ?_
                        refine qr_iload_n 118 rfl (qm_gk g549 (by decide) (Or.inl (by decide))) rfl ?_
                        refine qr_iadd 119 rfl rfl ?_
                        refine qr_iconst 120 rfl rfl ?_
                        refine qr_iload 122 rfl (qm_gk g551 (by decide) (Or.inr rfl)) rfl ?_
                        refine qr_imul 123 rfl rfl ?_
                        refine qr_iadd 124 rfl rfl ?_
                        refine qr_istore _ 126 rfl (by decide) rfl rfl ?_
                        refine qr_iload 128 rfl (qm_gk (qm_ge _ _ _) (by decide) (Or.inr rfl)) rfl ?_
                        refine qr_if_eq 170 131 rfl rfl rfl (by omega) (fun h => False.elim (by omega)) (fun h576 => ?_)
                        refine qr_aload_n 132 rfl (qm_gk (qm_gk g547 (by decide) (Or.inl (by decide))) (by decide) (Or.inl (by decide))) rfl ?_
                        refine qr_aload_n 133 rfl (qm_gk (qm_gk g547 (by decide) (Or.inl (by decide))) (by decide) (Or.inl (by decide))) rfl ?_
                        refine qr_get 136 rfl rfl rfl (by decide) rfl ?_
                        refine qr_iload 138 rfl (qm_ge _ _ _) rfl ?_
                        refine qr_laload 139 rfl (by decide) rfl (by omega) (by decide) rfl ?_
                        refine qr_topL (fun v577 hv577 => ?_)
                        have hs578 : (-9223372036854775808) ≤ v577 ∧ v577 ≤ 9223372036854775807 := by rw [hv577]; exact hI557.2.1 123 _ (show _ < 360 by omega)
                        refine qr_l2i 140 rfl rfl ?_
                        refine qy_can (fun v579 hv579 => ?_)
                        refine qr_aload_n 141 rfl (qm_gk (qm_gk g547 (by decide) (Or.inl (by decide))) (by decide) (Or.inl (by decide))) rfl ?_
                        refine qr_get 144 rfl rfl rfl (by decide) rfl ?_
                        refine qr_iload 146 rfl (qm_ge _ _ _) rfl ?_
                        refine qr_iconst 147 rfl rfl ?_
                        refine qr_iadd 148 rfl rfl ?_
                        refine qr_laload 149 rfl (by decide) rfl (by omega) (by decide) rfl ?_
                        refine qr_topL (fun v580 hv580 => ?_)
                        have hs581 : (-9223372036854775808) ≤ v580 ∧ v580 ≤ 9223372036854775807 := by rw [hv580]; exact hI557.2.1 123 _ (show _ < 360 by omega)
                        refine qr_l2i 150 rfl rfl ?_
                        refine qy_can (fun v582 hv582 => ?_)
                        refine qr_aload_n 151 rfl (qm_gk (qm_gk g547 (by decide) (Or.inl (by decide))) (by decide) (Or.inl (by decide))) rfl ?_
                        as_aux_lemma =>
                          refine qr_get 154 rfl rfl rfl (by decide) rfl ?_
                          refine qr_iload 156 rfl (qm_ge _ _ _) rfl ?_
                          refine qr_iconst 157 rfl rfl ?_
                          refine qr_iadd 158 rfl rfl ?_
                          refine qr_laload 159 rfl (by decide) rfl (by omega) (by decide) rfl ?_
                          refine qr_topL (fun v583 hv583 => ?_)
                          have hs584 : (-9223372036854775808) ≤ v583 ∧ v583 ≤ 9223372036854775807 := by rw [hv583]; exact hI557.2.1 123 _ (show _ < 360 by omega)
                          refine qr_l2i 160 rfl rfl ?_
                          refine qy_can (fun v585 hv585 => ?_)
                          refine qr_callN 163 rfl rfl rfl (sf_174_86 (d := d + 1) hI557 (by omega) (by omega) (by omega)) ?_
                          have hs588 : 0 ≤ σ555 86 6 ∧ σ555 86 6 ≤ 32 := hI557.1 86 6
                          rintro _ _ ⟨rfl, v586, rfl, hv586, hp587⟩
                          show qr_W (qe L xs vb) (d + 3) qx_e176 _ (163, _, [.int (qz v586)], qw σ555 α556 κ ρ, 0, 0)
                          refine qr_if_eq 170 166 rfl rfl rfl (by omega) (fun h589 => ?_) (fun h589 => ?_)
                          · skip
                            refine qr_iconst 171 rfl rfl ?_
                            refine qr_istore _ 173 rfl (by decide) rfl rfl ?_
                            refine qr_iload 175 rfl (qm_ge _ _ _) rfl ?_
                            refine qr_if_eq 215 178 rfl rfl rfl (by omega) (fun h590 => ?_) (fun h => False.elim (by omega))
                            refine qr_goto 69 rfl rfl ?_
                            exact ih562 _ u552 0 σ555 α556 (by omega) (qm_gk (qm_gk (qm_gk g547 (by decide) (Or.inl (by decide))) (by decide) (Or.inl (by decide))) (by decide) (Or.inl (by decide))) (qm_gk (qm_gk (qm_gk g548 (by decide) (Or.inl (by decide))) (by decide) (Or.inl (by decide))) (by decide) (Or.inl (by decide))) (qm_gk (qm_gk (qm_gk g549 (by decide) (Or.inl (by decide))) (by decide) (Or.inl (by decide))) (by decide) (Or.inl (by decide))) (qm_gk (qm_gk (qm_gk g550 (by decide) (Or.inl (by decide))) (by decide) (Or.inl (by decide))) (by decide) (Or.inl (by decide))) (qm_gk (qm_gk (qm_gk g551 (by decide) (Or.inr rfl)) (by decide) (Or.inl (by decide))) (by decide) (Or.inr rfl)) (qm_ge _ _ _) (by omega) (by omega) hI557 hF558
                          · skip
                            refine qr_iconst 167 rfl rfl ?_
                            refine qr_goto 171 rfl rfl ?_
                            refine qr_istore _ 173 rfl (by decide) rfl rfl ?_
                            refine qr_iload 175 rfl (qm_ge _ _ _) rfl ?_
                            refine qr_if_eq 215 178 rfl rfl rfl (by omega) (fun h => False.elim (by omega)) (fun h591 => ?_)
                            refine qr_aload_n 179 rfl (qm_gk (qm_gk (qm_gk g547 (by decide) (Or.inl (by decide))) (by decide) (Or.inl (by decide))) (by decide) (Or.inl (by decide))) rfl ?_
                            refine qr_aload_n 180 rfl (qm_gk (qm_gk (qm_gk g547 (by decide) (Or.inl (by decide))) (by decide) (Or.inl (by decide))) (by decide) (Or.inl (by decide))) rfl ?_
                            refine qr_get 183 rfl rfl rfl (by decide) rfl ?_
                            refine qr_iload 185 rfl (qm_gk (qm_ge _ _ _) (by decide) (Or.inl (by decide))) rfl ?_
                            refine qr_laload 186 rfl (by decide) rfl (by omega) (by decide) rfl ?_
                            refine qr_topL (fun v592 hv592 => ?_)
                            have hs593 : (-9223372036854775808) ≤ v592 ∧ v592 ≤ 9223372036854775807 := by rw [hv592]; exact hI557.2.1 123 _ (show _ < 360 by omega)
                            refine qr_l2i 187 rfl rfl ?_
                            refine qy_can (fun v594 hv594 => ?_)
                            refine qr_aload_n 188 rfl (qm_gk (qm_gk (qm_gk g547 (by decide) (Or.inl (by decide))) (by decide) (Or.inl (by decide))) (by decide) (Or.inl (by decide))) rfl ?_
                            refine qr_get 191 rfl rfl rfl (by decide) rfl ?_
                            refine qr_iload 193 rfl (qm_gk (qm_ge _ _ _) (by decide) (Or.inl (by decide))) rfl ?_
                            refine qr_iconst 194 rfl rfl ?_
                            refine qr_iadd 195 rfl rfl ?_
                            refine qr_laload 196 rfl (by decide) rfl (by omega) (by decide) rfl ?_
                            refine qr_topL (fun v595 hv595 => ?_)
                            have hs596 : (-9223372036854775808) ≤ v595 ∧ v595 ≤ 9223372036854775807 := by rw [hv595]; exact hI557.2.1 123 _ (show _ < 360 by omega)
                            refine qr_l2i 197 rfl rfl ?_
                            refine qy_can (fun v597 hv597 => ?_)
                            refine qr_aload_n 198 rfl (qm_gk (qm_gk (qm_gk g547 (by decide) (Or.inl (by decide))) (by decide) (Or.inl (by decide))) (by decide) (Or.inl (by decide))) rfl ?_
                            refine qr_get 201 rfl rfl rfl (by decide) rfl ?_
                            refine qr_iload 203 rfl (qm_gk (qm_ge _ _ _) (by decide) (Or.inl (by decide))) rfl ?_
                            refine qr_iconst 204 rfl rfl ?_
                            refine qr_iadd 205 rfl rfl ?_
                            refine qr_laload 206 rfl (by decide) rfl (by omega) (by decide) rfl ?_
                            refine qr_topL (fun v598 hv598 => ?_)
                            have hs599 : (-9223372036854775808) ≤ v598 ∧ v598 ≤ 9223372036854775807 := by rw [hv598]; exact hI557.2.1 123 _ (show _ < 360 by omega)
                            refine qr_l2i 207 rfl rfl ?_
                            refine qy_can (fun v600 hv600 => ?_)
                            refine qr_callN 210 rfl rfl rfl (sf_173_86 (d := d + 0) hI557 (by omega) (by omega) (by omega)) ?_
                            rintro _ _ ⟨σ602, α603, rfl, hI604, hG605, v601, rfl, hv601⟩
                            have hF606 : qFr [(86, 6), (86, 15)] [87, 91, 92] σ α σ602 α603 := qFr_t hF558 hG605 (by decide) (by decide)
                            show qr_W (qe L xs vb) (d + 3) qx_e176 _ (210, _, [.int (qz v601)], qw σ602 α603 κ ρ, 0, 0)
                            refine qr_istore _ 212 rfl (by decide) rfl rfl ?_
                            refine qr_iinc _ 215 rfl (qm_gk (qm_gk (qm_gk (qm_gk g551 (by decide) (Or.inr rfl)) (by decide) (Or.inl (by decide))) (by decide) (Or.inr rfl)) (by decide) (Or.inl (by decide))) (by decide) rfl rfl ?_
                            refine qr_goto 69 rfl rfl ?_
                            exact ih562 _ (u552 + 1) 1 σ602 α603 (by omega) (qm_gk (qm_gk (qm_gk (qm_gk (qm_gk g547 (by decide) (Or.inl (by decide))) (by decide) (Or.inl (by decide))) (by decide) (Or.inl (by decide))) (by decide) (Or.inl (by decide))) (by decide) (Or.inl (by decide))) (qm_gk (qm_gk (qm_gk (qm_gk (qm_gk g548 (by decide) (Or.inl (by decide))) (by decide) (Or.inl (by decide))) (by decide) (Or.inl (by decide))) (by decide) (Or.inl (by decide))) (by decide) (Or.inl (by decide))) (qm_gk (qm_gk (qm_gk (qm_gk (qm_gk g549 (by decide) (Or.inl (by decide))) (by decide) (Or.inl (by decide))) (by decide) (Or.inl (by decide))) (by decide) (Or.inl (by decide))) (by decide) (Or.inl (by decide))) (qm_gk (qm_gk (qm_gk (qm_gk (qm_gk g550 (by decide) (Or.inl (by decide))) (by decide) (Or.inl (by decide))) (by decide) (Or.inl (by decide))) (by decide) (Or.inl (by decide))) (by decide) (Or.inr rfl)) (qm_ge _ _ _) (qm_gk (qm_gk (qm_ge _ _ _) (by decide) (Or.inl (by decide))) (by decide) (Or.inl (by decide))) (by omega) (by omega) hI604 hF606
            exact hL561 ((2 * (20 - 0) + 1 + 1 : Int)).toNat _ 0 1 σ α (by omega) rfl rfl rfl rfl rfl rfl (by omega) (by omega) hI hF0
      · skip
        refine qr_aload_n 31 rfl rfl rfl ?_
        refine qr_get 34 rfl rfl rfl (by decide) rfl ?_
        refine qr_iload_n 35 rfl rfl rfl ?_
        refine qr_iaload 36 rfl rfl (by omega) (by decide) rfl ?_
        refine qr_topI (fun v607 hv607 => ?_)
        have hs608 : (-1) ≤ v607 ∧ v607 ≤ 64 := by rw [hv607]; exact hI.2.1 121 _ (show _ < 6 by omega)
        refine qr_bipush 38 rfl (by decide) rfl ?_
        refine qr_icmp_eq 44 41 rfl rfl rfl (by omega) (by omega) (fun h609 => ?_) (fun h609 => ?_)
        · skip
          refine qr_iconst 45 rfl rfl ?_
          refine qr_istore _ 47 rfl (by decide) rfl rfl ?_
          refine qr_aload_n 48 rfl rfl rfl ?_
          refine qr_get 51 rfl rfl rfl (by decide) rfl ?_
          refine qr_iload_n 52 rfl rfl rfl ?_
          refine qr_iaload 53 rfl rfl (by omega) (by decide) rfl ?_
          refine qr_topI (fun v610 hv610 => ?_)
          have hs611 : (-1) ≤ v610 ∧ v610 ≤ 64 := by rw [hv610]; exact hI.2.1 121 _ (show _ < 6 by omega)
          refine qr_bipush 55 rfl (by decide) rfl ?_
          refine qr_icmp_ne 66 58 rfl rfl rfl (by omega) (by omega) (fun h612 => ?_) (fun h612 => ?_)
          · skip
            refine qr_iconst 67 rfl rfl ?_
            refine qr_istore _ 69 rfl (by decide) rfl rfl ?_
            have hL643 : ∀ (n : Nat) (ls : qm_L) (u634 u636 : Int) (σ637 α638 : Nat → Nat → Int), 2 * (20 - u634) + u636 < (n : Int) → qm_get ls 0 = some (.ref 86) → qm_get ls 1 = some (.int (qz x1)) → qm_get ls 2 = some (.int (qz x2)) → qm_get ls 3 = some (.int (qz x3)) → qm_get ls 4 = some (.int (qz u634)) → qm_get ls 5 = some (.int (qz u636)) → (0 ≤ u634 ∧ u634 ≤ 0) → (0 ≤ u636 ∧ u636 ≤ 0) → qI σ637 α638 κ ρ → qFr [(86, 6), (86, 15)] [87, 91, 92] σ α σ637 α638 → qr_W (qe L xs vb) (d + 3) qx_e176 (fun r w' => ∃ σ' α', w' = qw σ' α' κ ρ ∧ qI σ' α' κ ρ ∧ qFr [(86, 6), (86, 15)] [87, 91, 92] σ α σ' α' ∧ ∃ v : Int, r = some (.int (qz v)) ∧ ((-2147483648) ≤ v ∧ v ≤ 2147483647)) (69, ls, [], qw σ637 α638 κ ρ, 0, 0) := by
              intro n
              induction n with
              | zero => intro ls u634 u636 σ637 α638 hm g629 g630 g631 g632 g633 g635 hf641 hf642 hI639 hF640; exact False.elim (by omega)
              | succ n ih644 =>
                intro ls u634 u636 σ637 α638 hm g629 g630 g631 g632 g633 g635 hf641 hf642 hI639 hF640
                refine qr_iload 71 rfl g635 rfl ?_
                refine qr_if_eq 218 74 rfl rfl rfl (by omega) (fun h645 => ?_) (fun h => False.elim (by omega))
                refine qr_iload 220 rfl g633 rfl ?_
                refine qr_retI rfl rfl (by decide) (by decide) ?_
                exact ⟨_, _, rfl, hI639, hF640, u634, rfl, by omega⟩
            exact hL643 ((2 * (20 - 0) + 0 + 1 : Int)).toNat _ 0 0 σ α (by omega) rfl rfl rfl rfl rfl rfl (by omega) (by omega) hI hF0
          · skip
            refine qr_iload_n 59 rfl rfl rfl ?_
            refine qr_if_lt 66 62 rfl rfl rfl (by omega) (fun h646 => ?_) (fun h646 => ?_)
            · skip
              refine qr_iconst 67 rfl rfl ?_
              refine qr_istore _ 69 rfl (by decide) rfl rfl ?_
              have hL677 : ∀ (n : Nat) (ls : qm_L) (u668 u670 : Int) (σ671 α672 : Nat → Nat → Int), 2 * (20 - u668) + u670 < (n : Int) → qm_get ls 0 = some (.ref 86) → qm_get ls 1 = some (.int (qz x1)) → qm_get ls 2 = some (.int (qz x2)) → qm_get ls 3 = some (.int (qz x3)) → qm_get ls 4 = some (.int (qz u668)) → qm_get ls 5 = some (.int (qz u670)) → (0 ≤ u668 ∧ u668 ≤ 0) → (0 ≤ u670 ∧ u670 ≤ 0) → qI σ671 α672 κ ρ → qFr [(86, 6), (86, 15)] [87, 91, 92] σ α σ671 α672 → qr_W (qe L xs vb) (d + 3) qx_e176 (fun r w' => ∃ σ' α', w' = qw σ' α' κ ρ ∧ qI σ' α' κ ρ ∧ qFr [(86, 6), (86, 15)] [87, 91, 92] σ α σ' α' ∧ ∃ v : Int, r = some (.int (qz v)) ∧ ((-2147483648) ≤ v ∧ v ≤ 2147483647)) (69, ls, [], qw σ671 α672 κ ρ, 0, 0) := by
                intro n
                induction n with
                | zero => intro ls u668 u670 σ671 α672 hm g663 g664 g665 g666 g667 g669 hf675 hf676 hI673 hF674; exact False.elim (by omega)
                | succ n ih678 =>
                  intro ls u668 u670 σ671 α672 hm g663 g664 g665 g666 g667 g669 hf675 hf676 hI673 hF674
                  refine qr_iload 71 rfl g669 rfl ?_
                  refine qr_if_eq 218 74 rfl rfl rfl (by omega) (fun h679 => ?_) (fun h => False.elim (by omega))
                  refine qr_iload 220 rfl g667 rfl ?_
                  refine qr_retI rfl rfl (by decide) (by decide) ?_
                  exact ⟨_, _, rfl, hI673, hF674, u668, rfl, by omega⟩
              exact hL677 ((2 * (20 - 0) + 0 + 1 : Int)).toNat _ 0 0 σ α (by omega) rfl rfl rfl rfl rfl rfl (by omega) (by omega) hI hF0
            · skip
              refine qr_iconst 63 rfl rfl ?_
              refine qr_goto 67 rfl rfl ?_
              refine qr_istore _ 69 rfl (by decide) rfl rfl ?_
              have hL1161 : ∀ (n : Nat) (ls : qm_L) (u1152 u1154 : Int) (σ1155 α1156 : Nat → Nat → Int), 2 * (20 - u1152) + u1154 < (n : Int) → qm_get ls 0 = some (.ref 86) → qm_get ls 1 = some (.int (qz x1)) → qm_get ls 2 = some (.int (qz x2)) → qm_get ls 3 = some (.int (qz x3)) → qm_get ls 4 = some (.int (qz u1152)) → qm_get ls 5 = some (.int (qz u1154)) → (0 ≤ u1152 ∧ u1152 ≤ 20) → (0 ≤ u1154 ∧ u1154 ≤ 1) → qI σ1155 α1156 κ ρ → qFr [(86, 6), (86, 15)] [87, 91, 92] σ α σ1155 α1156 → qr_W (qe L xs vb) (d + 3) qx_e176 (fun r w' => ∃ σ' α', w' = qw σ' α' κ ρ ∧ qI σ' α' κ ρ ∧ qFr [(86, 6), (86, 15)] [87, 91, 92] σ α σ' α' ∧ ∃ v : Int, r = some (.int (qz v)) ∧ ((-2147483648) ≤ v ∧ v ≤ 2147483647)) (69, ls, [], qw σ1155 α1156 κ ρ, 0, 0) := by
                intro n
                induction n with
                | zero => intro ls u1152 u1154 σ1155 α1156 hm g1147 g1148 g1149 g1150 g1151 g1153 hf1159 hf1160 hI1157 hF1158; exact False.elim (by omega)
                | succ n ih1162 =>
                  intro ls u1152 u1154 σ1155 α1156 hm g1147 g1148 g1149 g1150 g1151 g1153 hf1159 hf1160 hI1157 hF1158
                  refine qr_iload 71 rfl g1153 rfl ?_
                  refine qr_if_eq 218 74 rfl rfl rfl (by omega) (fun h1163 => ?_) (fun h1163 => ?_)
                  · skip
                    refine qr_iload 220 rfl g1151 rfl ?_
                    refine qr_retI rfl rfl (by decide) (by decide) ?_
                    exact ⟨_, _, rfl, hI1157, hF1158, u1152, rfl, by omega⟩
                  · skip
                    refine qr_iload 76 rfl g1151 rfl ?_
                    refine qr_iload_n 77 rfl g1150 rfl ?_
                    refine qr_icmp_ge 218 80 rfl rfl rfl (by omega) (by omega) (fun h1164 => ?_) (fun h1164 => ?_)
                    · skip
                      refine qr_iload 220 rfl g1151 rfl ?_
                      refine qr_retI rfl rfl (by decide) (by decide) ?_
                      exact ⟨_, _, rfl, hI1157, hF1158, u1152, rfl, by omega⟩
                    · skip
                      refine qr_iload_n 81 rfl g1149 rfl ?_
                      refine qr_aload_n 82 rfl g1147 rfl ?_
                      refine qr_get 85 rfl rfl rfl (by decide) rfl ?_
                      refine qr_iload_n 86 rfl g1148 rfl ?_
                      refine qr_iaload 87 rfl rfl (by omega) (by decide) rfl ?_
                      refine qr_topI (fun v1165 hv1165 => ?_)
                      have hs1166 : 0 ≤ v1165 ∧ v1165 ≤ 60 := by rw [hv1165]; exact hI1157.2.1 122 _ (show _ < 6 by omega)
                      refine qr_iconst 88 rfl rfl ?_
                      refine qr_isub 89 rfl rfl ?_
                      refine qr_iconst 90 rfl rfl ?_
                      refine qr_iload 92 rfl g1151 rfl ?_
                      refine qr_imul 93 rfl rfl ?_
                      refine qr_isub 94 rfl rfl ?_
                      refine qr_icmp_gt 110 97 rfl rfl rfl (by omega) (by omega) (fun h1167 => ?_) (fun h1167 => ?_)
                      · skip
                        refine qr_iconst 111 rfl rfl ?_
                        refine qr_istore _ 113 rfl (by decide) rfl rfl ?_
                        refine qr_bipush 115 rfl (by decide) rfl ?_
                        refine qr_iload_n 116 rfl (qm_gk g1148 (by decide) (Or.inl (by decide))) rfl ?_
                        refine qr_imul 117 rfl rfl ?_
                        refine qr_iload_n 118 rfl (qm_gk g1149 (by decide) (Or.inl (by decide))) rfl ?_
                        refine qr_iadd 119 rfl rfl ?_
                        refine qy_can (fun v1168 hv1168 => ?_)
                        refine qr_iconst 120 rfl rfl ?_
                        refine qr_iload 122 rfl (qm_gk g1151 (by decide) (Or.inr rfl)) rfl ?_
                        refine qr_imul 123 rfl rfl ?_
                        refine qr_iadd 124 rfl rfl ?_
                        refine qy_can (fun v1169 hv1169 => ?_)
                        refine qr_istore _ 126 rfl (by decide) rfl rfl ?_
                        refine qr_iload 128 rfl (qm_gk (qm_ge _ _ _) (by decide) (Or.inr rfl)) rfl ?_
                        refine qr_if_eq 170 131 rfl rfl rfl (by omega) (fun h1170 => ?_) (fun h => False.elim (by omega))
                        refine qr_iconst 171 rfl rfl ?_
                        refine qr_istore _ 173 rfl (by decide) rfl rfl ?_
                        refine qr_iload 175 rfl (qm_ge _ _ _) rfl ?_
                        refine qr_if_eq 215 178 rfl rfl rfl (by omega) (fun h1171 => ?_) (fun h => False.elim (by omega))
                        refine qr_goto 69 rfl rfl ?_
                        exact ih1162 _ u1152 0 σ1155 α1156 (by omega) (qm_gk (qm_gk (qm_gk g1147 (by decide) (Or.inl (by decide))) (by decide) (Or.inl (by decide))) (by decide) (Or.inl (by decide))) (qm_gk (qm_gk (qm_gk g1148 (by decide) (Or.inl (by decide))) (by decide) (Or.inl (by decide))) (by decide) (Or.inl (by decide))) (qm_gk (qm_gk (qm_gk g1149 (by decide) (Or.inl (by decide))) (by decide) (Or.inl (by decide))) (by decide) (Or.inl (by decide))) (qm_gk (qm_gk (qm_gk g1150 (by decide) (Or.inl (by decide))) (by decide) (Or.inl (by decide))) (by decide) (Or.inl (by decide))) (qm_gk (qm_gk (qm_gk g1151 (by decide) (Or.inr rfl)) (by decide) (Or.inl (by decide))) (by decide) (Or.inr rfl)) (qm_ge _ _ _) (by omega) (by omega) hI1157 hF1158
                      · skip
                        refine qr_aload_n 98 rfl g1147 rfl ?_
                        refine qr_get 101 rfl rfl rfl (by decide) rfl ?_
                        have hs1172 : 0 ≤ σ1155 86 6 ∧ σ1155 86 6 ≤ 32 := hI1157.1 86 6
                        refine qr_bipush 103 rfl (by decide) rfl ?_
                        refine qr_icmp_ge 110 106 rfl rfl rfl (by omega) (by omega) (fun h1173 => ?_) (fun h1173 => ?_)
                        · skip
                          refine qr_iconst 111 rfl rfl ?_
                          refine qr_istore _ 113 rfl (by decide) rfl rfl ?_
                          refine qr_bipush 115 rfl (by decide) rfl ?_
                          refine qr_iload_n 116 rfl (qm_gk g1148 (by decide) (Or.inl (by decide))) rfl ?_
                          refine qr_imul 117 rfl rfl ?_
                          refine qr_iload_n 118 rfl (qm_gk g1149 (by decide) (Or.inl (by decide))) rfl ?_
                          refine qr_iadd 119 rfl rfl ?_
                          refine qr_iconst 120 rfl rfl ?_
                          refine qr_iload 122 rfl (qm_gk g1151 (by decide) (Or.inr rfl)) rfl ?_
                          refine qr_imul 123 rfl rfl ?_
                          refine qr_iadd 124 rfl rfl ?_
                          refine qr_istore _ 126 rfl (by decide) rfl rfl ?_
                          refine qr_iload 128 rfl (qm_gk (qm_ge _ _ _) (by decide) (Or.inr rfl)) rfl ?_
                          refine qr_if_eq 170 131 rfl rfl rfl (by omega) (fun h1174 => ?_) (fun h => False.elim (by omega))
                          refine qr_iconst 171 rfl rfl ?_
                          refine qr_istore _ 173 rfl (by decide) rfl rfl ?_
                          refine qr_iload 175 rfl (qm_ge _ _ _) rfl ?_
                          refine qr_if_eq 215 178 rfl rfl rfl (by omega) (fun h1175 => ?_) (fun h => False.elim (by omega))
                          refine qr_goto 69 rfl rfl ?_
                          exact ih1162 _ u1152 0 σ1155 α1156 (by omega) (qm_gk (qm_gk (qm_gk g1147 (by decide) (Or.inl (by decide))) (by decide) (Or.inl (by decide))) (by decide) (Or.inl (by decide))) (qm_gk (qm_gk (qm_gk g1148 (by decide) (Or.inl (by decide))) (by decide) (Or.inl (by decide))) (by decide) (Or.inl (by decide))) (qm_gk (qm_gk (qm_gk g1149 (by decide) (Or.inl (by decide))) (by decide) (Or.inl (by decide))) (by decide) (Or.inl (by decide))) (qm_gk (qm_gk (qm_gk g1150 (by decide) (Or.inl (by decide))) (by decide) (Or.inl (by decide))) (by decide) (Or.inl (by decide))) (qm_gk (qm_gk (qm_gk g1151 (by decide) (Or.inr rfl)) (by decide) (Or.inl (by decide))) (by decide) (Or.inr rfl)) (qm_ge _ _ _) (by omega) (by omega) hI1157 hF1158
                        · skip
                          refine qr_iconst 107 rfl rfl ?_
                          refine qr_goto 111 rfl rfl ?_
                          refine qr_istore _ 113 rfl (by decide) rfl rfl ?_
                          refine qr_bipush 115 rfl (by decide) rfl ?_
                          refine qr_iload_n 116 rfl (qm_gk g1148 (by decide) (Or.inl (by decide))) rfl ?_
                          refine qr_imul 117 rfl rfl ?_
                          refine qr_iload_n 118 rfl (qm_gk g1149 (by decide) (Or.inl (by decide))) rfl ?_
                          refine qr_iadd 119 rfl rfl ?_
                          refine qr_iconst 120 rfl rfl ?_
                          refine qr_iload 122 rfl (qm_gk g1151 (by decide) (Or.inr rfl)) rfl ?_
                          refine qr_imul 123 rfl rfl ?_
                          refine qr_iadd 124 rfl rfl ?_
                          refine qr_istore _ 126 rfl (by decide) rfl rfl ?_
                          refine qr_iload 128 rfl (qm_gk (qm_ge _ _ _) (by decide) (Or.inr rfl)) rfl ?_
                          refine qr_if_eq 170 131 rfl rfl rfl (by omega) (fun h => False.elim (by omega)) (fun h1176 => ?_)
                          refine qr_aload_n 132 rfl (qm_gk (qm_gk g1147 (by decide) (Or.inl (by decide))) (by decide) (Or.inl (by decide))) rfl ?_
                          refine qr_aload_n 133 rfl (qm_gk (qm_gk g1147 (by decide) (Or.inl (by decide))) (by decide) (Or.inl (by decide))) rfl ?_
                          refine qr_get 136 rfl rfl rfl (by decide) rfl ?_
                          refine qr_iload 138 rfl (qm_ge _ _ _) rfl ?_
                          refine qr_laload 139 rfl (by decide) rfl (by omega) (by decide) rfl ?_
                          refine qr_topL (fun v1177 hv1177 => ?_)
                          have hs1178 : (-9223372036854775808) ≤ v1177 ∧ v1177 ≤ 9223372036854775807 := by rw [hv1177]; exact hI1157.2.1 123 _ (show _ < 360 by omega)
                          refine qr_l2i 140 rfl rfl ?_
                          refine qy_can (fun v1179 hv1179 => ?_)
                          refine qr_aload_n 141 rfl (qm_gk (qm_gk g1147 (by decide) (Or.inl (by decide))) (by decide) (Or.inl (by decide))) rfl ?_
                          refine qr_get 144 rfl rfl rfl (by decide) rfl ?_
                          refine qr_iload 146 rfl (qm_ge _ _ _) rfl ?_
                          refine qr_iconst 147 rfl rfl ?_
                          refine qr_iadd 148 rfl rfl ?_
                          refine qr_laload 149 rfl (by decide) rfl (by omega) (by decide) rfl ?_
                          refine qr_topL (fun v1180 hv1180 => ?_)
                          have hs1181 : (-9223372036854775808) ≤ v1180 ∧ v1180 ≤ 9223372036854775807 := by rw [hv1180]; exact hI1157.2.1 123 _ (show _ < 360 by omega)
                          refine qr_l2i 150 rfl rfl ?_
                          refine qy_can (fun v1182 hv1182 => ?_)
                          refine qr_aload_n 151 rfl (qm_gk (qm_gk g1147 (by decide) (Or.inl (by decide))) (by decide) (Or.inl (by decide))) rfl ?_
                          as_aux_lemma =>
                            refine qr_get 154 rfl rfl rfl (by decide) rfl ?_
                            refine qr_iload 156 rfl (qm_ge _ _ _) rfl ?_
                            refine qr_iconst 157 rfl rfl ?_
                            refine qr_iadd 158 rfl rfl ?_
                            refine qr_laload 159 rfl (by decide) rfl (by omega) (by decide) rfl ?_
                            refine qr_topL (fun v1183 hv1183 => ?_)
                            have hs1184 : (-9223372036854775808) ≤ v1183 ∧ v1183 ≤ 9223372036854775807 := by rw [hv1183]; exact hI1157.2.1 123 _ (show _ < 360 by omega)
                            refine qr_l2i 160 rfl rfl ?_
                            refine qy_can (fun v1185 hv1185 => ?_)
                            refine qr_callN 163 rfl rfl rfl (sf_174_86 (d := d + 1) hI1157 (by omega) (by omega) (by omega)) ?_
                            have hs1188 : 0 ≤ σ1155 86 6 ∧ σ1155 86 6 ≤ 32 := hI1157.1 86 6
                            rintro _ _ ⟨rfl, v1186, rfl, hv1186, hp1187⟩
                            show qr_W (qe L xs vb) (d + 3) qx_e176 _ (163, _, [.int (qz v1186)], qw σ1155 α1156 κ ρ, 0, 0)
                            refine qr_if_eq 170 166 rfl rfl rfl (by omega) (fun h1189 => ?_) (fun h1189 => ?_)
                            · skip
                              refine qr_iconst 171 rfl rfl ?_
                              refine qr_istore _ 173 rfl (by decide) rfl rfl ?_
                              refine qr_iload 175 rfl (qm_ge _ _ _) rfl ?_
                              refine qr_if_eq 215 178 rfl rfl rfl (by omega) (fun h1190 => ?_) (fun h => False.elim (by omega))
                              refine qr_goto 69 rfl rfl ?_
                              exact ih1162 _ u1152 0 σ1155 α1156 (by omega) (qm_gk (qm_gk (qm_gk g1147 (by decide) (Or.inl (by decide))) (by decide) (Or.inl (by decide))) (by decide) (Or.inl (by decide))) (qm_gk (qm_gk (qm_gk g1148 (by decide) (Or.inl (by decide))) (by decide) (Or.inl (by decide))) (by decide) (Or.inl (by decide))) (qm_gk (qm_gk (qm_gk g1149 (by decide) (Or.inl (by decide))) (by decide) (Or.inl (by decide))) (by decide) (Or.inl (by decide))) (qm_gk (qm_gk (qm_gk g1150 (by decide) (Or.inl (by decide))) (by decide) (Or.inl (by decide))) (by decide) (Or.inl (by decide))) (qm_gk (qm_gk (qm_gk g1151 (by decide) (Or.inr rfl)) (by decide) (Or.inl (by decide))) (by decide) (Or.inr rfl)) (qm_ge _ _ _) (by omega) (by omega) hI1157 hF1158
                            · skip
                              refine qr_iconst 167 rfl rfl ?_
                              refine qr_goto 171 rfl rfl ?_
                              refine qr_istore _ 173 rfl (by decide) rfl rfl ?_
                              refine qr_iload 175 rfl (qm_ge _ _ _) rfl ?_
                              refine qr_if_eq 215 178 rfl rfl rfl (by omega) (fun h => False.elim (by omega)) (fun h1191 => ?_)
                              refine qr_aload_n 179 rfl (qm_gk (qm_gk (qm_gk g1147 (by decide) (Or.inl (by decide))) (by decide) (Or.inl (by decide))) (by decide) (Or.inl (by decide))) rfl ?_
                              refine qr_aload_n 180 rfl (qm_gk (qm_gk (qm_gk g1147 (by decide) (Or.inl (by decide))) (by decide) (Or.inl (by decide))) (by decide) (Or.inl (by decide))) rfl ?_
                              refine qr_get 183 rfl rfl rfl (by decide) rfl ?_
                              refine qr_iload 185 rfl (qm_gk (qm_ge _ _ _) (by decide) (Or.inl (by decide))) rfl ?_
                              refine qr_laload 186 rfl (by decide) rfl (by omega) (by decide) rfl ?_
                              refine qr_topL (fun v1192 hv1192 => ?_)
                              have hs1193 : (-9223372036854775808) ≤ v1192 ∧ v1192 ≤ 9223372036854775807 := by rw [hv1192]; exact hI1157.2.1 123 _ (show _ < 360 by omega)
                              refine qr_l2i 187 rfl rfl ?_
                              refine qy_can (fun v1194 hv1194 => ?_)
                              refine qr_aload_n 188 rfl (qm_gk (qm_gk (qm_gk g1147 (by decide) (Or.inl (by decide))) (by decide) (Or.inl (by decide))) (by decide) (Or.inl (by decide))) rfl ?_
                              refine qr_get 191 rfl rfl rfl (by decide) rfl ?_
                              refine qr_iload 193 rfl (qm_gk (qm_ge _ _ _) (by decide) (Or.inl (by decide))) rfl ?_
                              refine qr_iconst 194 rfl rfl ?_
                              refine qr_iadd 195 rfl rfl ?_
                              refine qr_laload 196 rfl (by decide) rfl (by omega) (by decide) rfl ?_
                              refine qr_topL (fun v1195 hv1195 => ?_)
                              have hs1196 : (-9223372036854775808) ≤ v1195 ∧ v1195 ≤ 9223372036854775807 := by rw [hv1195]; exact hI1157.2.1 123 _ (show _ < 360 by omega)
                              refine qr_l2i 197 rfl rfl ?_
                              refine qy_can (fun v1197 hv1197 => ?_)
                              refine qr_aload_n 198 rfl (qm_gk (qm_gk (qm_gk g1147 (by decide) (Or.inl (by decide))) (by decide) (Or.inl (by decide))) (by decide) (Or.inl (by decide))) rfl ?_
                              refine qr_get 201 rfl rfl rfl (by decide) rfl ?_
                              refine qr_iload 203 rfl (qm_gk (qm_ge _ _ _) (by decide) (Or.inl (by decide))) rfl ?_
                              refine qr_iconst 204 rfl rfl ?_
                              refine qr_iadd 205 rfl rfl ?_
                              refine qr_laload 206 rfl (by decide) rfl (by omega) (by decide) rfl ?_
                              refine qr_topL (fun v1198 hv1198 => ?_)
                              have hs1199 : (-9223372036854775808) ≤ v1198 ∧ v1198 ≤ 9223372036854775807 := by rw [hv1198]; exact hI1157.2.1 123 _ (show _ < 360 by omega)
                              refine qr_l2i 207 rfl rfl ?_
                              refine qy_can (fun v1200 hv1200 => ?_)
                              refine qr_callN 210 rfl rfl rfl (sf_173_86 (d := d + 0) hI1157 (by omega) (by omega) (by omega)) ?_
                              rintro _ _ ⟨σ1202, α1203, rfl, hI1204, hG1205, v1201, rfl, hv1201⟩
                              have hF1206 : qFr [(86, 6), (86, 15)] [87, 91, 92] σ α σ1202 α1203 := qFr_t hF1158 hG1205 (by decide) (by decide)
                              show qr_W (qe L xs vb) (d + 3) qx_e176 _ (210, _, [.int (qz v1201)], qw σ1202 α1203 κ ρ, 0, 0)
                              refine qr_istore _ 212 rfl (by decide) rfl rfl ?_
                              refine qr_iinc _ 215 rfl (qm_gk (qm_gk (qm_gk (qm_gk g1151 (by decide) (Or.inr rfl)) (by decide) (Or.inl (by decide))) (by decide) (Or.inr rfl)) (by decide) (Or.inl (by decide))) (by decide) rfl rfl ?_
                              refine qr_goto 69 rfl rfl ?_
                              exact ih1162 _ (u1152 + 1) 1 σ1202 α1203 (by omega) (qm_gk (qm_gk (qm_gk (qm_gk (qm_gk g1147 (by decide) (Or.inl (by decide))) (by decide) (Or.inl (by decide))) (by decide) (Or.inl (by decide))) (by decide) (Or.inl (by decide))) (by decide) (Or.inl (by decide))) (qm_gk (qm_gk (qm_gk (qm_gk (qm_gk g1148 (by decide) (Or.inl (by decide))) (by decide) (Or.inl (by decide))) (by decide) (Or.inl (by decide))) (by decide) (Or.inl (by decide))) (by decide) (Or.inl (by decide))) (qm_gk (qm_gk (qm_gk (qm_gk (qm_gk g1149 (by decide) (Or.inl (by decide))) (by decide) (Or.inl (by decide))) (by decide) (Or.inl (by decide))) (by decide) (Or.inl (by decide))) (by decide) (Or.inl (by decide))) (qm_gk (qm_gk (qm_gk (qm_gk (qm_gk g1150 (by decide) (Or.inl (by decide))) (by decide) (Or.inl (by decide))) (by decide) (Or.inl (by decide))) (by decide) (Or.inl (by decide))) (by decide) (Or.inr rfl)) (qm_ge _ _ _) (qm_gk (qm_gk (qm_ge _ _ _) (by decide) (Or.inl (by decide))) (by decide) (Or.inl (by decide))) (by omega) (by omega) hI1204 hF1206
              exact hL1161 ((2 * (20 - 0) + 1 + 1 : Int)).toNat _ 0 1 σ α (by omega) rfl rfl rfl rfl rfl rfl (by omega) (by omega) hI hF0
        · skip
          refine qr_bipush 43 rfl (by decide) rfl ?_
          refine qr_retI rfl rfl (by decide) (by decide) ?_
          exact ⟨_, _, rfl, hI, hF0, (-12), rfl, by omega⟩
    · skip
      refine qr_iconst 20 rfl rfl ?_
      refine qr_retI rfl rfl (by decide) (by decide) ?_
      exact ⟨_, _, rfl, hI, hF0, (-1), rfl, by omega⟩

set_option maxHeartbeats 4000000 in
set_option maxRecDepth 20000 in
/-- OneRoofModel.byteAt -/
theorem sf_219_86t {L : Nat} {xs : Nat → Int} {vb : Bool} {d : Nat} {σ α : Nat → Nat → Int} {κ : Nat → Option Nat} {ρ : Nat}  (hI : qI σ α κ ρ)  : qm_T (qe L xs vb) (d + 1) 219 [.ref 86] (qw σ α κ ρ) (fun r w' => w' = qw σ α κ ρ ∧ ∃ v : Int, r = some (.int (qz v)) ∧ ((-2147483648) ≤ v ∧ v ≤ 2147483647) ∧ (v = 0 ∨ σ 86 36 < σ 86 37)) := by
  refine qr_start (d := d + 0) qv_e219 (Nat.le_of_ble_eq_true rfl) ?_
  show qr_W (qe L xs vb) (d + 0) qx_e219 _ (0, [(0, .ref 86)], [], _, 0, 0)
  have hz86_36 : 0 ≤ σ 86 36 ∧ σ 86 36 ≤ 120 := hI.1 86 36
  have hz86_37 : 0 ≤ σ 86 37 ∧ σ 86 37 ≤ 120 := hI.1 86 37
  refine qr_aload_n 1 rfl rfl rfl ?_
  refine qr_get 4 rfl rfl rfl (by decide) rfl ?_
  refine qr_aload_n 5 rfl rfl rfl ?_
  refine qr_get 8 rfl rfl rfl (by decide) rfl ?_
  refine qr_icmp_ge 47 11 rfl rfl rfl (by omega) (by omega) (fun h1 => ?_) (fun h1 => ?_)
  · skip
    refine qr_iconst 48 rfl rfl ?_
    refine qr_retI rfl rfl (by decide) (by decide) ?_
    exact ⟨rfl, 0, rfl, by omega, by omega⟩
  · skip
    refine qr_aload_n 12 rfl rfl rfl ?_
    refine qr_get 15 rfl rfl rfl (by decide) rfl ?_
    have hs2 : (-1) ≤ σ 86 35 ∧ σ 86 35 ≤ 120 := hI.1 86 35
    refine qr_if_ge 30 18 rfl rfl rfl (by omega) (fun h3 => ?_) (fun h3 => ?_)
    · skip
      refine qr_aload_n 31 rfl rfl rfl ?_
      refine qr_get 34 rfl rfl rfl (by decide) rfl ?_
      refine qr_aload_n 35 rfl rfl rfl ?_
      refine qr_get 38 rfl rfl rfl (by decide) rfl ?_
      refine qr_aload_n 39 rfl rfl rfl ?_
      refine qr_get 42 rfl rfl rfl (by decide) rfl ?_
      refine qr_iadd 43 rfl rfl ?_
      refine qr_iaload 44 rfl rfl (by omega) (by decide) rfl ?_
      refine qr_topI (fun v4 hv4 => ?_)
      have hs5 : (-2147483648) ≤ v4 ∧ v4 ≤ 2147483647 := by rw [hv4]; exact hI.2.1 107 _ (show _ < 240 by omega)
      refine qr_goto 48 rfl rfl ?_
      refine qr_retI rfl rfl (by decide) (by decide) ?_
      exact ⟨rfl, v4, rfl, by omega, by omega⟩
    · skip
      refine qr_aload_n 19 rfl rfl rfl ?_
      refine qr_get 22 rfl rfl rfl (by decide) rfl ?_
      refine qr_aload_n 23 rfl rfl rfl ?_
      refine qr_get 26 rfl rfl rfl (by decide) rfl ?_
      refine qr_iaload 27 rfl rfl (by omega) (by decide) rfl ?_
      refine qr_topI (fun v6 hv6 => ?_)
      have hs7 : (-2147483648) ≤ v6 ∧ v6 ≤ 2147483647 := by rw [hv6]; exact hI.2.1 106 _ (show _ < 120 by omega)
      refine qr_goto 48 rfl rfl ?_
      refine qr_retI rfl rfl (by decide) (by decide) ?_
      exact ⟨rfl, v6, rfl, by omega, by omega⟩

set_option maxHeartbeats 4000000 in
set_option maxRecDepth 20000 in
/-- OneRoofModel.takes -/
theorem sf_221_86t {L : Nat} {xs : Nat → Int} {vb : Bool} {d : Nat} {σ α : Nat → Nat → Int} {κ : Nat → Option Nat} {ρ : Nat} {x1 : Int} (hI : qI σ α κ ρ) (r1 : (-2147483648) ≤ x1 ∧ x1 ≤ 2147483647) (p0 : ¬ x1 = 0) : qm_T (qe L xs vb) (d + 2) 221 [.ref 86, .int (qz x1)] (qw σ α κ ρ) (fun r w' => ∃ σ', w' = qw σ' α κ ρ ∧ qI σ' α κ ρ ∧ qFr [(86, 36)] [] σ α σ' α ∧ ∃ v : Int, r = some (.int (qz v)) ∧ (0 ≤ v ∧ v ≤ 1) ∧ ((v = 0 ∧ σ' 86 36 = σ 86 36) ∨ (v = 1 ∧ σ' 86 36 = σ 86 36 + 1 ∧ σ 86 36 < σ 86 37))) := by
  refine qr_start (d := d + 1) qv_e221 (Nat.le_of_ble_eq_true rfl) ?_
  show qr_W (qe L xs vb) (d + 1) qx_e221 _ (0, [(0, .ref 86), (1, .int (qz x1))], [], _, 0, 0)
  have hF0 := qFr_rf [(86, 36)] [] σ α
  have hz86_36 : 0 ≤ σ 86 36 ∧ σ 86 36 ≤ 120 := hI.1 86 36
  have hz86_37 : 0 ≤ σ 86 37 ∧ σ 86 37 ≤ 120 := hI.1 86 37
  refine qr_aload_n 1 rfl rfl rfl ?_
  refine qr_get 4 rfl rfl rfl (by decide) rfl ?_
  have hs1 : (-1) ≤ σ 86 38 ∧ σ 86 38 ≤ 120 := hI.1 86 38
  refine qr_if_ge 15 7 rfl rfl rfl (by omega) (fun h2 => ?_) (fun h2 => ?_)
  · skip
    refine qr_iconst 16 rfl rfl ?_
    refine qr_retZ rfl rfl (by omega) (by decide) (by decide) ?_
    have hw3 : σ 86 36 = (σ 86 36) := rfl
    exact ⟨_, rfl, hI, hF0, 0, rfl, by omega, by omega⟩
  · skip
    refine qr_aload_n 8 rfl rfl rfl ?_
    refine qr_callN 11 rfl rfl rfl (sf_219_86 (d := d + 0) hI ) ?_
    have hs6 : 0 ≤ σ 86 36 ∧ σ 86 36 ≤ 120 := hI.1 86 36
    have hs7 : 0 ≤ σ 86 37 ∧ σ 86 37 ≤ 120 := hI.1 86 37
    rintro _ _ ⟨rfl, v4, rfl, hv4, hp5⟩
    show qr_W (qe L xs vb) (d + 1) qx_e221 _ (11, _, [.int (qz v4)], qw σ α κ ρ, 0, 0)
    refine qr_iload_n 12 rfl rfl rfl ?_
    refine qr_icmp_eq 17 15 rfl rfl rfl (by omega) (by omega) (fun h8 => ?_) (fun h8 => ?_)
    · skip
      refine qr_aload_n 18 rfl rfl rfl ?_
      refine qr_dup 19 rfl rfl rfl ?_
      refine qr_get 22 rfl rfl rfl (by decide) rfl ?_
      refine qr_iconst 23 rfl rfl ?_
      refine qr_iadd 24 rfl rfl ?_
      refine qr_put 27 rfl (by decide) rfl (Nat.le_of_ble_eq_true rfl) (Nat.le_of_ble_eq_true rfl) (Or.inl rfl) (qr_fitI rfl _) rfl ?_
      refine qy_wS (qw_s σ 86 36 ((σ 86 36) + 1)) rfl (fun σ9 e10 => ?_)
      have hI11 : qI σ9 α κ ρ := by rw [e10]; exact qI_s hI 86 36 rfl (show 0 ≤ ((σ 86 36) + 1) ∧ ((σ 86 36) + 1) ≤ 120 by omega)
      have hF12 : qFr [(86, 36)] [] σ α σ9 α := by rw [e10]; exact qFr_s hF0 86 36 _ (by decide)
      refine qr_iconst 28 rfl rfl ?_
      refine qr_retZ rfl rfl (by omega) (by decide) (by decide) ?_
      have hw13 : σ9 86 36 = ((σ 86 36) + 1) := (congrFun (congrFun e10 86) 36).trans rfl
      exact ⟨_, rfl, hI11, hF12, 1, rfl, by omega, by omega⟩
    · skip
      refine qr_iconst 16 rfl rfl ?_
      refine qr_retZ rfl rfl (by omega) (by decide) (by decide) ?_
      have hw14 : σ 86 36 = (σ 86 36) := rfl
      exact ⟨_, rfl, hI, hF0, 0, rfl, by omega, by omega⟩

set_option maxHeartbeats 4000000 in
set_option maxRecDepth 20000 in
/-- OneRoofModel.one -/
theorem sf_218_86o6 {L : Nat} {xs : Nat → Int} {vb : Bool} {d : Nat} {σ α : Nat → Nat → Int} {κ : Nat → Option Nat} {ρ : Nat}  (hI : qI σ α κ ρ) (p0 : 6 ≤ σ 86 39) (p1 : σ 86 36 ≤ σ 86 37) : qm_T (qe L xs vb) (d + 2) 218 [.ref 86] (qw σ α κ ρ) (fun r w' => ∃ σ', w' = qw σ' α κ ρ ∧ qI σ' α κ ρ ∧ qFr [(86, 36), (86, 38), (86, 39)] [] σ α σ' α ∧ ∃ v : Int, r = some (.int (qz v)) ∧ ((-2147483648) ≤ v ∧ v ≤ 2147483647) ∧ σ 86 39 ≤ σ' 86 39 ∧ σ 86 36 ≤ σ' 86 36 ∧ σ' 86 36 ≤ σ' 86 37 ∧ σ' 86 37 = σ 86 37) := by
  refine qr_start (d := d + 1) qv_e218 (Nat.le_of_ble_eq_true rfl) ?_
  show qr_W (qe L xs vb) (d + 1) qx_e218 _ (0, [(0, .ref 86)], [], _, 0, 0)
  have hF0 := qFr_rf [(86, 36), (86, 38), (86, 39)] [] σ α
  have hz86_39 : 0 ≤ σ 86 39 ∧ σ 86 39 ≤ 6 := hI.1 86 39
  have hz86_36 : 0 ≤ σ 86 36 ∧ σ 86 36 ≤ 120 := hI.1 86 36
  have hz86_37 : 0 ≤ σ 86 37 ∧ σ 86 37 ≤ 120 := hI.1 86 37
  refine qr_aload_n 1 rfl rfl rfl ?_
  refine qr_get 4 rfl rfl rfl (by decide) rfl ?_
  have hs1 : (-1) ≤ σ 86 38 ∧ σ 86 38 ≤ 120 := hI.1 86 38
  refine qr_if_lt 9 7 rfl rfl rfl (by omega) (fun h2 => ?_) (fun h2 => ?_)
  · skip
    refine qr_aload_n 10 rfl rfl rfl ?_
    refine qr_callN 13 rfl rfl rfl (sf_219_86t (d := d + 0) hI ) ?_
    have hs5 : 0 ≤ σ 86 36 ∧ σ 86 36 ≤ 120 := hI.1 86 36
    have hs6 : 0 ≤ σ 86 37 ∧ σ 86 37 ≤ 120 := hI.1 86 37
    rintro _ _ ⟨rfl, v3, rfl, hv3, hp4⟩
    show qr_W (qe L xs vb) (d + 1) qx_e218 _ (13, _, [.int (qz v3)], qw σ α κ ρ, 0, 0)
    refine qr_istore_n _ 14 rfl (by decide) rfl rfl ?_
    refine qr_iload_n 15 rfl rfl rfl ?_
    refine qr_bipush 17 rfl (by decide) rfl ?_
    refine qr_icmp_eq 32 20 rfl rfl rfl (by omega) (by omega) (fun h7 => ?_) (fun h7 => ?_)
    · skip
      refine qr_aload_n 33 rfl rfl rfl ?_
      refine qr_get 36 rfl rfl rfl (by decide) rfl ?_
      refine qr_bipush 38 rfl (by decide) rfl ?_
      refine qr_icmp_ne 46 41 rfl rfl rfl (by omega) (by omega) (fun h => False.elim (by omega)) (fun h8 => ?_)
      refine qr_aload_n 42 rfl rfl rfl ?_
      refine qr_callN 45 rfl rfl rfl (sf_220_86 (d := d + 0) hI ) ?_
      rintro _ _ ⟨σ10, rfl, hI11, hG12, v9, rfl, hv9⟩
      have hF13 : qFr [(86, 36), (86, 38), (86, 39)] [] σ α σ10 α := qFr_t hF0 hG12 (by decide) (by decide)
      show qr_W (qe L xs vb) (d + 1) qx_e218 _ (45, _, [.int (qz v9)], qw σ10 α κ ρ, 0, 0)
      refine qr_retI rfl rfl (by decide) (by decide) ?_
      have hw14 : σ10 86 36 = (σ 86 36) := (hG12.1 86 36 (by decide)).trans rfl
      have hw15 : σ10 86 37 = (σ 86 37) := (hG12.1 86 37 (by decide)).trans rfl
      have hw16 : σ10 86 39 = (σ 86 39) := (hG12.1 86 39 (by decide)).trans rfl
      exact ⟨_, rfl, hI11, hF13, v9, rfl, by omega, by omega⟩
    · skip
      refine qr_iload_n 21 rfl rfl rfl ?_
      refine qr_bipush 23 rfl (by decide) rfl ?_
      refine qr_icmp_eq 32 26 rfl rfl rfl (by omega) (by omega) (fun h17 => ?_) (fun h17 => ?_)
      · skip
        refine qr_aload_n 33 rfl rfl rfl ?_
        refine qr_get 36 rfl rfl rfl (by decide) rfl ?_
        refine qr_bipush 38 rfl (by decide) rfl ?_
        refine qr_icmp_ne 46 41 rfl rfl rfl (by omega) (by omega) (fun h => False.elim (by omega)) (fun h18 => ?_)
        refine qr_aload_n 42 rfl rfl rfl ?_
        refine qr_callN 45 rfl rfl rfl (sf_220_86 (d := d + 0) hI ) ?_
        rintro _ _ ⟨σ20, rfl, hI21, hG22, v19, rfl, hv19⟩
        have hF23 : qFr [(86, 36), (86, 38), (86, 39)] [] σ α σ20 α := qFr_t hF0 hG22 (by decide) (by decide)
        show qr_W (qe L xs vb) (d + 1) qx_e218 _ (45, _, [.int (qz v19)], qw σ20 α κ ρ, 0, 0)
        refine qr_retI rfl rfl (by decide) (by decide) ?_
        have hw24 : σ20 86 36 = (σ 86 36) := (hG22.1 86 36 (by decide)).trans rfl
        have hw25 : σ20 86 37 = (σ 86 37) := (hG22.1 86 37 (by decide)).trans rfl
        have hw26 : σ20 86 39 = (σ 86 39) := (hG22.1 86 39 (by decide)).trans rfl
        exact ⟨_, rfl, hI21, hF23, v19, rfl, by omega, by omega⟩
      · skip
        refine qr_iload_n 27 rfl rfl rfl ?_
        refine qr_bipush 29 rfl (by decide) rfl ?_
        refine qr_icmp_ne 145 32 rfl rfl rfl (by omega) (by omega) (fun h27 => ?_) (fun h27 => ?_)
        · skip
          refine qr_iload_n 146 rfl rfl rfl ?_
          refine qr_callN 149 rfl rfl rfl (sf_222 (d := d + 0) hI (by omega)) ?_
          rintro _ _ ⟨rfl, v28, rfl, hv28⟩
          show qr_W (qe L xs vb) (d + 1) qx_e218 _ (149, _, [.int (qz v28)], qw σ α κ ρ, 0, 0)
          refine qr_istore_n _ 150 rfl (by decide) rfl rfl ?_
          refine qr_iload_n 151 rfl rfl rfl ?_
          refine qr_if_lt 171 154 rfl rfl rfl (by omega) (fun h29 => ?_) (fun h29 => ?_)
          · skip
            refine qr_iconst 172 rfl rfl ?_
            refine qr_istore_n _ 173 rfl (by decide) rfl rfl ?_
            refine qr_iconst 174 rfl rfl ?_
            refine qr_istore _ 176 rfl (by decide) rfl rfl ?_
            have hL299 : ∀ (n : Nat) (ls : qm_L) (u282 u284 : Int) (σ285 : Nat → Nat → Int), 4 - u284 < (n : Int) → qm_get ls 0 = some (.ref 86) → qm_get ls 3 = some (.int (qz u282)) → qm_get ls 4 = some (.int (qz u284)) → ((-2147483648) ≤ u282 ∧ u282 ≤ 2147483647) → (0 ≤ u284 ∧ u284 ≤ 4) → qI σ285 α κ ρ → qFr [(86, 36), (86, 38), (86, 39)] [] σ α σ285 α → σ285 86 37 = (σ 86 37) → σ285 86 38 = (σ 86 38) → σ285 86 39 = (σ 86 39) → 6 ≤ σ285 86 39 → σ 86 39 ≤ σ285 86 39 → σ 86 36 ≤ σ285 86 36 → σ285 86 36 ≤ σ285 86 37 → σ285 86 37 = σ 86 37 → qr_W (qe L xs vb) (d + 1) qx_e218 (fun r w' => ∃ σ', w' = qw σ' α κ ρ ∧ qI σ' α κ ρ ∧ qFr [(86, 36), (86, 38), (86, 39)] [] σ α σ' α ∧ ∃ v : Int, r = some (.int (qz v)) ∧ ((-2147483648) ≤ v ∧ v ≤ 2147483647) ∧ σ 86 39 ≤ σ' 86 39 ∧ σ 86 36 ≤ σ' 86 36 ∧ σ' 86 36 ≤ σ' 86 37 ∧ σ' 86 37 = σ 86 37) (176, ls, [], qw σ285 α κ ρ, 0, 0) := by
              intro n
              induction n with
              | zero => intro ls u282 u284 σ285 hm g280 g281 g283 hf292 hf293 hI287 hF288 hk289 hk290 hk291 hx294 hx295 hx296 hx297 hx298; exact False.elim (by omega)
              | succ n ih300 =>
                intro ls u282 u284 σ285 hm g280 g281 g283 hf292 hf293 hI287 hF288 hk289 hk290 hk291 hx294 hx295 hx296 hx297 hx298
                have hs301 : 0 ≤ σ285 86 39 ∧ σ285 86 39 ≤ 6 := hI287.1 86 39
                have hs302 : 0 ≤ σ285 86 36 ∧ σ285 86 36 ≤ 120 := hI287.1 86 36
                have hs303 : 0 ≤ σ285 86 37 ∧ σ285 86 37 ≤ 120 := hI287.1 86 37
                refine qr_iload 178 rfl g283 rfl ?_
                refine qr_iconst 179 rfl rfl ?_
                refine qr_icmp_ge 229 182 rfl rfl rfl (by omega) (by omega) (fun h304 => ?_) (fun h304 => ?_)
                · skip
                  refine qr_iload 231 rfl g283 rfl ?_
                  refine qr_if_ne 241 234 rfl rfl rfl (by omega) (fun h305 => ?_) (fun h => False.elim (by omega))
                  refine qr_iload_n 242 rfl g281 rfl ?_
                  refine qr_retI rfl rfl (by decide) (by decide) ?_
                  have hw306 : σ285 86 36 = (σ285 86 36) := rfl
                  have hw307 : σ285 86 37 = (σ285 86 37) := rfl
                  have hw308 : σ285 86 39 = (σ285 86 39) := rfl
                  exact ⟨_, rfl, hI287, hF288, u282, rfl, by omega, by omega⟩
                · skip
                  refine qr_aload_n 183 rfl g280 rfl ?_
                  refine qr_callN 186 rfl rfl rfl (sf_219_86t (d := d + 0) hI287 ) ?_
                  have hs311 : 0 ≤ σ285 86 36 ∧ σ285 86 36 ≤ 120 := hI287.1 86 36
                  have hs312 : 0 ≤ σ285 86 37 ∧ σ285 86 37 ≤ 120 := hI287.1 86 37
                  rintro _ _ ⟨rfl, v309, rfl, hv309, hp310⟩
                  show qr_W (qe L xs vb) (d + 1) qx_e218 _ (186, _, [.int (qz v309)], qw σ285 α κ ρ, 0, 0)
                  refine qr_bipush 188 rfl (by decide) rfl ?_
                  refine qr_icmp_lt 229 191 rfl rfl rfl (by omega) (by omega) (fun h313 => ?_) (fun h313 => ?_)
                  · skip
                    refine qr_iload 231 rfl g283 rfl ?_
                    refine qr_if_ne 241 234 rfl rfl rfl (by omega) (fun h314 => ?_) (fun h314 => ?_)
                    · skip
                      refine qr_iload_n 242 rfl g281 rfl ?_
                      refine qr_retI rfl rfl (by decide) (by decide) ?_
                      have hw315 : σ285 86 36 = (σ285 86 36) := rfl
                      have hw316 : σ285 86 37 = (σ285 86 37) := rfl
                      have hw317 : σ285 86 39 = (σ285 86 39) := rfl
                      exact ⟨_, rfl, hI287, hF288, u282, rfl, by omega, by omega⟩
                    · skip
                      refine qr_aload_n 235 rfl g280 rfl ?_
                      refine qr_callN 238 rfl rfl rfl (sf_220_86 (d := d + 0) hI287 ) ?_
                      rintro _ _ ⟨σ319, rfl, hI320, hG321, v318, rfl, hv318⟩
                      have hF322 : qFr [(86, 36), (86, 38), (86, 39)] [] σ α σ319 α := qFr_t hF288 hG321 (by decide) (by decide)
                      show qr_W (qe L xs vb) (d + 1) qx_e218 _ (238, _, [.int (qz v318)], qw σ319 α κ ρ, 0, 0)
                      refine qr_goto 242 rfl rfl ?_
                      refine qr_retI rfl rfl (by decide) (by decide) ?_
                      have hw323 : σ319 86 36 = (σ285 86 36) := (hG321.1 86 36 (by decide)).trans rfl
                      have hw324 : σ319 86 37 = (σ285 86 37) := (hG321.1 86 37 (by decide)).trans rfl
                      have hw325 : σ319 86 39 = (σ285 86 39) := (hG321.1 86 39 (by decide)).trans rfl
                      exact ⟨_, rfl, hI320, hF322, v318, rfl, by omega, by omega⟩
                  · skip
                    refine qr_aload_n 192 rfl g280 rfl ?_
                    refine qr_callN 195 rfl rfl rfl (sf_219_86t (d := d + 0) hI287 ) ?_
                    have hs328 : 0 ≤ σ285 86 36 ∧ σ285 86 36 ≤ 120 := hI287.1 86 36
                    have hs329 : 0 ≤ σ285 86 37 ∧ σ285 86 37 ≤ 120 := hI287.1 86 37
                    rintro _ _ ⟨rfl, v326, rfl, hv326, hp327⟩
                    show qr_W (qe L xs vb) (d + 1) qx_e218 _ (195, _, [.int (qz v326)], qw σ285 α κ ρ, 0, 0)
                    refine qr_bipush 197 rfl (by decide) rfl ?_
                    refine qr_icmp_gt 229 200 rfl rfl rfl (by omega) (by omega) (fun h330 => ?_) (fun h330 => ?_)
                    · skip
                      refine qr_iload 231 rfl g283 rfl ?_
                      refine qr_if_ne 241 234 rfl rfl rfl (by omega) (fun h331 => ?_) (fun h331 => ?_)
                      · skip
                        refine qr_iload_n 242 rfl g281 rfl ?_
                        refine qr_retI rfl rfl (by decide) (by decide) ?_
                        have hw332 : σ285 86 36 = (σ285 86 36) := rfl
                        have hw333 : σ285 86 37 = (σ285 86 37) := rfl
                        have hw334 : σ285 86 39 = (σ285 86 39) := rfl
                        exact ⟨_, rfl, hI287, hF288, u282, rfl, by omega, by omega⟩
                      · skip
                        refine qr_aload_n 235 rfl g280 rfl ?_
                        refine qr_callN 238 rfl rfl rfl (sf_220_86 (d := d + 0) hI287 ) ?_
                        rintro _ _ ⟨σ336, rfl, hI337, hG338, v335, rfl, hv335⟩
                        have hF339 : qFr [(86, 36), (86, 38), (86, 39)] [] σ α σ336 α := qFr_t hF288 hG338 (by decide) (by decide)
                        show qr_W (qe L xs vb) (d + 1) qx_e218 _ (238, _, [.int (qz v335)], qw σ336 α κ ρ, 0, 0)
                        refine qr_goto 242 rfl rfl ?_
                        refine qr_retI rfl rfl (by decide) (by decide) ?_
                        have hw340 : σ336 86 36 = (σ285 86 36) := (hG338.1 86 36 (by decide)).trans rfl
                        have hw341 : σ336 86 37 = (σ285 86 37) := (hG338.1 86 37 (by decide)).trans rfl
                        have hw342 : σ336 86 39 = (σ285 86 39) := (hG338.1 86 39 (by decide)).trans rfl
                        exact ⟨_, rfl, hI337, hF339, v335, rfl, by omega, by omega⟩
                    · skip
                      refine qr_bipush 202 rfl (by decide) rfl ?_
                      refine qr_iload_n 203 rfl g281 rfl ?_
                      refine qr_imul 204 rfl rfl ?_
                      refine qy_can (fun v343 hv343 => ?_)
                      refine qr_aload_n 205 rfl g280 rfl ?_
                      refine qr_callN 208 rfl rfl rfl (sf_219_86t (d := d + 0) hI287 ) ?_
                      have hs346 : 0 ≤ σ285 86 36 ∧ σ285 86 36 ≤ 120 := hI287.1 86 36
                      have hs347 : 0 ≤ σ285 86 37 ∧ σ285 86 37 ≤ 120 := hI287.1 86 37
                      rintro _ _ ⟨rfl, v344, rfl, hv344, hp345⟩
                      show qr_W (qe L xs vb) (d + 1) qx_e218 _ (208, _, [.int (qz v344), .int (qz v343)], qw σ285 α κ ρ, 0, 0)
                      refine qr_iadd 209 rfl rfl ?_
                      refine qy_can (fun v348 hv348 => ?_)
                      refine qr_bipush 211 rfl (by decide) rfl ?_
                      refine qr_isub 212 rfl rfl ?_
                      refine qy_can (fun v349 hv349 => ?_)
                      refine qr_istore_n _ 213 rfl (by decide) rfl rfl ?_
                      refine qr_iinc _ 216 rfl (qm_gk g283 (by decide) (Or.inl (by decide))) (by decide) rfl rfl ?_
                      refine qr_aload_n 217 rfl (qm_gk (qm_gk g280 (by decide) (Or.inl (by decide))) (by decide) (Or.inl (by decide))) rfl ?_
                      refine qr_dup 218 rfl rfl rfl ?_
                      refine qr_get 221 rfl rfl rfl (by decide) rfl ?_
                      refine qr_iconst 222 rfl rfl ?_
                      refine qr_iadd 223 rfl rfl ?_
                      refine qr_put 226 rfl (by decide) rfl (Nat.le_of_ble_eq_true rfl) (Nat.le_of_ble_eq_true rfl) (Or.inl rfl) (qr_fitI rfl _) rfl ?_
                      refine qy_wS (qw_s σ285 86 36 ((σ285 86 36) + 1)) rfl (fun σ350 e351 => ?_)
                      have hI352 : qI σ350 α κ ρ := by rw [e351]; exact qI_s hI287 86 36 rfl (show 0 ≤ ((σ285 86 36) + 1) ∧ ((σ285 86 36) + 1) ≤ 120 by omega)
                      have hF353 : qFr [(86, 36), (86, 38), (86, 39)] [] σ α σ350 α := by rw [e351]; exact qFr_s hF288 86 36 _ (by decide)
                      refine qr_goto 176 rfl rfl ?_
                      exact ih300 _ v349 (u284 + 1) σ350 (by omega) (qm_gk (qm_gk g280 (by decide) (Or.inl (by decide))) (by decide) (Or.inl (by decide))) (qm_gk (qm_ge _ _ _) (by decide) (Or.inr rfl)) (qm_ge _ _ _) (by omega) (by omega) hI352 hF353 ((congrFun (congrFun e351 86) 37).trans rfl) ((congrFun (congrFun e351 86) 38).trans ((hk290).trans rfl)) ((congrFun (congrFun e351 86) 39).trans rfl) (by have hw0 : σ350 86 39 = (σ285 86 39) := (congrFun (congrFun e351 86) 39).trans rfl; have hw1 : σ350 86 36 = ((σ285 86 36) + 1) := (congrFun (congrFun e351 86) 36).trans rfl; have hw2 : σ350 86 37 = (σ285 86 37) := (congrFun (congrFun e351 86) 37).trans rfl; omega) (by have hw0 : σ350 86 39 = (σ285 86 39) := (congrFun (congrFun e351 86) 39).trans rfl; have hw1 : σ350 86 36 = ((σ285 86 36) + 1) := (congrFun (congrFun e351 86) 36).trans rfl; have hw2 : σ350 86 37 = (σ285 86 37) := (congrFun (congrFun e351 86) 37).trans rfl; omega) (by have hw0 : σ350 86 39 = (σ285 86 39) := (congrFun (congrFun e351 86) 39).trans rfl; have hw1 : σ350 86 36 = ((σ285 86 36) + 1) := (congrFun (congrFun e351 86) 36).trans rfl; have hw2 : σ350 86 37 = (σ285 86 37) := (congrFun (congrFun e351 86) 37).trans rfl; omega) (by have hw0 : σ350 86 39 = (σ285 86 39) := (congrFun (congrFun e351 86) 39).trans rfl; have hw1 : σ350 86 36 = ((σ285 86 36) + 1) := (congrFun (congrFun e351 86) 36).trans rfl; have hw2 : σ350 86 37 = (σ285 86 37) := (congrFun (congrFun e351 86) 37).trans rfl; omega) (by have hw0 : σ350 86 39 = (σ285 86 39) := (congrFun (congrFun e351 86) 39).trans rfl; have hw1 : σ350 86 36 = ((σ285 86 36) + 1) := (congrFun (congrFun e351 86) 36).trans rfl; have hw2 : σ350 86 37 = (σ285 86 37) := (congrFun (congrFun e351 86) 37).trans rfl; omega)
            exact hL299 ((4 - 0 + 1 : Int)).toNat _ 0 0 σ (by omega) rfl rfl rfl (by omega) (by omega) hI hF0 (rfl) (rfl) (rfl) (by have hw0 : σ 86 39 = (σ 86 39) := rfl; have hw1 : σ 86 36 = (σ 86 36) := rfl; have hw2 : σ 86 37 = (σ 86 37) := rfl; omega) (by have hw0 : σ 86 39 = (σ 86 39) := rfl; have hw1 : σ 86 36 = (σ 86 36) := rfl; have hw2 : σ 86 37 = (σ 86 37) := rfl; omega) (by have hw0 : σ 86 39 = (σ 86 39) := rfl; have hw1 : σ 86 36 = (σ 86 36) := rfl; have hw2 : σ 86 37 = (σ 86 37) := rfl; omega) (by have hw0 : σ 86 39 = (σ 86 39) := rfl; have hw1 : σ 86 36 = (σ 86 36) := rfl; have hw2 : σ 86 37 = (σ 86 37) := rfl; omega) (by have hw0 : σ 86 39 = (σ 86 39) := rfl; have hw1 : σ 86 36 = (σ 86 36) := rfl; have hw2 : σ 86 37 = (σ 86 37) := rfl; omega)
          · skip
            refine qr_aload_n 155 rfl rfl rfl ?_
            refine qr_dup 156 rfl rfl rfl ?_
            refine qr_get 159 rfl rfl rfl (by decide) rfl ?_
            refine qr_iconst 160 rfl rfl ?_
            refine qr_iadd 161 rfl rfl ?_
            refine qr_put 164 rfl (by decide) rfl (Nat.le_of_ble_eq_true rfl) (Nat.le_of_ble_eq_true rfl) (Or.inl rfl) (qr_fitI rfl _) rfl ?_
            refine qy_wS (qw_s σ 86 36 ((σ 86 36) + 1)) rfl (fun σ354 e355 => ?_)
            have hI356 : qI σ354 α κ ρ := by rw [e355]; exact qI_s hI 86 36 rfl (show 0 ≤ ((σ 86 36) + 1) ∧ ((σ 86 36) + 1) ≤ 120 by omega)
            have hF357 : qFr [(86, 36), (86, 38), (86, 39)] [] σ α σ354 α := by rw [e355]; exact qFr_s hF0 86 36 _ (by decide)
            refine qr_aload_n 165 rfl rfl rfl ?_
            refine qr_get 168 rfl rfl rfl (by decide) rfl ?_
            refine qr_iload_n 169 rfl rfl rfl ?_
            refine qr_iaload 170 rfl rfl (by omega) (by decide) rfl ?_
            refine qr_topI (fun v358 hv358 => ?_)
            have hs359 : (-2147483648) ≤ v358 ∧ v358 ≤ 2147483647 := by rw [hv358]; exact hI356.2.1 109 _ (show _ < 9 by omega)
            refine qr_retI rfl rfl (by decide) (by decide) ?_
            have hw360 : σ354 86 36 = ((σ 86 36) + 1) := (congrFun (congrFun e355 86) 36).trans rfl
            have hw361 : σ354 86 37 = (σ 86 37) := (congrFun (congrFun e355 86) 37).trans rfl
            have hw362 : σ354 86 39 = (σ 86 39) := (congrFun (congrFun e355 86) 39).trans rfl
            exact ⟨_, rfl, hI356, hF357, v358, rfl, by omega, by omega⟩
        · skip
          refine qr_aload_n 33 rfl rfl rfl ?_
          refine qr_get 36 rfl rfl rfl (by decide) rfl ?_
          refine qr_bipush 38 rfl (by decide) rfl ?_
          refine qr_icmp_ne 46 41 rfl rfl rfl (by omega) (by omega) (fun h => False.elim (by omega)) (fun h363 => ?_)
          refine qr_aload_n 42 rfl rfl rfl ?_
          refine qr_callN 45 rfl rfl rfl (sf_220_86 (d := d + 0) hI ) ?_
          rintro _ _ ⟨σ365, rfl, hI366, hG367, v364, rfl, hv364⟩
          have hF368 : qFr [(86, 36), (86, 38), (86, 39)] [] σ α σ365 α := qFr_t hF0 hG367 (by decide) (by decide)
          show qr_W (qe L xs vb) (d + 1) qx_e218 _ (45, _, [.int (qz v364)], qw σ365 α κ ρ, 0, 0)
          refine qr_retI rfl rfl (by decide) (by decide) ?_
          have hw369 : σ365 86 36 = (σ 86 36) := (hG367.1 86 36 (by decide)).trans rfl
          have hw370 : σ365 86 37 = (σ 86 37) := (hG367.1 86 37 (by decide)).trans rfl
          have hw371 : σ365 86 39 = (σ 86 39) := (hG367.1 86 39 (by decide)).trans rfl
          exact ⟨_, rfl, hI366, hF368, v364, rfl, by omega, by omega⟩
  · skip
    refine qr_iconst 8 rfl rfl ?_
    refine qr_retI rfl rfl (by decide) (by decide) ?_
    have hw372 : σ 86 36 = (σ 86 36) := rfl
    have hw373 : σ 86 37 = (σ 86 37) := rfl
    have hw374 : σ 86 39 = (σ 86 39) := rfl
    exact ⟨_, rfl, hI, hF0, 0, rfl, by omega, by omega⟩

set_option maxHeartbeats 4000000 in
set_option maxRecDepth 20000 in
/-- OneRoofModel.product -/
theorem sf_217_86o6 {L : Nat} {xs : Nat → Int} {vb : Bool} {d : Nat} {σ α : Nat → Nat → Int} {κ : Nat → Option Nat} {ρ : Nat}  (hI : qI σ α κ ρ) (p0 : 6 ≤ σ 86 39) (p1 : σ 86 36 ≤ σ 86 37) : qm_T (qe L xs vb) (d + 3) 217 [.ref 86] (qw σ α κ ρ) (fun r w' => ∃ σ', w' = qw σ' α κ ρ ∧ qI σ' α κ ρ ∧ qFr [(86, 36), (86, 38), (86, 39)] [] σ α σ' α ∧ ∃ v : Int, r = some (.int (qz v)) ∧ ((-2147483648) ≤ v ∧ v ≤ 2147483647) ∧ σ 86 39 ≤ σ' 86 39 ∧ σ 86 36 ≤ σ' 86 36 ∧ σ' 86 36 ≤ σ' 86 37 ∧ σ' 86 37 = σ 86 37) := by
  refine qr_start (d := d + 2) qv_e217 (Nat.le_of_ble_eq_true rfl) ?_
  show qr_W (qe L xs vb) (d + 2) qx_e217 _ (0, [(0, .ref 86)], [], _, 0, 0)
  have hF0 := qFr_rf [(86, 36), (86, 38), (86, 39)] [] σ α
  have hz86_39 : 0 ≤ σ 86 39 ∧ σ 86 39 ≤ 6 := hI.1 86 39
  have hz86_36 : 0 ≤ σ 86 36 ∧ σ 86 36 ≤ 120 := hI.1 86 36
  have hz86_37 : 0 ≤ σ 86 37 ∧ σ 86 37 ≤ 120 := hI.1 86 37
  refine qr_aload_n 1 rfl rfl rfl ?_
  refine qr_callN 4 rfl rfl rfl (sf_218_86o6 (d := d + 0) hI (by omega) (by omega)) ?_
  have hs3 : 0 ≤ σ 86 36 ∧ σ 86 36 ≤ 120 := hI.1 86 36
  have hs4 : 0 ≤ σ 86 37 ∧ σ 86 37 ≤ 120 := hI.1 86 37
  have hs5 : 0 ≤ σ 86 39 ∧ σ 86 39 ≤ 6 := hI.1 86 39
  rintro _ _ ⟨σ6, rfl, hI7, hG8, v1, rfl, hv1, hp2⟩
  have hF9 : qFr [(86, 36), (86, 38), (86, 39)] [] σ α σ6 α := qFr_t hF0 hG8 (by decide) (by decide)
  have hs10 : 0 ≤ σ6 86 36 ∧ σ6 86 36 ≤ 120 := hI7.1 86 36
  have hs11 : 0 ≤ σ6 86 37 ∧ σ6 86 37 ≤ 120 := hI7.1 86 37
  have hs12 : 0 ≤ σ6 86 39 ∧ σ6 86 39 ≤ 6 := hI7.1 86 39
  show qr_W (qe L xs vb) (d + 2) qx_e217 _ (4, _, [.int (qz v1)], qw σ6 α κ ρ, 0, 0)
  refine qr_istore_n _ 5 rfl (by decide) rfl rfl ?_
  refine qr_aload_n 6 rfl rfl rfl ?_
  refine qr_callN 9 rfl rfl rfl (sf_219_86t (d := d + 1) hI7 ) ?_
  have hs15 : 0 ≤ σ6 86 36 ∧ σ6 86 36 ≤ 120 := hI7.1 86 36
  have hs16 : 0 ≤ σ6 86 37 ∧ σ6 86 37 ≤ 120 := hI7.1 86 37
  have hs17 : σ6 86 37 = (σ 86 37) := (hG8.1 86 37 (by decide)).trans rfl
  rintro _ _ ⟨rfl, v13, rfl, hv13, hp14⟩
  show qr_W (qe L xs vb) (d + 2) qx_e217 _ (9, _, [.int (qz v13)], qw σ6 α κ ρ, 0, 0)
  refine qr_istore_n _ 10 rfl (by decide) rfl rfl ?_
  have hL384 : ∀ (n : Nat) (ls : qm_L) (u368 u370 : Int) (σ371 : Nat → Nat → Int), ((120 - σ371 86 36).toNat : Int) < (n : Int) → qm_get ls 0 = some (.ref 86) → qm_get ls 1 = some (.int (qz u368)) → qm_get ls 2 = some (.int (qz u370)) → ((-2147483648) ≤ u368 ∧ u368 ≤ 2147483647) → ((-2147483648) ≤ u370 ∧ u370 ≤ 2147483647) → qI σ371 α κ ρ → qFr [(86, 36), (86, 38), (86, 39)] [] σ α σ371 α → σ371 86 37 = (σ 86 37) → 6 ≤ σ371 86 39 → σ 86 39 ≤ σ371 86 39 → σ 86 36 ≤ σ371 86 36 → σ371 86 36 ≤ σ371 86 37 → σ371 86 37 = σ 86 37 → (u370 = 0 ∨ σ371 86 36 < σ371 86 37) → qr_W (qe L xs vb) (d + 2) qx_e217 (fun r w' => ∃ σ', w' = qw σ' α κ ρ ∧ qI σ' α κ ρ ∧ qFr [(86, 36), (86, 38), (86, 39)] [] σ α σ' α ∧ ∃ v : Int, r = some (.int (qz v)) ∧ ((-2147483648) ≤ v ∧ v ≤ 2147483647) ∧ σ 86 39 ≤ σ' 86 39 ∧ σ 86 36 ≤ σ' 86 36 ∧ σ' 86 36 ≤ σ' 86 37 ∧ σ' 86 37 = σ 86 37) (10, ls, [], qw σ371 α κ ρ, 0, 0) := by
    intro n
    induction n with
    | zero => intro ls u368 u370 σ371 hm g366 g367 g369 hf376 hf377 hI373 hF374 hk375 hx378 hx379 hx380 hx381 hx382 hx383; exact False.elim (by omega)
    | succ n ih385 =>
      intro ls u368 u370 σ371 hm g366 g367 g369 hf376 hf377 hI373 hF374 hk375 hx378 hx379 hx380 hx381 hx382 hx383
      have hs386 : 0 ≤ σ371 86 39 ∧ σ371 86 39 ≤ 6 := hI373.1 86 39
      have hs387 : 0 ≤ σ371 86 36 ∧ σ371 86 36 ≤ 120 := hI373.1 86 36
      have hs388 : 0 ≤ σ371 86 37 ∧ σ371 86 37 ≤ 120 := hI373.1 86 37
      refine qr_aload_n 11 rfl g366 rfl ?_
      refine qr_get 14 rfl rfl rfl (by decide) rfl ?_
      have hs389 : (-1) ≤ σ371 86 38 ∧ σ371 86 38 ≤ 120 := hI373.1 86 38
      refine qr_if_ge 94 17 rfl rfl rfl (by omega) (fun h390 => ?_) (fun h390 => ?_)
      · skip
        refine qr_iload_n 95 rfl g367 rfl ?_
        refine qr_retI rfl rfl (by decide) (by decide) ?_
        have hw391 : σ371 86 36 = (σ371 86 36) := rfl
        have hw392 : σ371 86 37 = (σ371 86 37) := rfl
        have hw393 : σ371 86 39 = (σ371 86 39) := rfl
        exact ⟨_, rfl, hI373, hF374, u368, rfl, by omega, by omega⟩
      · skip
        refine qr_iload_n 18 rfl g369 rfl ?_
        refine qr_bipush 20 rfl (by decide) rfl ?_
        refine qr_icmp_eq 35 23 rfl rfl rfl (by omega) (by omega) (fun h394 => ?_) (fun h394 => ?_)
        · skip
          refine qr_aload_n 36 rfl g366 rfl ?_
          refine qr_dup 37 rfl rfl rfl ?_
          refine qr_get 40 rfl rfl rfl (by decide) rfl ?_
          refine qr_iconst 41 rfl rfl ?_
          refine qr_iadd 42 rfl rfl ?_
          refine qr_put 45 rfl (by decide) rfl (Nat.le_of_ble_eq_true rfl) (Nat.le_of_ble_eq_true rfl) (Or.inl rfl) (qr_fitI rfl _) rfl ?_
          refine qy_wS (qw_s σ371 86 36 ((σ371 86 36) + 1)) rfl (fun σ395 e396 => ?_)
          have hI397 : qI σ395 α κ ρ := by rw [e396]; exact qI_s hI373 86 36 rfl (show 0 ≤ ((σ371 86 36) + 1) ∧ ((σ371 86 36) + 1) ≤ 120 by omega)
          have hF398 : qFr [(86, 36), (86, 38), (86, 39)] [] σ α σ395 α := by rw [e396]; exact qFr_s hF374 86 36 _ (by decide)
          refine qr_aload_n 46 rfl g366 rfl ?_
          refine qr_callN 49 rfl rfl rfl (sf_218_86o6 (d := d + 0) hI397 (by omega) (by omega)) ?_
          have hs401 : 0 ≤ σ395 86 36 ∧ σ395 86 36 ≤ 120 := hI397.1 86 36
          have hs402 : σ395 86 36 = ((σ371 86 36) + 1) := (congrFun (congrFun e396 86) 36).trans rfl
          have hs403 : 0 ≤ σ395 86 37 ∧ σ395 86 37 ≤ 120 := hI397.1 86 37
          have hs404 : σ395 86 37 = (σ371 86 37) := (congrFun (congrFun e396 86) 37).trans rfl
          have hs405 : 0 ≤ σ395 86 39 ∧ σ395 86 39 ≤ 6 := hI397.1 86 39
          have hs406 : σ395 86 39 = (σ371 86 39) := (congrFun (congrFun e396 86) 39).trans rfl
          rintro _ _ ⟨σ407, rfl, hI408, hG409, v399, rfl, hv399, hp400⟩
          have hF410 : qFr [(86, 36), (86, 38), (86, 39)] [] σ α σ407 α := qFr_t hF398 hG409 (by decide) (by decide)
          have hs411 : 0 ≤ σ407 86 36 ∧ σ407 86 36 ≤ 120 := hI408.1 86 36
          have hs412 : 0 ≤ σ407 86 37 ∧ σ407 86 37 ≤ 120 := hI408.1 86 37
          have hs413 : 0 ≤ σ407 86 39 ∧ σ407 86 39 ≤ 6 := hI408.1 86 39
          show qr_W (qe L xs vb) (d + 2) qx_e217 _ (49, _, [.int (qz v399)], qw σ407 α κ ρ, 0, 0)
          refine qr_istore_n _ 50 rfl (by decide) rfl rfl ?_
          refine qr_iload_n 51 rfl (qm_gk g369 (by decide) (Or.inr rfl)) rfl ?_
          refine qr_bipush 53 rfl (by decide) rfl ?_
          refine qr_icmp_ne 62 56 rfl rfl rfl (by omega) (by omega) (fun h => False.elim (by omega)) (fun h414 => ?_)
          refine qr_iload_n 57 rfl (qm_gk g367 (by decide) (Or.inl (by decide))) rfl ?_
          refine qr_iload_n 58 rfl (qm_ge _ _ _) rfl ?_
          refine qr_imul 59 rfl rfl ?_
          refine qy_can (fun v415 hv415 => ?_)
          refine qr_goto 85 rfl rfl ?_
          refine qr_istore_n _ 86 rfl (by decide) rfl rfl ?_
          refine qr_aload_n 87 rfl (qm_gk (qm_gk g366 (by decide) (Or.inl (by decide))) (by decide) (Or.inr rfl)) rfl ?_
          refine qr_callN 90 rfl rfl rfl (sf_219_86t (d := d + 1) hI408 ) ?_
          have hs418 : 0 ≤ σ407 86 36 ∧ σ407 86 36 ≤ 120 := hI408.1 86 36
          have hs419 : 0 ≤ σ407 86 37 ∧ σ407 86 37 ≤ 120 := hI408.1 86 37
          have hs420 : σ407 86 37 = (σ371 86 37) := (hG409.1 86 37 (by decide)).trans ((congrFun (congrFun e396 86) 37).trans rfl)
          rintro _ _ ⟨rfl, v416, rfl, hv416, hp417⟩
          show qr_W (qe L xs vb) (d + 2) qx_e217 _ (90, _, [.int (qz v416)], qw σ407 α κ ρ, 0, 0)
          refine qr_istore_n _ 91 rfl (by decide) rfl rfl ?_
          refine qr_goto 10 rfl rfl ?_
          exact ih385 _ v415 v416 σ407 (by omega) (qm_gk (qm_gk (qm_gk g366 (by decide) (Or.inl (by decide))) (by decide) (Or.inr rfl)) (by decide) (Or.inl (by decide))) (qm_gk (qm_ge _ _ _) (by decide) (Or.inr rfl)) (qm_ge _ _ _) (by omega) (by omega) hI408 hF410 ((hG409.1 86 37 (by decide)).trans ((congrFun (congrFun e396 86) 37).trans rfl)) (by have hw0 : σ407 86 39 = (σ407 86 39) := rfl; have hw1 : σ407 86 36 = (σ407 86 36) := rfl; have hw2 : σ407 86 37 = (σ371 86 37) := (hG409.1 86 37 (by decide)).trans ((congrFun (congrFun e396 86) 37).trans rfl); omega) (by have hw0 : σ407 86 39 = (σ407 86 39) := rfl; have hw1 : σ407 86 36 = (σ407 86 36) := rfl; have hw2 : σ407 86 37 = (σ371 86 37) := (hG409.1 86 37 (by decide)).trans ((congrFun (congrFun e396 86) 37).trans rfl); omega) (by have hw0 : σ407 86 39 = (σ407 86 39) := rfl; have hw1 : σ407 86 36 = (σ407 86 36) := rfl; have hw2 : σ407 86 37 = (σ371 86 37) := (hG409.1 86 37 (by decide)).trans ((congrFun (congrFun e396 86) 37).trans rfl); omega) (by have hw0 : σ407 86 39 = (σ407 86 39) := rfl; have hw1 : σ407 86 36 = (σ407 86 36) := rfl; have hw2 : σ407 86 37 = (σ371 86 37) := (hG409.1 86 37 (by decide)).trans ((congrFun (congrFun e396 86) 37).trans rfl); omega) (by have hw0 : σ407 86 39 = (σ407 86 39) := rfl; have hw1 : σ407 86 36 = (σ407 86 36) := rfl; have hw2 : σ407 86 37 = (σ371 86 37) := (hG409.1 86 37 (by decide)).trans ((congrFun (congrFun e396 86) 37).trans rfl); omega) (by have hw0 : σ407 86 39 = (σ407 86 39) := rfl; have hw1 : σ407 86 36 = (σ407 86 36) := rfl; have hw2 : σ407 86 37 = (σ371 86 37) := (hG409.1 86 37 (by decide)).trans ((congrFun (congrFun e396 86) 37).trans rfl); omega)
        · skip
          refine qr_iload_n 24 rfl g369 rfl ?_
          refine qr_bipush 26 rfl (by decide) rfl ?_
          refine qr_icmp_eq 35 29 rfl rfl rfl (by omega) (by omega) (fun h421 => ?_) (fun h421 => ?_)
          · skip
            refine qr_aload_n 36 rfl g366 rfl ?_
            refine qr_dup 37 rfl rfl rfl ?_
            refine qr_get 40 rfl rfl rfl (by decide) rfl ?_
            refine qr_iconst 41 rfl rfl ?_
            refine qr_iadd 42 rfl rfl ?_
            refine qr_put 45 rfl (by decide) rfl (Nat.le_of_ble_eq_true rfl) (Nat.le_of_ble_eq_true rfl) (Or.inl rfl) (qr_fitI rfl _) rfl ?_
            refine qy_wS (qw_s σ371 86 36 ((σ371 86 36) + 1)) rfl (fun σ422 e423 => ?_)
            have hI424 : qI σ422 α κ ρ := by rw [e423]; exact qI_s hI373 86 36 rfl (show 0 ≤ ((σ371 86 36) + 1) ∧ ((σ371 86 36) + 1) ≤ 120 by omega)
            have hF425 : qFr [(86, 36), (86, 38), (86, 39)] [] σ α σ422 α := by rw [e423]; exact qFr_s hF374 86 36 _ (by decide)
            refine qr_aload_n 46 rfl g366 rfl ?_
            refine qr_callN 49 rfl rfl rfl (sf_218_86o6 (d := d + 0) hI424 (by omega) (by omega)) ?_
            have hs428 : 0 ≤ σ422 86 36 ∧ σ422 86 36 ≤ 120 := hI424.1 86 36
            have hs429 : σ422 86 36 = ((σ371 86 36) + 1) := (congrFun (congrFun e423 86) 36).trans rfl
            have hs430 : 0 ≤ σ422 86 37 ∧ σ422 86 37 ≤ 120 := hI424.1 86 37
            have hs431 : σ422 86 37 = (σ371 86 37) := (congrFun (congrFun e423 86) 37).trans rfl
            have hs432 : 0 ≤ σ422 86 39 ∧ σ422 86 39 ≤ 6 := hI424.1 86 39
            have hs433 : σ422 86 39 = (σ371 86 39) := (congrFun (congrFun e423 86) 39).trans rfl
            rintro _ _ ⟨σ434, rfl, hI435, hG436, v426, rfl, hv426, hp427⟩
            have hF437 : qFr [(86, 36), (86, 38), (86, 39)] [] σ α σ434 α := qFr_t hF425 hG436 (by decide) (by decide)
            have hs438 : 0 ≤ σ434 86 36 ∧ σ434 86 36 ≤ 120 := hI435.1 86 36
            have hs439 : 0 ≤ σ434 86 37 ∧ σ434 86 37 ≤ 120 := hI435.1 86 37
            have hs440 : 0 ≤ σ434 86 39 ∧ σ434 86 39 ≤ 6 := hI435.1 86 39
            show qr_W (qe L xs vb) (d + 2) qx_e217 _ (49, _, [.int (qz v426)], qw σ434 α κ ρ, 0, 0)
            refine qr_istore_n _ 50 rfl (by decide) rfl rfl ?_
            refine qr_iload_n 51 rfl (qm_gk g369 (by decide) (Or.inr rfl)) rfl ?_
            refine qr_bipush 53 rfl (by decide) rfl ?_
            refine qr_icmp_ne 62 56 rfl rfl rfl (by omega) (by omega) (fun h441 => ?_) (fun h => False.elim (by omega))
            refine qr_iload_n 63 rfl (qm_ge _ _ _) rfl ?_
            have hJ446 : ∀ (ls : qm_L) (u444 : Int), qm_get ls 0 = some (.ref 86) → ((-2147483648) ≤ u444 ∧ u444 ≤ 2147483647) → qr_W (qe L xs vb) (d + 2) qx_e217 (fun r w' => ∃ σ', w' = qw σ' α κ ρ ∧ qI σ' α κ ρ ∧ qFr [(86, 36), (86, 38), (86, 39)] [] σ α σ' α ∧ ∃ v : Int, r = some (.int (qz v)) ∧ ((-2147483648) ≤ v ∧ v ≤ 2147483647) ∧ σ 86 39 ≤ σ' 86 39 ∧ σ 86 36 ≤ σ' 86 36 ∧ σ' 86 36 ≤ σ' 86 37 ∧ σ' 86 37 = σ 86 37) (85, ls, [.int (qz u444)], qw σ434 α κ ρ, 0, 0) := by
              intro ls u444 g443 hf445
              refine qr_istore_n _ 86 rfl (by decide) rfl rfl ?_
              refine qr_aload_n 87 rfl (qm_gk g443 (by decide) (Or.inr rfl)) rfl ?_
              refine qr_callN 90 rfl rfl rfl (sf_219_86t (d := d + 1) hI435 ) ?_
              have hs449 : 0 ≤ σ434 86 36 ∧ σ434 86 36 ≤ 120 := hI435.1 86 36
              have hs450 : 0 ≤ σ434 86 37 ∧ σ434 86 37 ≤ 120 := hI435.1 86 37
              have hs451 : σ434 86 37 = (σ371 86 37) := (hG436.1 86 37 (by decide)).trans ((congrFun (congrFun e423 86) 37).trans rfl)
              rintro _ _ ⟨rfl, v447, rfl, hv447, hp448⟩
              show qr_W (qe L xs vb) (d + 2) qx_e217 _ (90, _, [.int (qz v447)], qw σ434 α κ ρ, 0, 0)
              refine qr_istore_n _ 91 rfl (by decide) rfl rfl ?_
              refine qr_goto 10 rfl rfl ?_
              exact ih385 _ u444 v447 σ434 (by omega) (qm_gk (qm_gk g443 (by decide) (Or.inr rfl)) (by decide) (Or.inl (by decide))) (qm_gk (qm_ge _ _ _) (by decide) (Or.inr rfl)) (qm_ge _ _ _) (by omega) (by omega) hI435 hF437 ((hG436.1 86 37 (by decide)).trans ((congrFun (congrFun e423 86) 37).trans rfl)) (by have hw0 : σ434 86 39 = (σ434 86 39) := rfl; have hw1 : σ434 86 36 = (σ434 86 36) := rfl; have hw2 : σ434 86 37 = (σ371 86 37) := (hG436.1 86 37 (by decide)).trans ((congrFun (congrFun e423 86) 37).trans rfl); omega) (by have hw0 : σ434 86 39 = (σ434 86 39) := rfl; have hw1 : σ434 86 36 = (σ434 86 36) := rfl; have hw2 : σ434 86 37 = (σ371 86 37) := (hG436.1 86 37 (by decide)).trans ((congrFun (congrFun e423 86) 37).trans rfl); omega) (by have hw0 : σ434 86 39 = (σ434 86 39) := rfl; have hw1 : σ434 86 36 = (σ434 86 36) := rfl; have hw2 : σ434 86 37 = (σ371 86 37) := (hG436.1 86 37 (by decide)).trans ((congrFun (congrFun e423 86) 37).trans rfl); omega) (by have hw0 : σ434 86 39 = (σ434 86 39) := rfl; have hw1 : σ434 86 36 = (σ434 86 36) := rfl; have hw2 : σ434 86 37 = (σ371 86 37) := (hG436.1 86 37 (by decide)).trans ((congrFun (congrFun e423 86) 37).trans rfl); omega) (by have hw0 : σ434 86 39 = (σ434 86 39) := rfl; have hw1 : σ434 86 36 = (σ434 86 36) := rfl; have hw2 : σ434 86 37 = (σ371 86 37) := (hG436.1 86 37 (by decide)).trans ((congrFun (congrFun e423 86) 37).trans rfl); omega) (by have hw0 : σ434 86 39 = (σ434 86 39) := rfl; have hw1 : σ434 86 36 = (σ434 86 36) := rfl; have hw2 : σ434 86 37 = (σ371 86 37) := (hG436.1 86 37 (by decide)).trans ((congrFun (congrFun e423 86) 37).trans rfl); omega)
            refine qr_if_ne 70 66 rfl rfl rfl (by omega) (fun h452 => ?_) (fun h452 => ?_)
            · skip
              refine qr_iload_n 71 rfl (qm_gk g369 (by decide) (Or.inr rfl)) rfl ?_
              refine qr_bipush 73 rfl (by decide) rfl ?_
              refine qr_icmp_ne 82 76 rfl rfl rfl (by omega) (by omega) (fun h => False.elim (by omega)) (fun h453 => ?_)
              refine qr_iload_n 77 rfl (qm_gk g367 (by decide) (Or.inl (by decide))) rfl ?_
              refine qr_iload_n 78 rfl (qm_ge _ _ _) rfl ?_
              refine qr_idivW 79 rfl (by omega) rfl ?_
              refine qy_can (fun v454 hv454 => ?_)
              refine qr_goto 85 rfl rfl ?_
              exact hJ446 _ v454 (qm_gk g366 (by decide) (Or.inl (by decide))) (by omega)
            · skip
              refine qr_iconst 67 rfl rfl ?_
              refine qr_goto 85 rfl rfl ?_
              exact hJ446 _ 0 (qm_gk g366 (by decide) (Or.inl (by decide))) (by omega)
          · skip
            refine qr_iload_n 30 rfl g369 rfl ?_
            refine qr_bipush 32 rfl (by decide) rfl ?_
            refine qr_icmp_ne 94 35 rfl rfl rfl (by omega) (by omega) (fun h455 => ?_) (fun h455 => ?_)
            · skip
              refine qr_iload_n 95 rfl g367 rfl ?_
              refine qr_retI rfl rfl (by decide) (by decide) ?_
              have hw456 : σ371 86 36 = (σ371 86 36) := rfl
              have hw457 : σ371 86 37 = (σ371 86 37) := rfl
              have hw458 : σ371 86 39 = (σ371 86 39) := rfl
              exact ⟨_, rfl, hI373, hF374, u368, rfl, by omega, by omega⟩
            · skip
              refine qr_aload_n 36 rfl g366 rfl ?_
              refine qr_dup 37 rfl rfl rfl ?_
              refine qr_get 40 rfl rfl rfl (by decide) rfl ?_
              refine qr_iconst 41 rfl rfl ?_
              refine qr_iadd 42 rfl rfl ?_
              refine qr_put 45 rfl (by decide) rfl (Nat.le_of_ble_eq_true rfl) (Nat.le_of_ble_eq_true rfl) (Or.inl rfl) (qr_fitI rfl _) rfl ?_
              refine qy_wS (qw_s σ371 86 36 ((σ371 86 36) + 1)) rfl (fun σ459 e460 => ?_)
              have hI461 : qI σ459 α κ ρ := by rw [e460]; exact qI_s hI373 86 36 rfl (show 0 ≤ ((σ371 86 36) + 1) ∧ ((σ371 86 36) + 1) ≤ 120 by omega)
              have hF462 : qFr [(86, 36), (86, 38), (86, 39)] [] σ α σ459 α := by rw [e460]; exact qFr_s hF374 86 36 _ (by decide)
              refine qr_aload_n 46 rfl g366 rfl ?_
              refine qr_callN 49 rfl rfl rfl (sf_218_86o6 (d := d + 0) hI461 (by omega) (by omega)) ?_
              have hs465 : 0 ≤ σ459 86 36 ∧ σ459 86 36 ≤ 120 := hI461.1 86 36
              have hs466 : σ459 86 36 = ((σ371 86 36) + 1) := (congrFun (congrFun e460 86) 36).trans rfl
              have hs467 : 0 ≤ σ459 86 37 ∧ σ459 86 37 ≤ 120 := hI461.1 86 37
              have hs468 : σ459 86 37 = (σ371 86 37) := (congrFun (congrFun e460 86) 37).trans rfl
              have hs469 : 0 ≤ σ459 86 39 ∧ σ459 86 39 ≤ 6 := hI461.1 86 39
              have hs470 : σ459 86 39 = (σ371 86 39) := (congrFun (congrFun e460 86) 39).trans rfl
              rintro _ _ ⟨σ471, rfl, hI472, hG473, v463, rfl, hv463, hp464⟩
              have hF474 : qFr [(86, 36), (86, 38), (86, 39)] [] σ α σ471 α := qFr_t hF462 hG473 (by decide) (by decide)
              have hs475 : 0 ≤ σ471 86 36 ∧ σ471 86 36 ≤ 120 := hI472.1 86 36
              have hs476 : 0 ≤ σ471 86 37 ∧ σ471 86 37 ≤ 120 := hI472.1 86 37
              have hs477 : 0 ≤ σ471 86 39 ∧ σ471 86 39 ≤ 6 := hI472.1 86 39
              show qr_W (qe L xs vb) (d + 2) qx_e217 _ (49, _, [.int (qz v463)], qw σ471 α κ ρ, 0, 0)
              refine qr_istore_n _ 50 rfl (by decide) rfl rfl ?_
              refine qr_iload_n 51 rfl (qm_gk g369 (by decide) (Or.inr rfl)) rfl ?_
              refine qr_bipush 53 rfl (by decide) rfl ?_
              refine qr_icmp_ne 62 56 rfl rfl rfl (by omega) (by omega) (fun h478 => ?_) (fun h => False.elim (by omega))
              refine qr_iload_n 63 rfl (qm_ge _ _ _) rfl ?_
              have hJ483 : ∀ (ls : qm_L) (u481 : Int), qm_get ls 0 = some (.ref 86) → ((-2147483648) ≤ u481 ∧ u481 ≤ 2147483647) → qr_W (qe L xs vb) (d + 2) qx_e217 (fun r w' => ∃ σ', w' = qw σ' α κ ρ ∧ qI σ' α κ ρ ∧ qFr [(86, 36), (86, 38), (86, 39)] [] σ α σ' α ∧ ∃ v : Int, r = some (.int (qz v)) ∧ ((-2147483648) ≤ v ∧ v ≤ 2147483647) ∧ σ 86 39 ≤ σ' 86 39 ∧ σ 86 36 ≤ σ' 86 36 ∧ σ' 86 36 ≤ σ' 86 37 ∧ σ' 86 37 = σ 86 37) (85, ls, [.int (qz u481)], qw σ471 α κ ρ, 0, 0) := by
                intro ls u481 g480 hf482
                refine qr_istore_n _ 86 rfl (by decide) rfl rfl ?_
                refine qr_aload_n 87 rfl (qm_gk g480 (by decide) (Or.inr rfl)) rfl ?_
                refine qr_callN 90 rfl rfl rfl (sf_219_86t (d := d + 1) hI472 ) ?_
                have hs486 : 0 ≤ σ471 86 36 ∧ σ471 86 36 ≤ 120 := hI472.1 86 36
                have hs487 : 0 ≤ σ471 86 37 ∧ σ471 86 37 ≤ 120 := hI472.1 86 37
                have hs488 : σ471 86 37 = (σ371 86 37) := (hG473.1 86 37 (by decide)).trans ((congrFun (congrFun e460 86) 37).trans rfl)
                rintro _ _ ⟨rfl, v484, rfl, hv484, hp485⟩
                show qr_W (qe L xs vb) (d + 2) qx_e217 _ (90, _, [.int (qz v484)], qw σ471 α κ ρ, 0, 0)
                refine qr_istore_n _ 91 rfl (by decide) rfl rfl ?_
                refine qr_goto 10 rfl rfl ?_
                exact ih385 _ u481 v484 σ471 (by omega) (qm_gk (qm_gk g480 (by decide) (Or.inr rfl)) (by decide) (Or.inl (by decide))) (qm_gk (qm_ge _ _ _) (by decide) (Or.inr rfl)) (qm_ge _ _ _) (by omega) (by omega) hI472 hF474 ((hG473.1 86 37 (by decide)).trans ((congrFun (congrFun e460 86) 37).trans rfl)) (by have hw0 : σ471 86 39 = (σ471 86 39) := rfl; have hw1 : σ471 86 36 = (σ471 86 36) := rfl; have hw2 : σ471 86 37 = (σ371 86 37) := (hG473.1 86 37 (by decide)).trans ((congrFun (congrFun e460 86) 37).trans rfl); omega) (by have hw0 : σ471 86 39 = (σ471 86 39) := rfl; have hw1 : σ471 86 36 = (σ471 86 36) := rfl; have hw2 : σ471 86 37 = (σ371 86 37) := (hG473.1 86 37 (by decide)).trans ((congrFun (congrFun e460 86) 37).trans rfl); omega) (by have hw0 : σ471 86 39 = (σ471 86 39) := rfl; have hw1 : σ471 86 36 = (σ471 86 36) := rfl; have hw2 : σ471 86 37 = (σ371 86 37) := (hG473.1 86 37 (by decide)).trans ((congrFun (congrFun e460 86) 37).trans rfl); omega) (by have hw0 : σ471 86 39 = (σ471 86 39) := rfl; have hw1 : σ471 86 36 = (σ471 86 36) := rfl; have hw2 : σ471 86 37 = (σ371 86 37) := (hG473.1 86 37 (by decide)).trans ((congrFun (congrFun e460 86) 37).trans rfl); omega) (by have hw0 : σ471 86 39 = (σ471 86 39) := rfl; have hw1 : σ471 86 36 = (σ471 86 36) := rfl; have hw2 : σ471 86 37 = (σ371 86 37) := (hG473.1 86 37 (by decide)).trans ((congrFun (congrFun e460 86) 37).trans rfl); omega) (by have hw0 : σ471 86 39 = (σ471 86 39) := rfl; have hw1 : σ471 86 36 = (σ471 86 36) := rfl; have hw2 : σ471 86 37 = (σ371 86 37) := (hG473.1 86 37 (by decide)).trans ((congrFun (congrFun e460 86) 37).trans rfl); omega)
              refine qr_if_ne 70 66 rfl rfl rfl (by omega) (fun h489 => ?_) (fun h489 => ?_)
              · skip
                refine qr_iload_n 71 rfl (qm_gk g369 (by decide) (Or.inr rfl)) rfl ?_
                refine qr_bipush 73 rfl (by decide) rfl ?_
                refine qr_icmp_ne 82 76 rfl rfl rfl (by omega) (by omega) (fun h490 => ?_) (fun h => False.elim (by omega))
                refine qr_iload_n 83 rfl (qm_gk g367 (by decide) (Or.inl (by decide))) rfl ?_
                refine qr_iload_n 84 rfl (qm_ge _ _ _) rfl ?_
                refine qr_iremW 85 rfl (by omega) rfl ?_
                refine qy_can (fun v491 hv491 => ?_)
                exact hJ483 _ v491 (qm_gk g366 (by decide) (Or.inl (by decide))) (by omega)
              · skip
                refine qr_iconst 67 rfl rfl ?_
                refine qr_goto 85 rfl rfl ?_
                exact hJ483 _ 0 (qm_gk g366 (by decide) (Or.inl (by decide))) (by omega)
  exact hL384 ((((120 - σ6 86 36).toNat : Int) + 1 : Int)).toNat _ v1 v13 σ6 (by omega) rfl rfl rfl (by omega) (by omega) hI7 hF9 ((hG8.1 86 37 (by decide)).trans rfl) (by have hw0 : σ6 86 39 = (σ6 86 39) := rfl; have hw1 : σ6 86 36 = (σ6 86 36) := rfl; have hw2 : σ6 86 37 = (σ 86 37) := (hG8.1 86 37 (by decide)).trans rfl; omega) (by have hw0 : σ6 86 39 = (σ6 86 39) := rfl; have hw1 : σ6 86 36 = (σ6 86 36) := rfl; have hw2 : σ6 86 37 = (σ 86 37) := (hG8.1 86 37 (by decide)).trans rfl; omega) (by have hw0 : σ6 86 39 = (σ6 86 39) := rfl; have hw1 : σ6 86 36 = (σ6 86 36) := rfl; have hw2 : σ6 86 37 = (σ 86 37) := (hG8.1 86 37 (by decide)).trans rfl; omega) (by have hw0 : σ6 86 39 = (σ6 86 39) := rfl; have hw1 : σ6 86 36 = (σ6 86 36) := rfl; have hw2 : σ6 86 37 = (σ 86 37) := (hG8.1 86 37 (by decide)).trans rfl; omega) (by have hw0 : σ6 86 39 = (σ6 86 39) := rfl; have hw1 : σ6 86 36 = (σ6 86 36) := rfl; have hw2 : σ6 86 37 = (σ 86 37) := (hG8.1 86 37 (by decide)).trans rfl; omega) (by have hw0 : σ6 86 39 = (σ6 86 39) := rfl; have hw1 : σ6 86 36 = (σ6 86 36) := rfl; have hw2 : σ6 86 37 = (σ 86 37) := (hG8.1 86 37 (by decide)).trans rfl; omega)

set_option maxHeartbeats 4000000 in
set_option maxRecDepth 20000 in
/-- OneRoofModel.sums -/
theorem sf_216_86o6 {L : Nat} {xs : Nat → Int} {vb : Bool} {d : Nat} {σ α : Nat → Nat → Int} {κ : Nat → Option Nat} {ρ : Nat}  (hI : qI σ α κ ρ) (p0 : 6 ≤ σ 86 39) (p1 : σ 86 36 ≤ σ 86 37) : qm_T (qe L xs vb) (d + 4) 216 [.ref 86] (qw σ α κ ρ) (fun r w' => ∃ σ', w' = qw σ' α κ ρ ∧ qI σ' α κ ρ ∧ qFr [(86, 36), (86, 38), (86, 39)] [] σ α σ' α ∧ ∃ v : Int, r = some (.int (qz v)) ∧ ((-2147483648) ≤ v ∧ v ≤ 2147483647) ∧ σ 86 39 ≤ σ' 86 39 ∧ σ 86 36 ≤ σ' 86 36 ∧ σ' 86 36 ≤ σ' 86 37 ∧ σ' 86 37 = σ 86 37) := by
  refine qr_start (d := d + 3) qv_e216 (Nat.le_of_ble_eq_true rfl) ?_
  show qr_W (qe L xs vb) (d + 3) qx_e216 _ (0, [(0, .ref 86)], [], _, 0, 0)
  have hF0 := qFr_rf [(86, 36), (86, 38), (86, 39)] [] σ α
  have hz86_39 : 0 ≤ σ 86 39 ∧ σ 86 39 ≤ 6 := hI.1 86 39
  have hz86_36 : 0 ≤ σ 86 36 ∧ σ 86 36 ≤ 120 := hI.1 86 36
  have hz86_37 : 0 ≤ σ 86 37 ∧ σ 86 37 ≤ 120 := hI.1 86 37
  refine qr_aload_n 1 rfl rfl rfl ?_
  refine qr_callN 4 rfl rfl rfl (sf_217_86o6 (d := d + 0) hI (by omega) (by omega)) ?_
  have hs3 : 0 ≤ σ 86 36 ∧ σ 86 36 ≤ 120 := hI.1 86 36
  have hs4 : 0 ≤ σ 86 37 ∧ σ 86 37 ≤ 120 := hI.1 86 37
  have hs5 : 0 ≤ σ 86 39 ∧ σ 86 39 ≤ 6 := hI.1 86 39
  rintro _ _ ⟨σ6, rfl, hI7, hG8, v1, rfl, hv1, hp2⟩
  have hF9 : qFr [(86, 36), (86, 38), (86, 39)] [] σ α σ6 α := qFr_t hF0 hG8 (by decide) (by decide)
  have hs10 : 0 ≤ σ6 86 36 ∧ σ6 86 36 ≤ 120 := hI7.1 86 36
  have hs11 : 0 ≤ σ6 86 37 ∧ σ6 86 37 ≤ 120 := hI7.1 86 37
  have hs12 : 0 ≤ σ6 86 39 ∧ σ6 86 39 ≤ 6 := hI7.1 86 39
  show qr_W (qe L xs vb) (d + 3) qx_e216 _ (4, _, [.int (qz v1)], qw σ6 α κ ρ, 0, 0)
  refine qr_istore_n _ 5 rfl (by decide) rfl rfl ?_
  have hL435 : ∀ (n : Nat) (ls : qm_L) (u423 : Int) (σ424 : Nat → Nat → Int), ((120 - σ424 86 36).toNat : Int) < (n : Int) → qm_get ls 0 = some (.ref 86) → qm_get ls 1 = some (.int (qz u423)) → ((-2147483648) ≤ u423 ∧ u423 ≤ 2147483647) → qI σ424 α κ ρ → qFr [(86, 36), (86, 38), (86, 39)] [] σ α σ424 α → σ424 86 37 = (σ 86 37) → 6 ≤ σ424 86 39 → σ 86 39 ≤ σ424 86 39 → σ 86 36 ≤ σ424 86 36 → σ424 86 36 ≤ σ424 86 37 → σ424 86 37 = σ 86 37 → qr_W (qe L xs vb) (d + 3) qx_e216 (fun r w' => ∃ σ', w' = qw σ' α κ ρ ∧ qI σ' α κ ρ ∧ qFr [(86, 36), (86, 38), (86, 39)] [] σ α σ' α ∧ ∃ v : Int, r = some (.int (qz v)) ∧ ((-2147483648) ≤ v ∧ v ≤ 2147483647) ∧ σ 86 39 ≤ σ' 86 39 ∧ σ 86 36 ≤ σ' 86 36 ∧ σ' 86 36 ≤ σ' 86 37 ∧ σ' 86 37 = σ 86 37) (5, ls, [], qw σ424 α κ ρ, 0, 0) := by
    intro n
    induction n with
    | zero => intro ls u423 σ424 hm g421 g422 hf429 hI426 hF427 hk428 hx430 hx431 hx432 hx433 hx434; exact False.elim (by omega)
    | succ n ih436 =>
      intro ls u423 σ424 hm g421 g422 hf429 hI426 hF427 hk428 hx430 hx431 hx432 hx433 hx434
      have hs437 : 0 ≤ σ424 86 39 ∧ σ424 86 39 ≤ 6 := hI426.1 86 39
      have hs438 : 0 ≤ σ424 86 36 ∧ σ424 86 36 ≤ 120 := hI426.1 86 36
      have hs439 : 0 ≤ σ424 86 37 ∧ σ424 86 37 ≤ 120 := hI426.1 86 37
      refine qr_aload_n 6 rfl g421 rfl ?_
      refine qr_get 9 rfl rfl rfl (by decide) rfl ?_
      have hs440 : (-1) ≤ σ424 86 38 ∧ σ424 86 38 ≤ 120 := hI426.1 86 38
      refine qr_if_ge 77 12 rfl rfl rfl (by omega) (fun h441 => ?_) (fun h441 => ?_)
      · skip
        refine qr_iload_n 78 rfl g422 rfl ?_
        refine qr_retI rfl rfl (by decide) (by decide) ?_
        have hw442 : σ424 86 36 = (σ424 86 36) := rfl
        have hw443 : σ424 86 37 = (σ424 86 37) := rfl
        have hw444 : σ424 86 39 = (σ424 86 39) := rfl
        exact ⟨_, rfl, hI426, hF427, u423, rfl, by omega, by omega⟩
      · skip
        refine qr_aload_n 13 rfl g421 rfl ?_
        refine qr_callN 16 rfl rfl rfl (sf_219_86t (d := d + 2) hI426 ) ?_
        have hs447 : 0 ≤ σ424 86 36 ∧ σ424 86 36 ≤ 120 := hI426.1 86 36
        have hs448 : 0 ≤ σ424 86 37 ∧ σ424 86 37 ≤ 120 := hI426.1 86 37
        rintro _ _ ⟨rfl, v445, rfl, hv445, hp446⟩
        show qr_W (qe L xs vb) (d + 3) qx_e216 _ (16, _, [.int (qz v445)], qw σ424 α κ ρ, 0, 0)
        refine qr_bipush 18 rfl (by decide) rfl ?_
        refine qr_icmp_eq 30 21 rfl rfl rfl (by omega) (by omega) (fun h449 => ?_) (fun h449 => ?_)
        · skip
          refine qr_aload_n 31 rfl g421 rfl ?_
          refine qr_callN 34 rfl rfl rfl (sf_219_86t (d := d + 2) hI426 ) ?_
          have hs452 : 0 ≤ σ424 86 36 ∧ σ424 86 36 ≤ 120 := hI426.1 86 36
          have hs453 : 0 ≤ σ424 86 37 ∧ σ424 86 37 ≤ 120 := hI426.1 86 37
          rintro _ _ ⟨rfl, v450, rfl, hv450, hp451⟩
          show qr_W (qe L xs vb) (d + 3) qx_e216 _ (34, _, [.int (qz v450)], qw σ424 α κ ρ, 0, 0)
          refine qr_bipush 36 rfl (by decide) rfl ?_
          refine qr_icmp_ne 43 39 rfl rfl rfl (by omega) (by omega) (fun h454 => ?_) (fun h454 => ?_)
          · skip
            refine qr_iconst 44 rfl rfl ?_
            refine qr_istore_n _ 45 rfl (by decide) rfl rfl ?_
            refine qr_aload_n 46 rfl (qm_gk g421 (by decide) (Or.inl (by decide))) rfl ?_
            refine qr_dup 47 rfl rfl rfl ?_
            refine qr_get 50 rfl rfl rfl (by decide) rfl ?_
            refine qr_iconst 51 rfl rfl ?_
            refine qr_iadd 52 rfl rfl ?_
            refine qr_put 55 rfl (by decide) rfl (Nat.le_of_ble_eq_true rfl) (Nat.le_of_ble_eq_true rfl) (Or.inl rfl) (qr_fitI rfl _) rfl ?_
            refine qy_wS (qw_s σ424 86 36 ((σ424 86 36) + 1)) rfl (fun σ455 e456 => ?_)
            have hI457 : qI σ455 α κ ρ := by rw [e456]; exact qI_s hI426 86 36 rfl (show 0 ≤ ((σ424 86 36) + 1) ∧ ((σ424 86 36) + 1) ≤ 120 by omega)
            have hF458 : qFr [(86, 36), (86, 38), (86, 39)] [] σ α σ455 α := by rw [e456]; exact qFr_s hF427 86 36 _ (by decide)
            refine qr_aload_n 56 rfl (qm_gk g421 (by decide) (Or.inl (by decide))) rfl ?_
            refine qr_callN 59 rfl rfl rfl (sf_217_86o6 (d := d + 0) hI457 (by omega) (by omega)) ?_
            have hs461 : 0 ≤ σ455 86 36 ∧ σ455 86 36 ≤ 120 := hI457.1 86 36
            have hs462 : σ455 86 36 = ((σ424 86 36) + 1) := (congrFun (congrFun e456 86) 36).trans rfl
            have hs463 : 0 ≤ σ455 86 37 ∧ σ455 86 37 ≤ 120 := hI457.1 86 37
            have hs464 : σ455 86 37 = (σ424 86 37) := (congrFun (congrFun e456 86) 37).trans rfl
            have hs465 : 0 ≤ σ455 86 39 ∧ σ455 86 39 ≤ 6 := hI457.1 86 39
            have hs466 : σ455 86 39 = (σ424 86 39) := (congrFun (congrFun e456 86) 39).trans rfl
            rintro _ _ ⟨σ467, rfl, hI468, hG469, v459, rfl, hv459, hp460⟩
            have hF470 : qFr [(86, 36), (86, 38), (86, 39)] [] σ α σ467 α := qFr_t hF458 hG469 (by decide) (by decide)
            have hs471 : 0 ≤ σ467 86 36 ∧ σ467 86 36 ≤ 120 := hI468.1 86 36
            have hs472 : 0 ≤ σ467 86 37 ∧ σ467 86 37 ≤ 120 := hI468.1 86 37
            have hs473 : 0 ≤ σ467 86 39 ∧ σ467 86 39 ≤ 6 := hI468.1 86 39
            show qr_W (qe L xs vb) (d + 3) qx_e216 _ (59, _, [.int (qz v459)], qw σ467 α κ ρ, 0, 0)
            refine qr_istore_n _ 60 rfl (by decide) rfl rfl ?_
            refine qr_iload_n 61 rfl (qm_gk (qm_ge _ _ _) (by decide) (Or.inr rfl)) rfl ?_
            refine qr_if_eq 70 64 rfl rfl rfl (by omega) (fun h474 => ?_) (fun h => False.elim (by omega))
            refine qr_iload_n 71 rfl (qm_gk (qm_gk g422 (by decide) (Or.inr rfl)) (by decide) (Or.inl (by decide))) rfl ?_
            refine qr_iload_n 72 rfl (qm_ge _ _ _) rfl ?_
            refine qr_isub 73 rfl rfl ?_
            refine qy_can (fun v475 hv475 => ?_)
            refine qr_istore_n _ 74 rfl (by decide) rfl rfl ?_
            refine qr_goto 5 rfl rfl ?_
            exact ih436 _ v475 σ467 (by omega) (qm_gk (qm_gk (qm_gk g421 (by decide) (Or.inl (by decide))) (by decide) (Or.inl (by decide))) (by decide) (Or.inr rfl)) (qm_ge _ _ _) (by omega) hI468 hF470 ((hG469.1 86 37 (by decide)).trans ((congrFun (congrFun e456 86) 37).trans rfl)) (by have hw0 : σ467 86 39 = (σ467 86 39) := rfl; have hw1 : σ467 86 36 = (σ467 86 36) := rfl; have hw2 : σ467 86 37 = (σ424 86 37) := (hG469.1 86 37 (by decide)).trans ((congrFun (congrFun e456 86) 37).trans rfl); omega) (by have hw0 : σ467 86 39 = (σ467 86 39) := rfl; have hw1 : σ467 86 36 = (σ467 86 36) := rfl; have hw2 : σ467 86 37 = (σ424 86 37) := (hG469.1 86 37 (by decide)).trans ((congrFun (congrFun e456 86) 37).trans rfl); omega) (by have hw0 : σ467 86 39 = (σ467 86 39) := rfl; have hw1 : σ467 86 36 = (σ467 86 36) := rfl; have hw2 : σ467 86 37 = (σ424 86 37) := (hG469.1 86 37 (by decide)).trans ((congrFun (congrFun e456 86) 37).trans rfl); omega) (by have hw0 : σ467 86 39 = (σ467 86 39) := rfl; have hw1 : σ467 86 36 = (σ467 86 36) := rfl; have hw2 : σ467 86 37 = (σ424 86 37) := (hG469.1 86 37 (by decide)).trans ((congrFun (congrFun e456 86) 37).trans rfl); omega) (by have hw0 : σ467 86 39 = (σ467 86 39) := rfl; have hw1 : σ467 86 36 = (σ467 86 36) := rfl; have hw2 : σ467 86 37 = (σ424 86 37) := (hG469.1 86 37 (by decide)).trans ((congrFun (congrFun e456 86) 37).trans rfl); omega)
          · skip
            refine qr_iconst 40 rfl rfl ?_
            refine qr_goto 44 rfl rfl ?_
            refine qr_istore_n _ 45 rfl (by decide) rfl rfl ?_
            refine qr_aload_n 46 rfl (qm_gk g421 (by decide) (Or.inl (by decide))) rfl ?_
            refine qr_dup 47 rfl rfl rfl ?_
            refine qr_get 50 rfl rfl rfl (by decide) rfl ?_
            refine qr_iconst 51 rfl rfl ?_
            refine qr_iadd 52 rfl rfl ?_
            refine qr_put 55 rfl (by decide) rfl (Nat.le_of_ble_eq_true rfl) (Nat.le_of_ble_eq_true rfl) (Or.inl rfl) (qr_fitI rfl _) rfl ?_
            refine qy_wS (qw_s σ424 86 36 ((σ424 86 36) + 1)) rfl (fun σ476 e477 => ?_)
            have hI478 : qI σ476 α κ ρ := by rw [e477]; exact qI_s hI426 86 36 rfl (show 0 ≤ ((σ424 86 36) + 1) ∧ ((σ424 86 36) + 1) ≤ 120 by omega)
            have hF479 : qFr [(86, 36), (86, 38), (86, 39)] [] σ α σ476 α := by rw [e477]; exact qFr_s hF427 86 36 _ (by decide)
            refine qr_aload_n 56 rfl (qm_gk g421 (by decide) (Or.inl (by decide))) rfl ?_
            refine qr_callN 59 rfl rfl rfl (sf_217_86o6 (d := d + 0) hI478 (by omega) (by omega)) ?_
            have hs482 : 0 ≤ σ476 86 36 ∧ σ476 86 36 ≤ 120 := hI478.1 86 36
            have hs483 : σ476 86 36 = ((σ424 86 36) + 1) := (congrFun (congrFun e477 86) 36).trans rfl
            have hs484 : 0 ≤ σ476 86 37 ∧ σ476 86 37 ≤ 120 := hI478.1 86 37
            have hs485 : σ476 86 37 = (σ424 86 37) := (congrFun (congrFun e477 86) 37).trans rfl
            have hs486 : 0 ≤ σ476 86 39 ∧ σ476 86 39 ≤ 6 := hI478.1 86 39
            have hs487 : σ476 86 39 = (σ424 86 39) := (congrFun (congrFun e477 86) 39).trans rfl
            rintro _ _ ⟨σ488, rfl, hI489, hG490, v480, rfl, hv480, hp481⟩
            have hF491 : qFr [(86, 36), (86, 38), (86, 39)] [] σ α σ488 α := qFr_t hF479 hG490 (by decide) (by decide)
            have hs492 : 0 ≤ σ488 86 36 ∧ σ488 86 36 ≤ 120 := hI489.1 86 36
            have hs493 : 0 ≤ σ488 86 37 ∧ σ488 86 37 ≤ 120 := hI489.1 86 37
            have hs494 : 0 ≤ σ488 86 39 ∧ σ488 86 39 ≤ 6 := hI489.1 86 39
            show qr_W (qe L xs vb) (d + 3) qx_e216 _ (59, _, [.int (qz v480)], qw σ488 α κ ρ, 0, 0)
            refine qr_istore_n _ 60 rfl (by decide) rfl rfl ?_
            refine qr_iload_n 61 rfl (qm_gk (qm_ge _ _ _) (by decide) (Or.inr rfl)) rfl ?_
            refine qr_if_eq 70 64 rfl rfl rfl (by omega) (fun h => False.elim (by omega)) (fun h495 => ?_)
            refine qr_iload_n 65 rfl (qm_gk (qm_gk g422 (by decide) (Or.inr rfl)) (by decide) (Or.inl (by decide))) rfl ?_
            refine qr_iload_n 66 rfl (qm_ge _ _ _) rfl ?_
            refine qr_iadd 67 rfl rfl ?_
            refine qy_can (fun v496 hv496 => ?_)
            refine qr_goto 73 rfl rfl ?_
            refine qr_istore_n _ 74 rfl (by decide) rfl rfl ?_
            refine qr_goto 5 rfl rfl ?_
            exact ih436 _ v496 σ488 (by omega) (qm_gk (qm_gk (qm_gk g421 (by decide) (Or.inl (by decide))) (by decide) (Or.inl (by decide))) (by decide) (Or.inr rfl)) (qm_ge _ _ _) (by omega) hI489 hF491 ((hG490.1 86 37 (by decide)).trans ((congrFun (congrFun e477 86) 37).trans rfl)) (by have hw0 : σ488 86 39 = (σ488 86 39) := rfl; have hw1 : σ488 86 36 = (σ488 86 36) := rfl; have hw2 : σ488 86 37 = (σ424 86 37) := (hG490.1 86 37 (by decide)).trans ((congrFun (congrFun e477 86) 37).trans rfl); omega) (by have hw0 : σ488 86 39 = (σ488 86 39) := rfl; have hw1 : σ488 86 36 = (σ488 86 36) := rfl; have hw2 : σ488 86 37 = (σ424 86 37) := (hG490.1 86 37 (by decide)).trans ((congrFun (congrFun e477 86) 37).trans rfl); omega) (by have hw0 : σ488 86 39 = (σ488 86 39) := rfl; have hw1 : σ488 86 36 = (σ488 86 36) := rfl; have hw2 : σ488 86 37 = (σ424 86 37) := (hG490.1 86 37 (by decide)).trans ((congrFun (congrFun e477 86) 37).trans rfl); omega) (by have hw0 : σ488 86 39 = (σ488 86 39) := rfl; have hw1 : σ488 86 36 = (σ488 86 36) := rfl; have hw2 : σ488 86 37 = (σ424 86 37) := (hG490.1 86 37 (by decide)).trans ((congrFun (congrFun e477 86) 37).trans rfl); omega) (by have hw0 : σ488 86 39 = (σ488 86 39) := rfl; have hw1 : σ488 86 36 = (σ488 86 36) := rfl; have hw2 : σ488 86 37 = (σ424 86 37) := (hG490.1 86 37 (by decide)).trans ((congrFun (congrFun e477 86) 37).trans rfl); omega)
        · skip
          refine qr_aload_n 22 rfl g421 rfl ?_
          refine qr_callN 25 rfl rfl rfl (sf_219_86t (d := d + 2) hI426 ) ?_
          have hs499 : 0 ≤ σ424 86 36 ∧ σ424 86 36 ≤ 120 := hI426.1 86 36
          have hs500 : 0 ≤ σ424 86 37 ∧ σ424 86 37 ≤ 120 := hI426.1 86 37
          rintro _ _ ⟨rfl, v497, rfl, hv497, hp498⟩
          show qr_W (qe L xs vb) (d + 3) qx_e216 _ (25, _, [.int (qz v497)], qw σ424 α κ ρ, 0, 0)
          refine qr_bipush 27 rfl (by decide) rfl ?_
          refine qr_icmp_ne 77 30 rfl rfl rfl (by omega) (by omega) (fun h501 => ?_) (fun h501 => ?_)
          · skip
            refine qr_iload_n 78 rfl g422 rfl ?_
            refine qr_retI rfl rfl (by decide) (by decide) ?_
            have hw502 : σ424 86 36 = (σ424 86 36) := rfl
            have hw503 : σ424 86 37 = (σ424 86 37) := rfl
            have hw504 : σ424 86 39 = (σ424 86 39) := rfl
            exact ⟨_, rfl, hI426, hF427, u423, rfl, by omega, by omega⟩
          · skip
            refine qr_aload_n 31 rfl g421 rfl ?_
            refine qr_callN 34 rfl rfl rfl (sf_219_86t (d := d + 2) hI426 ) ?_
            have hs507 : 0 ≤ σ424 86 36 ∧ σ424 86 36 ≤ 120 := hI426.1 86 36
            have hs508 : 0 ≤ σ424 86 37 ∧ σ424 86 37 ≤ 120 := hI426.1 86 37
            rintro _ _ ⟨rfl, v505, rfl, hv505, hp506⟩
            show qr_W (qe L xs vb) (d + 3) qx_e216 _ (34, _, [.int (qz v505)], qw σ424 α κ ρ, 0, 0)
            refine qr_bipush 36 rfl (by decide) rfl ?_
            refine qr_icmp_ne 43 39 rfl rfl rfl (by omega) (by omega) (fun h509 => ?_) (fun h509 => ?_)
            · skip
              refine qr_iconst 44 rfl rfl ?_
              refine qr_istore_n _ 45 rfl (by decide) rfl rfl ?_
              refine qr_aload_n 46 rfl (qm_gk g421 (by decide) (Or.inl (by decide))) rfl ?_
              refine qr_dup 47 rfl rfl rfl ?_
              refine qr_get 50 rfl rfl rfl (by decide) rfl ?_
              refine qr_iconst 51 rfl rfl ?_
              refine qr_iadd 52 rfl rfl ?_
              refine qr_put 55 rfl (by decide) rfl (Nat.le_of_ble_eq_true rfl) (Nat.le_of_ble_eq_true rfl) (Or.inl rfl) (qr_fitI rfl _) rfl ?_
              refine qy_wS (qw_s σ424 86 36 ((σ424 86 36) + 1)) rfl (fun σ510 e511 => ?_)
              have hI512 : qI σ510 α κ ρ := by rw [e511]; exact qI_s hI426 86 36 rfl (show 0 ≤ ((σ424 86 36) + 1) ∧ ((σ424 86 36) + 1) ≤ 120 by omega)
              have hF513 : qFr [(86, 36), (86, 38), (86, 39)] [] σ α σ510 α := by rw [e511]; exact qFr_s hF427 86 36 _ (by decide)
              refine qr_aload_n 56 rfl (qm_gk g421 (by decide) (Or.inl (by decide))) rfl ?_
              refine qr_callN 59 rfl rfl rfl (sf_217_86o6 (d := d + 0) hI512 (by omega) (by omega)) ?_
              have hs516 : 0 ≤ σ510 86 36 ∧ σ510 86 36 ≤ 120 := hI512.1 86 36
              have hs517 : σ510 86 36 = ((σ424 86 36) + 1) := (congrFun (congrFun e511 86) 36).trans rfl
              have hs518 : 0 ≤ σ510 86 37 ∧ σ510 86 37 ≤ 120 := hI512.1 86 37
              have hs519 : σ510 86 37 = (σ424 86 37) := (congrFun (congrFun e511 86) 37).trans rfl
              have hs520 : 0 ≤ σ510 86 39 ∧ σ510 86 39 ≤ 6 := hI512.1 86 39
              have hs521 : σ510 86 39 = (σ424 86 39) := (congrFun (congrFun e511 86) 39).trans rfl
              rintro _ _ ⟨σ522, rfl, hI523, hG524, v514, rfl, hv514, hp515⟩
              have hF525 : qFr [(86, 36), (86, 38), (86, 39)] [] σ α σ522 α := qFr_t hF513 hG524 (by decide) (by decide)
              have hs526 : 0 ≤ σ522 86 36 ∧ σ522 86 36 ≤ 120 := hI523.1 86 36
              have hs527 : 0 ≤ σ522 86 37 ∧ σ522 86 37 ≤ 120 := hI523.1 86 37
              have hs528 : 0 ≤ σ522 86 39 ∧ σ522 86 39 ≤ 6 := hI523.1 86 39
              show qr_W (qe L xs vb) (d + 3) qx_e216 _ (59, _, [.int (qz v514)], qw σ522 α κ ρ, 0, 0)
              refine qr_istore_n _ 60 rfl (by decide) rfl rfl ?_
              refine qr_iload_n 61 rfl (qm_gk (qm_ge _ _ _) (by decide) (Or.inr rfl)) rfl ?_
              refine qr_if_eq 70 64 rfl rfl rfl (by omega) (fun h529 => ?_) (fun h => False.elim (by omega))
              refine qr_iload_n 71 rfl (qm_gk (qm_gk g422 (by decide) (Or.inr rfl)) (by decide) (Or.inl (by decide))) rfl ?_
              refine qr_iload_n 72 rfl (qm_ge _ _ _) rfl ?_
              refine qr_isub 73 rfl rfl ?_
              refine qy_can (fun v530 hv530 => ?_)
              refine qr_istore_n _ 74 rfl (by decide) rfl rfl ?_
              refine qr_goto 5 rfl rfl ?_
              exact ih436 _ v530 σ522 (by omega) (qm_gk (qm_gk (qm_gk g421 (by decide) (Or.inl (by decide))) (by decide) (Or.inl (by decide))) (by decide) (Or.inr rfl)) (qm_ge _ _ _) (by omega) hI523 hF525 ((hG524.1 86 37 (by decide)).trans ((congrFun (congrFun e511 86) 37).trans rfl)) (by have hw0 : σ522 86 39 = (σ522 86 39) := rfl; have hw1 : σ522 86 36 = (σ522 86 36) := rfl; have hw2 : σ522 86 37 = (σ424 86 37) := (hG524.1 86 37 (by decide)).trans ((congrFun (congrFun e511 86) 37).trans rfl); omega) (by have hw0 : σ522 86 39 = (σ522 86 39) := rfl; have hw1 : σ522 86 36 = (σ522 86 36) := rfl; have hw2 : σ522 86 37 = (σ424 86 37) := (hG524.1 86 37 (by decide)).trans ((congrFun (congrFun e511 86) 37).trans rfl); omega) (by have hw0 : σ522 86 39 = (σ522 86 39) := rfl; have hw1 : σ522 86 36 = (σ522 86 36) := rfl; have hw2 : σ522 86 37 = (σ424 86 37) := (hG524.1 86 37 (by decide)).trans ((congrFun (congrFun e511 86) 37).trans rfl); omega) (by have hw0 : σ522 86 39 = (σ522 86 39) := rfl; have hw1 : σ522 86 36 = (σ522 86 36) := rfl; have hw2 : σ522 86 37 = (σ424 86 37) := (hG524.1 86 37 (by decide)).trans ((congrFun (congrFun e511 86) 37).trans rfl); omega) (by have hw0 : σ522 86 39 = (σ522 86 39) := rfl; have hw1 : σ522 86 36 = (σ522 86 36) := rfl; have hw2 : σ522 86 37 = (σ424 86 37) := (hG524.1 86 37 (by decide)).trans ((congrFun (congrFun e511 86) 37).trans rfl); omega)
            · skip
              refine qr_iconst 40 rfl rfl ?_
              refine qr_goto 44 rfl rfl ?_
              refine qr_istore_n _ 45 rfl (by decide) rfl rfl ?_
              refine qr_aload_n 46 rfl (qm_gk g421 (by decide) (Or.inl (by decide))) rfl ?_
              refine qr_dup 47 rfl rfl rfl ?_
              refine qr_get 50 rfl rfl rfl (by decide) rfl ?_
              refine qr_iconst 51 rfl rfl ?_
              refine qr_iadd 52 rfl rfl ?_
              refine qr_put 55 rfl (by decide) rfl (Nat.le_of_ble_eq_true rfl) (Nat.le_of_ble_eq_true rfl) (Or.inl rfl) (qr_fitI rfl _) rfl ?_
              refine qy_wS (qw_s σ424 86 36 ((σ424 86 36) + 1)) rfl (fun σ531 e532 => ?_)
              have hI533 : qI σ531 α κ ρ := by rw [e532]; exact qI_s hI426 86 36 rfl (show 0 ≤ ((σ424 86 36) + 1) ∧ ((σ424 86 36) + 1) ≤ 120 by omega)
              have hF534 : qFr [(86, 36), (86, 38), (86, 39)] [] σ α σ531 α := by rw [e532]; exact qFr_s hF427 86 36 _ (by decide)
              refine qr_aload_n 56 rfl (qm_gk g421 (by decide) (Or.inl (by decide))) rfl ?_
              refine qr_callN 59 rfl rfl rfl (sf_217_86o6 (d := d + 0) hI533 (by omega) (by omega)) ?_
              have hs537 : 0 ≤ σ531 86 36 ∧ σ531 86 36 ≤ 120 := hI533.1 86 36
              have hs538 : σ531 86 36 = ((σ424 86 36) + 1) := (congrFun (congrFun e532 86) 36).trans rfl
              have hs539 : 0 ≤ σ531 86 37 ∧ σ531 86 37 ≤ 120 := hI533.1 86 37
              have hs540 : σ531 86 37 = (σ424 86 37) := (congrFun (congrFun e532 86) 37).trans rfl
              have hs541 : 0 ≤ σ531 86 39 ∧ σ531 86 39 ≤ 6 := hI533.1 86 39
              have hs542 : σ531 86 39 = (σ424 86 39) := (congrFun (congrFun e532 86) 39).trans rfl
              rintro _ _ ⟨σ543, rfl, hI544, hG545, v535, rfl, hv535, hp536⟩
              have hF546 : qFr [(86, 36), (86, 38), (86, 39)] [] σ α σ543 α := qFr_t hF534 hG545 (by decide) (by decide)
              have hs547 : 0 ≤ σ543 86 36 ∧ σ543 86 36 ≤ 120 := hI544.1 86 36
              have hs548 : 0 ≤ σ543 86 37 ∧ σ543 86 37 ≤ 120 := hI544.1 86 37
              have hs549 : 0 ≤ σ543 86 39 ∧ σ543 86 39 ≤ 6 := hI544.1 86 39
              show qr_W (qe L xs vb) (d + 3) qx_e216 _ (59, _, [.int (qz v535)], qw σ543 α κ ρ, 0, 0)
              refine qr_istore_n _ 60 rfl (by decide) rfl rfl ?_
              refine qr_iload_n 61 rfl (qm_gk (qm_ge _ _ _) (by decide) (Or.inr rfl)) rfl ?_
              refine qr_if_eq 70 64 rfl rfl rfl (by omega) (fun h => False.elim (by omega)) (fun h550 => ?_)
              refine qr_iload_n 65 rfl (qm_gk (qm_gk g422 (by decide) (Or.inr rfl)) (by decide) (Or.inl (by decide))) rfl ?_
              refine qr_iload_n 66 rfl (qm_ge _ _ _) rfl ?_
              refine qr_iadd 67 rfl rfl ?_
              refine qy_can (fun v551 hv551 => ?_)
              refine qr_goto 73 rfl rfl ?_
              refine qr_istore_n _ 74 rfl (by decide) rfl rfl ?_
              refine qr_goto 5 rfl rfl ?_
              exact ih436 _ v551 σ543 (by omega) (qm_gk (qm_gk (qm_gk g421 (by decide) (Or.inl (by decide))) (by decide) (Or.inl (by decide))) (by decide) (Or.inr rfl)) (qm_ge _ _ _) (by omega) hI544 hF546 ((hG545.1 86 37 (by decide)).trans ((congrFun (congrFun e532 86) 37).trans rfl)) (by have hw0 : σ543 86 39 = (σ543 86 39) := rfl; have hw1 : σ543 86 36 = (σ543 86 36) := rfl; have hw2 : σ543 86 37 = (σ424 86 37) := (hG545.1 86 37 (by decide)).trans ((congrFun (congrFun e532 86) 37).trans rfl); omega) (by have hw0 : σ543 86 39 = (σ543 86 39) := rfl; have hw1 : σ543 86 36 = (σ543 86 36) := rfl; have hw2 : σ543 86 37 = (σ424 86 37) := (hG545.1 86 37 (by decide)).trans ((congrFun (congrFun e532 86) 37).trans rfl); omega) (by have hw0 : σ543 86 39 = (σ543 86 39) := rfl; have hw1 : σ543 86 36 = (σ543 86 36) := rfl; have hw2 : σ543 86 37 = (σ424 86 37) := (hG545.1 86 37 (by decide)).trans ((congrFun (congrFun e532 86) 37).trans rfl); omega) (by have hw0 : σ543 86 39 = (σ543 86 39) := rfl; have hw1 : σ543 86 36 = (σ543 86 36) := rfl; have hw2 : σ543 86 37 = (σ424 86 37) := (hG545.1 86 37 (by decide)).trans ((congrFun (congrFun e532 86) 37).trans rfl); omega) (by have hw0 : σ543 86 39 = (σ543 86 39) := rfl; have hw1 : σ543 86 36 = (σ543 86 36) := rfl; have hw2 : σ543 86 37 = (σ424 86 37) := (hG545.1 86 37 (by decide)).trans ((congrFun (congrFun e532 86) 37).trans rfl); omega)
  exact hL435 ((((120 - σ6 86 36).toNat : Int) + 1 : Int)).toNat _ v1 σ6 (by omega) rfl rfl (by omega) hI7 hF9 ((hG8.1 86 37 (by decide)).trans rfl) (by have hw0 : σ6 86 39 = (σ6 86 39) := rfl; have hw1 : σ6 86 36 = (σ6 86 36) := rfl; have hw2 : σ6 86 37 = (σ 86 37) := (hG8.1 86 37 (by decide)).trans rfl; omega) (by have hw0 : σ6 86 39 = (σ6 86 39) := rfl; have hw1 : σ6 86 36 = (σ6 86 36) := rfl; have hw2 : σ6 86 37 = (σ 86 37) := (hG8.1 86 37 (by decide)).trans rfl; omega) (by have hw0 : σ6 86 39 = (σ6 86 39) := rfl; have hw1 : σ6 86 36 = (σ6 86 36) := rfl; have hw2 : σ6 86 37 = (σ 86 37) := (hG8.1 86 37 (by decide)).trans rfl; omega) (by have hw0 : σ6 86 39 = (σ6 86 39) := rfl; have hw1 : σ6 86 36 = (σ6 86 36) := rfl; have hw2 : σ6 86 37 = (σ 86 37) := (hG8.1 86 37 (by decide)).trans rfl; omega) (by have hw0 : σ6 86 39 = (σ6 86 39) := rfl; have hw1 : σ6 86 36 = (σ6 86 36) := rfl; have hw2 : σ6 86 37 = (σ 86 37) := (hG8.1 86 37 (by decide)).trans rfl; omega)

set_option maxHeartbeats 4000000 in
set_option maxRecDepth 20000 in
/-- OneRoofModel.compared -/
theorem sf_215_86o6 {L : Nat} {xs : Nat → Int} {vb : Bool} {d : Nat} {σ α : Nat → Nat → Int} {κ : Nat → Option Nat} {ρ : Nat}  (hI : qI σ α κ ρ) (p0 : 6 ≤ σ 86 39) (p1 : σ 86 36 ≤ σ 86 37) : qm_T (qe L xs vb) (d + 5) 215 [.ref 86] (qw σ α κ ρ) (fun r w' => ∃ σ', w' = qw σ' α κ ρ ∧ qI σ' α κ ρ ∧ qFr [(86, 36), (86, 38), (86, 39)] [] σ α σ' α ∧ ∃ v : Int, r = some (.int (qz v)) ∧ ((-2147483648) ≤ v ∧ v ≤ 2147483647) ∧ σ 86 39 ≤ σ' 86 39 ∧ σ 86 36 ≤ σ' 86 36 ∧ σ' 86 36 ≤ σ' 86 37 ∧ σ' 86 37 = σ 86 37) := by
  refine qr_start (d := d + 4) qv_e215 (Nat.le_of_ble_eq_true rfl) ?_
  show qr_W (qe L xs vb) (d + 4) qx_e215 _ (0, [(0, .ref 86)], [], _, 0, 0)
  have hF0 := qFr_rf [(86, 36), (86, 38), (86, 39)] [] σ α
  have hz86_39 : 0 ≤ σ 86 39 ∧ σ 86 39 ≤ 6 := hI.1 86 39
  have hz86_36 : 0 ≤ σ 86 36 ∧ σ 86 36 ≤ 120 := hI.1 86 36
  have hz86_37 : 0 ≤ σ 86 37 ∧ σ 86 37 ≤ 120 := hI.1 86 37
  refine qr_aload_n 1 rfl rfl rfl ?_
  refine qr_callN 4 rfl rfl rfl (sf_216_86o6 (d := d + 0) hI (by omega) (by omega)) ?_
  have hs3 : 0 ≤ σ 86 36 ∧ σ 86 36 ≤ 120 := hI.1 86 36
  have hs4 : 0 ≤ σ 86 37 ∧ σ 86 37 ≤ 120 := hI.1 86 37
  have hs5 : 0 ≤ σ 86 39 ∧ σ 86 39 ≤ 6 := hI.1 86 39
  rintro _ _ ⟨σ6, rfl, hI7, hG8, v1, rfl, hv1, hp2⟩
  have hF9 : qFr [(86, 36), (86, 38), (86, 39)] [] σ α σ6 α := qFr_t hF0 hG8 (by decide) (by decide)
  have hs10 : 0 ≤ σ6 86 36 ∧ σ6 86 36 ≤ 120 := hI7.1 86 36
  have hs11 : 0 ≤ σ6 86 37 ∧ σ6 86 37 ≤ 120 := hI7.1 86 37
  have hs12 : 0 ≤ σ6 86 39 ∧ σ6 86 39 ≤ 6 := hI7.1 86 39
  show qr_W (qe L xs vb) (d + 4) qx_e215 _ (4, _, [.int (qz v1)], qw σ6 α κ ρ, 0, 0)
  refine qr_istore_n _ 5 rfl (by decide) rfl rfl ?_
  refine qr_aload_n 6 rfl rfl rfl ?_
  refine qr_callN 9 rfl rfl rfl (sf_219_86t (d := d + 3) hI7 ) ?_
  have hs15 : 0 ≤ σ6 86 36 ∧ σ6 86 36 ≤ 120 := hI7.1 86 36
  have hs16 : 0 ≤ σ6 86 37 ∧ σ6 86 37 ≤ 120 := hI7.1 86 37
  have hs17 : σ6 86 37 = (σ 86 37) := (hG8.1 86 37 (by decide)).trans rfl
  rintro _ _ ⟨rfl, v13, rfl, hv13, hp14⟩
  show qr_W (qe L xs vb) (d + 4) qx_e215 _ (9, _, [.int (qz v13)], qw σ6 α κ ρ, 0, 0)
  refine qr_istore_n _ 10 rfl (by decide) rfl rfl ?_
  refine qr_aload_n 11 rfl rfl rfl ?_
  refine qr_get 14 rfl rfl rfl (by decide) rfl ?_
  have hs18 : (-1) ≤ σ6 86 38 ∧ σ6 86 38 ≤ 120 := hI7.1 86 38
  refine qr_if_ge 35 17 rfl rfl rfl (by omega) (fun h19 => ?_) (fun h19 => ?_)
  · skip
    refine qr_iload_n 36 rfl rfl rfl ?_
    refine qr_retI rfl rfl (by decide) (by decide) ?_
    have hw20 : σ6 86 36 = (σ6 86 36) := rfl
    have hw21 : σ6 86 37 = (σ 86 37) := (hG8.1 86 37 (by decide)).trans rfl
    have hw22 : σ6 86 39 = (σ6 86 39) := rfl
    exact ⟨_, rfl, hI7, hF9, v1, rfl, by omega, by omega⟩
  · skip
    refine qr_iload_n 18 rfl rfl rfl ?_
    refine qr_bipush 20 rfl (by decide) rfl ?_
    refine qr_icmp_eq 37 23 rfl rfl rfl (by omega) (by omega) (fun h23 => ?_) (fun h23 => ?_)
    · skip
      refine qr_aload_n 38 rfl rfl rfl ?_
      refine qr_dup 39 rfl rfl rfl ?_
      refine qr_get 42 rfl rfl rfl (by decide) rfl ?_
      refine qr_iconst 43 rfl rfl ?_
      refine qr_iadd 44 rfl rfl ?_
      refine qr_put 47 rfl (by decide) rfl (Nat.le_of_ble_eq_true rfl) (Nat.le_of_ble_eq_true rfl) (Or.inl rfl) (qr_fitI rfl _) rfl ?_
      refine qy_wS (qw_s σ6 86 36 ((σ6 86 36) + 1)) rfl (fun σ24 e25 => ?_)
      have hI26 : qI σ24 α κ ρ := by rw [e25]; exact qI_s hI7 86 36 rfl (show 0 ≤ ((σ6 86 36) + 1) ∧ ((σ6 86 36) + 1) ≤ 120 by omega)
      have hF27 : qFr [(86, 36), (86, 38), (86, 39)] [] σ α σ24 α := by rw [e25]; exact qFr_s hF9 86 36 _ (by decide)
      refine qr_aload_n 48 rfl rfl rfl ?_
      refine qr_callN 51 rfl rfl rfl (sf_216_86o6 (d := d + 0) hI26 (by omega) (by omega)) ?_
      have hs30 : 0 ≤ σ24 86 36 ∧ σ24 86 36 ≤ 120 := hI26.1 86 36
      have hs31 : σ24 86 36 = ((σ6 86 36) + 1) := (congrFun (congrFun e25 86) 36).trans rfl
      have hs32 : 0 ≤ σ24 86 37 ∧ σ24 86 37 ≤ 120 := hI26.1 86 37
      have hs33 : σ24 86 37 = (σ 86 37) := (congrFun (congrFun e25 86) 37).trans ((hG8.1 86 37 (by decide)).trans rfl)
      have hs34 : 0 ≤ σ24 86 39 ∧ σ24 86 39 ≤ 6 := hI26.1 86 39
      have hs35 : σ24 86 39 = (σ6 86 39) := (congrFun (congrFun e25 86) 39).trans rfl
      rintro _ _ ⟨σ36, rfl, hI37, hG38, v28, rfl, hv28, hp29⟩
      have hF39 : qFr [(86, 36), (86, 38), (86, 39)] [] σ α σ36 α := qFr_t hF27 hG38 (by decide) (by decide)
      have hs40 : 0 ≤ σ36 86 36 ∧ σ36 86 36 ≤ 120 := hI37.1 86 36
      have hs41 : 0 ≤ σ36 86 37 ∧ σ36 86 37 ≤ 120 := hI37.1 86 37
      have hs42 : 0 ≤ σ36 86 39 ∧ σ36 86 39 ≤ 6 := hI37.1 86 39
      show qr_W (qe L xs vb) (d + 4) qx_e215 _ (51, _, [.int (qz v28)], qw σ36 α κ ρ, 0, 0)
      refine qr_istore_n _ 52 rfl (by decide) rfl rfl ?_
      refine qr_iload_n 53 rfl rfl rfl ?_
      refine qr_bipush 55 rfl (by decide) rfl ?_
      refine qr_icmp_ne 66 58 rfl rfl rfl (by omega) (by omega) (fun h => False.elim (by omega)) (fun h43 => ?_)
      refine qr_iload_n 59 rfl rfl rfl ?_
      refine qr_iload_n 60 rfl rfl rfl ?_
      refine qr_icmp_ge 89 63 rfl rfl rfl (by omega) (by omega) (fun h44 => ?_) (fun h44 => ?_)
      · skip
        refine qr_iconst 90 rfl rfl ?_
        refine qr_retI rfl rfl (by decide) (by decide) ?_
        have hw45 : σ36 86 36 = (σ36 86 36) := rfl
        have hw46 : σ36 86 37 = (σ 86 37) := (hG38.1 86 37 (by decide)).trans ((congrFun (congrFun e25 86) 37).trans ((hG8.1 86 37 (by decide)).trans rfl))
        have hw47 : σ36 86 39 = (σ36 86 39) := rfl
        exact ⟨_, rfl, hI37, hF39, 0, rfl, by omega, by omega⟩
      · skip
        refine qr_goto 85 rfl rfl ?_
        refine qr_iconst 86 rfl rfl ?_
        refine qr_goto 90 rfl rfl ?_
        refine qr_retI rfl rfl (by decide) (by decide) ?_
        have hw48 : σ36 86 36 = (σ36 86 36) := rfl
        have hw49 : σ36 86 37 = (σ 86 37) := (hG38.1 86 37 (by decide)).trans ((congrFun (congrFun e25 86) 37).trans ((hG8.1 86 37 (by decide)).trans rfl))
        have hw50 : σ36 86 39 = (σ36 86 39) := rfl
        exact ⟨_, rfl, hI37, hF39, 1, rfl, by omega, by omega⟩
    · skip
      refine qr_iload_n 24 rfl rfl rfl ?_
      refine qr_bipush 26 rfl (by decide) rfl ?_
      refine qr_icmp_eq 37 29 rfl rfl rfl (by omega) (by omega) (fun h51 => ?_) (fun h51 => ?_)
      · skip
        refine qr_aload_n 38 rfl rfl rfl ?_
        refine qr_dup 39 rfl rfl rfl ?_
        refine qr_get 42 rfl rfl rfl (by decide) rfl ?_
        refine qr_iconst 43 rfl rfl ?_
        refine qr_iadd 44 rfl rfl ?_
        refine qr_put 47 rfl (by decide) rfl (Nat.le_of_ble_eq_true rfl) (Nat.le_of_ble_eq_true rfl) (Or.inl rfl) (qr_fitI rfl _) rfl ?_
        refine qy_wS (qw_s σ6 86 36 ((σ6 86 36) + 1)) rfl (fun σ52 e53 => ?_)
        have hI54 : qI σ52 α κ ρ := by rw [e53]; exact qI_s hI7 86 36 rfl (show 0 ≤ ((σ6 86 36) + 1) ∧ ((σ6 86 36) + 1) ≤ 120 by omega)
        have hF55 : qFr [(86, 36), (86, 38), (86, 39)] [] σ α σ52 α := by rw [e53]; exact qFr_s hF9 86 36 _ (by decide)
        refine qr_aload_n 48 rfl rfl rfl ?_
        refine qr_callN 51 rfl rfl rfl (sf_216_86o6 (d := d + 0) hI54 (by omega) (by omega)) ?_
        have hs58 : 0 ≤ σ52 86 36 ∧ σ52 86 36 ≤ 120 := hI54.1 86 36
        have hs59 : σ52 86 36 = ((σ6 86 36) + 1) := (congrFun (congrFun e53 86) 36).trans rfl
        have hs60 : 0 ≤ σ52 86 37 ∧ σ52 86 37 ≤ 120 := hI54.1 86 37
        have hs61 : σ52 86 37 = (σ 86 37) := (congrFun (congrFun e53 86) 37).trans ((hG8.1 86 37 (by decide)).trans rfl)
        have hs62 : 0 ≤ σ52 86 39 ∧ σ52 86 39 ≤ 6 := hI54.1 86 39
        have hs63 : σ52 86 39 = (σ6 86 39) := (congrFun (congrFun e53 86) 39).trans rfl
        rintro _ _ ⟨σ64, rfl, hI65, hG66, v56, rfl, hv56, hp57⟩
        have hF67 : qFr [(86, 36), (86, 38), (86, 39)] [] σ α σ64 α := qFr_t hF55 hG66 (by decide) (by decide)
        have hs68 : 0 ≤ σ64 86 36 ∧ σ64 86 36 ≤ 120 := hI65.1 86 36
        have hs69 : 0 ≤ σ64 86 37 ∧ σ64 86 37 ≤ 120 := hI65.1 86 37
        have hs70 : 0 ≤ σ64 86 39 ∧ σ64 86 39 ≤ 6 := hI65.1 86 39
        show qr_W (qe L xs vb) (d + 4) qx_e215 _ (51, _, [.int (qz v56)], qw σ64 α κ ρ, 0, 0)
        refine qr_istore_n _ 52 rfl (by decide) rfl rfl ?_
        refine qr_iload_n 53 rfl rfl rfl ?_
        refine qr_bipush 55 rfl (by decide) rfl ?_
        refine qr_icmp_ne 66 58 rfl rfl rfl (by omega) (by omega) (fun h71 => ?_) (fun h => False.elim (by omega))
        refine qr_iload_n 67 rfl rfl rfl ?_
        refine qr_bipush 69 rfl (by decide) rfl ?_
        refine qr_icmp_ne 80 72 rfl rfl rfl (by omega) (by omega) (fun h => False.elim (by omega)) (fun h72 => ?_)
        refine qr_iload_n 73 rfl rfl rfl ?_
        refine qr_iload_n 74 rfl rfl rfl ?_
        refine qr_icmp_ne 89 77 rfl rfl rfl (by omega) (by omega) (fun h73 => ?_) (fun h73 => ?_)
        · skip
          refine qr_iconst 90 rfl rfl ?_
          refine qr_retI rfl rfl (by decide) (by decide) ?_
          have hw74 : σ64 86 36 = (σ64 86 36) := rfl
          have hw75 : σ64 86 37 = (σ 86 37) := (hG66.1 86 37 (by decide)).trans ((congrFun (congrFun e53 86) 37).trans ((hG8.1 86 37 (by decide)).trans rfl))
          have hw76 : σ64 86 39 = (σ64 86 39) := rfl
          exact ⟨_, rfl, hI65, hF67, 0, rfl, by omega, by omega⟩
        · skip
          refine qr_goto 85 rfl rfl ?_
          refine qr_iconst 86 rfl rfl ?_
          refine qr_goto 90 rfl rfl ?_
          refine qr_retI rfl rfl (by decide) (by decide) ?_
          have hw77 : σ64 86 36 = (σ64 86 36) := rfl
          have hw78 : σ64 86 37 = (σ 86 37) := (hG66.1 86 37 (by decide)).trans ((congrFun (congrFun e53 86) 37).trans ((hG8.1 86 37 (by decide)).trans rfl))
          have hw79 : σ64 86 39 = (σ64 86 39) := rfl
          exact ⟨_, rfl, hI65, hF67, 1, rfl, by omega, by omega⟩
      · skip
        refine qr_iload_n 30 rfl rfl rfl ?_
        refine qr_bipush 32 rfl (by decide) rfl ?_
        refine qr_icmp_eq 37 35 rfl rfl rfl (by omega) (by omega) (fun h80 => ?_) (fun h80 => ?_)
        · skip
          refine qr_aload_n 38 rfl rfl rfl ?_
          refine qr_dup 39 rfl rfl rfl ?_
          refine qr_get 42 rfl rfl rfl (by decide) rfl ?_
          refine qr_iconst 43 rfl rfl ?_
          refine qr_iadd 44 rfl rfl ?_
          refine qr_put 47 rfl (by decide) rfl (Nat.le_of_ble_eq_true rfl) (Nat.le_of_ble_eq_true rfl) (Or.inl rfl) (qr_fitI rfl _) rfl ?_
          refine qy_wS (qw_s σ6 86 36 ((σ6 86 36) + 1)) rfl (fun σ81 e82 => ?_)
          have hI83 : qI σ81 α κ ρ := by rw [e82]; exact qI_s hI7 86 36 rfl (show 0 ≤ ((σ6 86 36) + 1) ∧ ((σ6 86 36) + 1) ≤ 120 by omega)
          have hF84 : qFr [(86, 36), (86, 38), (86, 39)] [] σ α σ81 α := by rw [e82]; exact qFr_s hF9 86 36 _ (by decide)
          refine qr_aload_n 48 rfl rfl rfl ?_
          refine qr_callN 51 rfl rfl rfl (sf_216_86o6 (d := d + 0) hI83 (by omega) (by omega)) ?_
          have hs87 : 0 ≤ σ81 86 36 ∧ σ81 86 36 ≤ 120 := hI83.1 86 36
          have hs88 : σ81 86 36 = ((σ6 86 36) + 1) := (congrFun (congrFun e82 86) 36).trans rfl
          have hs89 : 0 ≤ σ81 86 37 ∧ σ81 86 37 ≤ 120 := hI83.1 86 37
          have hs90 : σ81 86 37 = (σ 86 37) := (congrFun (congrFun e82 86) 37).trans ((hG8.1 86 37 (by decide)).trans rfl)
          have hs91 : 0 ≤ σ81 86 39 ∧ σ81 86 39 ≤ 6 := hI83.1 86 39
          have hs92 : σ81 86 39 = (σ6 86 39) := (congrFun (congrFun e82 86) 39).trans rfl
          rintro _ _ ⟨σ93, rfl, hI94, hG95, v85, rfl, hv85, hp86⟩
          have hF96 : qFr [(86, 36), (86, 38), (86, 39)] [] σ α σ93 α := qFr_t hF84 hG95 (by decide) (by decide)
          have hs97 : 0 ≤ σ93 86 36 ∧ σ93 86 36 ≤ 120 := hI94.1 86 36
          have hs98 : 0 ≤ σ93 86 37 ∧ σ93 86 37 ≤ 120 := hI94.1 86 37
          have hs99 : 0 ≤ σ93 86 39 ∧ σ93 86 39 ≤ 6 := hI94.1 86 39
          show qr_W (qe L xs vb) (d + 4) qx_e215 _ (51, _, [.int (qz v85)], qw σ93 α κ ρ, 0, 0)
          refine qr_istore_n _ 52 rfl (by decide) rfl rfl ?_
          refine qr_iload_n 53 rfl rfl rfl ?_
          refine qr_bipush 55 rfl (by decide) rfl ?_
          refine qr_icmp_ne 66 58 rfl rfl rfl (by omega) (by omega) (fun h100 => ?_) (fun h => False.elim (by omega))
          refine qr_iload_n 67 rfl rfl rfl ?_
          refine qr_bipush 69 rfl (by decide) rfl ?_
          refine qr_icmp_ne 80 72 rfl rfl rfl (by omega) (by omega) (fun h101 => ?_) (fun h => False.elim (by omega))
          refine qr_iload_n 81 rfl rfl rfl ?_
          refine qr_iload_n 82 rfl rfl rfl ?_
          refine qr_icmp_le 89 85 rfl rfl rfl (by omega) (by omega) (fun h102 => ?_) (fun h102 => ?_)
          · skip
            refine qr_iconst 90 rfl rfl ?_
            refine qr_retI rfl rfl (by decide) (by decide) ?_
            have hw103 : σ93 86 36 = (σ93 86 36) := rfl
            have hw104 : σ93 86 37 = (σ 86 37) := (hG95.1 86 37 (by decide)).trans ((congrFun (congrFun e82 86) 37).trans ((hG8.1 86 37 (by decide)).trans rfl))
            have hw105 : σ93 86 39 = (σ93 86 39) := rfl
            exact ⟨_, rfl, hI94, hF96, 0, rfl, by omega, by omega⟩
          · skip
            refine qr_iconst 86 rfl rfl ?_
            refine qr_goto 90 rfl rfl ?_
            refine qr_retI rfl rfl (by decide) (by decide) ?_
            have hw106 : σ93 86 36 = (σ93 86 36) := rfl
            have hw107 : σ93 86 37 = (σ 86 37) := (hG95.1 86 37 (by decide)).trans ((congrFun (congrFun e82 86) 37).trans ((hG8.1 86 37 (by decide)).trans rfl))
            have hw108 : σ93 86 39 = (σ93 86 39) := rfl
            exact ⟨_, rfl, hI94, hF96, 1, rfl, by omega, by omega⟩
        · skip
          refine qr_iload_n 36 rfl rfl rfl ?_
          refine qr_retI rfl rfl (by decide) (by decide) ?_
          have hw109 : σ6 86 36 = (σ6 86 36) := rfl
          have hw110 : σ6 86 37 = (σ 86 37) := (hG8.1 86 37 (by decide)).trans rfl
          have hw111 : σ6 86 39 = (σ6 86 39) := rfl
          exact ⟨_, rfl, hI7, hF9, v1, rfl, by omega, by omega⟩

set_option maxHeartbeats 4000000 in
set_option maxRecDepth 20000 in
/-- OneRoofModel.both -/
theorem sf_214_86o6 {L : Nat} {xs : Nat → Int} {vb : Bool} {d : Nat} {σ α : Nat → Nat → Int} {κ : Nat → Option Nat} {ρ : Nat}  (hI : qI σ α κ ρ) (p0 : 6 ≤ σ 86 39) (p1 : σ 86 36 ≤ σ 86 37) : qm_T (qe L xs vb) (d + 6) 214 [.ref 86] (qw σ α κ ρ) (fun r w' => ∃ σ', w' = qw σ' α κ ρ ∧ qI σ' α κ ρ ∧ qFr [(86, 36), (86, 38), (86, 39)] [] σ α σ' α ∧ ∃ v : Int, r = some (.int (qz v)) ∧ ((-2147483648) ≤ v ∧ v ≤ 2147483647) ∧ σ 86 39 ≤ σ' 86 39 ∧ σ 86 36 ≤ σ' 86 36 ∧ σ' 86 36 ≤ σ' 86 37 ∧ σ' 86 37 = σ 86 37) := by
  refine qr_start (d := d + 5) qv_e214 (Nat.le_of_ble_eq_true rfl) ?_
  show qr_W (qe L xs vb) (d + 5) qx_e214 _ (0, [(0, .ref 86)], [], _, 0, 0)
  have hF0 := qFr_rf [(86, 36), (86, 38), (86, 39)] [] σ α
  have hz86_39 : 0 ≤ σ 86 39 ∧ σ 86 39 ≤ 6 := hI.1 86 39
  have hz86_36 : 0 ≤ σ 86 36 ∧ σ 86 36 ≤ 120 := hI.1 86 36
  have hz86_37 : 0 ≤ σ 86 37 ∧ σ 86 37 ≤ 120 := hI.1 86 37
  refine qr_aload_n 1 rfl rfl rfl ?_
  refine qr_callN 4 rfl rfl rfl (sf_215_86o6 (d := d + 0) hI (by omega) (by omega)) ?_
  have hs3 : 0 ≤ σ 86 36 ∧ σ 86 36 ≤ 120 := hI.1 86 36
  have hs4 : 0 ≤ σ 86 37 ∧ σ 86 37 ≤ 120 := hI.1 86 37
  have hs5 : 0 ≤ σ 86 39 ∧ σ 86 39 ≤ 6 := hI.1 86 39
  rintro _ _ ⟨σ6, rfl, hI7, hG8, v1, rfl, hv1, hp2⟩
  have hF9 : qFr [(86, 36), (86, 38), (86, 39)] [] σ α σ6 α := qFr_t hF0 hG8 (by decide) (by decide)
  have hs10 : 0 ≤ σ6 86 36 ∧ σ6 86 36 ≤ 120 := hI7.1 86 36
  have hs11 : 0 ≤ σ6 86 37 ∧ σ6 86 37 ≤ 120 := hI7.1 86 37
  have hs12 : 0 ≤ σ6 86 39 ∧ σ6 86 39 ≤ 6 := hI7.1 86 39
  show qr_W (qe L xs vb) (d + 5) qx_e214 _ (4, _, [.int (qz v1)], qw σ6 α κ ρ, 0, 0)
  refine qr_istore_n _ 5 rfl (by decide) rfl rfl ?_
  have hL139 : ∀ (n : Nat) (ls : qm_L) (u127 : Int) (σ128 : Nat → Nat → Int), ((120 - σ128 86 36).toNat : Int) < (n : Int) → qm_get ls 0 = some (.ref 86) → qm_get ls 1 = some (.int (qz u127)) → ((-2147483648) ≤ u127 ∧ u127 ≤ 2147483647) → qI σ128 α κ ρ → qFr [(86, 36), (86, 38), (86, 39)] [] σ α σ128 α → σ128 86 37 = (σ 86 37) → 6 ≤ σ128 86 39 → σ 86 39 ≤ σ128 86 39 → σ 86 36 ≤ σ128 86 36 → σ128 86 36 ≤ σ128 86 37 → σ128 86 37 = σ 86 37 → qr_W (qe L xs vb) (d + 5) qx_e214 (fun r w' => ∃ σ', w' = qw σ' α κ ρ ∧ qI σ' α κ ρ ∧ qFr [(86, 36), (86, 38), (86, 39)] [] σ α σ' α ∧ ∃ v : Int, r = some (.int (qz v)) ∧ ((-2147483648) ≤ v ∧ v ≤ 2147483647) ∧ σ 86 39 ≤ σ' 86 39 ∧ σ 86 36 ≤ σ' 86 36 ∧ σ' 86 36 ≤ σ' 86 37 ∧ σ' 86 37 = σ 86 37) (5, ls, [], qw σ128 α κ ρ, 0, 0) := by
    intro n
    induction n with
    | zero => intro ls u127 σ128 hm g125 g126 hf133 hI130 hF131 hk132 hx134 hx135 hx136 hx137 hx138; exact False.elim (by omega)
    | succ n ih140 =>
      intro ls u127 σ128 hm g125 g126 hf133 hI130 hF131 hk132 hx134 hx135 hx136 hx137 hx138
      have hs141 : 0 ≤ σ128 86 39 ∧ σ128 86 39 ≤ 6 := hI130.1 86 39
      have hs142 : 0 ≤ σ128 86 36 ∧ σ128 86 36 ≤ 120 := hI130.1 86 36
      have hs143 : 0 ≤ σ128 86 37 ∧ σ128 86 37 ≤ 120 := hI130.1 86 37
      refine qr_aload_n 6 rfl g125 rfl ?_
      refine qr_bipush 8 rfl (by decide) rfl ?_
      refine qr_callN 11 rfl rfl rfl (sf_221_86t (d := d + 3) hI130 (by omega) (by omega)) ?_
      have hs146 : 0 ≤ σ128 86 36 ∧ σ128 86 36 ≤ 120 := hI130.1 86 36
      have hs147 : 0 ≤ σ128 86 37 ∧ σ128 86 37 ≤ 120 := hI130.1 86 37
      rintro _ _ ⟨σ148, rfl, hI149, hG150, v144, rfl, hv144, hp145⟩
      have hF151 : qFr [(86, 36), (86, 38), (86, 39)] [] σ α σ148 α := qFr_t hF131 hG150 (by decide) (by decide)
      have hs152 : 0 ≤ σ148 86 36 ∧ σ148 86 36 ≤ 120 := hI149.1 86 36
      show qr_W (qe L xs vb) (d + 5) qx_e214 _ (11, _, [.int (qz v144)], qw σ148 α κ ρ, 0, 0)
      refine qr_if_eq 36 14 rfl rfl rfl (by omega) (fun h153 => ?_) (fun h153 => ?_)
      · skip
        refine qr_iload_n 37 rfl g126 rfl ?_
        refine qr_retI rfl rfl (by decide) (by decide) ?_
        have hw154 : σ148 86 36 = (σ148 86 36) := rfl
        have hw155 : σ148 86 37 = (σ128 86 37) := (hG150.1 86 37 (by decide)).trans rfl
        have hw156 : σ148 86 39 = (σ128 86 39) := (hG150.1 86 39 (by decide)).trans rfl
        exact ⟨_, rfl, hI149, hF151, u127, rfl, by omega, by omega⟩
      · skip
        refine qr_aload_n 15 rfl g125 rfl ?_
        refine qr_callN 18 rfl rfl rfl (sf_215_86o6 (d := d + 0) hI149 (by omega) (by omega)) ?_
        have hs159 : 0 ≤ σ148 86 36 ∧ σ148 86 36 ≤ 120 := hI149.1 86 36
        have hs160 : 0 ≤ σ148 86 37 ∧ σ148 86 37 ≤ 120 := hI149.1 86 37
        have hs161 : σ148 86 37 = (σ128 86 37) := (hG150.1 86 37 (by decide)).trans rfl
        have hs162 : 0 ≤ σ148 86 39 ∧ σ148 86 39 ≤ 6 := hI149.1 86 39
        have hs163 : σ148 86 39 = (σ128 86 39) := (hG150.1 86 39 (by decide)).trans rfl
        rintro _ _ ⟨σ164, rfl, hI165, hG166, v157, rfl, hv157, hp158⟩
        have hF167 : qFr [(86, 36), (86, 38), (86, 39)] [] σ α σ164 α := qFr_t hF151 hG166 (by decide) (by decide)
        have hs168 : 0 ≤ σ164 86 36 ∧ σ164 86 36 ≤ 120 := hI165.1 86 36
        have hs169 : 0 ≤ σ164 86 37 ∧ σ164 86 37 ≤ 120 := hI165.1 86 37
        have hs170 : 0 ≤ σ164 86 39 ∧ σ164 86 39 ≤ 6 := hI165.1 86 39
        show qr_W (qe L xs vb) (d + 5) qx_e214 _ (18, _, [.int (qz v157)], qw σ164 α κ ρ, 0, 0)
        refine qr_istore_n _ 19 rfl (by decide) rfl rfl ?_
        refine qr_iload_n 20 rfl (qm_gk g126 (by decide) (Or.inr rfl)) rfl ?_
        refine qr_if_eq 31 23 rfl rfl rfl (by omega) (fun h171 => ?_) (fun h171 => ?_)
        · skip
          refine qr_iconst 32 rfl rfl ?_
          refine qr_istore_n _ 33 rfl (by decide) rfl rfl ?_
          refine qr_goto 5 rfl rfl ?_
          exact ih140 _ 0 σ164 (by omega) (qm_gk (qm_gk g125 (by decide) (Or.inl (by decide))) (by decide) (Or.inr rfl)) (qm_ge _ _ _) (by omega) hI165 hF167 ((hG166.1 86 37 (by decide)).trans ((hG150.1 86 37 (by decide)).trans rfl)) (by have hw0 : σ164 86 39 = (σ164 86 39) := rfl; have hw1 : σ164 86 36 = (σ164 86 36) := rfl; have hw2 : σ164 86 37 = (σ128 86 37) := (hG166.1 86 37 (by decide)).trans ((hG150.1 86 37 (by decide)).trans rfl); omega) (by have hw0 : σ164 86 39 = (σ164 86 39) := rfl; have hw1 : σ164 86 36 = (σ164 86 36) := rfl; have hw2 : σ164 86 37 = (σ128 86 37) := (hG166.1 86 37 (by decide)).trans ((hG150.1 86 37 (by decide)).trans rfl); omega) (by have hw0 : σ164 86 39 = (σ164 86 39) := rfl; have hw1 : σ164 86 36 = (σ164 86 36) := rfl; have hw2 : σ164 86 37 = (σ128 86 37) := (hG166.1 86 37 (by decide)).trans ((hG150.1 86 37 (by decide)).trans rfl); omega) (by have hw0 : σ164 86 39 = (σ164 86 39) := rfl; have hw1 : σ164 86 36 = (σ164 86 36) := rfl; have hw2 : σ164 86 37 = (σ128 86 37) := (hG166.1 86 37 (by decide)).trans ((hG150.1 86 37 (by decide)).trans rfl); omega) (by have hw0 : σ164 86 39 = (σ164 86 39) := rfl; have hw1 : σ164 86 36 = (σ164 86 36) := rfl; have hw2 : σ164 86 37 = (σ128 86 37) := (hG166.1 86 37 (by decide)).trans ((hG150.1 86 37 (by decide)).trans rfl); omega)
        · skip
          refine qr_iload_n 24 rfl (qm_ge _ _ _) rfl ?_
          refine qr_if_eq 31 27 rfl rfl rfl (by omega) (fun h172 => ?_) (fun h172 => ?_)
          · skip
            refine qr_iconst 32 rfl rfl ?_
            refine qr_istore_n _ 33 rfl (by decide) rfl rfl ?_
            refine qr_goto 5 rfl rfl ?_
            exact ih140 _ 0 σ164 (by omega) (qm_gk (qm_gk g125 (by decide) (Or.inl (by decide))) (by decide) (Or.inr rfl)) (qm_ge _ _ _) (by omega) hI165 hF167 ((hG166.1 86 37 (by decide)).trans ((hG150.1 86 37 (by decide)).trans rfl)) (by have hw0 : σ164 86 39 = (σ164 86 39) := rfl; have hw1 : σ164 86 36 = (σ164 86 36) := rfl; have hw2 : σ164 86 37 = (σ128 86 37) := (hG166.1 86 37 (by decide)).trans ((hG150.1 86 37 (by decide)).trans rfl); omega) (by have hw0 : σ164 86 39 = (σ164 86 39) := rfl; have hw1 : σ164 86 36 = (σ164 86 36) := rfl; have hw2 : σ164 86 37 = (σ128 86 37) := (hG166.1 86 37 (by decide)).trans ((hG150.1 86 37 (by decide)).trans rfl); omega) (by have hw0 : σ164 86 39 = (σ164 86 39) := rfl; have hw1 : σ164 86 36 = (σ164 86 36) := rfl; have hw2 : σ164 86 37 = (σ128 86 37) := (hG166.1 86 37 (by decide)).trans ((hG150.1 86 37 (by decide)).trans rfl); omega) (by have hw0 : σ164 86 39 = (σ164 86 39) := rfl; have hw1 : σ164 86 36 = (σ164 86 36) := rfl; have hw2 : σ164 86 37 = (σ128 86 37) := (hG166.1 86 37 (by decide)).trans ((hG150.1 86 37 (by decide)).trans rfl); omega) (by have hw0 : σ164 86 39 = (σ164 86 39) := rfl; have hw1 : σ164 86 36 = (σ164 86 36) := rfl; have hw2 : σ164 86 37 = (σ128 86 37) := (hG166.1 86 37 (by decide)).trans ((hG150.1 86 37 (by decide)).trans rfl); omega)
          · skip
            refine qr_iconst 28 rfl rfl ?_
            refine qr_goto 32 rfl rfl ?_
            refine qr_istore_n _ 33 rfl (by decide) rfl rfl ?_
            refine qr_goto 5 rfl rfl ?_
            exact ih140 _ 1 σ164 (by omega) (qm_gk (qm_gk g125 (by decide) (Or.inl (by decide))) (by decide) (Or.inr rfl)) (qm_ge _ _ _) (by omega) hI165 hF167 ((hG166.1 86 37 (by decide)).trans ((hG150.1 86 37 (by decide)).trans rfl)) (by have hw0 : σ164 86 39 = (σ164 86 39) := rfl; have hw1 : σ164 86 36 = (σ164 86 36) := rfl; have hw2 : σ164 86 37 = (σ128 86 37) := (hG166.1 86 37 (by decide)).trans ((hG150.1 86 37 (by decide)).trans rfl); omega) (by have hw0 : σ164 86 39 = (σ164 86 39) := rfl; have hw1 : σ164 86 36 = (σ164 86 36) := rfl; have hw2 : σ164 86 37 = (σ128 86 37) := (hG166.1 86 37 (by decide)).trans ((hG150.1 86 37 (by decide)).trans rfl); omega) (by have hw0 : σ164 86 39 = (σ164 86 39) := rfl; have hw1 : σ164 86 36 = (σ164 86 36) := rfl; have hw2 : σ164 86 37 = (σ128 86 37) := (hG166.1 86 37 (by decide)).trans ((hG150.1 86 37 (by decide)).trans rfl); omega) (by have hw0 : σ164 86 39 = (σ164 86 39) := rfl; have hw1 : σ164 86 36 = (σ164 86 36) := rfl; have hw2 : σ164 86 37 = (σ128 86 37) := (hG166.1 86 37 (by decide)).trans ((hG150.1 86 37 (by decide)).trans rfl); omega) (by have hw0 : σ164 86 39 = (σ164 86 39) := rfl; have hw1 : σ164 86 36 = (σ164 86 36) := rfl; have hw2 : σ164 86 37 = (σ128 86 37) := (hG166.1 86 37 (by decide)).trans ((hG150.1 86 37 (by decide)).trans rfl); omega)
  exact hL139 ((((120 - σ6 86 36).toNat : Int) + 1 : Int)).toNat _ v1 σ6 (by omega) rfl rfl (by omega) hI7 hF9 ((hG8.1 86 37 (by decide)).trans rfl) (by have hw0 : σ6 86 39 = (σ6 86 39) := rfl; have hw1 : σ6 86 36 = (σ6 86 36) := rfl; have hw2 : σ6 86 37 = (σ 86 37) := (hG8.1 86 37 (by decide)).trans rfl; omega) (by have hw0 : σ6 86 39 = (σ6 86 39) := rfl; have hw1 : σ6 86 36 = (σ6 86 36) := rfl; have hw2 : σ6 86 37 = (σ 86 37) := (hG8.1 86 37 (by decide)).trans rfl; omega) (by have hw0 : σ6 86 39 = (σ6 86 39) := rfl; have hw1 : σ6 86 36 = (σ6 86 36) := rfl; have hw2 : σ6 86 37 = (σ 86 37) := (hG8.1 86 37 (by decide)).trans rfl; omega) (by have hw0 : σ6 86 39 = (σ6 86 39) := rfl; have hw1 : σ6 86 36 = (σ6 86 36) := rfl; have hw2 : σ6 86 37 = (σ 86 37) := (hG8.1 86 37 (by decide)).trans rfl; omega) (by have hw0 : σ6 86 39 = (σ6 86 39) := rfl; have hw1 : σ6 86 36 = (σ6 86 36) := rfl; have hw2 : σ6 86 37 = (σ 86 37) := (hG8.1 86 37 (by decide)).trans rfl; omega)

set_option maxHeartbeats 4000000 in
set_option maxRecDepth 20000 in
/-- OneRoofModel.either -/
theorem sf_213_86o6 {L : Nat} {xs : Nat → Int} {vb : Bool} {d : Nat} {σ α : Nat → Nat → Int} {κ : Nat → Option Nat} {ρ : Nat}  (hI : qI σ α κ ρ) (p0 : 6 ≤ σ 86 39) (p1 : σ 86 36 ≤ σ 86 37) : qm_T (qe L xs vb) (d + 7) 213 [.ref 86] (qw σ α κ ρ) (fun r w' => ∃ σ', w' = qw σ' α κ ρ ∧ qI σ' α κ ρ ∧ qFr [(86, 36), (86, 38), (86, 39)] [] σ α σ' α ∧ ∃ v : Int, r = some (.int (qz v)) ∧ ((-2147483648) ≤ v ∧ v ≤ 2147483647) ∧ σ 86 39 ≤ σ' 86 39 ∧ σ 86 36 ≤ σ' 86 36 ∧ σ' 86 36 ≤ σ' 86 37 ∧ σ' 86 37 = σ 86 37) := by
  refine qr_start (d := d + 6) qv_e213 (Nat.le_of_ble_eq_true rfl) ?_
  show qr_W (qe L xs vb) (d + 6) qx_e213 _ (0, [(0, .ref 86)], [], _, 0, 0)
  have hF0 := qFr_rf [(86, 36), (86, 38), (86, 39)] [] σ α
  have hz86_39 : 0 ≤ σ 86 39 ∧ σ 86 39 ≤ 6 := hI.1 86 39
  have hz86_36 : 0 ≤ σ 86 36 ∧ σ 86 36 ≤ 120 := hI.1 86 36
  have hz86_37 : 0 ≤ σ 86 37 ∧ σ 86 37 ≤ 120 := hI.1 86 37
  refine qr_aload_n 1 rfl rfl rfl ?_
  refine qr_callN 4 rfl rfl rfl (sf_214_86o6 (d := d + 0) hI (by omega) (by omega)) ?_
  have hs3 : 0 ≤ σ 86 36 ∧ σ 86 36 ≤ 120 := hI.1 86 36
  have hs4 : 0 ≤ σ 86 37 ∧ σ 86 37 ≤ 120 := hI.1 86 37
  have hs5 : 0 ≤ σ 86 39 ∧ σ 86 39 ≤ 6 := hI.1 86 39
  rintro _ _ ⟨σ6, rfl, hI7, hG8, v1, rfl, hv1, hp2⟩
  have hF9 : qFr [(86, 36), (86, 38), (86, 39)] [] σ α σ6 α := qFr_t hF0 hG8 (by decide) (by decide)
  have hs10 : 0 ≤ σ6 86 36 ∧ σ6 86 36 ≤ 120 := hI7.1 86 36
  have hs11 : 0 ≤ σ6 86 37 ∧ σ6 86 37 ≤ 120 := hI7.1 86 37
  have hs12 : 0 ≤ σ6 86 39 ∧ σ6 86 39 ≤ 6 := hI7.1 86 39
  show qr_W (qe L xs vb) (d + 6) qx_e213 _ (4, _, [.int (qz v1)], qw σ6 α κ ρ, 0, 0)
  refine qr_istore_n _ 5 rfl (by decide) rfl rfl ?_
  have hL139 : ∀ (n : Nat) (ls : qm_L) (u127 : Int) (σ128 : Nat → Nat → Int), ((120 - σ128 86 36).toNat : Int) < (n : Int) → qm_get ls 0 = some (.ref 86) → qm_get ls 1 = some (.int (qz u127)) → ((-2147483648) ≤ u127 ∧ u127 ≤ 2147483647) → qI σ128 α κ ρ → qFr [(86, 36), (86, 38), (86, 39)] [] σ α σ128 α → σ128 86 37 = (σ 86 37) → 6 ≤ σ128 86 39 → σ 86 39 ≤ σ128 86 39 → σ 86 36 ≤ σ128 86 36 → σ128 86 36 ≤ σ128 86 37 → σ128 86 37 = σ 86 37 → qr_W (qe L xs vb) (d + 6) qx_e213 (fun r w' => ∃ σ', w' = qw σ' α κ ρ ∧ qI σ' α κ ρ ∧ qFr [(86, 36), (86, 38), (86, 39)] [] σ α σ' α ∧ ∃ v : Int, r = some (.int (qz v)) ∧ ((-2147483648) ≤ v ∧ v ≤ 2147483647) ∧ σ 86 39 ≤ σ' 86 39 ∧ σ 86 36 ≤ σ' 86 36 ∧ σ' 86 36 ≤ σ' 86 37 ∧ σ' 86 37 = σ 86 37) (5, ls, [], qw σ128 α κ ρ, 0, 0) := by
    intro n
    induction n with
    | zero => intro ls u127 σ128 hm g125 g126 hf133 hI130 hF131 hk132 hx134 hx135 hx136 hx137 hx138; exact False.elim (by omega)
    | succ n ih140 =>
      intro ls u127 σ128 hm g125 g126 hf133 hI130 hF131 hk132 hx134 hx135 hx136 hx137 hx138
      have hs141 : 0 ≤ σ128 86 39 ∧ σ128 86 39 ≤ 6 := hI130.1 86 39
      have hs142 : 0 ≤ σ128 86 36 ∧ σ128 86 36 ≤ 120 := hI130.1 86 36
      have hs143 : 0 ≤ σ128 86 37 ∧ σ128 86 37 ≤ 120 := hI130.1 86 37
      refine qr_aload_n 6 rfl g125 rfl ?_
      refine qr_bipush 8 rfl (by decide) rfl ?_
      refine qr_callN 11 rfl rfl rfl (sf_221_86t (d := d + 4) hI130 (by omega) (by omega)) ?_
      have hs146 : 0 ≤ σ128 86 36 ∧ σ128 86 36 ≤ 120 := hI130.1 86 36
      have hs147 : 0 ≤ σ128 86 37 ∧ σ128 86 37 ≤ 120 := hI130.1 86 37
      rintro _ _ ⟨σ148, rfl, hI149, hG150, v144, rfl, hv144, hp145⟩
      have hF151 : qFr [(86, 36), (86, 38), (86, 39)] [] σ α σ148 α := qFr_t hF131 hG150 (by decide) (by decide)
      have hs152 : 0 ≤ σ148 86 36 ∧ σ148 86 36 ≤ 120 := hI149.1 86 36
      show qr_W (qe L xs vb) (d + 6) qx_e213 _ (11, _, [.int (qz v144)], qw σ148 α κ ρ, 0, 0)
      refine qr_if_eq 36 14 rfl rfl rfl (by omega) (fun h153 => ?_) (fun h153 => ?_)
      · skip
        refine qr_iload_n 37 rfl g126 rfl ?_
        refine qr_retI rfl rfl (by decide) (by decide) ?_
        have hw154 : σ148 86 36 = (σ148 86 36) := rfl
        have hw155 : σ148 86 37 = (σ128 86 37) := (hG150.1 86 37 (by decide)).trans rfl
        have hw156 : σ148 86 39 = (σ128 86 39) := (hG150.1 86 39 (by decide)).trans rfl
        exact ⟨_, rfl, hI149, hF151, u127, rfl, by omega, by omega⟩
      · skip
        refine qr_aload_n 15 rfl g125 rfl ?_
        refine qr_callN 18 rfl rfl rfl (sf_214_86o6 (d := d + 0) hI149 (by omega) (by omega)) ?_
        have hs159 : 0 ≤ σ148 86 36 ∧ σ148 86 36 ≤ 120 := hI149.1 86 36
        have hs160 : 0 ≤ σ148 86 37 ∧ σ148 86 37 ≤ 120 := hI149.1 86 37
        have hs161 : σ148 86 37 = (σ128 86 37) := (hG150.1 86 37 (by decide)).trans rfl
        have hs162 : 0 ≤ σ148 86 39 ∧ σ148 86 39 ≤ 6 := hI149.1 86 39
        have hs163 : σ148 86 39 = (σ128 86 39) := (hG150.1 86 39 (by decide)).trans rfl
        rintro _ _ ⟨σ164, rfl, hI165, hG166, v157, rfl, hv157, hp158⟩
        have hF167 : qFr [(86, 36), (86, 38), (86, 39)] [] σ α σ164 α := qFr_t hF151 hG166 (by decide) (by decide)
        have hs168 : 0 ≤ σ164 86 36 ∧ σ164 86 36 ≤ 120 := hI165.1 86 36
        have hs169 : 0 ≤ σ164 86 37 ∧ σ164 86 37 ≤ 120 := hI165.1 86 37
        have hs170 : 0 ≤ σ164 86 39 ∧ σ164 86 39 ≤ 6 := hI165.1 86 39
        show qr_W (qe L xs vb) (d + 6) qx_e213 _ (18, _, [.int (qz v157)], qw σ164 α κ ρ, 0, 0)
        refine qr_istore_n _ 19 rfl (by decide) rfl rfl ?_
        refine qr_iload_n 20 rfl (qm_gk g126 (by decide) (Or.inr rfl)) rfl ?_
        refine qr_if_ne 27 23 rfl rfl rfl (by omega) (fun h171 => ?_) (fun h171 => ?_)
        · skip
          refine qr_iconst 28 rfl rfl ?_
          refine qr_goto 32 rfl rfl ?_
          refine qr_istore_n _ 33 rfl (by decide) rfl rfl ?_
          refine qr_goto 5 rfl rfl ?_
          exact ih140 _ 1 σ164 (by omega) (qm_gk (qm_gk g125 (by decide) (Or.inl (by decide))) (by decide) (Or.inr rfl)) (qm_ge _ _ _) (by omega) hI165 hF167 ((hG166.1 86 37 (by decide)).trans ((hG150.1 86 37 (by decide)).trans rfl)) (by have hw0 : σ164 86 39 = (σ164 86 39) := rfl; have hw1 : σ164 86 36 = (σ164 86 36) := rfl; have hw2 : σ164 86 37 = (σ128 86 37) := (hG166.1 86 37 (by decide)).trans ((hG150.1 86 37 (by decide)).trans rfl); omega) (by have hw0 : σ164 86 39 = (σ164 86 39) := rfl; have hw1 : σ164 86 36 = (σ164 86 36) := rfl; have hw2 : σ164 86 37 = (σ128 86 37) := (hG166.1 86 37 (by decide)).trans ((hG150.1 86 37 (by decide)).trans rfl); omega) (by have hw0 : σ164 86 39 = (σ164 86 39) := rfl; have hw1 : σ164 86 36 = (σ164 86 36) := rfl; have hw2 : σ164 86 37 = (σ128 86 37) := (hG166.1 86 37 (by decide)).trans ((hG150.1 86 37 (by decide)).trans rfl); omega) (by have hw0 : σ164 86 39 = (σ164 86 39) := rfl; have hw1 : σ164 86 36 = (σ164 86 36) := rfl; have hw2 : σ164 86 37 = (σ128 86 37) := (hG166.1 86 37 (by decide)).trans ((hG150.1 86 37 (by decide)).trans rfl); omega) (by have hw0 : σ164 86 39 = (σ164 86 39) := rfl; have hw1 : σ164 86 36 = (σ164 86 36) := rfl; have hw2 : σ164 86 37 = (σ128 86 37) := (hG166.1 86 37 (by decide)).trans ((hG150.1 86 37 (by decide)).trans rfl); omega)
        · skip
          refine qr_iload_n 24 rfl (qm_ge _ _ _) rfl ?_
          refine qr_if_eq 31 27 rfl rfl rfl (by omega) (fun h172 => ?_) (fun h172 => ?_)
          · skip
            refine qr_iconst 32 rfl rfl ?_
            refine qr_istore_n _ 33 rfl (by decide) rfl rfl ?_
            refine qr_goto 5 rfl rfl ?_
            exact ih140 _ 0 σ164 (by omega) (qm_gk (qm_gk g125 (by decide) (Or.inl (by decide))) (by decide) (Or.inr rfl)) (qm_ge _ _ _) (by omega) hI165 hF167 ((hG166.1 86 37 (by decide)).trans ((hG150.1 86 37 (by decide)).trans rfl)) (by have hw0 : σ164 86 39 = (σ164 86 39) := rfl; have hw1 : σ164 86 36 = (σ164 86 36) := rfl; have hw2 : σ164 86 37 = (σ128 86 37) := (hG166.1 86 37 (by decide)).trans ((hG150.1 86 37 (by decide)).trans rfl); omega) (by have hw0 : σ164 86 39 = (σ164 86 39) := rfl; have hw1 : σ164 86 36 = (σ164 86 36) := rfl; have hw2 : σ164 86 37 = (σ128 86 37) := (hG166.1 86 37 (by decide)).trans ((hG150.1 86 37 (by decide)).trans rfl); omega) (by have hw0 : σ164 86 39 = (σ164 86 39) := rfl; have hw1 : σ164 86 36 = (σ164 86 36) := rfl; have hw2 : σ164 86 37 = (σ128 86 37) := (hG166.1 86 37 (by decide)).trans ((hG150.1 86 37 (by decide)).trans rfl); omega) (by have hw0 : σ164 86 39 = (σ164 86 39) := rfl; have hw1 : σ164 86 36 = (σ164 86 36) := rfl; have hw2 : σ164 86 37 = (σ128 86 37) := (hG166.1 86 37 (by decide)).trans ((hG150.1 86 37 (by decide)).trans rfl); omega) (by have hw0 : σ164 86 39 = (σ164 86 39) := rfl; have hw1 : σ164 86 36 = (σ164 86 36) := rfl; have hw2 : σ164 86 37 = (σ128 86 37) := (hG166.1 86 37 (by decide)).trans ((hG150.1 86 37 (by decide)).trans rfl); omega)
          · skip
            refine qr_iconst 28 rfl rfl ?_
            refine qr_goto 32 rfl rfl ?_
            refine qr_istore_n _ 33 rfl (by decide) rfl rfl ?_
            refine qr_goto 5 rfl rfl ?_
            exact ih140 _ 1 σ164 (by omega) (qm_gk (qm_gk g125 (by decide) (Or.inl (by decide))) (by decide) (Or.inr rfl)) (qm_ge _ _ _) (by omega) hI165 hF167 ((hG166.1 86 37 (by decide)).trans ((hG150.1 86 37 (by decide)).trans rfl)) (by have hw0 : σ164 86 39 = (σ164 86 39) := rfl; have hw1 : σ164 86 36 = (σ164 86 36) := rfl; have hw2 : σ164 86 37 = (σ128 86 37) := (hG166.1 86 37 (by decide)).trans ((hG150.1 86 37 (by decide)).trans rfl); omega) (by have hw0 : σ164 86 39 = (σ164 86 39) := rfl; have hw1 : σ164 86 36 = (σ164 86 36) := rfl; have hw2 : σ164 86 37 = (σ128 86 37) := (hG166.1 86 37 (by decide)).trans ((hG150.1 86 37 (by decide)).trans rfl); omega) (by have hw0 : σ164 86 39 = (σ164 86 39) := rfl; have hw1 : σ164 86 36 = (σ164 86 36) := rfl; have hw2 : σ164 86 37 = (σ128 86 37) := (hG166.1 86 37 (by decide)).trans ((hG150.1 86 37 (by decide)).trans rfl); omega) (by have hw0 : σ164 86 39 = (σ164 86 39) := rfl; have hw1 : σ164 86 36 = (σ164 86 36) := rfl; have hw2 : σ164 86 37 = (σ128 86 37) := (hG166.1 86 37 (by decide)).trans ((hG150.1 86 37 (by decide)).trans rfl); omega) (by have hw0 : σ164 86 39 = (σ164 86 39) := rfl; have hw1 : σ164 86 36 = (σ164 86 36) := rfl; have hw2 : σ164 86 37 = (σ128 86 37) := (hG166.1 86 37 (by decide)).trans ((hG150.1 86 37 (by decide)).trans rfl); omega)
  exact hL139 ((((120 - σ6 86 36).toNat : Int) + 1 : Int)).toNat _ v1 σ6 (by omega) rfl rfl (by omega) hI7 hF9 ((hG8.1 86 37 (by decide)).trans rfl) (by have hw0 : σ6 86 39 = (σ6 86 39) := rfl; have hw1 : σ6 86 36 = (σ6 86 36) := rfl; have hw2 : σ6 86 37 = (σ 86 37) := (hG8.1 86 37 (by decide)).trans rfl; omega) (by have hw0 : σ6 86 39 = (σ6 86 39) := rfl; have hw1 : σ6 86 36 = (σ6 86 36) := rfl; have hw2 : σ6 86 37 = (σ 86 37) := (hG8.1 86 37 (by decide)).trans rfl; omega) (by have hw0 : σ6 86 39 = (σ6 86 39) := rfl; have hw1 : σ6 86 36 = (σ6 86 36) := rfl; have hw2 : σ6 86 37 = (σ 86 37) := (hG8.1 86 37 (by decide)).trans rfl; omega) (by have hw0 : σ6 86 39 = (σ6 86 39) := rfl; have hw1 : σ6 86 36 = (σ6 86 36) := rfl; have hw2 : σ6 86 37 = (σ 86 37) := (hG8.1 86 37 (by decide)).trans rfl; omega) (by have hw0 : σ6 86 39 = (σ6 86 39) := rfl; have hw1 : σ6 86 36 = (σ6 86 36) := rfl; have hw2 : σ6 86 37 = (σ 86 37) := (hG8.1 86 37 (by decide)).trans rfl; omega)

set_option maxHeartbeats 4000000 in
set_option maxRecDepth 20000 in
/-- OneRoofModel.one -/
theorem sf_218_86o5 {L : Nat} {xs : Nat → Int} {vb : Bool} {d : Nat} {σ α : Nat → Nat → Int} {κ : Nat → Option Nat} {ρ : Nat}  (hI : qI σ α κ ρ) (p0 : 5 ≤ σ 86 39) (p1 : σ 86 36 ≤ σ 86 37) : qm_T (qe L xs vb) (d + 8) 218 [.ref 86] (qw σ α κ ρ) (fun r w' => ∃ σ', w' = qw σ' α κ ρ ∧ qI σ' α κ ρ ∧ qFr [(86, 36), (86, 38), (86, 39)] [] σ α σ' α ∧ ∃ v : Int, r = some (.int (qz v)) ∧ ((-2147483648) ≤ v ∧ v ≤ 2147483647) ∧ σ 86 39 ≤ σ' 86 39 ∧ σ 86 36 ≤ σ' 86 36 ∧ σ' 86 36 ≤ σ' 86 37 ∧ σ' 86 37 = σ 86 37) := by
  refine qr_start (d := d + 7) qv_e218 (Nat.le_of_ble_eq_true rfl) ?_
  show qr_W (qe L xs vb) (d + 7) qx_e218 _ (0, [(0, .ref 86)], [], _, 0, 0)
  have hF0 := qFr_rf [(86, 36), (86, 38), (86, 39)] [] σ α
  have hz86_39 : 0 ≤ σ 86 39 ∧ σ 86 39 ≤ 6 := hI.1 86 39
  have hz86_36 : 0 ≤ σ 86 36 ∧ σ 86 36 ≤ 120 := hI.1 86 36
  have hz86_37 : 0 ≤ σ 86 37 ∧ σ 86 37 ≤ 120 := hI.1 86 37
  refine qr_aload_n 1 rfl rfl rfl ?_
  refine qr_get 4 rfl rfl rfl (by decide) rfl ?_
  have hs1 : (-1) ≤ σ 86 38 ∧ σ 86 38 ≤ 120 := hI.1 86 38
  refine qr_if_lt 9 7 rfl rfl rfl (by omega) (fun h2 => ?_) (fun h2 => ?_)
  · skip
    refine qr_aload_n 10 rfl rfl rfl ?_
    refine qr_callN 13 rfl rfl rfl (sf_219_86t (d := d + 6) hI ) ?_
    have hs5 : 0 ≤ σ 86 36 ∧ σ 86 36 ≤ 120 := hI.1 86 36
    have hs6 : 0 ≤ σ 86 37 ∧ σ 86 37 ≤ 120 := hI.1 86 37
    rintro _ _ ⟨rfl, v3, rfl, hv3, hp4⟩
    show qr_W (qe L xs vb) (d + 7) qx_e218 _ (13, _, [.int (qz v3)], qw σ α κ ρ, 0, 0)
    refine qr_istore_n _ 14 rfl (by decide) rfl rfl ?_
    refine qr_iload_n 15 rfl rfl rfl ?_
    refine qr_bipush 17 rfl (by decide) rfl ?_
    refine qr_icmp_eq 32 20 rfl rfl rfl (by omega) (by omega) (fun h7 => ?_) (fun h7 => ?_)
    · skip
      refine qr_aload_n 33 rfl rfl rfl ?_
      refine qr_get 36 rfl rfl rfl (by decide) rfl ?_
      refine qr_bipush 38 rfl (by decide) rfl ?_
      refine qr_icmp_ne 46 41 rfl rfl rfl (by omega) (by omega) (fun h8 => ?_) (fun h8 => ?_)
      · skip
        refine qr_aload_n 47 rfl rfl rfl ?_
        refine qr_dup 48 rfl rfl rfl ?_
        refine qr_get 51 rfl rfl rfl (by decide) rfl ?_
        refine qr_iconst 52 rfl rfl ?_
        refine qr_iadd 53 rfl rfl ?_
        refine qr_put 56 rfl (by decide) rfl (Nat.le_of_ble_eq_true rfl) (Nat.le_of_ble_eq_true rfl) (Or.inl rfl) (qr_fitI rfl _) rfl ?_
        refine qy_wS (qw_s σ 86 39 ((σ 86 39) + 1)) rfl (fun σ9 e10 => ?_)
        have hI11 : qI σ9 α κ ρ := by rw [e10]; exact qI_s hI 86 39 rfl (show 0 ≤ ((σ 86 39) + 1) ∧ ((σ 86 39) + 1) ≤ 6 by omega)
        have hF12 : qFr [(86, 36), (86, 38), (86, 39)] [] σ α σ9 α := by rw [e10]; exact qFr_s hF0 86 39 _ (by decide)
        refine qr_aload_n 57 rfl rfl rfl ?_
        refine qr_dup 58 rfl rfl rfl ?_
        refine qr_get 61 rfl rfl rfl (by decide) rfl ?_
        refine qy_v (σ 86 36) ((congrFun (congrFun e10 86) 36).trans rfl) ?_
        refine qr_iconst 62 rfl rfl ?_
        refine qr_iadd 63 rfl rfl ?_
        refine qr_put 66 rfl (by decide) rfl (Nat.le_of_ble_eq_true rfl) (Nat.le_of_ble_eq_true rfl) (Or.inl rfl) (qr_fitI rfl _) rfl ?_
        refine qy_wS (qw_s σ9 86 36 ((σ 86 36) + 1)) rfl (fun σ13 e14 => ?_)
        have hI15 : qI σ13 α κ ρ := by rw [e14]; exact qI_s hI11 86 36 rfl (show 0 ≤ ((σ 86 36) + 1) ∧ ((σ 86 36) + 1) ≤ 120 by omega)
        have hF16 : qFr [(86, 36), (86, 38), (86, 39)] [] σ α σ13 α := by rw [e14]; exact qFr_s hF12 86 36 _ (by decide)
        refine qr_iload_n 67 rfl rfl rfl ?_
        refine qr_bipush 69 rfl (by decide) rfl ?_
        refine qr_icmp_ne 79 72 rfl rfl rfl (by omega) (by omega) (fun h17 => ?_) (fun h => False.elim (by omega))
        refine qr_aload_n 80 rfl rfl rfl ?_
        refine qr_callN 83 rfl rfl rfl (sf_218_86o6 (d := d + 5) hI15 (by omega) (by omega)) ?_
        have hs20 : 0 ≤ σ13 86 36 ∧ σ13 86 36 ≤ 120 := hI15.1 86 36
        have hs21 : σ13 86 36 = ((σ 86 36) + 1) := (congrFun (congrFun e14 86) 36).trans rfl
        have hs22 : 0 ≤ σ13 86 37 ∧ σ13 86 37 ≤ 120 := hI15.1 86 37
        have hs23 : σ13 86 37 = (σ 86 37) := (congrFun (congrFun e14 86) 37).trans ((congrFun (congrFun e10 86) 37).trans rfl)
        have hs24 : 0 ≤ σ13 86 39 ∧ σ13 86 39 ≤ 6 := hI15.1 86 39
        have hs25 : σ13 86 39 = ((σ 86 39) + 1) := (congrFun (congrFun e14 86) 39).trans ((congrFun (congrFun e10 86) 39).trans rfl)
        rintro _ _ ⟨σ26, rfl, hI27, hG28, v18, rfl, hv18, hp19⟩
        have hF29 : qFr [(86, 36), (86, 38), (86, 39)] [] σ α σ26 α := qFr_t hF16 hG28 (by decide) (by decide)
        have hs30 : 0 ≤ σ26 86 36 ∧ σ26 86 36 ≤ 120 := hI27.1 86 36
        have hs31 : 0 ≤ σ26 86 37 ∧ σ26 86 37 ≤ 120 := hI27.1 86 37
        have hs32 : 0 ≤ σ26 86 39 ∧ σ26 86 39 ≤ 6 := hI27.1 86 39
        show qr_W (qe L xs vb) (d + 7) qx_e218 _ (83, _, [.int (qz v18)], qw σ26 α κ ρ, 0, 0)
        refine qr_istore_n _ 84 rfl (by decide) rfl rfl ?_
        refine qr_iload_n 85 rfl rfl rfl ?_
        refine qr_bipush 87 rfl (by decide) rfl ?_
        refine qr_icmp_ne 104 90 rfl rfl rfl (by omega) (by omega) (fun h33 => ?_) (fun h => False.elim (by omega))
        refine qr_aload_n 105 rfl rfl rfl ?_
        refine qr_dup 106 rfl rfl rfl ?_
        refine qr_get 109 rfl rfl rfl (by decide) rfl ?_
        refine qr_iconst 110 rfl rfl ?_
        refine qr_isub 111 rfl rfl ?_
        refine qr_put 114 rfl (by decide) rfl (Nat.le_of_ble_eq_true rfl) (Nat.le_of_ble_eq_true rfl) (Or.inl rfl) (qr_fitI rfl _) rfl ?_
        refine qy_wS (qw_s σ26 86 39 ((σ26 86 39) - 1)) rfl (fun σ34 e35 => ?_)
        have hI36 : qI σ34 α κ ρ := by rw [e35]; exact qI_s hI27 86 39 rfl (show 0 ≤ ((σ26 86 39) - 1) ∧ ((σ26 86 39) - 1) ≤ 6 by omega)
        have hF37 : qFr [(86, 36), (86, 38), (86, 39)] [] σ α σ34 α := by rw [e35]; exact qFr_s hF29 86 39 _ (by decide)
        refine qr_iload_n 115 rfl rfl rfl ?_
        refine qr_bipush 117 rfl (by decide) rfl ?_
        refine qr_icmp_ne 124 120 rfl rfl rfl (by omega) (by omega) (fun h38 => ?_) (fun h => False.elim (by omega))
        refine qr_iload_n 125 rfl rfl rfl ?_
        refine qr_bipush 127 rfl (by decide) rfl ?_
        refine qr_icmp_ne 135 130 rfl rfl rfl (by omega) (by omega) (fun h39 => ?_) (fun h => False.elim (by omega))
        refine qr_iload_n 136 rfl rfl rfl ?_
        refine qr_if_ne 143 139 rfl rfl rfl (by omega) (fun h40 => ?_) (fun h40 => ?_)
        · skip
          refine qr_iconst 144 rfl rfl ?_
          refine qr_retI rfl rfl (by decide) (by decide) ?_
          have hw41 : σ34 86 36 = (σ26 86 36) := (congrFun (congrFun e35 86) 36).trans rfl
          have hw42 : σ34 86 37 = (σ 86 37) := (congrFun (congrFun e35 86) 37).trans ((hG28.1 86 37 (by decide)).trans ((congrFun (congrFun e14 86) 37).trans ((congrFun (congrFun e10 86) 37).trans rfl)))
          have hw43 : σ34 86 39 = ((σ26 86 39) - 1) := (congrFun (congrFun e35 86) 39).trans rfl
          exact ⟨_, rfl, hI36, hF37, 0, rfl, by omega, by omega⟩
        · skip
          refine qr_iconst 140 rfl rfl ?_
          refine qr_goto 144 rfl rfl ?_
          as_aux_lemma =>
            refine qr_retI rfl rfl (by decide) (by decide) ?_
            have hw44 : σ34 86 36 = (σ26 86 36) := (congrFun (congrFun e35 86) 36).trans rfl
            have hw45 : σ34 86 37 = (σ 86 37) := (congrFun (congrFun e35 86) 37).trans ((hG28.1 86 37 (by decide)).trans ((congrFun (congrFun e14 86) 37).trans ((congrFun (congrFun e10 86) 37).trans rfl)))
            have hw46 : σ34 86 39 = ((σ26 86 39) - 1) := (congrFun (congrFun e35 86) 39).trans rfl
            exact ⟨_, rfl, hI36, hF37, 1, rfl, by omega, by omega⟩
      · skip
        refine qr_aload_n 42 rfl rfl rfl ?_
        refine qr_callN 45 rfl rfl rfl (sf_220_86 (d := d + 6) hI ) ?_
        rintro _ _ ⟨σ48, rfl, hI49, hG50, v47, rfl, hv47⟩
        have hF51 : qFr [(86, 36), (86, 38), (86, 39)] [] σ α σ48 α := qFr_t hF0 hG50 (by decide) (by decide)
        show qr_W (qe L xs vb) (d + 7) qx_e218 _ (45, _, [.int (qz v47)], qw σ48 α κ ρ, 0, 0)
        refine qr_retI rfl rfl (by decide) (by decide) ?_
        have hw52 : σ48 86 36 = (σ 86 36) := (hG50.1 86 36 (by decide)).trans rfl
        have hw53 : σ48 86 37 = (σ 86 37) := (hG50.1 86 37 (by decide)).trans rfl
        have hw54 : σ48 86 39 = (σ 86 39) := (hG50.1 86 39 (by decide)).trans rfl
        exact ⟨_, rfl, hI49, hF51, v47, rfl, by omega, by omega⟩
    · skip
      refine qr_iload_n 21 rfl rfl rfl ?_
      refine qr_bipush 23 rfl (by decide) rfl ?_
      refine qr_icmp_eq 32 26 rfl rfl rfl (by omega) (by omega) (fun h55 => ?_) (fun h55 => ?_)
      · skip
        refine qr_aload_n 33 rfl rfl rfl ?_
        refine qr_get 36 rfl rfl rfl (by decide) rfl ?_
        refine qr_bipush 38 rfl (by decide) rfl ?_
        refine qr_icmp_ne 46 41 rfl rfl rfl (by omega) (by omega) (fun h56 => ?_) (fun h56 => ?_)
        · skip
          refine qr_aload_n 47 rfl rfl rfl ?_
          refine qr_dup 48 rfl rfl rfl ?_
          refine qr_get 51 rfl rfl rfl (by decide) rfl ?_
          refine qr_iconst 52 rfl rfl ?_
          refine qr_iadd 53 rfl rfl ?_
          refine qr_put 56 rfl (by decide) rfl (Nat.le_of_ble_eq_true rfl) (Nat.le_of_ble_eq_true rfl) (Or.inl rfl) (qr_fitI rfl _) rfl ?_
          refine qy_wS (qw_s σ 86 39 ((σ 86 39) + 1)) rfl (fun σ57 e58 => ?_)
          have hI59 : qI σ57 α κ ρ := by rw [e58]; exact qI_s hI 86 39 rfl (show 0 ≤ ((σ 86 39) + 1) ∧ ((σ 86 39) + 1) ≤ 6 by omega)
          have hF60 : qFr [(86, 36), (86, 38), (86, 39)] [] σ α σ57 α := by rw [e58]; exact qFr_s hF0 86 39 _ (by decide)
          refine qr_aload_n 57 rfl rfl rfl ?_
          refine qr_dup 58 rfl rfl rfl ?_
          refine qr_get 61 rfl rfl rfl (by decide) rfl ?_
          refine qy_v (σ 86 36) ((congrFun (congrFun e58 86) 36).trans rfl) ?_
          refine qr_iconst 62 rfl rfl ?_
          refine qr_iadd 63 rfl rfl ?_
          refine qr_put 66 rfl (by decide) rfl (Nat.le_of_ble_eq_true rfl) (Nat.le_of_ble_eq_true rfl) (Or.inl rfl) (qr_fitI rfl _) rfl ?_
          refine qy_wS (qw_s σ57 86 36 ((σ 86 36) + 1)) rfl (fun σ61 e62 => ?_)
          have hI63 : qI σ61 α κ ρ := by rw [e62]; exact qI_s hI59 86 36 rfl (show 0 ≤ ((σ 86 36) + 1) ∧ ((σ 86 36) + 1) ≤ 120 by omega)
          have hF64 : qFr [(86, 36), (86, 38), (86, 39)] [] σ α σ61 α := by rw [e62]; exact qFr_s hF60 86 36 _ (by decide)
          refine qr_iload_n 67 rfl rfl rfl ?_
          refine qr_bipush 69 rfl (by decide) rfl ?_
          refine qr_icmp_ne 79 72 rfl rfl rfl (by omega) (by omega) (fun h65 => ?_) (fun h => False.elim (by omega))
          refine qr_aload_n 80 rfl rfl rfl ?_
          refine qr_callN 83 rfl rfl rfl (sf_218_86o6 (d := d + 5) hI63 (by omega) (by omega)) ?_
          have hs68 : 0 ≤ σ61 86 36 ∧ σ61 86 36 ≤ 120 := hI63.1 86 36
          have hs69 : σ61 86 36 = ((σ 86 36) + 1) := (congrFun (congrFun e62 86) 36).trans rfl
          have hs70 : 0 ≤ σ61 86 37 ∧ σ61 86 37 ≤ 120 := hI63.1 86 37
          have hs71 : σ61 86 37 = (σ 86 37) := (congrFun (congrFun e62 86) 37).trans ((congrFun (congrFun e58 86) 37).trans rfl)
          have hs72 : 0 ≤ σ61 86 39 ∧ σ61 86 39 ≤ 6 := hI63.1 86 39
          have hs73 : σ61 86 39 = ((σ 86 39) + 1) := (congrFun (congrFun e62 86) 39).trans ((congrFun (congrFun e58 86) 39).trans rfl)
          rintro _ _ ⟨σ74, rfl, hI75, hG76, v66, rfl, hv66, hp67⟩
          have hF77 : qFr [(86, 36), (86, 38), (86, 39)] [] σ α σ74 α := qFr_t hF64 hG76 (by decide) (by decide)
          have hs78 : 0 ≤ σ74 86 36 ∧ σ74 86 36 ≤ 120 := hI75.1 86 36
          have hs79 : 0 ≤ σ74 86 37 ∧ σ74 86 37 ≤ 120 := hI75.1 86 37
          have hs80 : 0 ≤ σ74 86 39 ∧ σ74 86 39 ≤ 6 := hI75.1 86 39
          show qr_W (qe L xs vb) (d + 7) qx_e218 _ (83, _, [.int (qz v66)], qw σ74 α κ ρ, 0, 0)
          refine qr_istore_n _ 84 rfl (by decide) rfl rfl ?_
          refine qr_iload_n 85 rfl rfl rfl ?_
          refine qr_bipush 87 rfl (by decide) rfl ?_
          refine qr_icmp_ne 104 90 rfl rfl rfl (by omega) (by omega) (fun h81 => ?_) (fun h => False.elim (by omega))
          refine qr_aload_n 105 rfl rfl rfl ?_
          refine qr_dup 106 rfl rfl rfl ?_
          refine qr_get 109 rfl rfl rfl (by decide) rfl ?_
          refine qr_iconst 110 rfl rfl ?_
          refine qr_isub 111 rfl rfl ?_
          refine qr_put 114 rfl (by decide) rfl (Nat.le_of_ble_eq_true rfl) (Nat.le_of_ble_eq_true rfl) (Or.inl rfl) (qr_fitI rfl _) rfl ?_
          refine qy_wS (qw_s σ74 86 39 ((σ74 86 39) - 1)) rfl (fun σ82 e83 => ?_)
          have hI84 : qI σ82 α κ ρ := by rw [e83]; exact qI_s hI75 86 39 rfl (show 0 ≤ ((σ74 86 39) - 1) ∧ ((σ74 86 39) - 1) ≤ 6 by omega)
          have hF85 : qFr [(86, 36), (86, 38), (86, 39)] [] σ α σ82 α := by rw [e83]; exact qFr_s hF77 86 39 _ (by decide)
          refine qr_iload_n 115 rfl rfl rfl ?_
          refine qr_bipush 117 rfl (by decide) rfl ?_
          refine qr_icmp_ne 124 120 rfl rfl rfl (by omega) (by omega) (fun h86 => ?_) (fun h => False.elim (by omega))
          refine qr_iload_n 125 rfl rfl rfl ?_
          refine qr_bipush 127 rfl (by decide) rfl ?_
          refine qr_icmp_ne 135 130 rfl rfl rfl (by omega) (by omega) (fun h => False.elim (by omega)) (fun h87 => ?_)
          refine qr_iload_n 131 rfl rfl rfl ?_
          as_aux_lemma =>
            refine qr_ineg 132 rfl rfl ?_
            refine qy_can (fun v88 hv88 => ?_)
            refine qr_goto 144 rfl rfl ?_
            refine qr_retI rfl rfl (by decide) (by decide) ?_
            have hw89 : σ82 86 36 = (σ74 86 36) := (congrFun (congrFun e83 86) 36).trans rfl
            have hw90 : σ82 86 37 = (σ 86 37) := (congrFun (congrFun e83 86) 37).trans ((hG76.1 86 37 (by decide)).trans ((congrFun (congrFun e62 86) 37).trans ((congrFun (congrFun e58 86) 37).trans rfl)))
            have hw91 : σ82 86 39 = ((σ74 86 39) - 1) := (congrFun (congrFun e83 86) 39).trans rfl
            exact ⟨_, rfl, hI84, hF85, v88, rfl, by omega, by omega⟩
        · skip
          refine qr_aload_n 42 rfl rfl rfl ?_
          refine qr_callN 45 rfl rfl rfl (sf_220_86 (d := d + 6) hI ) ?_
          rintro _ _ ⟨σ93, rfl, hI94, hG95, v92, rfl, hv92⟩
          have hF96 : qFr [(86, 36), (86, 38), (86, 39)] [] σ α σ93 α := qFr_t hF0 hG95 (by decide) (by decide)
          show qr_W (qe L xs vb) (d + 7) qx_e218 _ (45, _, [.int (qz v92)], qw σ93 α κ ρ, 0, 0)
          refine qr_retI rfl rfl (by decide) (by decide) ?_
          have hw97 : σ93 86 36 = (σ 86 36) := (hG95.1 86 36 (by decide)).trans rfl
          have hw98 : σ93 86 37 = (σ 86 37) := (hG95.1 86 37 (by decide)).trans rfl
          have hw99 : σ93 86 39 = (σ 86 39) := (hG95.1 86 39 (by decide)).trans rfl
          exact ⟨_, rfl, hI94, hF96, v92, rfl, by omega, by omega⟩
      · skip
        refine qr_iload_n 27 rfl rfl rfl ?_
        refine qr_bipush 29 rfl (by decide) rfl ?_
        refine qr_icmp_ne 145 32 rfl rfl rfl (by omega) (by omega) (fun h100 => ?_) (fun h100 => ?_)
        · skip
          refine qr_iload_n 146 rfl rfl rfl ?_
          refine qr_callN 149 rfl rfl rfl (sf_222 (d := d + 6) hI (by omega)) ?_
          rintro _ _ ⟨rfl, v101, rfl, hv101⟩
          show qr_W (qe L xs vb) (d + 7) qx_e218 _ (149, _, [.int (qz v101)], qw σ α κ ρ, 0, 0)
          refine qr_istore_n _ 150 rfl (by decide) rfl rfl ?_
          refine qr_iload_n 151 rfl rfl rfl ?_
          refine qr_if_lt 171 154 rfl rfl rfl (by omega) (fun h102 => ?_) (fun h102 => ?_)
          · skip
            refine qr_iconst 172 rfl rfl ?_
            refine qr_istore_n _ 173 rfl (by decide) rfl rfl ?_
            refine qr_iconst 174 rfl rfl ?_
            refine qr_istore _ 176 rfl (by decide) rfl rfl ?_
            have hL372 : ∀ (n : Nat) (ls : qm_L) (u355 u357 : Int) (σ358 : Nat → Nat → Int), 4 - u357 < (n : Int) → qm_get ls 0 = some (.ref 86) → qm_get ls 3 = some (.int (qz u355)) → qm_get ls 4 = some (.int (qz u357)) → ((-2147483648) ≤ u355 ∧ u355 ≤ 2147483647) → (0 ≤ u357 ∧ u357 ≤ 4) → qI σ358 α κ ρ → qFr [(86, 36), (86, 38), (86, 39)] [] σ α σ358 α → σ358 86 37 = (σ 86 37) → σ358 86 38 = (σ 86 38) → σ358 86 39 = (σ 86 39) → 5 ≤ σ358 86 39 → σ 86 39 ≤ σ358 86 39 → σ 86 36 ≤ σ358 86 36 → σ358 86 36 ≤ σ358 86 37 → σ358 86 37 = σ 86 37 → qr_W (qe L xs vb) (d + 7) qx_e218 (fun r w' => ∃ σ', w' = qw σ' α κ ρ ∧ qI σ' α κ ρ ∧ qFr [(86, 36), (86, 38), (86, 39)] [] σ α σ' α ∧ ∃ v : Int, r = some (.int (qz v)) ∧ ((-2147483648) ≤ v ∧ v ≤ 2147483647) ∧ σ 86 39 ≤ σ' 86 39 ∧ σ 86 36 ≤ σ' 86 36 ∧ σ' 86 36 ≤ σ' 86 37 ∧ σ' 86 37 = σ 86 37) (176, ls, [], qw σ358 α κ ρ, 0, 0) := by
              intro n
              induction n with
              | zero => intro ls u355 u357 σ358 hm g353 g354 g356 hf365 hf366 hI360 hF361 hk362 hk363 hk364 hx367 hx368 hx369 hx370 hx371; exact False.elim (by omega)
              | succ n ih373 =>
                intro ls u355 u357 σ358 hm g353 g354 g356 hf365 hf366 hI360 hF361 hk362 hk363 hk364 hx367 hx368 hx369 hx370 hx371
                have hs374 : 0 ≤ σ358 86 39 ∧ σ358 86 39 ≤ 6 := hI360.1 86 39
                have hs375 : 0 ≤ σ358 86 36 ∧ σ358 86 36 ≤ 120 := hI360.1 86 36
                have hs376 : 0 ≤ σ358 86 37 ∧ σ358 86 37 ≤ 120 := hI360.1 86 37
                refine qr_iload 178 rfl g356 rfl ?_
                refine qr_iconst 179 rfl rfl ?_
                refine qr_icmp_ge 229 182 rfl rfl rfl (by omega) (by omega) (fun h377 => ?_) (fun h377 => ?_)
                · skip
                  refine qr_iload 231 rfl g356 rfl ?_
                  refine qr_if_ne 241 234 rfl rfl rfl (by omega) (fun h378 => ?_) (fun h => False.elim (by omega))
                  refine qr_iload_n 242 rfl g354 rfl ?_
                  refine qr_retI rfl rfl (by decide) (by decide) ?_
                  have hw379 : σ358 86 36 = (σ358 86 36) := rfl
                  have hw380 : σ358 86 37 = (σ358 86 37) := rfl
                  have hw381 : σ358 86 39 = (σ358 86 39) := rfl
                  exact ⟨_, rfl, hI360, hF361, u355, rfl, by omega, by omega⟩
                · skip
                  refine qr_aload_n 183 rfl g353 rfl ?_
                  refine qr_callN 186 rfl rfl rfl (sf_219_86t (d := d + 6) hI360 ) ?_
                  have hs384 : 0 ≤ σ358 86 36 ∧ σ358 86 36 ≤ 120 := hI360.1 86 36
                  have hs385 : 0 ≤ σ358 86 37 ∧ σ358 86 37 ≤ 120 := hI360.1 86 37
                  rintro _ _ ⟨rfl, v382, rfl, hv382, hp383⟩
                  show qr_W (qe L xs vb) (d + 7) qx_e218 _ (186, _, [.int (qz v382)], qw σ358 α κ ρ, 0, 0)
                  refine qr_bipush 188 rfl (by decide) rfl ?_
                  refine qr_icmp_lt 229 191 rfl rfl rfl (by omega) (by omega) (fun h386 => ?_) (fun h386 => ?_)
                  · skip
                    refine qr_iload 231 rfl g356 rfl ?_
                    refine qr_if_ne 241 234 rfl rfl rfl (by omega) (fun h387 => ?_) (fun h387 => ?_)
                    · skip
                      refine qr_iload_n 242 rfl g354 rfl ?_
                      refine qr_retI rfl rfl (by decide) (by decide) ?_
                      have hw388 : σ358 86 36 = (σ358 86 36) := rfl
                      have hw389 : σ358 86 37 = (σ358 86 37) := rfl
                      have hw390 : σ358 86 39 = (σ358 86 39) := rfl
                      exact ⟨_, rfl, hI360, hF361, u355, rfl, by omega, by omega⟩
                    · skip
                      refine qr_aload_n 235 rfl g353 rfl ?_
                      refine qr_callN 238 rfl rfl rfl (sf_220_86 (d := d + 6) hI360 ) ?_
                      rintro _ _ ⟨σ392, rfl, hI393, hG394, v391, rfl, hv391⟩
                      have hF395 : qFr [(86, 36), (86, 38), (86, 39)] [] σ α σ392 α := qFr_t hF361 hG394 (by decide) (by decide)
                      show qr_W (qe L xs vb) (d + 7) qx_e218 _ (238, _, [.int (qz v391)], qw σ392 α κ ρ, 0, 0)
                      refine qr_goto 242 rfl rfl ?_
                      refine qr_retI rfl rfl (by decide) (by decide) ?_
                      have hw396 : σ392 86 36 = (σ358 86 36) := (hG394.1 86 36 (by decide)).trans rfl
                      have hw397 : σ392 86 37 = (σ358 86 37) := (hG394.1 86 37 (by decide)).trans rfl
                      have hw398 : σ392 86 39 = (σ358 86 39) := (hG394.1 86 39 (by decide)).trans rfl
                      exact ⟨_, rfl, hI393, hF395, v391, rfl, by omega, by omega⟩
                  · skip
                    refine qr_aload_n 192 rfl g353 rfl ?_
                    refine qr_callN 195 rfl rfl rfl (sf_219_86t (d := d + 6) hI360 ) ?_
                    have hs401 : 0 ≤ σ358 86 36 ∧ σ358 86 36 ≤ 120 := hI360.1 86 36
                    have hs402 : 0 ≤ σ358 86 37 ∧ σ358 86 37 ≤ 120 := hI360.1 86 37
                    rintro _ _ ⟨rfl, v399, rfl, hv399, hp400⟩
                    show qr_W (qe L xs vb) (d + 7) qx_e218 _ (195, _, [.int (qz v399)], qw σ358 α κ ρ, 0, 0)
                    refine qr_bipush 197 rfl (by decide) rfl ?_
                    refine qr_icmp_gt 229 200 rfl rfl rfl (by omega) (by omega) (fun h403 => ?_) (fun h403 => ?_)
                    · skip
                      refine qr_iload 231 rfl g356 rfl ?_
                      refine qr_if_ne 241 234 rfl rfl rfl (by omega) (fun h404 => ?_) (fun h404 => ?_)
                      · skip
                        refine qr_iload_n 242 rfl g354 rfl ?_
                        refine qr_retI rfl rfl (by decide) (by decide) ?_
                        have hw405 : σ358 86 36 = (σ358 86 36) := rfl
                        have hw406 : σ358 86 37 = (σ358 86 37) := rfl
                        have hw407 : σ358 86 39 = (σ358 86 39) := rfl
                        exact ⟨_, rfl, hI360, hF361, u355, rfl, by omega, by omega⟩
                      · skip
                        refine qr_aload_n 235 rfl g353 rfl ?_
                        refine qr_callN 238 rfl rfl rfl (sf_220_86 (d := d + 6) hI360 ) ?_
                        rintro _ _ ⟨σ409, rfl, hI410, hG411, v408, rfl, hv408⟩
                        have hF412 : qFr [(86, 36), (86, 38), (86, 39)] [] σ α σ409 α := qFr_t hF361 hG411 (by decide) (by decide)
                        show qr_W (qe L xs vb) (d + 7) qx_e218 _ (238, _, [.int (qz v408)], qw σ409 α κ ρ, 0, 0)
                        refine qr_goto 242 rfl rfl ?_
                        refine qr_retI rfl rfl (by decide) (by decide) ?_
                        have hw413 : σ409 86 36 = (σ358 86 36) := (hG411.1 86 36 (by decide)).trans rfl
                        have hw414 : σ409 86 37 = (σ358 86 37) := (hG411.1 86 37 (by decide)).trans rfl
                        have hw415 : σ409 86 39 = (σ358 86 39) := (hG411.1 86 39 (by decide)).trans rfl
                        exact ⟨_, rfl, hI410, hF412, v408, rfl, by omega, by omega⟩
                    · skip
                      refine qr_bipush 202 rfl (by decide) rfl ?_
                      refine qr_iload_n 203 rfl g354 rfl ?_
                      refine qr_imul 204 rfl rfl ?_
                      refine qy_can (fun v416 hv416 => ?_)
                      refine qr_aload_n 205 rfl g353 rfl ?_
                      refine qr_callN 208 rfl rfl rfl (sf_219_86t (d := d + 6) hI360 ) ?_
                      have hs419 : 0 ≤ σ358 86 36 ∧ σ358 86 36 ≤ 120 := hI360.1 86 36
                      have hs420 : 0 ≤ σ358 86 37 ∧ σ358 86 37 ≤ 120 := hI360.1 86 37
                      rintro _ _ ⟨rfl, v417, rfl, hv417, hp418⟩
                      show qr_W (qe L xs vb) (d + 7) qx_e218 _ (208, _, [.int (qz v417), .int (qz v416)], qw σ358 α κ ρ, 0, 0)
                      refine qr_iadd 209 rfl rfl ?_
                      refine qy_can (fun v421 hv421 => ?_)
                      refine qr_bipush 211 rfl (by decide) rfl ?_
                      refine qr_isub 212 rfl rfl ?_
                      refine qy_can (fun v422 hv422 => ?_)
                      refine qr_istore_n _ 213 rfl (by decide) rfl rfl ?_
                      refine qr_iinc _ 216 rfl (qm_gk g356 (by decide) (Or.inl (by decide))) (by decide) rfl rfl ?_
                      refine qr_aload_n 217 rfl (qm_gk (qm_gk g353 (by decide) (Or.inl (by decide))) (by decide) (Or.inl (by decide))) rfl ?_
                      refine qr_dup 218 rfl rfl rfl ?_
                      refine qr_get 221 rfl rfl rfl (by decide) rfl ?_
                      refine qr_iconst 222 rfl rfl ?_
                      refine qr_iadd 223 rfl rfl ?_
                      refine qr_put 226 rfl (by decide) rfl (Nat.le_of_ble_eq_true rfl) (Nat.le_of_ble_eq_true rfl) (Or.inl rfl) (qr_fitI rfl _) rfl ?_
                      refine qy_wS (qw_s σ358 86 36 ((σ358 86 36) + 1)) rfl (fun σ423 e424 => ?_)
                      have hI425 : qI σ423 α κ ρ := by rw [e424]; exact qI_s hI360 86 36 rfl (show 0 ≤ ((σ358 86 36) + 1) ∧ ((σ358 86 36) + 1) ≤ 120 by omega)
                      have hF426 : qFr [(86, 36), (86, 38), (86, 39)] [] σ α σ423 α := by rw [e424]; exact qFr_s hF361 86 36 _ (by decide)
                      refine qr_goto 176 rfl rfl ?_
                      exact ih373 _ v422 (u357 + 1) σ423 (by omega) (qm_gk (qm_gk g353 (by decide) (Or.inl (by decide))) (by decide) (Or.inl (by decide))) (qm_gk (qm_ge _ _ _) (by decide) (Or.inr rfl)) (qm_ge _ _ _) (by omega) (by omega) hI425 hF426 ((congrFun (congrFun e424 86) 37).trans rfl) ((congrFun (congrFun e424 86) 38).trans ((hk363).trans rfl)) ((congrFun (congrFun e424 86) 39).trans rfl) (by have hw0 : σ423 86 39 = (σ358 86 39) := (congrFun (congrFun e424 86) 39).trans rfl; have hw1 : σ423 86 36 = ((σ358 86 36) + 1) := (congrFun (congrFun e424 86) 36).trans rfl; have hw2 : σ423 86 37 = (σ358 86 37) := (congrFun (congrFun e424 86) 37).trans rfl; omega) (by have hw0 : σ423 86 39 = (σ358 86 39) := (congrFun (congrFun e424 86) 39).trans rfl; have hw1 : σ423 86 36 = ((σ358 86 36) + 1) := (congrFun (congrFun e424 86) 36).trans rfl; have hw2 : σ423 86 37 = (σ358 86 37) := (congrFun (congrFun e424 86) 37).trans rfl; omega) (by have hw0 : σ423 86 39 = (σ358 86 39) := (congrFun (congrFun e424 86) 39).trans rfl; have hw1 : σ423 86 36 = ((σ358 86 36) + 1) := (congrFun (congrFun e424 86) 36).trans rfl; have hw2 : σ423 86 37 = (σ358 86 37) := (congrFun (congrFun e424 86) 37).trans rfl; omega) (by have hw0 : σ423 86 39 = (σ358 86 39) := (congrFun (congrFun e424 86) 39).trans rfl; have hw1 : σ423 86 36 = ((σ358 86 36) + 1) := (congrFun (congrFun e424 86) 36).trans rfl; have hw2 : σ423 86 37 = (σ358 86 37) := (congrFun (congrFun e424 86) 37).trans rfl; omega) (by have hw0 : σ423 86 39 = (σ358 86 39) := (congrFun (congrFun e424 86) 39).trans rfl; have hw1 : σ423 86 36 = ((σ358 86 36) + 1) := (congrFun (congrFun e424 86) 36).trans rfl; have hw2 : σ423 86 37 = (σ358 86 37) := (congrFun (congrFun e424 86) 37).trans rfl; omega)
            exact hL372 ((4 - 0 + 1 : Int)).toNat _ 0 0 σ (by omega) rfl rfl rfl (by omega) (by omega) hI hF0 (rfl) (rfl) (rfl) (by have hw0 : σ 86 39 = (σ 86 39) := rfl; have hw1 : σ 86 36 = (σ 86 36) := rfl; have hw2 : σ 86 37 = (σ 86 37) := rfl; omega) (by have hw0 : σ 86 39 = (σ 86 39) := rfl; have hw1 : σ 86 36 = (σ 86 36) := rfl; have hw2 : σ 86 37 = (σ 86 37) := rfl; omega) (by have hw0 : σ 86 39 = (σ 86 39) := rfl; have hw1 : σ 86 36 = (σ 86 36) := rfl; have hw2 : σ 86 37 = (σ 86 37) := rfl; omega) (by have hw0 : σ 86 39 = (σ 86 39) := rfl; have hw1 : σ 86 36 = (σ 86 36) := rfl; have hw2 : σ 86 37 = (σ 86 37) := rfl; omega) (by have hw0 : σ 86 39 = (σ 86 39) := rfl; have hw1 : σ 86 36 = (σ 86 36) := rfl; have hw2 : σ 86 37 = (σ 86 37) := rfl; omega)
          · skip
            refine qr_aload_n 155 rfl rfl rfl ?_
            refine qr_dup 156 rfl rfl rfl ?_
            refine qr_get 159 rfl rfl rfl (by decide) rfl ?_
            refine qr_iconst 160 rfl rfl ?_
            refine qr_iadd 161 rfl rfl ?_
            refine qr_put 164 rfl (by decide) rfl (Nat.le_of_ble_eq_true rfl) (Nat.le_of_ble_eq_true rfl) (Or.inl rfl) (qr_fitI rfl _) rfl ?_
            refine qy_wS (qw_s σ 86 36 ((σ 86 36) + 1)) rfl (fun σ427 e428 => ?_)
            have hI429 : qI σ427 α κ ρ := by rw [e428]; exact qI_s hI 86 36 rfl (show 0 ≤ ((σ 86 36) + 1) ∧ ((σ 86 36) + 1) ≤ 120 by omega)
            have hF430 : qFr [(86, 36), (86, 38), (86, 39)] [] σ α σ427 α := by rw [e428]; exact qFr_s hF0 86 36 _ (by decide)
            refine qr_aload_n 165 rfl rfl rfl ?_
            refine qr_get 168 rfl rfl rfl (by decide) rfl ?_
            refine qr_iload_n 169 rfl rfl rfl ?_
            refine qr_iaload 170 rfl rfl (by omega) (by decide) rfl ?_
            refine qr_topI (fun v431 hv431 => ?_)
            have hs432 : (-2147483648) ≤ v431 ∧ v431 ≤ 2147483647 := by rw [hv431]; exact hI429.2.1 109 _ (show _ < 9 by omega)
            refine qr_retI rfl rfl (by decide) (by decide) ?_
            have hw433 : σ427 86 36 = ((σ 86 36) + 1) := (congrFun (congrFun e428 86) 36).trans rfl
            have hw434 : σ427 86 37 = (σ 86 37) := (congrFun (congrFun e428 86) 37).trans rfl
            have hw435 : σ427 86 39 = (σ 86 39) := (congrFun (congrFun e428 86) 39).trans rfl
            exact ⟨_, rfl, hI429, hF430, v431, rfl, by omega, by omega⟩
        · skip
          refine qr_aload_n 33 rfl rfl rfl ?_
          refine qr_get 36 rfl rfl rfl (by decide) rfl ?_
          refine qr_bipush 38 rfl (by decide) rfl ?_
          refine qr_icmp_ne 46 41 rfl rfl rfl (by omega) (by omega) (fun h436 => ?_) (fun h436 => ?_)
          · skip
            refine qr_aload_n 47 rfl rfl rfl ?_
            refine qr_dup 48 rfl rfl rfl ?_
            refine qr_get 51 rfl rfl rfl (by decide) rfl ?_
            refine qr_iconst 52 rfl rfl ?_
            refine qr_iadd 53 rfl rfl ?_
            refine qr_put 56 rfl (by decide) rfl (Nat.le_of_ble_eq_true rfl) (Nat.le_of_ble_eq_true rfl) (Or.inl rfl) (qr_fitI rfl _) rfl ?_
            refine qy_wS (qw_s σ 86 39 ((σ 86 39) + 1)) rfl (fun σ437 e438 => ?_)
            have hI439 : qI σ437 α κ ρ := by rw [e438]; exact qI_s hI 86 39 rfl (show 0 ≤ ((σ 86 39) + 1) ∧ ((σ 86 39) + 1) ≤ 6 by omega)
            have hF440 : qFr [(86, 36), (86, 38), (86, 39)] [] σ α σ437 α := by rw [e438]; exact qFr_s hF0 86 39 _ (by decide)
            refine qr_aload_n 57 rfl rfl rfl ?_
            refine qr_dup 58 rfl rfl rfl ?_
            refine qr_get 61 rfl rfl rfl (by decide) rfl ?_
            refine qy_v (σ 86 36) ((congrFun (congrFun e438 86) 36).trans rfl) ?_
            refine qr_iconst 62 rfl rfl ?_
            refine qr_iadd 63 rfl rfl ?_
            refine qr_put 66 rfl (by decide) rfl (Nat.le_of_ble_eq_true rfl) (Nat.le_of_ble_eq_true rfl) (Or.inl rfl) (qr_fitI rfl _) rfl ?_
            refine qy_wS (qw_s σ437 86 36 ((σ 86 36) + 1)) rfl (fun σ441 e442 => ?_)
            have hI443 : qI σ441 α κ ρ := by rw [e442]; exact qI_s hI439 86 36 rfl (show 0 ≤ ((σ 86 36) + 1) ∧ ((σ 86 36) + 1) ≤ 120 by omega)
            have hF444 : qFr [(86, 36), (86, 38), (86, 39)] [] σ α σ441 α := by rw [e442]; exact qFr_s hF440 86 36 _ (by decide)
            refine qr_iload_n 67 rfl rfl rfl ?_
            refine qr_bipush 69 rfl (by decide) rfl ?_
            refine qr_icmp_ne 79 72 rfl rfl rfl (by omega) (by omega) (fun h => False.elim (by omega)) (fun h445 => ?_)
            refine qr_aload_n 73 rfl rfl rfl ?_
            refine qr_callN 76 rfl rfl rfl (sf_213_86o6 (d := d + 0) hI443 (by omega) (by omega)) ?_
            have hs448 : 0 ≤ σ441 86 36 ∧ σ441 86 36 ≤ 120 := hI443.1 86 36
            have hs449 : σ441 86 36 = ((σ 86 36) + 1) := (congrFun (congrFun e442 86) 36).trans rfl
            have hs450 : 0 ≤ σ441 86 37 ∧ σ441 86 37 ≤ 120 := hI443.1 86 37
            have hs451 : σ441 86 37 = (σ 86 37) := (congrFun (congrFun e442 86) 37).trans ((congrFun (congrFun e438 86) 37).trans rfl)
            have hs452 : 0 ≤ σ441 86 39 ∧ σ441 86 39 ≤ 6 := hI443.1 86 39
            have hs453 : σ441 86 39 = ((σ 86 39) + 1) := (congrFun (congrFun e442 86) 39).trans ((congrFun (congrFun e438 86) 39).trans rfl)
            rintro _ _ ⟨σ454, rfl, hI455, hG456, v446, rfl, hv446, hp447⟩
            have hF457 : qFr [(86, 36), (86, 38), (86, 39)] [] σ α σ454 α := qFr_t hF444 hG456 (by decide) (by decide)
            have hs458 : 0 ≤ σ454 86 36 ∧ σ454 86 36 ≤ 120 := hI455.1 86 36
            have hs459 : 0 ≤ σ454 86 37 ∧ σ454 86 37 ≤ 120 := hI455.1 86 37
            have hs460 : 0 ≤ σ454 86 39 ∧ σ454 86 39 ≤ 6 := hI455.1 86 39
            show qr_W (qe L xs vb) (d + 7) qx_e218 _ (76, _, [.int (qz v446)], qw σ454 α κ ρ, 0, 0)
            refine qr_goto 83 rfl rfl ?_
            refine qr_istore_n _ 84 rfl (by decide) rfl rfl ?_
            refine qr_iload_n 85 rfl rfl rfl ?_
            refine qr_bipush 87 rfl (by decide) rfl ?_
            refine qr_icmp_ne 104 90 rfl rfl rfl (by omega) (by omega) (fun h => False.elim (by omega)) (fun h461 => ?_)
            refine qr_aload_n 91 rfl rfl rfl ?_
            refine qr_bipush 93 rfl (by decide) rfl ?_
            refine qr_callN 96 rfl rfl rfl (sf_221_86t (d := d + 5) hI455 (by omega) (by omega)) ?_
            have hs464 : 0 ≤ σ454 86 36 ∧ σ454 86 36 ≤ 120 := hI455.1 86 36
            have hs465 : 0 ≤ σ454 86 37 ∧ σ454 86 37 ≤ 120 := hI455.1 86 37
            have hs466 : σ454 86 37 = (σ 86 37) := (hG456.1 86 37 (by decide)).trans ((congrFun (congrFun e442 86) 37).trans ((congrFun (congrFun e438 86) 37).trans rfl))
            rintro _ _ ⟨σ467, rfl, hI468, hG469, v462, rfl, hv462, hp463⟩
            have hF470 : qFr [(86, 36), (86, 38), (86, 39)] [] σ α σ467 α := qFr_t hF457 hG469 (by decide) (by decide)
            have hs471 : 0 ≤ σ467 86 36 ∧ σ467 86 36 ≤ 120 := hI468.1 86 36
            show qr_W (qe L xs vb) (d + 7) qx_e218 _ (96, _, [.int (qz v462)], qw σ467 α κ ρ, 0, 0)
            refine qr_if_ne 104 99 rfl rfl rfl (by omega) (fun h472 => ?_) (fun h472 => ?_)
            · skip
              refine qr_aload_n 105 rfl rfl rfl ?_
              refine qr_dup 106 rfl rfl rfl ?_
              refine qr_get 109 rfl rfl rfl (by decide) rfl ?_
              refine qy_v (σ454 86 39) ((hG469.1 86 39 (by decide)).trans rfl) ?_
              refine qr_iconst 110 rfl rfl ?_
              refine qr_isub 111 rfl rfl ?_
              as_aux_lemma =>
                refine qr_put 114 rfl (by decide) rfl (Nat.le_of_ble_eq_true rfl) (Nat.le_of_ble_eq_true rfl) (Or.inl rfl) (qr_fitI rfl _) rfl ?_
                refine qy_wS (qw_s σ467 86 39 ((σ454 86 39) - 1)) rfl (fun σ473 e474 => ?_)
                have hI475 : qI σ473 α κ ρ := by rw [e474]; exact qI_s hI468 86 39 rfl (show 0 ≤ ((σ454 86 39) - 1) ∧ ((σ454 86 39) - 1) ≤ 6 by omega)
                have hF476 : qFr [(86, 36), (86, 38), (86, 39)] [] σ α σ473 α := by rw [e474]; exact qFr_s hF470 86 39 _ (by decide)
                refine qr_iload_n 115 rfl rfl rfl ?_
                refine qr_bipush 117 rfl (by decide) rfl ?_
                refine qr_icmp_ne 124 120 rfl rfl rfl (by omega) (by omega) (fun h => False.elim (by omega)) (fun h477 => ?_)
                refine qr_iload_n 121 rfl rfl rfl ?_
                refine qr_goto 144 rfl rfl ?_
                refine qr_retI rfl rfl (by decide) (by decide) ?_
                have hw478 : σ473 86 36 = (σ467 86 36) := (congrFun (congrFun e474 86) 36).trans rfl
                have hw479 : σ473 86 37 = (σ 86 37) := (congrFun (congrFun e474 86) 37).trans ((hG469.1 86 37 (by decide)).trans ((hG456.1 86 37 (by decide)).trans ((congrFun (congrFun e442 86) 37).trans ((congrFun (congrFun e438 86) 37).trans rfl))))
                have hw480 : σ473 86 39 = ((σ454 86 39) - 1) := (congrFun (congrFun e474 86) 39).trans rfl
                exact ⟨_, rfl, hI475, hF476, v446, rfl, by omega, by omega⟩
            · skip
              refine qr_aload_n 100 rfl rfl rfl ?_
              refine qr_callN 103 rfl rfl rfl (sf_220_86 (d := d + 6) hI468 ) ?_
              rintro _ _ ⟨σ482, rfl, hI483, hG484, v481, rfl, hv481⟩
              have hF485 : qFr [(86, 36), (86, 38), (86, 39)] [] σ α σ482 α := qFr_t hF470 hG484 (by decide) (by decide)
              show qr_W (qe L xs vb) (d + 7) qx_e218 _ (103, _, [.int (qz v481)], qw σ482 α κ ρ, 0, 0)
              refine qr_retI rfl rfl (by decide) (by decide) ?_
              have hw486 : σ482 86 36 = (σ467 86 36) := (hG484.1 86 36 (by decide)).trans rfl
              have hw487 : σ482 86 37 = (σ 86 37) := (hG484.1 86 37 (by decide)).trans ((hG469.1 86 37 (by decide)).trans ((hG456.1 86 37 (by decide)).trans ((congrFun (congrFun e442 86) 37).trans ((congrFun (congrFun e438 86) 37).trans rfl))))
              have hw488 : σ482 86 39 = (σ454 86 39) := (hG484.1 86 39 (by decide)).trans ((hG469.1 86 39 (by decide)).trans rfl)
              exact ⟨_, rfl, hI483, hF485, v481, rfl, by omega, by omega⟩
          · skip
            refine qr_aload_n 42 rfl rfl rfl ?_
            refine qr_callN 45 rfl rfl rfl (sf_220_86 (d := d + 6) hI ) ?_
            rintro _ _ ⟨σ490, rfl, hI491, hG492, v489, rfl, hv489⟩
            have hF493 : qFr [(86, 36), (86, 38), (86, 39)] [] σ α σ490 α := qFr_t hF0 hG492 (by decide) (by decide)
            show qr_W (qe L xs vb) (d + 7) qx_e218 _ (45, _, [.int (qz v489)], qw σ490 α κ ρ, 0, 0)
            refine qr_retI rfl rfl (by decide) (by decide) ?_
            have hw494 : σ490 86 36 = (σ 86 36) := (hG492.1 86 36 (by decide)).trans rfl
            have hw495 : σ490 86 37 = (σ 86 37) := (hG492.1 86 37 (by decide)).trans rfl
            have hw496 : σ490 86 39 = (σ 86 39) := (hG492.1 86 39 (by decide)).trans rfl
            exact ⟨_, rfl, hI491, hF493, v489, rfl, by omega, by omega⟩
  · skip
    refine qr_iconst 8 rfl rfl ?_
    refine qr_retI rfl rfl (by decide) (by decide) ?_
    have hw497 : σ 86 36 = (σ 86 36) := rfl
    have hw498 : σ 86 37 = (σ 86 37) := rfl
    have hw499 : σ 86 39 = (σ 86 39) := rfl
    exact ⟨_, rfl, hI, hF0, 0, rfl, by omega, by omega⟩

set_option maxHeartbeats 4000000 in
set_option maxRecDepth 20000 in
/-- OneRoofModel.product -/
theorem sf_217_86o5 {L : Nat} {xs : Nat → Int} {vb : Bool} {d : Nat} {σ α : Nat → Nat → Int} {κ : Nat → Option Nat} {ρ : Nat}  (hI : qI σ α κ ρ) (p0 : 5 ≤ σ 86 39) (p1 : σ 86 36 ≤ σ 86 37) : qm_T (qe L xs vb) (d + 9) 217 [.ref 86] (qw σ α κ ρ) (fun r w' => ∃ σ', w' = qw σ' α κ ρ ∧ qI σ' α κ ρ ∧ qFr [(86, 36), (86, 38), (86, 39)] [] σ α σ' α ∧ ∃ v : Int, r = some (.int (qz v)) ∧ ((-2147483648) ≤ v ∧ v ≤ 2147483647) ∧ σ 86 39 ≤ σ' 86 39 ∧ σ 86 36 ≤ σ' 86 36 ∧ σ' 86 36 ≤ σ' 86 37 ∧ σ' 86 37 = σ 86 37) := by
  refine qr_start (d := d + 8) qv_e217 (Nat.le_of_ble_eq_true rfl) ?_
  show qr_W (qe L xs vb) (d + 8) qx_e217 _ (0, [(0, .ref 86)], [], _, 0, 0)
  have hF0 := qFr_rf [(86, 36), (86, 38), (86, 39)] [] σ α
  have hz86_39 : 0 ≤ σ 86 39 ∧ σ 86 39 ≤ 6 := hI.1 86 39
  have hz86_36 : 0 ≤ σ 86 36 ∧ σ 86 36 ≤ 120 := hI.1 86 36
  have hz86_37 : 0 ≤ σ 86 37 ∧ σ 86 37 ≤ 120 := hI.1 86 37
  refine qr_aload_n 1 rfl rfl rfl ?_
  refine qr_callN 4 rfl rfl rfl (sf_218_86o5 (d := d + 0) hI (by omega) (by omega)) ?_
  have hs3 : 0 ≤ σ 86 36 ∧ σ 86 36 ≤ 120 := hI.1 86 36
  have hs4 : 0 ≤ σ 86 37 ∧ σ 86 37 ≤ 120 := hI.1 86 37
  have hs5 : 0 ≤ σ 86 39 ∧ σ 86 39 ≤ 6 := hI.1 86 39
  rintro _ _ ⟨σ6, rfl, hI7, hG8, v1, rfl, hv1, hp2⟩
  have hF9 : qFr [(86, 36), (86, 38), (86, 39)] [] σ α σ6 α := qFr_t hF0 hG8 (by decide) (by decide)
  have hs10 : 0 ≤ σ6 86 36 ∧ σ6 86 36 ≤ 120 := hI7.1 86 36
  have hs11 : 0 ≤ σ6 86 37 ∧ σ6 86 37 ≤ 120 := hI7.1 86 37
  have hs12 : 0 ≤ σ6 86 39 ∧ σ6 86 39 ≤ 6 := hI7.1 86 39
  show qr_W (qe L xs vb) (d + 8) qx_e217 _ (4, _, [.int (qz v1)], qw σ6 α κ ρ, 0, 0)
  refine qr_istore_n _ 5 rfl (by decide) rfl rfl ?_
  refine qr_aload_n 6 rfl rfl rfl ?_
  refine qr_callN 9 rfl rfl rfl (sf_219_86t (d := d + 7) hI7 ) ?_
  have hs15 : 0 ≤ σ6 86 36 ∧ σ6 86 36 ≤ 120 := hI7.1 86 36
  have hs16 : 0 ≤ σ6 86 37 ∧ σ6 86 37 ≤ 120 := hI7.1 86 37
  have hs17 : σ6 86 37 = (σ 86 37) := (hG8.1 86 37 (by decide)).trans rfl
  rintro _ _ ⟨rfl, v13, rfl, hv13, hp14⟩
  show qr_W (qe L xs vb) (d + 8) qx_e217 _ (9, _, [.int (qz v13)], qw σ6 α κ ρ, 0, 0)
  refine qr_istore_n _ 10 rfl (by decide) rfl rfl ?_
  have hL384 : ∀ (n : Nat) (ls : qm_L) (u368 u370 : Int) (σ371 : Nat → Nat → Int), ((120 - σ371 86 36).toNat : Int) < (n : Int) → qm_get ls 0 = some (.ref 86) → qm_get ls 1 = some (.int (qz u368)) → qm_get ls 2 = some (.int (qz u370)) → ((-2147483648) ≤ u368 ∧ u368 ≤ 2147483647) → ((-2147483648) ≤ u370 ∧ u370 ≤ 2147483647) → qI σ371 α κ ρ → qFr [(86, 36), (86, 38), (86, 39)] [] σ α σ371 α → σ371 86 37 = (σ 86 37) → 5 ≤ σ371 86 39 → σ 86 39 ≤ σ371 86 39 → σ 86 36 ≤ σ371 86 36 → σ371 86 36 ≤ σ371 86 37 → σ371 86 37 = σ 86 37 → (u370 = 0 ∨ σ371 86 36 < σ371 86 37) → qr_W (qe L xs vb) (d + 8) qx_e217 (fun r w' => ∃ σ', w' = qw σ' α κ ρ ∧ qI σ' α κ ρ ∧ qFr [(86, 36), (86, 38), (86, 39)] [] σ α σ' α ∧ ∃ v : Int, r = some (.int (qz v)) ∧ ((-2147483648) ≤ v ∧ v ≤ 2147483647) ∧ σ 86 39 ≤ σ' 86 39 ∧ σ 86 36 ≤ σ' 86 36 ∧ σ' 86 36 ≤ σ' 86 37 ∧ σ' 86 37 = σ 86 37) (10, ls, [], qw σ371 α κ ρ, 0, 0) := by
    intro n
    induction n with
    | zero => intro ls u368 u370 σ371 hm g366 g367 g369 hf376 hf377 hI373 hF374 hk375 hx378 hx379 hx380 hx381 hx382 hx383; exact False.elim (by omega)
    | succ n ih385 =>
      intro ls u368 u370 σ371 hm g366 g367 g369 hf376 hf377 hI373 hF374 hk375 hx378 hx379 hx380 hx381 hx382 hx383
      have hs386 : 0 ≤ σ371 86 39 ∧ σ371 86 39 ≤ 6 := hI373.1 86 39
      have hs387 : 0 ≤ σ371 86 36 ∧ σ371 86 36 ≤ 120 := hI373.1 86 36
      have hs388 : 0 ≤ σ371 86 37 ∧ σ371 86 37 ≤ 120 := hI373.1 86 37
      refine qr_aload_n 11 rfl g366 rfl ?_
      refine qr_get 14 rfl rfl rfl (by decide) rfl ?_
      have hs389 : (-1) ≤ σ371 86 38 ∧ σ371 86 38 ≤ 120 := hI373.1 86 38
      refine qr_if_ge 94 17 rfl rfl rfl (by omega) (fun h390 => ?_) (fun h390 => ?_)
      · skip
        refine qr_iload_n 95 rfl g367 rfl ?_
        refine qr_retI rfl rfl (by decide) (by decide) ?_
        have hw391 : σ371 86 36 = (σ371 86 36) := rfl
        have hw392 : σ371 86 37 = (σ371 86 37) := rfl
        have hw393 : σ371 86 39 = (σ371 86 39) := rfl
        exact ⟨_, rfl, hI373, hF374, u368, rfl, by omega, by omega⟩
      · skip
        refine qr_iload_n 18 rfl g369 rfl ?_
        refine qr_bipush 20 rfl (by decide) rfl ?_
        refine qr_icmp_eq 35 23 rfl rfl rfl (by omega) (by omega) (fun h394 => ?_) (fun h394 => ?_)
        · skip
          refine qr_aload_n 36 rfl g366 rfl ?_
          refine qr_dup 37 rfl rfl rfl ?_
          refine qr_get 40 rfl rfl rfl (by decide) rfl ?_
          refine qr_iconst 41 rfl rfl ?_
          refine qr_iadd 42 rfl rfl ?_
          refine qr_put 45 rfl (by decide) rfl (Nat.le_of_ble_eq_true rfl) (Nat.le_of_ble_eq_true rfl) (Or.inl rfl) (qr_fitI rfl _) rfl ?_
          refine qy_wS (qw_s σ371 86 36 ((σ371 86 36) + 1)) rfl (fun σ395 e396 => ?_)
          have hI397 : qI σ395 α κ ρ := by rw [e396]; exact qI_s hI373 86 36 rfl (show 0 ≤ ((σ371 86 36) + 1) ∧ ((σ371 86 36) + 1) ≤ 120 by omega)
          have hF398 : qFr [(86, 36), (86, 38), (86, 39)] [] σ α σ395 α := by rw [e396]; exact qFr_s hF374 86 36 _ (by decide)
          refine qr_aload_n 46 rfl g366 rfl ?_
          refine qr_callN 49 rfl rfl rfl (sf_218_86o5 (d := d + 0) hI397 (by omega) (by omega)) ?_
          have hs401 : 0 ≤ σ395 86 36 ∧ σ395 86 36 ≤ 120 := hI397.1 86 36
          have hs402 : σ395 86 36 = ((σ371 86 36) + 1) := (congrFun (congrFun e396 86) 36).trans rfl
          have hs403 : 0 ≤ σ395 86 37 ∧ σ395 86 37 ≤ 120 := hI397.1 86 37
          have hs404 : σ395 86 37 = (σ371 86 37) := (congrFun (congrFun e396 86) 37).trans rfl
          have hs405 : 0 ≤ σ395 86 39 ∧ σ395 86 39 ≤ 6 := hI397.1 86 39
          have hs406 : σ395 86 39 = (σ371 86 39) := (congrFun (congrFun e396 86) 39).trans rfl
          rintro _ _ ⟨σ407, rfl, hI408, hG409, v399, rfl, hv399, hp400⟩
          have hF410 : qFr [(86, 36), (86, 38), (86, 39)] [] σ α σ407 α := qFr_t hF398 hG409 (by decide) (by decide)
          have hs411 : 0 ≤ σ407 86 36 ∧ σ407 86 36 ≤ 120 := hI408.1 86 36
          have hs412 : 0 ≤ σ407 86 37 ∧ σ407 86 37 ≤ 120 := hI408.1 86 37
          have hs413 : 0 ≤ σ407 86 39 ∧ σ407 86 39 ≤ 6 := hI408.1 86 39
          show qr_W (qe L xs vb) (d + 8) qx_e217 _ (49, _, [.int (qz v399)], qw σ407 α κ ρ, 0, 0)
          refine qr_istore_n _ 50 rfl (by decide) rfl rfl ?_
          refine qr_iload_n 51 rfl (qm_gk g369 (by decide) (Or.inr rfl)) rfl ?_
          refine qr_bipush 53 rfl (by decide) rfl ?_
          refine qr_icmp_ne 62 56 rfl rfl rfl (by omega) (by omega) (fun h => False.elim (by omega)) (fun h414 => ?_)
          refine qr_iload_n 57 rfl (qm_gk g367 (by decide) (Or.inl (by decide))) rfl ?_
          refine qr_iload_n 58 rfl (qm_ge _ _ _) rfl ?_
          refine qr_imul 59 rfl rfl ?_
          refine qy_can (fun v415 hv415 => ?_)
          refine qr_goto 85 rfl rfl ?_
          refine qr_istore_n _ 86 rfl (by decide) rfl rfl ?_
          refine qr_aload_n 87 rfl (qm_gk (qm_gk g366 (by decide) (Or.inl (by decide))) (by decide) (Or.inr rfl)) rfl ?_
          refine qr_callN 90 rfl rfl rfl (sf_219_86t (d := d + 7) hI408 ) ?_
          have hs418 : 0 ≤ σ407 86 36 ∧ σ407 86 36 ≤ 120 := hI408.1 86 36
          have hs419 : 0 ≤ σ407 86 37 ∧ σ407 86 37 ≤ 120 := hI408.1 86 37
          have hs420 : σ407 86 37 = (σ371 86 37) := (hG409.1 86 37 (by decide)).trans ((congrFun (congrFun e396 86) 37).trans rfl)
          rintro _ _ ⟨rfl, v416, rfl, hv416, hp417⟩
          show qr_W (qe L xs vb) (d + 8) qx_e217 _ (90, _, [.int (qz v416)], qw σ407 α κ ρ, 0, 0)
          refine qr_istore_n _ 91 rfl (by decide) rfl rfl ?_
          refine qr_goto 10 rfl rfl ?_
          exact ih385 _ v415 v416 σ407 (by omega) (qm_gk (qm_gk (qm_gk g366 (by decide) (Or.inl (by decide))) (by decide) (Or.inr rfl)) (by decide) (Or.inl (by decide))) (qm_gk (qm_ge _ _ _) (by decide) (Or.inr rfl)) (qm_ge _ _ _) (by omega) (by omega) hI408 hF410 ((hG409.1 86 37 (by decide)).trans ((congrFun (congrFun e396 86) 37).trans rfl)) (by have hw0 : σ407 86 39 = (σ407 86 39) := rfl; have hw1 : σ407 86 36 = (σ407 86 36) := rfl; have hw2 : σ407 86 37 = (σ371 86 37) := (hG409.1 86 37 (by decide)).trans ((congrFun (congrFun e396 86) 37).trans rfl); omega) (by have hw0 : σ407 86 39 = (σ407 86 39) := rfl; have hw1 : σ407 86 36 = (σ407 86 36) := rfl; have hw2 : σ407 86 37 = (σ371 86 37) := (hG409.1 86 37 (by decide)).trans ((congrFun (congrFun e396 86) 37).trans rfl); omega) (by have hw0 : σ407 86 39 = (σ407 86 39) := rfl; have hw1 : σ407 86 36 = (σ407 86 36) := rfl; have hw2 : σ407 86 37 = (σ371 86 37) := (hG409.1 86 37 (by decide)).trans ((congrFun (congrFun e396 86) 37).trans rfl); omega) (by have hw0 : σ407 86 39 = (σ407 86 39) := rfl; have hw1 : σ407 86 36 = (σ407 86 36) := rfl; have hw2 : σ407 86 37 = (σ371 86 37) := (hG409.1 86 37 (by decide)).trans ((congrFun (congrFun e396 86) 37).trans rfl); omega) (by have hw0 : σ407 86 39 = (σ407 86 39) := rfl; have hw1 : σ407 86 36 = (σ407 86 36) := rfl; have hw2 : σ407 86 37 = (σ371 86 37) := (hG409.1 86 37 (by decide)).trans ((congrFun (congrFun e396 86) 37).trans rfl); omega) (by have hw0 : σ407 86 39 = (σ407 86 39) := rfl; have hw1 : σ407 86 36 = (σ407 86 36) := rfl; have hw2 : σ407 86 37 = (σ371 86 37) := (hG409.1 86 37 (by decide)).trans ((congrFun (congrFun e396 86) 37).trans rfl); omega)
        · skip
          refine qr_iload_n 24 rfl g369 rfl ?_
          refine qr_bipush 26 rfl (by decide) rfl ?_
          refine qr_icmp_eq 35 29 rfl rfl rfl (by omega) (by omega) (fun h421 => ?_) (fun h421 => ?_)
          · skip
            refine qr_aload_n 36 rfl g366 rfl ?_
            refine qr_dup 37 rfl rfl rfl ?_
            refine qr_get 40 rfl rfl rfl (by decide) rfl ?_
            refine qr_iconst 41 rfl rfl ?_
            refine qr_iadd 42 rfl rfl ?_
            refine qr_put 45 rfl (by decide) rfl (Nat.le_of_ble_eq_true rfl) (Nat.le_of_ble_eq_true rfl) (Or.inl rfl) (qr_fitI rfl _) rfl ?_
            refine qy_wS (qw_s σ371 86 36 ((σ371 86 36) + 1)) rfl (fun σ422 e423 => ?_)
            have hI424 : qI σ422 α κ ρ := by rw [e423]; exact qI_s hI373 86 36 rfl (show 0 ≤ ((σ371 86 36) + 1) ∧ ((σ371 86 36) + 1) ≤ 120 by omega)
            have hF425 : qFr [(86, 36), (86, 38), (86, 39)] [] σ α σ422 α := by rw [e423]; exact qFr_s hF374 86 36 _ (by decide)
            refine qr_aload_n 46 rfl g366 rfl ?_
            refine qr_callN 49 rfl rfl rfl (sf_218_86o5 (d := d + 0) hI424 (by omega) (by omega)) ?_
            have hs428 : 0 ≤ σ422 86 36 ∧ σ422 86 36 ≤ 120 := hI424.1 86 36
            have hs429 : σ422 86 36 = ((σ371 86 36) + 1) := (congrFun (congrFun e423 86) 36).trans rfl
            have hs430 : 0 ≤ σ422 86 37 ∧ σ422 86 37 ≤ 120 := hI424.1 86 37
            have hs431 : σ422 86 37 = (σ371 86 37) := (congrFun (congrFun e423 86) 37).trans rfl
            have hs432 : 0 ≤ σ422 86 39 ∧ σ422 86 39 ≤ 6 := hI424.1 86 39
            have hs433 : σ422 86 39 = (σ371 86 39) := (congrFun (congrFun e423 86) 39).trans rfl
            rintro _ _ ⟨σ434, rfl, hI435, hG436, v426, rfl, hv426, hp427⟩
            have hF437 : qFr [(86, 36), (86, 38), (86, 39)] [] σ α σ434 α := qFr_t hF425 hG436 (by decide) (by decide)
            have hs438 : 0 ≤ σ434 86 36 ∧ σ434 86 36 ≤ 120 := hI435.1 86 36
            have hs439 : 0 ≤ σ434 86 37 ∧ σ434 86 37 ≤ 120 := hI435.1 86 37
            have hs440 : 0 ≤ σ434 86 39 ∧ σ434 86 39 ≤ 6 := hI435.1 86 39
            show qr_W (qe L xs vb) (d + 8) qx_e217 _ (49, _, [.int (qz v426)], qw σ434 α κ ρ, 0, 0)
            refine qr_istore_n _ 50 rfl (by decide) rfl rfl ?_
            refine qr_iload_n 51 rfl (qm_gk g369 (by decide) (Or.inr rfl)) rfl ?_
            refine qr_bipush 53 rfl (by decide) rfl ?_
            refine qr_icmp_ne 62 56 rfl rfl rfl (by omega) (by omega) (fun h441 => ?_) (fun h => False.elim (by omega))
            refine qr_iload_n 63 rfl (qm_ge _ _ _) rfl ?_
            have hJ446 : ∀ (ls : qm_L) (u444 : Int), qm_get ls 0 = some (.ref 86) → ((-2147483648) ≤ u444 ∧ u444 ≤ 2147483647) → qr_W (qe L xs vb) (d + 8) qx_e217 (fun r w' => ∃ σ', w' = qw σ' α κ ρ ∧ qI σ' α κ ρ ∧ qFr [(86, 36), (86, 38), (86, 39)] [] σ α σ' α ∧ ∃ v : Int, r = some (.int (qz v)) ∧ ((-2147483648) ≤ v ∧ v ≤ 2147483647) ∧ σ 86 39 ≤ σ' 86 39 ∧ σ 86 36 ≤ σ' 86 36 ∧ σ' 86 36 ≤ σ' 86 37 ∧ σ' 86 37 = σ 86 37) (85, ls, [.int (qz u444)], qw σ434 α κ ρ, 0, 0) := by
              intro ls u444 g443 hf445
              refine qr_istore_n _ 86 rfl (by decide) rfl rfl ?_
              refine qr_aload_n 87 rfl (qm_gk g443 (by decide) (Or.inr rfl)) rfl ?_
              refine qr_callN 90 rfl rfl rfl (sf_219_86t (d := d + 7) hI435 ) ?_
              have hs449 : 0 ≤ σ434 86 36 ∧ σ434 86 36 ≤ 120 := hI435.1 86 36
              have hs450 : 0 ≤ σ434 86 37 ∧ σ434 86 37 ≤ 120 := hI435.1 86 37
              have hs451 : σ434 86 37 = (σ371 86 37) := (hG436.1 86 37 (by decide)).trans ((congrFun (congrFun e423 86) 37).trans rfl)
              rintro _ _ ⟨rfl, v447, rfl, hv447, hp448⟩
              show qr_W (qe L xs vb) (d + 8) qx_e217 _ (90, _, [.int (qz v447)], qw σ434 α κ ρ, 0, 0)
              refine qr_istore_n _ 91 rfl (by decide) rfl rfl ?_
              refine qr_goto 10 rfl rfl ?_
              exact ih385 _ u444 v447 σ434 (by omega) (qm_gk (qm_gk g443 (by decide) (Or.inr rfl)) (by decide) (Or.inl (by decide))) (qm_gk (qm_ge _ _ _) (by decide) (Or.inr rfl)) (qm_ge _ _ _) (by omega) (by omega) hI435 hF437 ((hG436.1 86 37 (by decide)).trans ((congrFun (congrFun e423 86) 37).trans rfl)) (by have hw0 : σ434 86 39 = (σ434 86 39) := rfl; have hw1 : σ434 86 36 = (σ434 86 36) := rfl; have hw2 : σ434 86 37 = (σ371 86 37) := (hG436.1 86 37 (by decide)).trans ((congrFun (congrFun e423 86) 37).trans rfl); omega) (by have hw0 : σ434 86 39 = (σ434 86 39) := rfl; have hw1 : σ434 86 36 = (σ434 86 36) := rfl; have hw2 : σ434 86 37 = (σ371 86 37) := (hG436.1 86 37 (by decide)).trans ((congrFun (congrFun e423 86) 37).trans rfl); omega) (by have hw0 : σ434 86 39 = (σ434 86 39) := rfl; have hw1 : σ434 86 36 = (σ434 86 36) := rfl; have hw2 : σ434 86 37 = (σ371 86 37) := (hG436.1 86 37 (by decide)).trans ((congrFun (congrFun e423 86) 37).trans rfl); omega) (by have hw0 : σ434 86 39 = (σ434 86 39) := rfl; have hw1 : σ434 86 36 = (σ434 86 36) := rfl; have hw2 : σ434 86 37 = (σ371 86 37) := (hG436.1 86 37 (by decide)).trans ((congrFun (congrFun e423 86) 37).trans rfl); omega) (by have hw0 : σ434 86 39 = (σ434 86 39) := rfl; have hw1 : σ434 86 36 = (σ434 86 36) := rfl; have hw2 : σ434 86 37 = (σ371 86 37) := (hG436.1 86 37 (by decide)).trans ((congrFun (congrFun e423 86) 37).trans rfl); omega) (by have hw0 : σ434 86 39 = (σ434 86 39) := rfl; have hw1 : σ434 86 36 = (σ434 86 36) := rfl; have hw2 : σ434 86 37 = (σ371 86 37) := (hG436.1 86 37 (by decide)).trans ((congrFun (congrFun e423 86) 37).trans rfl); omega)
            refine qr_if_ne 70 66 rfl rfl rfl (by omega) (fun h452 => ?_) (fun h452 => ?_)
            · skip
              refine qr_iload_n 71 rfl (qm_gk g369 (by decide) (Or.inr rfl)) rfl ?_
              refine qr_bipush 73 rfl (by decide) rfl ?_
              refine qr_icmp_ne 82 76 rfl rfl rfl (by omega) (by omega) (fun h => False.elim (by omega)) (fun h453 => ?_)
              refine qr_iload_n 77 rfl (qm_gk g367 (by decide) (Or.inl (by decide))) rfl ?_
              refine qr_iload_n 78 rfl (qm_ge _ _ _) rfl ?_
              refine qr_idivW 79 rfl (by omega) rfl ?_
              refine qy_can (fun v454 hv454 => ?_)
              refine qr_goto 85 rfl rfl ?_
              exact hJ446 _ v454 (qm_gk g366 (by decide) (Or.inl (by decide))) (by omega)
            · skip
              refine qr_iconst 67 rfl rfl ?_
              refine qr_goto 85 rfl rfl ?_
              exact hJ446 _ 0 (qm_gk g366 (by decide) (Or.inl (by decide))) (by omega)
          · skip
            refine qr_iload_n 30 rfl g369 rfl ?_
            refine qr_bipush 32 rfl (by decide) rfl ?_
            refine qr_icmp_ne 94 35 rfl rfl rfl (by omega) (by omega) (fun h455 => ?_) (fun h455 => ?_)
            · skip
              refine qr_iload_n 95 rfl g367 rfl ?_
              refine qr_retI rfl rfl (by decide) (by decide) ?_
              have hw456 : σ371 86 36 = (σ371 86 36) := rfl
              have hw457 : σ371 86 37 = (σ371 86 37) := rfl
              have hw458 : σ371 86 39 = (σ371 86 39) := rfl
              exact ⟨_, rfl, hI373, hF374, u368, rfl, by omega, by omega⟩
            · skip
              refine qr_aload_n 36 rfl g366 rfl ?_
              refine qr_dup 37 rfl rfl rfl ?_
              refine qr_get 40 rfl rfl rfl (by decide) rfl ?_
              refine qr_iconst 41 rfl rfl ?_
              refine qr_iadd 42 rfl rfl ?_
              refine qr_put 45 rfl (by decide) rfl (Nat.le_of_ble_eq_true rfl) (Nat.le_of_ble_eq_true rfl) (Or.inl rfl) (qr_fitI rfl _) rfl ?_
              refine qy_wS (qw_s σ371 86 36 ((σ371 86 36) + 1)) rfl (fun σ459 e460 => ?_)
              have hI461 : qI σ459 α κ ρ := by rw [e460]; exact qI_s hI373 86 36 rfl (show 0 ≤ ((σ371 86 36) + 1) ∧ ((σ371 86 36) + 1) ≤ 120 by omega)
              have hF462 : qFr [(86, 36), (86, 38), (86, 39)] [] σ α σ459 α := by rw [e460]; exact qFr_s hF374 86 36 _ (by decide)
              refine qr_aload_n 46 rfl g366 rfl ?_
              refine qr_callN 49 rfl rfl rfl (sf_218_86o5 (d := d + 0) hI461 (by omega) (by omega)) ?_
              have hs465 : 0 ≤ σ459 86 36 ∧ σ459 86 36 ≤ 120 := hI461.1 86 36
              have hs466 : σ459 86 36 = ((σ371 86 36) + 1) := (congrFun (congrFun e460 86) 36).trans rfl
              have hs467 : 0 ≤ σ459 86 37 ∧ σ459 86 37 ≤ 120 := hI461.1 86 37
              have hs468 : σ459 86 37 = (σ371 86 37) := (congrFun (congrFun e460 86) 37).trans rfl
              have hs469 : 0 ≤ σ459 86 39 ∧ σ459 86 39 ≤ 6 := hI461.1 86 39
              have hs470 : σ459 86 39 = (σ371 86 39) := (congrFun (congrFun e460 86) 39).trans rfl
              rintro _ _ ⟨σ471, rfl, hI472, hG473, v463, rfl, hv463, hp464⟩
              have hF474 : qFr [(86, 36), (86, 38), (86, 39)] [] σ α σ471 α := qFr_t hF462 hG473 (by decide) (by decide)
              have hs475 : 0 ≤ σ471 86 36 ∧ σ471 86 36 ≤ 120 := hI472.1 86 36
              have hs476 : 0 ≤ σ471 86 37 ∧ σ471 86 37 ≤ 120 := hI472.1 86 37
              have hs477 : 0 ≤ σ471 86 39 ∧ σ471 86 39 ≤ 6 := hI472.1 86 39
              show qr_W (qe L xs vb) (d + 8) qx_e217 _ (49, _, [.int (qz v463)], qw σ471 α κ ρ, 0, 0)
              refine qr_istore_n _ 50 rfl (by decide) rfl rfl ?_
              refine qr_iload_n 51 rfl (qm_gk g369 (by decide) (Or.inr rfl)) rfl ?_
              refine qr_bipush 53 rfl (by decide) rfl ?_
              refine qr_icmp_ne 62 56 rfl rfl rfl (by omega) (by omega) (fun h478 => ?_) (fun h => False.elim (by omega))
              refine qr_iload_n 63 rfl (qm_ge _ _ _) rfl ?_
              have hJ483 : ∀ (ls : qm_L) (u481 : Int), qm_get ls 0 = some (.ref 86) → ((-2147483648) ≤ u481 ∧ u481 ≤ 2147483647) → qr_W (qe L xs vb) (d + 8) qx_e217 (fun r w' => ∃ σ', w' = qw σ' α κ ρ ∧ qI σ' α κ ρ ∧ qFr [(86, 36), (86, 38), (86, 39)] [] σ α σ' α ∧ ∃ v : Int, r = some (.int (qz v)) ∧ ((-2147483648) ≤ v ∧ v ≤ 2147483647) ∧ σ 86 39 ≤ σ' 86 39 ∧ σ 86 36 ≤ σ' 86 36 ∧ σ' 86 36 ≤ σ' 86 37 ∧ σ' 86 37 = σ 86 37) (85, ls, [.int (qz u481)], qw σ471 α κ ρ, 0, 0) := by
                intro ls u481 g480 hf482
                refine qr_istore_n _ 86 rfl (by decide) rfl rfl ?_
                refine qr_aload_n 87 rfl (qm_gk g480 (by decide) (Or.inr rfl)) rfl ?_
                refine qr_callN 90 rfl rfl rfl (sf_219_86t (d := d + 7) hI472 ) ?_
                have hs486 : 0 ≤ σ471 86 36 ∧ σ471 86 36 ≤ 120 := hI472.1 86 36
                have hs487 : 0 ≤ σ471 86 37 ∧ σ471 86 37 ≤ 120 := hI472.1 86 37
                have hs488 : σ471 86 37 = (σ371 86 37) := (hG473.1 86 37 (by decide)).trans ((congrFun (congrFun e460 86) 37).trans rfl)
                rintro _ _ ⟨rfl, v484, rfl, hv484, hp485⟩
                show qr_W (qe L xs vb) (d + 8) qx_e217 _ (90, _, [.int (qz v484)], qw σ471 α κ ρ, 0, 0)
                refine qr_istore_n _ 91 rfl (by decide) rfl rfl ?_
                refine qr_goto 10 rfl rfl ?_
                exact ih385 _ u481 v484 σ471 (by omega) (qm_gk (qm_gk g480 (by decide) (Or.inr rfl)) (by decide) (Or.inl (by decide))) (qm_gk (qm_ge _ _ _) (by decide) (Or.inr rfl)) (qm_ge _ _ _) (by omega) (by omega) hI472 hF474 ((hG473.1 86 37 (by decide)).trans ((congrFun (congrFun e460 86) 37).trans rfl)) (by have hw0 : σ471 86 39 = (σ471 86 39) := rfl; have hw1 : σ471 86 36 = (σ471 86 36) := rfl; have hw2 : σ471 86 37 = (σ371 86 37) := (hG473.1 86 37 (by decide)).trans ((congrFun (congrFun e460 86) 37).trans rfl); omega) (by have hw0 : σ471 86 39 = (σ471 86 39) := rfl; have hw1 : σ471 86 36 = (σ471 86 36) := rfl; have hw2 : σ471 86 37 = (σ371 86 37) := (hG473.1 86 37 (by decide)).trans ((congrFun (congrFun e460 86) 37).trans rfl); omega) (by have hw0 : σ471 86 39 = (σ471 86 39) := rfl; have hw1 : σ471 86 36 = (σ471 86 36) := rfl; have hw2 : σ471 86 37 = (σ371 86 37) := (hG473.1 86 37 (by decide)).trans ((congrFun (congrFun e460 86) 37).trans rfl); omega) (by have hw0 : σ471 86 39 = (σ471 86 39) := rfl; have hw1 : σ471 86 36 = (σ471 86 36) := rfl; have hw2 : σ471 86 37 = (σ371 86 37) := (hG473.1 86 37 (by decide)).trans ((congrFun (congrFun e460 86) 37).trans rfl); omega) (by have hw0 : σ471 86 39 = (σ471 86 39) := rfl; have hw1 : σ471 86 36 = (σ471 86 36) := rfl; have hw2 : σ471 86 37 = (σ371 86 37) := (hG473.1 86 37 (by decide)).trans ((congrFun (congrFun e460 86) 37).trans rfl); omega) (by have hw0 : σ471 86 39 = (σ471 86 39) := rfl; have hw1 : σ471 86 36 = (σ471 86 36) := rfl; have hw2 : σ471 86 37 = (σ371 86 37) := (hG473.1 86 37 (by decide)).trans ((congrFun (congrFun e460 86) 37).trans rfl); omega)
              refine qr_if_ne 70 66 rfl rfl rfl (by omega) (fun h489 => ?_) (fun h489 => ?_)
              · skip
                refine qr_iload_n 71 rfl (qm_gk g369 (by decide) (Or.inr rfl)) rfl ?_
                refine qr_bipush 73 rfl (by decide) rfl ?_
                refine qr_icmp_ne 82 76 rfl rfl rfl (by omega) (by omega) (fun h490 => ?_) (fun h => False.elim (by omega))
                refine qr_iload_n 83 rfl (qm_gk g367 (by decide) (Or.inl (by decide))) rfl ?_
                refine qr_iload_n 84 rfl (qm_ge _ _ _) rfl ?_
                refine qr_iremW 85 rfl (by omega) rfl ?_
                refine qy_can (fun v491 hv491 => ?_)
                exact hJ483 _ v491 (qm_gk g366 (by decide) (Or.inl (by decide))) (by omega)
              · skip
                refine qr_iconst 67 rfl rfl ?_
                refine qr_goto 85 rfl rfl ?_
                exact hJ483 _ 0 (qm_gk g366 (by decide) (Or.inl (by decide))) (by omega)
  exact hL384 ((((120 - σ6 86 36).toNat : Int) + 1 : Int)).toNat _ v1 v13 σ6 (by omega) rfl rfl rfl (by omega) (by omega) hI7 hF9 ((hG8.1 86 37 (by decide)).trans rfl) (by have hw0 : σ6 86 39 = (σ6 86 39) := rfl; have hw1 : σ6 86 36 = (σ6 86 36) := rfl; have hw2 : σ6 86 37 = (σ 86 37) := (hG8.1 86 37 (by decide)).trans rfl; omega) (by have hw0 : σ6 86 39 = (σ6 86 39) := rfl; have hw1 : σ6 86 36 = (σ6 86 36) := rfl; have hw2 : σ6 86 37 = (σ 86 37) := (hG8.1 86 37 (by decide)).trans rfl; omega) (by have hw0 : σ6 86 39 = (σ6 86 39) := rfl; have hw1 : σ6 86 36 = (σ6 86 36) := rfl; have hw2 : σ6 86 37 = (σ 86 37) := (hG8.1 86 37 (by decide)).trans rfl; omega) (by have hw0 : σ6 86 39 = (σ6 86 39) := rfl; have hw1 : σ6 86 36 = (σ6 86 36) := rfl; have hw2 : σ6 86 37 = (σ 86 37) := (hG8.1 86 37 (by decide)).trans rfl; omega) (by have hw0 : σ6 86 39 = (σ6 86 39) := rfl; have hw1 : σ6 86 36 = (σ6 86 36) := rfl; have hw2 : σ6 86 37 = (σ 86 37) := (hG8.1 86 37 (by decide)).trans rfl; omega) (by have hw0 : σ6 86 39 = (σ6 86 39) := rfl; have hw1 : σ6 86 36 = (σ6 86 36) := rfl; have hw2 : σ6 86 37 = (σ 86 37) := (hG8.1 86 37 (by decide)).trans rfl; omega)

set_option maxHeartbeats 4000000 in
set_option maxRecDepth 20000 in
/-- OneRoofModel.sums -/
theorem sf_216_86o5 {L : Nat} {xs : Nat → Int} {vb : Bool} {d : Nat} {σ α : Nat → Nat → Int} {κ : Nat → Option Nat} {ρ : Nat}  (hI : qI σ α κ ρ) (p0 : 5 ≤ σ 86 39) (p1 : σ 86 36 ≤ σ 86 37) : qm_T (qe L xs vb) (d + 10) 216 [.ref 86] (qw σ α κ ρ) (fun r w' => ∃ σ', w' = qw σ' α κ ρ ∧ qI σ' α κ ρ ∧ qFr [(86, 36), (86, 38), (86, 39)] [] σ α σ' α ∧ ∃ v : Int, r = some (.int (qz v)) ∧ ((-2147483648) ≤ v ∧ v ≤ 2147483647) ∧ σ 86 39 ≤ σ' 86 39 ∧ σ 86 36 ≤ σ' 86 36 ∧ σ' 86 36 ≤ σ' 86 37 ∧ σ' 86 37 = σ 86 37) := by
  refine qr_start (d := d + 9) qv_e216 (Nat.le_of_ble_eq_true rfl) ?_
  show qr_W (qe L xs vb) (d + 9) qx_e216 _ (0, [(0, .ref 86)], [], _, 0, 0)
  have hF0 := qFr_rf [(86, 36), (86, 38), (86, 39)] [] σ α
  have hz86_39 : 0 ≤ σ 86 39 ∧ σ 86 39 ≤ 6 := hI.1 86 39
  have hz86_36 : 0 ≤ σ 86 36 ∧ σ 86 36 ≤ 120 := hI.1 86 36
  have hz86_37 : 0 ≤ σ 86 37 ∧ σ 86 37 ≤ 120 := hI.1 86 37
  refine qr_aload_n 1 rfl rfl rfl ?_
  refine qr_callN 4 rfl rfl rfl (sf_217_86o5 (d := d + 0) hI (by omega) (by omega)) ?_
  have hs3 : 0 ≤ σ 86 36 ∧ σ 86 36 ≤ 120 := hI.1 86 36
  have hs4 : 0 ≤ σ 86 37 ∧ σ 86 37 ≤ 120 := hI.1 86 37
  have hs5 : 0 ≤ σ 86 39 ∧ σ 86 39 ≤ 6 := hI.1 86 39
  rintro _ _ ⟨σ6, rfl, hI7, hG8, v1, rfl, hv1, hp2⟩
  have hF9 : qFr [(86, 36), (86, 38), (86, 39)] [] σ α σ6 α := qFr_t hF0 hG8 (by decide) (by decide)
  have hs10 : 0 ≤ σ6 86 36 ∧ σ6 86 36 ≤ 120 := hI7.1 86 36
  have hs11 : 0 ≤ σ6 86 37 ∧ σ6 86 37 ≤ 120 := hI7.1 86 37
  have hs12 : 0 ≤ σ6 86 39 ∧ σ6 86 39 ≤ 6 := hI7.1 86 39
  show qr_W (qe L xs vb) (d + 9) qx_e216 _ (4, _, [.int (qz v1)], qw σ6 α κ ρ, 0, 0)
  refine qr_istore_n _ 5 rfl (by decide) rfl rfl ?_
  have hL435 : ∀ (n : Nat) (ls : qm_L) (u423 : Int) (σ424 : Nat → Nat → Int), ((120 - σ424 86 36).toNat : Int) < (n : Int) → qm_get ls 0 = some (.ref 86) → qm_get ls 1 = some (.int (qz u423)) → ((-2147483648) ≤ u423 ∧ u423 ≤ 2147483647) → qI σ424 α κ ρ → qFr [(86, 36), (86, 38), (86, 39)] [] σ α σ424 α → σ424 86 37 = (σ 86 37) → 5 ≤ σ424 86 39 → σ 86 39 ≤ σ424 86 39 → σ 86 36 ≤ σ424 86 36 → σ424 86 36 ≤ σ424 86 37 → σ424 86 37 = σ 86 37 → qr_W (qe L xs vb) (d + 9) qx_e216 (fun r w' => ∃ σ', w' = qw σ' α κ ρ ∧ qI σ' α κ ρ ∧ qFr [(86, 36), (86, 38), (86, 39)] [] σ α σ' α ∧ ∃ v : Int, r = some (.int (qz v)) ∧ ((-2147483648) ≤ v ∧ v ≤ 2147483647) ∧ σ 86 39 ≤ σ' 86 39 ∧ σ 86 36 ≤ σ' 86 36 ∧ σ' 86 36 ≤ σ' 86 37 ∧ σ' 86 37 = σ 86 37) (5, ls, [], qw σ424 α κ ρ, 0, 0) := by
    intro n
    induction n with
    | zero => intro ls u423 σ424 hm g421 g422 hf429 hI426 hF427 hk428 hx430 hx431 hx432 hx433 hx434; exact False.elim (by omega)
    | succ n ih436 =>
      intro ls u423 σ424 hm g421 g422 hf429 hI426 hF427 hk428 hx430 hx431 hx432 hx433 hx434
      have hs437 : 0 ≤ σ424 86 39 ∧ σ424 86 39 ≤ 6 := hI426.1 86 39
      have hs438 : 0 ≤ σ424 86 36 ∧ σ424 86 36 ≤ 120 := hI426.1 86 36
      have hs439 : 0 ≤ σ424 86 37 ∧ σ424 86 37 ≤ 120 := hI426.1 86 37
      refine qr_aload_n 6 rfl g421 rfl ?_
      refine qr_get 9 rfl rfl rfl (by decide) rfl ?_
      have hs440 : (-1) ≤ σ424 86 38 ∧ σ424 86 38 ≤ 120 := hI426.1 86 38
      refine qr_if_ge 77 12 rfl rfl rfl (by omega) (fun h441 => ?_) (fun h441 => ?_)
      · skip
        refine qr_iload_n 78 rfl g422 rfl ?_
        refine qr_retI rfl rfl (by decide) (by decide) ?_
        have hw442 : σ424 86 36 = (σ424 86 36) := rfl
        have hw443 : σ424 86 37 = (σ424 86 37) := rfl
        have hw444 : σ424 86 39 = (σ424 86 39) := rfl
        exact ⟨_, rfl, hI426, hF427, u423, rfl, by omega, by omega⟩
      · skip
        refine qr_aload_n 13 rfl g421 rfl ?_
        refine qr_callN 16 rfl rfl rfl (sf_219_86t (d := d + 8) hI426 ) ?_
        have hs447 : 0 ≤ σ424 86 36 ∧ σ424 86 36 ≤ 120 := hI426.1 86 36
        have hs448 : 0 ≤ σ424 86 37 ∧ σ424 86 37 ≤ 120 := hI426.1 86 37
        rintro _ _ ⟨rfl, v445, rfl, hv445, hp446⟩
        show qr_W (qe L xs vb) (d + 9) qx_e216 _ (16, _, [.int (qz v445)], qw σ424 α κ ρ, 0, 0)
        refine qr_bipush 18 rfl (by decide) rfl ?_
        refine qr_icmp_eq 30 21 rfl rfl rfl (by omega) (by omega) (fun h449 => ?_) (fun h449 => ?_)
        · skip
          refine qr_aload_n 31 rfl g421 rfl ?_
          refine qr_callN 34 rfl rfl rfl (sf_219_86t (d := d + 8) hI426 ) ?_
          have hs452 : 0 ≤ σ424 86 36 ∧ σ424 86 36 ≤ 120 := hI426.1 86 36
          have hs453 : 0 ≤ σ424 86 37 ∧ σ424 86 37 ≤ 120 := hI426.1 86 37
          rintro _ _ ⟨rfl, v450, rfl, hv450, hp451⟩
          show qr_W (qe L xs vb) (d + 9) qx_e216 _ (34, _, [.int (qz v450)], qw σ424 α κ ρ, 0, 0)
          refine qr_bipush 36 rfl (by decide) rfl ?_
          refine qr_icmp_ne 43 39 rfl rfl rfl (by omega) (by omega) (fun h454 => ?_) (fun h454 => ?_)
          · skip
            refine qr_iconst 44 rfl rfl ?_
            refine qr_istore_n _ 45 rfl (by decide) rfl rfl ?_
            refine qr_aload_n 46 rfl (qm_gk g421 (by decide) (Or.inl (by decide))) rfl ?_
            refine qr_dup 47 rfl rfl rfl ?_
            refine qr_get 50 rfl rfl rfl (by decide) rfl ?_
            refine qr_iconst 51 rfl rfl ?_
            refine qr_iadd 52 rfl rfl ?_
            refine qr_put 55 rfl (by decide) rfl (Nat.le_of_ble_eq_true rfl) (Nat.le_of_ble_eq_true rfl) (Or.inl rfl) (qr_fitI rfl _) rfl ?_
            refine qy_wS (qw_s σ424 86 36 ((σ424 86 36) + 1)) rfl (fun σ455 e456 => ?_)
            have hI457 : qI σ455 α κ ρ := by rw [e456]; exact qI_s hI426 86 36 rfl (show 0 ≤ ((σ424 86 36) + 1) ∧ ((σ424 86 36) + 1) ≤ 120 by omega)
            have hF458 : qFr [(86, 36), (86, 38), (86, 39)] [] σ α σ455 α := by rw [e456]; exact qFr_s hF427 86 36 _ (by decide)
            refine qr_aload_n 56 rfl (qm_gk g421 (by decide) (Or.inl (by decide))) rfl ?_
            refine qr_callN 59 rfl rfl rfl (sf_217_86o5 (d := d + 0) hI457 (by omega) (by omega)) ?_
            have hs461 : 0 ≤ σ455 86 36 ∧ σ455 86 36 ≤ 120 := hI457.1 86 36
            have hs462 : σ455 86 36 = ((σ424 86 36) + 1) := (congrFun (congrFun e456 86) 36).trans rfl
            have hs463 : 0 ≤ σ455 86 37 ∧ σ455 86 37 ≤ 120 := hI457.1 86 37
            have hs464 : σ455 86 37 = (σ424 86 37) := (congrFun (congrFun e456 86) 37).trans rfl
            have hs465 : 0 ≤ σ455 86 39 ∧ σ455 86 39 ≤ 6 := hI457.1 86 39
            have hs466 : σ455 86 39 = (σ424 86 39) := (congrFun (congrFun e456 86) 39).trans rfl
            rintro _ _ ⟨σ467, rfl, hI468, hG469, v459, rfl, hv459, hp460⟩
            have hF470 : qFr [(86, 36), (86, 38), (86, 39)] [] σ α σ467 α := qFr_t hF458 hG469 (by decide) (by decide)
            have hs471 : 0 ≤ σ467 86 36 ∧ σ467 86 36 ≤ 120 := hI468.1 86 36
            have hs472 : 0 ≤ σ467 86 37 ∧ σ467 86 37 ≤ 120 := hI468.1 86 37
            have hs473 : 0 ≤ σ467 86 39 ∧ σ467 86 39 ≤ 6 := hI468.1 86 39
            show qr_W (qe L xs vb) (d + 9) qx_e216 _ (59, _, [.int (qz v459)], qw σ467 α κ ρ, 0, 0)
            refine qr_istore_n _ 60 rfl (by decide) rfl rfl ?_
            refine qr_iload_n 61 rfl (qm_gk (qm_ge _ _ _) (by decide) (Or.inr rfl)) rfl ?_
            refine qr_if_eq 70 64 rfl rfl rfl (by omega) (fun h474 => ?_) (fun h => False.elim (by omega))
            refine qr_iload_n 71 rfl (qm_gk (qm_gk g422 (by decide) (Or.inr rfl)) (by decide) (Or.inl (by decide))) rfl ?_
            refine qr_iload_n 72 rfl (qm_ge _ _ _) rfl ?_
            refine qr_isub 73 rfl rfl ?_
            refine qy_can (fun v475 hv475 => ?_)
            refine qr_istore_n _ 74 rfl (by decide) rfl rfl ?_
            refine qr_goto 5 rfl rfl ?_
            exact ih436 _ v475 σ467 (by omega) (qm_gk (qm_gk (qm_gk g421 (by decide) (Or.inl (by decide))) (by decide) (Or.inl (by decide))) (by decide) (Or.inr rfl)) (qm_ge _ _ _) (by omega) hI468 hF470 ((hG469.1 86 37 (by decide)).trans ((congrFun (congrFun e456 86) 37).trans rfl)) (by have hw0 : σ467 86 39 = (σ467 86 39) := rfl; have hw1 : σ467 86 36 = (σ467 86 36) := rfl; have hw2 : σ467 86 37 = (σ424 86 37) := (hG469.1 86 37 (by decide)).trans ((congrFun (congrFun e456 86) 37).trans rfl); omega) (by have hw0 : σ467 86 39 = (σ467 86 39) := rfl; have hw1 : σ467 86 36 = (σ467 86 36) := rfl; have hw2 : σ467 86 37 = (σ424 86 37) := (hG469.1 86 37 (by decide)).trans ((congrFun (congrFun e456 86) 37).trans rfl); omega) (by have hw0 : σ467 86 39 = (σ467 86 39) := rfl; have hw1 : σ467 86 36 = (σ467 86 36) := rfl; have hw2 : σ467 86 37 = (σ424 86 37) := (hG469.1 86 37 (by decide)).trans ((congrFun (congrFun e456 86) 37).trans rfl); omega) (by have hw0 : σ467 86 39 = (σ467 86 39) := rfl; have hw1 : σ467 86 36 = (σ467 86 36) := rfl; have hw2 : σ467 86 37 = (σ424 86 37) := (hG469.1 86 37 (by decide)).trans ((congrFun (congrFun e456 86) 37).trans rfl); omega) (by have hw0 : σ467 86 39 = (σ467 86 39) := rfl; have hw1 : σ467 86 36 = (σ467 86 36) := rfl; have hw2 : σ467 86 37 = (σ424 86 37) := (hG469.1 86 37 (by decide)).trans ((congrFun (congrFun e456 86) 37).trans rfl); omega)
          · skip
            refine qr_iconst 40 rfl rfl ?_
            refine qr_goto 44 rfl rfl ?_
            refine qr_istore_n _ 45 rfl (by decide) rfl rfl ?_
            refine qr_aload_n 46 rfl (qm_gk g421 (by decide) (Or.inl (by decide))) rfl ?_
            refine qr_dup 47 rfl rfl rfl ?_
            refine qr_get 50 rfl rfl rfl (by decide) rfl ?_
            refine qr_iconst 51 rfl rfl ?_
            refine qr_iadd 52 rfl rfl ?_
            refine qr_put 55 rfl (by decide) rfl (Nat.le_of_ble_eq_true rfl) (Nat.le_of_ble_eq_true rfl) (Or.inl rfl) (qr_fitI rfl _) rfl ?_
            refine qy_wS (qw_s σ424 86 36 ((σ424 86 36) + 1)) rfl (fun σ476 e477 => ?_)
            have hI478 : qI σ476 α κ ρ := by rw [e477]; exact qI_s hI426 86 36 rfl (show 0 ≤ ((σ424 86 36) + 1) ∧ ((σ424 86 36) + 1) ≤ 120 by omega)
            have hF479 : qFr [(86, 36), (86, 38), (86, 39)] [] σ α σ476 α := by rw [e477]; exact qFr_s hF427 86 36 _ (by decide)
            refine qr_aload_n 56 rfl (qm_gk g421 (by decide) (Or.inl (by decide))) rfl ?_
            refine qr_callN 59 rfl rfl rfl (sf_217_86o5 (d := d + 0) hI478 (by omega) (by omega)) ?_
            have hs482 : 0 ≤ σ476 86 36 ∧ σ476 86 36 ≤ 120 := hI478.1 86 36
            have hs483 : σ476 86 36 = ((σ424 86 36) + 1) := (congrFun (congrFun e477 86) 36).trans rfl
            have hs484 : 0 ≤ σ476 86 37 ∧ σ476 86 37 ≤ 120 := hI478.1 86 37
            have hs485 : σ476 86 37 = (σ424 86 37) := (congrFun (congrFun e477 86) 37).trans rfl
            have hs486 : 0 ≤ σ476 86 39 ∧ σ476 86 39 ≤ 6 := hI478.1 86 39
            have hs487 : σ476 86 39 = (σ424 86 39) := (congrFun (congrFun e477 86) 39).trans rfl
            rintro _ _ ⟨σ488, rfl, hI489, hG490, v480, rfl, hv480, hp481⟩
            have hF491 : qFr [(86, 36), (86, 38), (86, 39)] [] σ α σ488 α := qFr_t hF479 hG490 (by decide) (by decide)
            have hs492 : 0 ≤ σ488 86 36 ∧ σ488 86 36 ≤ 120 := hI489.1 86 36
            have hs493 : 0 ≤ σ488 86 37 ∧ σ488 86 37 ≤ 120 := hI489.1 86 37
            have hs494 : 0 ≤ σ488 86 39 ∧ σ488 86 39 ≤ 6 := hI489.1 86 39
            show qr_W (qe L xs vb) (d + 9) qx_e216 _ (59, _, [.int (qz v480)], qw σ488 α κ ρ, 0, 0)
            refine qr_istore_n _ 60 rfl (by decide) rfl rfl ?_
            refine qr_iload_n 61 rfl (qm_gk (qm_ge _ _ _) (by decide) (Or.inr rfl)) rfl ?_
            refine qr_if_eq 70 64 rfl rfl rfl (by omega) (fun h => False.elim (by omega)) (fun h495 => ?_)
            refine qr_iload_n 65 rfl (qm_gk (qm_gk g422 (by decide) (Or.inr rfl)) (by decide) (Or.inl (by decide))) rfl ?_
            refine qr_iload_n 66 rfl (qm_ge _ _ _) rfl ?_
            refine qr_iadd 67 rfl rfl ?_
            refine qy_can (fun v496 hv496 => ?_)
            refine qr_goto 73 rfl rfl ?_
            refine qr_istore_n _ 74 rfl (by decide) rfl rfl ?_
            refine qr_goto 5 rfl rfl ?_
            exact ih436 _ v496 σ488 (by omega) (qm_gk (qm_gk (qm_gk g421 (by decide) (Or.inl (by decide))) (by decide) (Or.inl (by decide))) (by decide) (Or.inr rfl)) (qm_ge _ _ _) (by omega) hI489 hF491 ((hG490.1 86 37 (by decide)).trans ((congrFun (congrFun e477 86) 37).trans rfl)) (by have hw0 : σ488 86 39 = (σ488 86 39) := rfl; have hw1 : σ488 86 36 = (σ488 86 36) := rfl; have hw2 : σ488 86 37 = (σ424 86 37) := (hG490.1 86 37 (by decide)).trans ((congrFun (congrFun e477 86) 37).trans rfl); omega) (by have hw0 : σ488 86 39 = (σ488 86 39) := rfl; have hw1 : σ488 86 36 = (σ488 86 36) := rfl; have hw2 : σ488 86 37 = (σ424 86 37) := (hG490.1 86 37 (by decide)).trans ((congrFun (congrFun e477 86) 37).trans rfl); omega) (by have hw0 : σ488 86 39 = (σ488 86 39) := rfl; have hw1 : σ488 86 36 = (σ488 86 36) := rfl; have hw2 : σ488 86 37 = (σ424 86 37) := (hG490.1 86 37 (by decide)).trans ((congrFun (congrFun e477 86) 37).trans rfl); omega) (by have hw0 : σ488 86 39 = (σ488 86 39) := rfl; have hw1 : σ488 86 36 = (σ488 86 36) := rfl; have hw2 : σ488 86 37 = (σ424 86 37) := (hG490.1 86 37 (by decide)).trans ((congrFun (congrFun e477 86) 37).trans rfl); omega) (by have hw0 : σ488 86 39 = (σ488 86 39) := rfl; have hw1 : σ488 86 36 = (σ488 86 36) := rfl; have hw2 : σ488 86 37 = (σ424 86 37) := (hG490.1 86 37 (by decide)).trans ((congrFun (congrFun e477 86) 37).trans rfl); omega)
        · skip
          refine qr_aload_n 22 rfl g421 rfl ?_
          refine qr_callN 25 rfl rfl rfl (sf_219_86t (d := d + 8) hI426 ) ?_
          have hs499 : 0 ≤ σ424 86 36 ∧ σ424 86 36 ≤ 120 := hI426.1 86 36
          have hs500 : 0 ≤ σ424 86 37 ∧ σ424 86 37 ≤ 120 := hI426.1 86 37
          rintro _ _ ⟨rfl, v497, rfl, hv497, hp498⟩
          show qr_W (qe L xs vb) (d + 9) qx_e216 _ (25, _, [.int (qz v497)], qw σ424 α κ ρ, 0, 0)
          refine qr_bipush 27 rfl (by decide) rfl ?_
          refine qr_icmp_ne 77 30 rfl rfl rfl (by omega) (by omega) (fun h501 => ?_) (fun h501 => ?_)
          · skip
            refine qr_iload_n 78 rfl g422 rfl ?_
            refine qr_retI rfl rfl (by decide) (by decide) ?_
            have hw502 : σ424 86 36 = (σ424 86 36) := rfl
            have hw503 : σ424 86 37 = (σ424 86 37) := rfl
            have hw504 : σ424 86 39 = (σ424 86 39) := rfl
            exact ⟨_, rfl, hI426, hF427, u423, rfl, by omega, by omega⟩
          · skip
            refine qr_aload_n 31 rfl g421 rfl ?_
            refine qr_callN 34 rfl rfl rfl (sf_219_86t (d := d + 8) hI426 ) ?_
            have hs507 : 0 ≤ σ424 86 36 ∧ σ424 86 36 ≤ 120 := hI426.1 86 36
            have hs508 : 0 ≤ σ424 86 37 ∧ σ424 86 37 ≤ 120 := hI426.1 86 37
            rintro _ _ ⟨rfl, v505, rfl, hv505, hp506⟩
            show qr_W (qe L xs vb) (d + 9) qx_e216 _ (34, _, [.int (qz v505)], qw σ424 α κ ρ, 0, 0)
            refine qr_bipush 36 rfl (by decide) rfl ?_
            refine qr_icmp_ne 43 39 rfl rfl rfl (by omega) (by omega) (fun h509 => ?_) (fun h509 => ?_)
            · skip
              refine qr_iconst 44 rfl rfl ?_
              refine qr_istore_n _ 45 rfl (by decide) rfl rfl ?_
              refine qr_aload_n 46 rfl (qm_gk g421 (by decide) (Or.inl (by decide))) rfl ?_
              refine qr_dup 47 rfl rfl rfl ?_
              refine qr_get 50 rfl rfl rfl (by decide) rfl ?_
              refine qr_iconst 51 rfl rfl ?_
              refine qr_iadd 52 rfl rfl ?_
              refine qr_put 55 rfl (by decide) rfl (Nat.le_of_ble_eq_true rfl) (Nat.le_of_ble_eq_true rfl) (Or.inl rfl) (qr_fitI rfl _) rfl ?_
              refine qy_wS (qw_s σ424 86 36 ((σ424 86 36) + 1)) rfl (fun σ510 e511 => ?_)
              have hI512 : qI σ510 α κ ρ := by rw [e511]; exact qI_s hI426 86 36 rfl (show 0 ≤ ((σ424 86 36) + 1) ∧ ((σ424 86 36) + 1) ≤ 120 by omega)
              have hF513 : qFr [(86, 36), (86, 38), (86, 39)] [] σ α σ510 α := by rw [e511]; exact qFr_s hF427 86 36 _ (by decide)
              refine qr_aload_n 56 rfl (qm_gk g421 (by decide) (Or.inl (by decide))) rfl ?_
              refine qr_callN 59 rfl rfl rfl (sf_217_86o5 (d := d + 0) hI512 (by omega) (by omega)) ?_
              have hs516 : 0 ≤ σ510 86 36 ∧ σ510 86 36 ≤ 120 := hI512.1 86 36
              have hs517 : σ510 86 36 = ((σ424 86 36) + 1) := (congrFun (congrFun e511 86) 36).trans rfl
              have hs518 : 0 ≤ σ510 86 37 ∧ σ510 86 37 ≤ 120 := hI512.1 86 37
              have hs519 : σ510 86 37 = (σ424 86 37) := (congrFun (congrFun e511 86) 37).trans rfl
              have hs520 : 0 ≤ σ510 86 39 ∧ σ510 86 39 ≤ 6 := hI512.1 86 39
              have hs521 : σ510 86 39 = (σ424 86 39) := (congrFun (congrFun e511 86) 39).trans rfl
              rintro _ _ ⟨σ522, rfl, hI523, hG524, v514, rfl, hv514, hp515⟩
              have hF525 : qFr [(86, 36), (86, 38), (86, 39)] [] σ α σ522 α := qFr_t hF513 hG524 (by decide) (by decide)
              have hs526 : 0 ≤ σ522 86 36 ∧ σ522 86 36 ≤ 120 := hI523.1 86 36
              have hs527 : 0 ≤ σ522 86 37 ∧ σ522 86 37 ≤ 120 := hI523.1 86 37
              have hs528 : 0 ≤ σ522 86 39 ∧ σ522 86 39 ≤ 6 := hI523.1 86 39
              show qr_W (qe L xs vb) (d + 9) qx_e216 _ (59, _, [.int (qz v514)], qw σ522 α κ ρ, 0, 0)
              refine qr_istore_n _ 60 rfl (by decide) rfl rfl ?_
              refine qr_iload_n 61 rfl (qm_gk (qm_ge _ _ _) (by decide) (Or.inr rfl)) rfl ?_
              refine qr_if_eq 70 64 rfl rfl rfl (by omega) (fun h529 => ?_) (fun h => False.elim (by omega))
              refine qr_iload_n 71 rfl (qm_gk (qm_gk g422 (by decide) (Or.inr rfl)) (by decide) (Or.inl (by decide))) rfl ?_
              refine qr_iload_n 72 rfl (qm_ge _ _ _) rfl ?_
              refine qr_isub 73 rfl rfl ?_
              refine qy_can (fun v530 hv530 => ?_)
              refine qr_istore_n _ 74 rfl (by decide) rfl rfl ?_
              refine qr_goto 5 rfl rfl ?_
              exact ih436 _ v530 σ522 (by omega) (qm_gk (qm_gk (qm_gk g421 (by decide) (Or.inl (by decide))) (by decide) (Or.inl (by decide))) (by decide) (Or.inr rfl)) (qm_ge _ _ _) (by omega) hI523 hF525 ((hG524.1 86 37 (by decide)).trans ((congrFun (congrFun e511 86) 37).trans rfl)) (by have hw0 : σ522 86 39 = (σ522 86 39) := rfl; have hw1 : σ522 86 36 = (σ522 86 36) := rfl; have hw2 : σ522 86 37 = (σ424 86 37) := (hG524.1 86 37 (by decide)).trans ((congrFun (congrFun e511 86) 37).trans rfl); omega) (by have hw0 : σ522 86 39 = (σ522 86 39) := rfl; have hw1 : σ522 86 36 = (σ522 86 36) := rfl; have hw2 : σ522 86 37 = (σ424 86 37) := (hG524.1 86 37 (by decide)).trans ((congrFun (congrFun e511 86) 37).trans rfl); omega) (by have hw0 : σ522 86 39 = (σ522 86 39) := rfl; have hw1 : σ522 86 36 = (σ522 86 36) := rfl; have hw2 : σ522 86 37 = (σ424 86 37) := (hG524.1 86 37 (by decide)).trans ((congrFun (congrFun e511 86) 37).trans rfl); omega) (by have hw0 : σ522 86 39 = (σ522 86 39) := rfl; have hw1 : σ522 86 36 = (σ522 86 36) := rfl; have hw2 : σ522 86 37 = (σ424 86 37) := (hG524.1 86 37 (by decide)).trans ((congrFun (congrFun e511 86) 37).trans rfl); omega) (by have hw0 : σ522 86 39 = (σ522 86 39) := rfl; have hw1 : σ522 86 36 = (σ522 86 36) := rfl; have hw2 : σ522 86 37 = (σ424 86 37) := (hG524.1 86 37 (by decide)).trans ((congrFun (congrFun e511 86) 37).trans rfl); omega)
            · skip
              refine qr_iconst 40 rfl rfl ?_
              refine qr_goto 44 rfl rfl ?_
              refine qr_istore_n _ 45 rfl (by decide) rfl rfl ?_
              refine qr_aload_n 46 rfl (qm_gk g421 (by decide) (Or.inl (by decide))) rfl ?_
              refine qr_dup 47 rfl rfl rfl ?_
              refine qr_get 50 rfl rfl rfl (by decide) rfl ?_
              refine qr_iconst 51 rfl rfl ?_
              refine qr_iadd 52 rfl rfl ?_
              refine qr_put 55 rfl (by decide) rfl (Nat.le_of_ble_eq_true rfl) (Nat.le_of_ble_eq_true rfl) (Or.inl rfl) (qr_fitI rfl _) rfl ?_
              refine qy_wS (qw_s σ424 86 36 ((σ424 86 36) + 1)) rfl (fun σ531 e532 => ?_)
              have hI533 : qI σ531 α κ ρ := by rw [e532]; exact qI_s hI426 86 36 rfl (show 0 ≤ ((σ424 86 36) + 1) ∧ ((σ424 86 36) + 1) ≤ 120 by omega)
              have hF534 : qFr [(86, 36), (86, 38), (86, 39)] [] σ α σ531 α := by rw [e532]; exact qFr_s hF427 86 36 _ (by decide)
              refine qr_aload_n 56 rfl (qm_gk g421 (by decide) (Or.inl (by decide))) rfl ?_
              refine qr_callN 59 rfl rfl rfl (sf_217_86o5 (d := d + 0) hI533 (by omega) (by omega)) ?_
              have hs537 : 0 ≤ σ531 86 36 ∧ σ531 86 36 ≤ 120 := hI533.1 86 36
              have hs538 : σ531 86 36 = ((σ424 86 36) + 1) := (congrFun (congrFun e532 86) 36).trans rfl
              have hs539 : 0 ≤ σ531 86 37 ∧ σ531 86 37 ≤ 120 := hI533.1 86 37
              have hs540 : σ531 86 37 = (σ424 86 37) := (congrFun (congrFun e532 86) 37).trans rfl
              have hs541 : 0 ≤ σ531 86 39 ∧ σ531 86 39 ≤ 6 := hI533.1 86 39
              have hs542 : σ531 86 39 = (σ424 86 39) := (congrFun (congrFun e532 86) 39).trans rfl
              rintro _ _ ⟨σ543, rfl, hI544, hG545, v535, rfl, hv535, hp536⟩
              have hF546 : qFr [(86, 36), (86, 38), (86, 39)] [] σ α σ543 α := qFr_t hF534 hG545 (by decide) (by decide)
              have hs547 : 0 ≤ σ543 86 36 ∧ σ543 86 36 ≤ 120 := hI544.1 86 36
              have hs548 : 0 ≤ σ543 86 37 ∧ σ543 86 37 ≤ 120 := hI544.1 86 37
              have hs549 : 0 ≤ σ543 86 39 ∧ σ543 86 39 ≤ 6 := hI544.1 86 39
              show qr_W (qe L xs vb) (d + 9) qx_e216 _ (59, _, [.int (qz v535)], qw σ543 α κ ρ, 0, 0)
              refine qr_istore_n _ 60 rfl (by decide) rfl rfl ?_
              refine qr_iload_n 61 rfl (qm_gk (qm_ge _ _ _) (by decide) (Or.inr rfl)) rfl ?_
              refine qr_if_eq 70 64 rfl rfl rfl (by omega) (fun h => False.elim (by omega)) (fun h550 => ?_)
              refine qr_iload_n 65 rfl (qm_gk (qm_gk g422 (by decide) (Or.inr rfl)) (by decide) (Or.inl (by decide))) rfl ?_
              refine qr_iload_n 66 rfl (qm_ge _ _ _) rfl ?_
              refine qr_iadd 67 rfl rfl ?_
              refine qy_can (fun v551 hv551 => ?_)
              refine qr_goto 73 rfl rfl ?_
              refine qr_istore_n _ 74 rfl (by decide) rfl rfl ?_
              refine qr_goto 5 rfl rfl ?_
              exact ih436 _ v551 σ543 (by omega) (qm_gk (qm_gk (qm_gk g421 (by decide) (Or.inl (by decide))) (by decide) (Or.inl (by decide))) (by decide) (Or.inr rfl)) (qm_ge _ _ _) (by omega) hI544 hF546 ((hG545.1 86 37 (by decide)).trans ((congrFun (congrFun e532 86) 37).trans rfl)) (by have hw0 : σ543 86 39 = (σ543 86 39) := rfl; have hw1 : σ543 86 36 = (σ543 86 36) := rfl; have hw2 : σ543 86 37 = (σ424 86 37) := (hG545.1 86 37 (by decide)).trans ((congrFun (congrFun e532 86) 37).trans rfl); omega) (by have hw0 : σ543 86 39 = (σ543 86 39) := rfl; have hw1 : σ543 86 36 = (σ543 86 36) := rfl; have hw2 : σ543 86 37 = (σ424 86 37) := (hG545.1 86 37 (by decide)).trans ((congrFun (congrFun e532 86) 37).trans rfl); omega) (by have hw0 : σ543 86 39 = (σ543 86 39) := rfl; have hw1 : σ543 86 36 = (σ543 86 36) := rfl; have hw2 : σ543 86 37 = (σ424 86 37) := (hG545.1 86 37 (by decide)).trans ((congrFun (congrFun e532 86) 37).trans rfl); omega) (by have hw0 : σ543 86 39 = (σ543 86 39) := rfl; have hw1 : σ543 86 36 = (σ543 86 36) := rfl; have hw2 : σ543 86 37 = (σ424 86 37) := (hG545.1 86 37 (by decide)).trans ((congrFun (congrFun e532 86) 37).trans rfl); omega) (by have hw0 : σ543 86 39 = (σ543 86 39) := rfl; have hw1 : σ543 86 36 = (σ543 86 36) := rfl; have hw2 : σ543 86 37 = (σ424 86 37) := (hG545.1 86 37 (by decide)).trans ((congrFun (congrFun e532 86) 37).trans rfl); omega)
  exact hL435 ((((120 - σ6 86 36).toNat : Int) + 1 : Int)).toNat _ v1 σ6 (by omega) rfl rfl (by omega) hI7 hF9 ((hG8.1 86 37 (by decide)).trans rfl) (by have hw0 : σ6 86 39 = (σ6 86 39) := rfl; have hw1 : σ6 86 36 = (σ6 86 36) := rfl; have hw2 : σ6 86 37 = (σ 86 37) := (hG8.1 86 37 (by decide)).trans rfl; omega) (by have hw0 : σ6 86 39 = (σ6 86 39) := rfl; have hw1 : σ6 86 36 = (σ6 86 36) := rfl; have hw2 : σ6 86 37 = (σ 86 37) := (hG8.1 86 37 (by decide)).trans rfl; omega) (by have hw0 : σ6 86 39 = (σ6 86 39) := rfl; have hw1 : σ6 86 36 = (σ6 86 36) := rfl; have hw2 : σ6 86 37 = (σ 86 37) := (hG8.1 86 37 (by decide)).trans rfl; omega) (by have hw0 : σ6 86 39 = (σ6 86 39) := rfl; have hw1 : σ6 86 36 = (σ6 86 36) := rfl; have hw2 : σ6 86 37 = (σ 86 37) := (hG8.1 86 37 (by decide)).trans rfl; omega) (by have hw0 : σ6 86 39 = (σ6 86 39) := rfl; have hw1 : σ6 86 36 = (σ6 86 36) := rfl; have hw2 : σ6 86 37 = (σ 86 37) := (hG8.1 86 37 (by decide)).trans rfl; omega)

set_option maxHeartbeats 4000000 in
set_option maxRecDepth 20000 in
/-- OneRoofModel.compared -/
theorem sf_215_86o5 {L : Nat} {xs : Nat → Int} {vb : Bool} {d : Nat} {σ α : Nat → Nat → Int} {κ : Nat → Option Nat} {ρ : Nat}  (hI : qI σ α κ ρ) (p0 : 5 ≤ σ 86 39) (p1 : σ 86 36 ≤ σ 86 37) : qm_T (qe L xs vb) (d + 11) 215 [.ref 86] (qw σ α κ ρ) (fun r w' => ∃ σ', w' = qw σ' α κ ρ ∧ qI σ' α κ ρ ∧ qFr [(86, 36), (86, 38), (86, 39)] [] σ α σ' α ∧ ∃ v : Int, r = some (.int (qz v)) ∧ ((-2147483648) ≤ v ∧ v ≤ 2147483647) ∧ σ 86 39 ≤ σ' 86 39 ∧ σ 86 36 ≤ σ' 86 36 ∧ σ' 86 36 ≤ σ' 86 37 ∧ σ' 86 37 = σ 86 37) := by
  refine qr_start (d := d + 10) qv_e215 (Nat.le_of_ble_eq_true rfl) ?_
  show qr_W (qe L xs vb) (d + 10) qx_e215 _ (0, [(0, .ref 86)], [], _, 0, 0)
  have hF0 := qFr_rf [(86, 36), (86, 38), (86, 39)] [] σ α
  have hz86_39 : 0 ≤ σ 86 39 ∧ σ 86 39 ≤ 6 := hI.1 86 39
  have hz86_36 : 0 ≤ σ 86 36 ∧ σ 86 36 ≤ 120 := hI.1 86 36
  have hz86_37 : 0 ≤ σ 86 37 ∧ σ 86 37 ≤ 120 := hI.1 86 37
  refine qr_aload_n 1 rfl rfl rfl ?_
  refine qr_callN 4 rfl rfl rfl (sf_216_86o5 (d := d + 0) hI (by omega) (by omega)) ?_
  have hs3 : 0 ≤ σ 86 36 ∧ σ 86 36 ≤ 120 := hI.1 86 36
  have hs4 : 0 ≤ σ 86 37 ∧ σ 86 37 ≤ 120 := hI.1 86 37
  have hs5 : 0 ≤ σ 86 39 ∧ σ 86 39 ≤ 6 := hI.1 86 39
  rintro _ _ ⟨σ6, rfl, hI7, hG8, v1, rfl, hv1, hp2⟩
  have hF9 : qFr [(86, 36), (86, 38), (86, 39)] [] σ α σ6 α := qFr_t hF0 hG8 (by decide) (by decide)
  have hs10 : 0 ≤ σ6 86 36 ∧ σ6 86 36 ≤ 120 := hI7.1 86 36
  have hs11 : 0 ≤ σ6 86 37 ∧ σ6 86 37 ≤ 120 := hI7.1 86 37
  have hs12 : 0 ≤ σ6 86 39 ∧ σ6 86 39 ≤ 6 := hI7.1 86 39
  show qr_W (qe L xs vb) (d + 10) qx_e215 _ (4, _, [.int (qz v1)], qw σ6 α κ ρ, 0, 0)
  refine qr_istore_n _ 5 rfl (by decide) rfl rfl ?_
  refine qr_aload_n 6 rfl rfl rfl ?_
  refine qr_callN 9 rfl rfl rfl (sf_219_86t (d := d + 9) hI7 ) ?_
  have hs15 : 0 ≤ σ6 86 36 ∧ σ6 86 36 ≤ 120 := hI7.1 86 36
  have hs16 : 0 ≤ σ6 86 37 ∧ σ6 86 37 ≤ 120 := hI7.1 86 37
  have hs17 : σ6 86 37 = (σ 86 37) := (hG8.1 86 37 (by decide)).trans rfl
  rintro _ _ ⟨rfl, v13, rfl, hv13, hp14⟩
  show qr_W (qe L xs vb) (d + 10) qx_e215 _ (9, _, [.int (qz v13)], qw σ6 α κ ρ, 0, 0)
  refine qr_istore_n _ 10 rfl (by decide) rfl rfl ?_
  refine qr_aload_n 11 rfl rfl rfl ?_
  refine qr_get 14 rfl rfl rfl (by decide) rfl ?_
  have hs18 : (-1) ≤ σ6 86 38 ∧ σ6 86 38 ≤ 120 := hI7.1 86 38
  refine qr_if_ge 35 17 rfl rfl rfl (by omega) (fun h19 => ?_) (fun h19 => ?_)
  · skip
    refine qr_iload_n 36 rfl rfl rfl ?_
    refine qr_retI rfl rfl (by decide) (by decide) ?_
    have hw20 : σ6 86 36 = (σ6 86 36) := rfl
    have hw21 : σ6 86 37 = (σ 86 37) := (hG8.1 86 37 (by decide)).trans rfl
    have hw22 : σ6 86 39 = (σ6 86 39) := rfl
    exact ⟨_, rfl, hI7, hF9, v1, rfl, by omega, by omega⟩
  · skip
    refine qr_iload_n 18 rfl rfl rfl ?_
    refine qr_bipush 20 rfl (by decide) rfl ?_
    refine qr_icmp_eq 37 23 rfl rfl rfl (by omega) (by omega) (fun h23 => ?_) (fun h23 => ?_)
    · skip
      refine qr_aload_n 38 rfl rfl rfl ?_
      refine qr_dup 39 rfl rfl rfl ?_
      refine qr_get 42 rfl rfl rfl (by decide) rfl ?_
      refine qr_iconst 43 rfl rfl ?_
      refine qr_iadd 44 rfl rfl ?_
      refine qr_put 47 rfl (by decide) rfl (Nat.le_of_ble_eq_true rfl) (Nat.le_of_ble_eq_true rfl) (Or.inl rfl) (qr_fitI rfl _) rfl ?_
      refine qy_wS (qw_s σ6 86 36 ((σ6 86 36) + 1)) rfl (fun σ24 e25 => ?_)
      have hI26 : qI σ24 α κ ρ := by rw [e25]; exact qI_s hI7 86 36 rfl (show 0 ≤ ((σ6 86 36) + 1) ∧ ((σ6 86 36) + 1) ≤ 120 by omega)
      have hF27 : qFr [(86, 36), (86, 38), (86, 39)] [] σ α σ24 α := by rw [e25]; exact qFr_s hF9 86 36 _ (by decide)
      refine qr_aload_n 48 rfl rfl rfl ?_
      refine qr_callN 51 rfl rfl rfl (sf_216_86o5 (d := d + 0) hI26 (by omega) (by omega)) ?_
      have hs30 : 0 ≤ σ24 86 36 ∧ σ24 86 36 ≤ 120 := hI26.1 86 36
      have hs31 : σ24 86 36 = ((σ6 86 36) + 1) := (congrFun (congrFun e25 86) 36).trans rfl
      have hs32 : 0 ≤ σ24 86 37 ∧ σ24 86 37 ≤ 120 := hI26.1 86 37
      have hs33 : σ24 86 37 = (σ 86 37) := (congrFun (congrFun e25 86) 37).trans ((hG8.1 86 37 (by decide)).trans rfl)
      have hs34 : 0 ≤ σ24 86 39 ∧ σ24 86 39 ≤ 6 := hI26.1 86 39
      have hs35 : σ24 86 39 = (σ6 86 39) := (congrFun (congrFun e25 86) 39).trans rfl
      rintro _ _ ⟨σ36, rfl, hI37, hG38, v28, rfl, hv28, hp29⟩
      have hF39 : qFr [(86, 36), (86, 38), (86, 39)] [] σ α σ36 α := qFr_t hF27 hG38 (by decide) (by decide)
      have hs40 : 0 ≤ σ36 86 36 ∧ σ36 86 36 ≤ 120 := hI37.1 86 36
      have hs41 : 0 ≤ σ36 86 37 ∧ σ36 86 37 ≤ 120 := hI37.1 86 37
      have hs42 : 0 ≤ σ36 86 39 ∧ σ36 86 39 ≤ 6 := hI37.1 86 39
      show qr_W (qe L xs vb) (d + 10) qx_e215 _ (51, _, [.int (qz v28)], qw σ36 α κ ρ, 0, 0)
      refine qr_istore_n _ 52 rfl (by decide) rfl rfl ?_
      refine qr_iload_n 53 rfl rfl rfl ?_
      refine qr_bipush 55 rfl (by decide) rfl ?_
      refine qr_icmp_ne 66 58 rfl rfl rfl (by omega) (by omega) (fun h => False.elim (by omega)) (fun h43 => ?_)
      refine qr_iload_n 59 rfl rfl rfl ?_
      refine qr_iload_n 60 rfl rfl rfl ?_
      refine qr_icmp_ge 89 63 rfl rfl rfl (by omega) (by omega) (fun h44 => ?_) (fun h44 => ?_)
      · skip
        refine qr_iconst 90 rfl rfl ?_
        refine qr_retI rfl rfl (by decide) (by decide) ?_
        have hw45 : σ36 86 36 = (σ36 86 36) := rfl
        have hw46 : σ36 86 37 = (σ 86 37) := (hG38.1 86 37 (by decide)).trans ((congrFun (congrFun e25 86) 37).trans ((hG8.1 86 37 (by decide)).trans rfl))
        have hw47 : σ36 86 39 = (σ36 86 39) := rfl
        exact ⟨_, rfl, hI37, hF39, 0, rfl, by omega, by omega⟩
      · skip
        refine qr_goto 85 rfl rfl ?_
        refine qr_iconst 86 rfl rfl ?_
        refine qr_goto 90 rfl rfl ?_
        refine qr_retI rfl rfl (by decide) (by decide) ?_
        have hw48 : σ36 86 36 = (σ36 86 36) := rfl
        have hw49 : σ36 86 37 = (σ 86 37) := (hG38.1 86 37 (by decide)).trans ((congrFun (congrFun e25 86) 37).trans ((hG8.1 86 37 (by decide)).trans rfl))
        have hw50 : σ36 86 39 = (σ36 86 39) := rfl
        exact ⟨_, rfl, hI37, hF39, 1, rfl, by omega, by omega⟩
    · skip
      refine qr_iload_n 24 rfl rfl rfl ?_
      refine qr_bipush 26 rfl (by decide) rfl ?_
      refine qr_icmp_eq 37 29 rfl rfl rfl (by omega) (by omega) (fun h51 => ?_) (fun h51 => ?_)
      · skip
        refine qr_aload_n 38 rfl rfl rfl ?_
        refine qr_dup 39 rfl rfl rfl ?_
        refine qr_get 42 rfl rfl rfl (by decide) rfl ?_
        refine qr_iconst 43 rfl rfl ?_
        refine qr_iadd 44 rfl rfl ?_
        refine qr_put 47 rfl (by decide) rfl (Nat.le_of_ble_eq_true rfl) (Nat.le_of_ble_eq_true rfl) (Or.inl rfl) (qr_fitI rfl _) rfl ?_
        refine qy_wS (qw_s σ6 86 36 ((σ6 86 36) + 1)) rfl (fun σ52 e53 => ?_)
        have hI54 : qI σ52 α κ ρ := by rw [e53]; exact qI_s hI7 86 36 rfl (show 0 ≤ ((σ6 86 36) + 1) ∧ ((σ6 86 36) + 1) ≤ 120 by omega)
        have hF55 : qFr [(86, 36), (86, 38), (86, 39)] [] σ α σ52 α := by rw [e53]; exact qFr_s hF9 86 36 _ (by decide)
        refine qr_aload_n 48 rfl rfl rfl ?_
        refine qr_callN 51 rfl rfl rfl (sf_216_86o5 (d := d + 0) hI54 (by omega) (by omega)) ?_
        have hs58 : 0 ≤ σ52 86 36 ∧ σ52 86 36 ≤ 120 := hI54.1 86 36
        have hs59 : σ52 86 36 = ((σ6 86 36) + 1) := (congrFun (congrFun e53 86) 36).trans rfl
        have hs60 : 0 ≤ σ52 86 37 ∧ σ52 86 37 ≤ 120 := hI54.1 86 37
        have hs61 : σ52 86 37 = (σ 86 37) := (congrFun (congrFun e53 86) 37).trans ((hG8.1 86 37 (by decide)).trans rfl)
        have hs62 : 0 ≤ σ52 86 39 ∧ σ52 86 39 ≤ 6 := hI54.1 86 39
        have hs63 : σ52 86 39 = (σ6 86 39) := (congrFun (congrFun e53 86) 39).trans rfl
        rintro _ _ ⟨σ64, rfl, hI65, hG66, v56, rfl, hv56, hp57⟩
        have hF67 : qFr [(86, 36), (86, 38), (86, 39)] [] σ α σ64 α := qFr_t hF55 hG66 (by decide) (by decide)
        have hs68 : 0 ≤ σ64 86 36 ∧ σ64 86 36 ≤ 120 := hI65.1 86 36
        have hs69 : 0 ≤ σ64 86 37 ∧ σ64 86 37 ≤ 120 := hI65.1 86 37
        have hs70 : 0 ≤ σ64 86 39 ∧ σ64 86 39 ≤ 6 := hI65.1 86 39
        show qr_W (qe L xs vb) (d + 10) qx_e215 _ (51, _, [.int (qz v56)], qw σ64 α κ ρ, 0, 0)
        refine qr_istore_n _ 52 rfl (by decide) rfl rfl ?_
        refine qr_iload_n 53 rfl rfl rfl ?_
        refine qr_bipush 55 rfl (by decide) rfl ?_
        refine qr_icmp_ne 66 58 rfl rfl rfl (by omega) (by omega) (fun h71 => ?_) (fun h => False.elim (by omega))
        refine qr_iload_n 67 rfl rfl rfl ?_
        refine qr_bipush 69 rfl (by decide) rfl ?_
        refine qr_icmp_ne 80 72 rfl rfl rfl (by omega) (by omega) (fun h => False.elim (by omega)) (fun h72 => ?_)
        refine qr_iload_n 73 rfl rfl rfl ?_
        refine qr_iload_n 74 rfl rfl rfl ?_
        refine qr_icmp_ne 89 77 rfl rfl rfl (by omega) (by omega) (fun h73 => ?_) (fun h73 => ?_)
        · skip
          refine qr_iconst 90 rfl rfl ?_
          refine qr_retI rfl rfl (by decide) (by decide) ?_
          have hw74 : σ64 86 36 = (σ64 86 36) := rfl
          have hw75 : σ64 86 37 = (σ 86 37) := (hG66.1 86 37 (by decide)).trans ((congrFun (congrFun e53 86) 37).trans ((hG8.1 86 37 (by decide)).trans rfl))
          have hw76 : σ64 86 39 = (σ64 86 39) := rfl
          exact ⟨_, rfl, hI65, hF67, 0, rfl, by omega, by omega⟩
        · skip
          refine qr_goto 85 rfl rfl ?_
          refine qr_iconst 86 rfl rfl ?_
          refine qr_goto 90 rfl rfl ?_
          refine qr_retI rfl rfl (by decide) (by decide) ?_
          have hw77 : σ64 86 36 = (σ64 86 36) := rfl
          have hw78 : σ64 86 37 = (σ 86 37) := (hG66.1 86 37 (by decide)).trans ((congrFun (congrFun e53 86) 37).trans ((hG8.1 86 37 (by decide)).trans rfl))
          have hw79 : σ64 86 39 = (σ64 86 39) := rfl
          exact ⟨_, rfl, hI65, hF67, 1, rfl, by omega, by omega⟩
      · skip
        refine qr_iload_n 30 rfl rfl rfl ?_
        refine qr_bipush 32 rfl (by decide) rfl ?_
        refine qr_icmp_eq 37 35 rfl rfl rfl (by omega) (by omega) (fun h80 => ?_) (fun h80 => ?_)
        · skip
          refine qr_aload_n 38 rfl rfl rfl ?_
          refine qr_dup 39 rfl rfl rfl ?_
          refine qr_get 42 rfl rfl rfl (by decide) rfl ?_
          refine qr_iconst 43 rfl rfl ?_
          refine qr_iadd 44 rfl rfl ?_
          refine qr_put 47 rfl (by decide) rfl (Nat.le_of_ble_eq_true rfl) (Nat.le_of_ble_eq_true rfl) (Or.inl rfl) (qr_fitI rfl _) rfl ?_
          refine qy_wS (qw_s σ6 86 36 ((σ6 86 36) + 1)) rfl (fun σ81 e82 => ?_)
          have hI83 : qI σ81 α κ ρ := by rw [e82]; exact qI_s hI7 86 36 rfl (show 0 ≤ ((σ6 86 36) + 1) ∧ ((σ6 86 36) + 1) ≤ 120 by omega)
          have hF84 : qFr [(86, 36), (86, 38), (86, 39)] [] σ α σ81 α := by rw [e82]; exact qFr_s hF9 86 36 _ (by decide)
          refine qr_aload_n 48 rfl rfl rfl ?_
          refine qr_callN 51 rfl rfl rfl (sf_216_86o5 (d := d + 0) hI83 (by omega) (by omega)) ?_
          have hs87 : 0 ≤ σ81 86 36 ∧ σ81 86 36 ≤ 120 := hI83.1 86 36
          have hs88 : σ81 86 36 = ((σ6 86 36) + 1) := (congrFun (congrFun e82 86) 36).trans rfl
          have hs89 : 0 ≤ σ81 86 37 ∧ σ81 86 37 ≤ 120 := hI83.1 86 37
          have hs90 : σ81 86 37 = (σ 86 37) := (congrFun (congrFun e82 86) 37).trans ((hG8.1 86 37 (by decide)).trans rfl)
          have hs91 : 0 ≤ σ81 86 39 ∧ σ81 86 39 ≤ 6 := hI83.1 86 39
          have hs92 : σ81 86 39 = (σ6 86 39) := (congrFun (congrFun e82 86) 39).trans rfl
          rintro _ _ ⟨σ93, rfl, hI94, hG95, v85, rfl, hv85, hp86⟩
          have hF96 : qFr [(86, 36), (86, 38), (86, 39)] [] σ α σ93 α := qFr_t hF84 hG95 (by decide) (by decide)
          have hs97 : 0 ≤ σ93 86 36 ∧ σ93 86 36 ≤ 120 := hI94.1 86 36
          have hs98 : 0 ≤ σ93 86 37 ∧ σ93 86 37 ≤ 120 := hI94.1 86 37
          have hs99 : 0 ≤ σ93 86 39 ∧ σ93 86 39 ≤ 6 := hI94.1 86 39
          show qr_W (qe L xs vb) (d + 10) qx_e215 _ (51, _, [.int (qz v85)], qw σ93 α κ ρ, 0, 0)
          refine qr_istore_n _ 52 rfl (by decide) rfl rfl ?_
          refine qr_iload_n 53 rfl rfl rfl ?_
          refine qr_bipush 55 rfl (by decide) rfl ?_
          refine qr_icmp_ne 66 58 rfl rfl rfl (by omega) (by omega) (fun h100 => ?_) (fun h => False.elim (by omega))
          refine qr_iload_n 67 rfl rfl rfl ?_
          refine qr_bipush 69 rfl (by decide) rfl ?_
          refine qr_icmp_ne 80 72 rfl rfl rfl (by omega) (by omega) (fun h101 => ?_) (fun h => False.elim (by omega))
          refine qr_iload_n 81 rfl rfl rfl ?_
          refine qr_iload_n 82 rfl rfl rfl ?_
          refine qr_icmp_le 89 85 rfl rfl rfl (by omega) (by omega) (fun h102 => ?_) (fun h102 => ?_)
          · skip
            refine qr_iconst 90 rfl rfl ?_
            refine qr_retI rfl rfl (by decide) (by decide) ?_
            have hw103 : σ93 86 36 = (σ93 86 36) := rfl
            have hw104 : σ93 86 37 = (σ 86 37) := (hG95.1 86 37 (by decide)).trans ((congrFun (congrFun e82 86) 37).trans ((hG8.1 86 37 (by decide)).trans rfl))
            have hw105 : σ93 86 39 = (σ93 86 39) := rfl
            exact ⟨_, rfl, hI94, hF96, 0, rfl, by omega, by omega⟩
          · skip
            refine qr_iconst 86 rfl rfl ?_
            refine qr_goto 90 rfl rfl ?_
            refine qr_retI rfl rfl (by decide) (by decide) ?_
            have hw106 : σ93 86 36 = (σ93 86 36) := rfl
            have hw107 : σ93 86 37 = (σ 86 37) := (hG95.1 86 37 (by decide)).trans ((congrFun (congrFun e82 86) 37).trans ((hG8.1 86 37 (by decide)).trans rfl))
            have hw108 : σ93 86 39 = (σ93 86 39) := rfl
            exact ⟨_, rfl, hI94, hF96, 1, rfl, by omega, by omega⟩
        · skip
          refine qr_iload_n 36 rfl rfl rfl ?_
          refine qr_retI rfl rfl (by decide) (by decide) ?_
          have hw109 : σ6 86 36 = (σ6 86 36) := rfl
          have hw110 : σ6 86 37 = (σ 86 37) := (hG8.1 86 37 (by decide)).trans rfl
          have hw111 : σ6 86 39 = (σ6 86 39) := rfl
          exact ⟨_, rfl, hI7, hF9, v1, rfl, by omega, by omega⟩

