set_option maxHeartbeats 4000000 in
set_option maxRecDepth 20000 in
/-- OneRoofModel.one -/
theorem sf_219_86x {L : Nat} {xs : Nat → Int} {vb : Bool} {d : Nat} {σ α : Nat → Nat → Int} {κ : Nat → Option Nat} {ρ : Nat} {ro : Nat} (ihE : ∀ {σ α : Nat → Nat → Int}, qI σ α κ ρ → 0 < ro → σ 86 36 ≤ σ 86 37 → σ 86 38 = -1 → σ 86 39 + ((ro - 1 : Nat) : Int) = 6 → qm_T (qe L xs vb) (d + 2) 214 [.ref 86] (qw σ α κ ρ) (fun r w' => ∃ σ', w' = qw σ' α κ ρ ∧ qI σ' α κ ρ ∧ qFr [(86, 36), (86, 38), (86, 39)] [] σ α σ' α ∧ ∃ v : Int, r = some (.int (qz v)) ∧ ((-2147483648) ≤ v ∧ v ≤ 2147483647) ∧ (σ 86 36 ≤ σ' 86 36 ∧ σ' 86 36 ≤ σ 86 37 ∧ σ 86 39 ≤ σ' 86 39 ∧ ((σ' 86 38 = -1 ∧ σ' 86 39 = σ 86 39 ∧ σ 86 36 < σ' 86 36) ∨ σ' 86 38 = σ' 86 36)) ∧ qRes ((qtx_lv (qtT (α 106) (α 107) (σ 86 35)) (σ 86 37) (fun b => qtx_on (qtT (α 106) (α 107) (σ 86 35)) (σ 86 37) (α 109) (ro - 1) b) 5) (σ 86 36)) v (σ' 86 36) (σ' 86 38))) (ihO : ∀ {σ α : Nat → Nat → Int}, qI σ α κ ρ → 0 < ro → σ 86 36 ≤ σ 86 37 → σ 86 38 = -1 → σ 86 39 + ((ro - 1 : Nat) : Int) = 6 → qm_T (qe L xs vb) (d + 2) 219 [.ref 86] (qw σ α κ ρ) (fun r w' => ∃ σ', w' = qw σ' α κ ρ ∧ qI σ' α κ ρ ∧ qFr [(86, 36), (86, 38), (86, 39)] [] σ α σ' α ∧ ∃ v : Int, r = some (.int (qz v)) ∧ ((-2147483648) ≤ v ∧ v ≤ 2147483647) ∧ (σ 86 36 ≤ σ' 86 36 ∧ σ' 86 36 ≤ σ 86 37 ∧ σ 86 39 ≤ σ' 86 39 ∧ ((σ' 86 38 = -1 ∧ σ' 86 39 = σ 86 39 ∧ σ 86 36 < σ' 86 36) ∨ σ' 86 38 = σ' 86 36)) ∧ qRes ((fun b => qtx_on (qtT (α 106) (α 107) (σ 86 35)) (σ 86 37) (α 109) (ro - 1) b) (σ 86 36)) v (σ' 86 36) (σ' 86 38))) (hI : qI σ α κ ρ) (p0 : σ 86 36 ≤ σ 86 37) (p1 : σ 86 38 = -1) (p2 : σ 86 39 + (ro : Int) = 6) : qm_T (qe L xs vb) (d + 3) 219 [.ref 86] (qw σ α κ ρ) (fun r w' => ∃ σ', w' = qw σ' α κ ρ ∧ qI σ' α κ ρ ∧ qFr [(86, 36), (86, 38), (86, 39)] [] σ α σ' α ∧ ∃ v : Int, r = some (.int (qz v)) ∧ ((-2147483648) ≤ v ∧ v ≤ 2147483647) ∧ (σ 86 36 ≤ σ' 86 36 ∧ σ' 86 36 ≤ σ 86 37 ∧ σ 86 39 ≤ σ' 86 39 ∧ ((σ' 86 38 = -1 ∧ σ' 86 39 = σ 86 39 ∧ σ 86 36 < σ' 86 36) ∨ σ' 86 38 = σ' 86 36)) ∧ qRes ((fun b => qtx_on (qtT (α 106) (α 107) (σ 86 35)) (σ 86 37) (α 109) ro b) (σ 86 36)) v (σ' 86 36) (σ' 86 38)) := by
  refine qr_start (d := d + 2) qv_e219 (Nat.le_of_ble_eq_true rfl) ?_
  show qr_W (qe L xs vb) (d + 2) qx_e219 _ (0, [(0, .ref 86)], [], _, 0, 0)
  have hF0 := qFr_rf [(86, 36), (86, 38), (86, 39)] [] σ α
  have hz86_36 : 0 ≤ σ 86 36 ∧ σ 86 36 ≤ 120 := hI.1 86 36
  have hz86_37 : 0 ≤ σ 86 37 ∧ σ 86 37 ≤ 120 := hI.1 86 37
  have hz86_39 : 0 ≤ σ 86 39 ∧ σ 86 39 ≤ 6 := hI.1 86 39
  have hz86_38 : (-1) ≤ σ 86 38 ∧ σ 86 38 ≤ 120 := hI.1 86 38
  have hz86_35 : (-1) ≤ σ 86 35 ∧ σ 86 35 ≤ 120 := hI.1 86 35
  refine qr_aload_n 1 rfl rfl rfl ?_
  refine qr_get 4 rfl rfl rfl (by decide) rfl ?_
  refine qr_if_lt 9 7 rfl rfl rfl (by omega) (fun h1 => ?_) (fun h => False.elim (by omega))
  refine qr_aload_n 10 rfl rfl rfl ?_
  refine qr_callN 13 rfl rfl rfl (sf_220_86x (d := d + 1) hI ) ?_
  have hs4 : (-1) ≤ σ 86 35 ∧ σ 86 35 ≤ 120 := hI.1 86 35
  have hs5 : 0 ≤ σ 86 36 ∧ σ 86 36 ≤ 120 := hI.1 86 36
  have hs6 : 0 ≤ σ 86 37 ∧ σ 86 37 ≤ 120 := hI.1 86 37
  rintro _ _ ⟨rfl, v2, rfl, hv2, hp3⟩
  show qr_W (qe L xs vb) (d + 2) qx_e219 _ (13, _, [.int (qz v2)], qw σ α κ ρ, 0, 0)
  refine qr_istore_n _ 14 rfl (by decide) rfl rfl ?_
  refine qr_iload_n 15 rfl rfl rfl ?_
  refine qr_bipush 17 rfl (by decide) rfl ?_
  refine qr_icmp_eq 32 20 rfl rfl rfl (by omega) (by omega) (fun h7 => ?_) (fun h7 => ?_)
  · skip
    refine qr_aload_n 33 rfl rfl rfl ?_
    refine qr_get 36 rfl rfl rfl (by decide) rfl ?_
    refine qr_bipush 38 rfl (by decide) rfl ?_
    refine qr_icmp_ne 46 41 rfl rfl rfl (by omega) (by omega) (fun h8 => ?_) (fun h8 => ?_)
    · skip
      refine qr_aload_n 47 rfl rfl rfl ?_
      refine qr_dup 48 rfl rfl rfl ?_
      refine qr_get 51 rfl rfl rfl (by decide) rfl ?_
      refine qr_iconst 52 rfl rfl ?_
      refine qr_iadd 53 rfl rfl ?_
      refine qr_put 56 rfl (by decide) rfl (Nat.le_of_ble_eq_true rfl) (Nat.le_of_ble_eq_true rfl) (Or.inl rfl) (qr_fitI rfl _) rfl ?_
      refine qy_wS (qw_s σ 86 39 ((σ 86 39) + 1)) rfl (fun σ9 e10 => ?_)
      have hI11 : qI σ9 α κ ρ := by rw [e10]; exact qI_s hI 86 39 rfl (show 0 ≤ ((σ 86 39) + 1) ∧ ((σ 86 39) + 1) ≤ 6 by omega)
      have hF12 : qFr [(86, 36), (86, 38), (86, 39)] [] σ α σ9 α := by rw [e10]; exact qFr_s hF0 86 39 _ (by decide)
      refine qr_aload_n 57 rfl rfl rfl ?_
      refine qr_dup 58 rfl rfl rfl ?_
      refine qr_get 61 rfl rfl rfl (by decide) rfl ?_
      refine qy_v (σ 86 36) ((congrFun (congrFun e10 86) 36).trans rfl) ?_
      refine qr_iconst 62 rfl rfl ?_
      refine qr_iadd 63 rfl rfl ?_
      refine qr_put 66 rfl (by decide) rfl (Nat.le_of_ble_eq_true rfl) (Nat.le_of_ble_eq_true rfl) (Or.inl rfl) (qr_fitI rfl _) rfl ?_
      refine qy_wS (qw_s σ9 86 36 ((σ 86 36) + 1)) rfl (fun σ13 e14 => ?_)
      have hI15 : qI σ13 α κ ρ := by rw [e14]; exact qI_s hI11 86 36 rfl (show 0 ≤ ((σ 86 36) + 1) ∧ ((σ 86 36) + 1) ≤ 120 by omega)
      have hF16 : qFr [(86, 36), (86, 38), (86, 39)] [] σ α σ13 α := by rw [e14]; exact qFr_s hF12 86 36 _ (by decide)
      refine qr_iload_n 67 rfl rfl rfl ?_
      refine qr_bipush 69 rfl (by decide) rfl ?_
      refine qr_icmp_ne 79 72 rfl rfl rfl (by omega) (by omega) (fun h17 => ?_) (fun h => False.elim (by omega))
      refine qr_aload_n 80 rfl rfl rfl ?_
      have hs18 : 0 ≤ σ13 86 36 ∧ σ13 86 36 ≤ 120 := hI15.1 86 36
      have hs19 : σ13 86 36 = ((σ 86 36) + 1) := (congrFun (congrFun e14 86) 36).trans rfl
      have hs20 : 0 ≤ σ13 86 37 ∧ σ13 86 37 ≤ 120 := hI15.1 86 37
      have hs21 : σ13 86 37 = (σ 86 37) := (congrFun (congrFun e14 86) 37).trans ((congrFun (congrFun e10 86) 37).trans rfl)
      have hs22 : (-1) ≤ σ13 86 38 ∧ σ13 86 38 ≤ 120 := hI15.1 86 38
      have hs23 : σ13 86 38 = (σ 86 38) := (congrFun (congrFun e14 86) 38).trans ((congrFun (congrFun e10 86) 38).trans rfl)
      have hs24 : 0 ≤ σ13 86 39 ∧ σ13 86 39 ≤ 6 := hI15.1 86 39
      have hs25 : σ13 86 39 = ((σ 86 39) + 1) := (congrFun (congrFun e14 86) 39).trans ((congrFun (congrFun e10 86) 39).trans rfl)
      refine qr_callN 83 rfl rfl rfl (ihO hI15 (by omega) (by omega) (by omega) (by omega)) ?_
      have hs29 : 0 ≤ σ13 86 36 ∧ σ13 86 36 ≤ 120 := hI15.1 86 36
      have hs30 : σ13 86 36 = ((σ 86 36) + 1) := (congrFun (congrFun e14 86) 36).trans rfl
      have hs31 : 0 ≤ σ13 86 37 ∧ σ13 86 37 ≤ 120 := hI15.1 86 37
      have hs32 : σ13 86 37 = (σ 86 37) := (congrFun (congrFun e14 86) 37).trans ((congrFun (congrFun e10 86) 37).trans rfl)
      have hs33 : 0 ≤ σ13 86 39 ∧ σ13 86 39 ≤ 6 := hI15.1 86 39
      have hs34 : σ13 86 39 = ((σ 86 39) + 1) := (congrFun (congrFun e14 86) 39).trans ((congrFun (congrFun e10 86) 39).trans rfl)
      rintro _ _ ⟨σ35, rfl, hI36, hG37, v26, rfl, hv26, hp27, hx28⟩
      have hF38 : qFr [(86, 36), (86, 38), (86, 39)] [] σ α σ35 α := qFr_t hF16 hG37 (by decide) (by decide)
      have hs39 : 0 ≤ σ35 86 36 ∧ σ35 86 36 ≤ 120 := hI36.1 86 36
      have hs40 : (-1) ≤ σ35 86 38 ∧ σ35 86 38 ≤ 120 := hI36.1 86 38
      have hs41 : 0 ≤ σ35 86 39 ∧ σ35 86 39 ≤ 6 := hI36.1 86 39
      rw [hF16.1 86 37 (by decide), (show σ13 86 36 = ((σ 86 36) + 1) from (congrFun (congrFun e14 86) 36).trans rfl), (show σ13 86 39 = ((σ 86 39) + 1) from (congrFun (congrFun e14 86) 39).trans ((congrFun (congrFun e10 86) 39).trans rfl))] at hp27
      rw [hF16.1 86 35 (by decide), hF16.1 86 37 (by decide), (show σ13 86 36 = ((σ 86 36) + 1) from (congrFun (congrFun e14 86) 36).trans rfl)] at hx28
      show qr_W (qe L xs vb) (d + 2) qx_e219 _ (83, _, [.int (qz v26)], qw σ35 α κ ρ, 0, 0)
      refine qr_istore_n _ 84 rfl (by decide) rfl rfl ?_
      refine qr_iload_n 85 rfl rfl rfl ?_
      refine qr_bipush 87 rfl (by decide) rfl ?_
      refine qr_icmp_ne 104 90 rfl rfl rfl (by omega) (by omega) (fun h42 => ?_) (fun h => False.elim (by omega))
      refine qr_aload_n 105 rfl rfl rfl ?_
      refine qr_dup 106 rfl rfl rfl ?_
      refine qr_get 109 rfl rfl rfl (by decide) rfl ?_
      refine qr_iconst 110 rfl rfl ?_
      refine qr_isub 111 rfl rfl ?_
      refine qr_put 114 rfl (by decide) rfl (Nat.le_of_ble_eq_true rfl) (Nat.le_of_ble_eq_true rfl) (Or.inl rfl) (qr_fitI rfl _) rfl ?_
      refine qy_wS (qw_s σ35 86 39 ((σ35 86 39) - 1)) rfl (fun σ43 e44 => ?_)
      have hI45 : qI σ43 α κ ρ := by rw [e44]; exact qI_s hI36 86 39 rfl (show 0 ≤ ((σ35 86 39) - 1) ∧ ((σ35 86 39) - 1) ≤ 6 by omega)
      have hF46 : qFr [(86, 36), (86, 38), (86, 39)] [] σ α σ43 α := by rw [e44]; exact qFr_s hF38 86 39 _ (by decide)
      refine qr_iload_n 115 rfl rfl rfl ?_
      refine qr_bipush 117 rfl (by decide) rfl ?_
      refine qr_icmp_ne 124 120 rfl rfl rfl (by omega) (by omega) (fun h47 => ?_) (fun h => False.elim (by omega))
      refine qr_iload_n 125 rfl rfl rfl ?_
      refine qr_bipush 127 rfl (by decide) rfl ?_
      refine qr_icmp_ne 135 130 rfl rfl rfl (by omega) (by omega) (fun h48 => ?_) (fun h => False.elim (by omega))
      refine qr_iload_n 136 rfl rfl rfl ?_
      refine qr_if_ne 143 139 rfl rfl rfl (by omega) (fun h49 => ?_) (fun h49 => ?_)
      · skip
        refine qr_iconst 144 rfl rfl ?_
        refine qr_retI rfl rfl (by decide) (by decide) ?_
        have hw50 : σ43 86 36 = (σ35 86 36) := (congrFun (congrFun e44 86) 36).trans rfl
        have hw51 : σ43 86 38 = (σ35 86 38) := (congrFun (congrFun e44 86) 38).trans rfl
        have hw52 : σ43 86 39 = ((σ35 86 39) - 1) := (congrFun (congrFun e44 86) 39).trans rfl
        exact ⟨_, rfl, hI45, hF46, 0, rfl, by omega, by omega, (by rw [show σ43 86 36 = (σ35 86 36) from (congrFun (congrFun e44 86) 36).trans rfl, show σ43 86 38 = (σ35 86 38) from (congrFun (congrFun e44 86) 38).trans rfl]; exact qO_u (T := (qtT (α 106) (α 107) (σ 86 35))) (n := (σ 86 37)) (N := (α 109)) (r := ro) (a := (σ 86 36)) (c := 33) (by omega) (by omega) (by omega) hx28 (by omega) (fun _ => qap_not (by omega)))⟩
      · skip
        refine qr_iconst 140 rfl rfl ?_
        refine qr_goto 144 rfl rfl ?_
        as_aux_lemma =>
          refine qr_retI rfl rfl (by decide) (by decide) ?_
          have hw53 : σ43 86 36 = (σ35 86 36) := (congrFun (congrFun e44 86) 36).trans rfl
          have hw54 : σ43 86 38 = (σ35 86 38) := (congrFun (congrFun e44 86) 38).trans rfl
          have hw55 : σ43 86 39 = ((σ35 86 39) - 1) := (congrFun (congrFun e44 86) 39).trans rfl
          exact ⟨_, rfl, hI45, hF46, 1, rfl, by omega, by omega, (by rw [show σ43 86 36 = (σ35 86 36) from (congrFun (congrFun e44 86) 36).trans rfl, show σ43 86 38 = (σ35 86 38) from (congrFun (congrFun e44 86) 38).trans rfl]; exact qO_u (T := (qtT (α 106) (α 107) (σ 86 35))) (n := (σ 86 37)) (N := (α 109)) (r := ro) (a := (σ 86 36)) (c := 33) (by omega) (by omega) (by omega) hx28 (by omega) (fun _ => qap_not (by omega)))⟩
    · skip
      refine qr_aload_n 42 rfl rfl rfl ?_
      refine qr_callN 45 rfl rfl rfl (sf_221_86x (d := d + 1) hI ) ?_
      have hs58 : 0 ≤ σ 86 36 ∧ σ 86 36 ≤ 120 := hI.1 86 36
      have hs59 : (-1) ≤ σ 86 38 ∧ σ 86 38 ≤ 120 := hI.1 86 38
      rintro _ _ ⟨σ60, rfl, hI61, hG62, v56, rfl, hv56, hp57⟩
      have hF63 : qFr [(86, 36), (86, 38), (86, 39)] [] σ α σ60 α := qFr_t hF0 hG62 (by decide) (by decide)
      have hs64 : (-1) ≤ σ60 86 38 ∧ σ60 86 38 ≤ 120 := hI61.1 86 38
      show qr_W (qe L xs vb) (d + 2) qx_e219 _ (45, _, [.int (qz v56)], qw σ60 α κ ρ, 0, 0)
      refine qr_retI rfl rfl (by decide) (by decide) ?_
      have hw65 : σ60 86 36 = (σ 86 36) := (hG62.1 86 36 (by decide)).trans rfl
      have hw66 : σ60 86 38 = (σ60 86 38) := rfl
      have hw67 : σ60 86 39 = (σ 86 39) := (hG62.1 86 39 (by decide)).trans rfl
      exact ⟨_, rfl, hI61, hF63, v56, rfl, by omega, by omega, (by rw [show σ60 86 36 = (σ 86 36) from (hG62.1 86 36 (by decide)).trans rfl]; rw [show σ60 86 38 = σ 86 36 by omega]; exact qO_b (T := (qtT (α 106) (α 107) (σ 86 35))) (n := (σ 86 37)) (N := (α 109)) (r := ro) (a := (σ 86 36)) _ (by omega))⟩
  · skip
    refine qr_iload_n 21 rfl rfl rfl ?_
    refine qr_bipush 23 rfl (by decide) rfl ?_
    refine qr_icmp_eq 32 26 rfl rfl rfl (by omega) (by omega) (fun h68 => ?_) (fun h68 => ?_)
    · skip
      refine qr_aload_n 33 rfl rfl rfl ?_
      refine qr_get 36 rfl rfl rfl (by decide) rfl ?_
      refine qr_bipush 38 rfl (by decide) rfl ?_
      refine qr_icmp_ne 46 41 rfl rfl rfl (by omega) (by omega) (fun h69 => ?_) (fun h69 => ?_)
      · skip
        refine qr_aload_n 47 rfl rfl rfl ?_
        refine qr_dup 48 rfl rfl rfl ?_
        refine qr_get 51 rfl rfl rfl (by decide) rfl ?_
        refine qr_iconst 52 rfl rfl ?_
        refine qr_iadd 53 rfl rfl ?_
        refine qr_put 56 rfl (by decide) rfl (Nat.le_of_ble_eq_true rfl) (Nat.le_of_ble_eq_true rfl) (Or.inl rfl) (qr_fitI rfl _) rfl ?_
        refine qy_wS (qw_s σ 86 39 ((σ 86 39) + 1)) rfl (fun σ70 e71 => ?_)
        have hI72 : qI σ70 α κ ρ := by rw [e71]; exact qI_s hI 86 39 rfl (show 0 ≤ ((σ 86 39) + 1) ∧ ((σ 86 39) + 1) ≤ 6 by omega)
        have hF73 : qFr [(86, 36), (86, 38), (86, 39)] [] σ α σ70 α := by rw [e71]; exact qFr_s hF0 86 39 _ (by decide)
        refine qr_aload_n 57 rfl rfl rfl ?_
        refine qr_dup 58 rfl rfl rfl ?_
        refine qr_get 61 rfl rfl rfl (by decide) rfl ?_
        refine qy_v (σ 86 36) ((congrFun (congrFun e71 86) 36).trans rfl) ?_
        refine qr_iconst 62 rfl rfl ?_
        refine qr_iadd 63 rfl rfl ?_
        refine qr_put 66 rfl (by decide) rfl (Nat.le_of_ble_eq_true rfl) (Nat.le_of_ble_eq_true rfl) (Or.inl rfl) (qr_fitI rfl _) rfl ?_
        refine qy_wS (qw_s σ70 86 36 ((σ 86 36) + 1)) rfl (fun σ74 e75 => ?_)
        have hI76 : qI σ74 α κ ρ := by rw [e75]; exact qI_s hI72 86 36 rfl (show 0 ≤ ((σ 86 36) + 1) ∧ ((σ 86 36) + 1) ≤ 120 by omega)
        have hF77 : qFr [(86, 36), (86, 38), (86, 39)] [] σ α σ74 α := by rw [e75]; exact qFr_s hF73 86 36 _ (by decide)
        refine qr_iload_n 67 rfl rfl rfl ?_
        refine qr_bipush 69 rfl (by decide) rfl ?_
        refine qr_icmp_ne 79 72 rfl rfl rfl (by omega) (by omega) (fun h78 => ?_) (fun h => False.elim (by omega))
        refine qr_aload_n 80 rfl rfl rfl ?_
        have hs79 : 0 ≤ σ74 86 36 ∧ σ74 86 36 ≤ 120 := hI76.1 86 36
        have hs80 : σ74 86 36 = ((σ 86 36) + 1) := (congrFun (congrFun e75 86) 36).trans rfl
        have hs81 : 0 ≤ σ74 86 37 ∧ σ74 86 37 ≤ 120 := hI76.1 86 37
        have hs82 : σ74 86 37 = (σ 86 37) := (congrFun (congrFun e75 86) 37).trans ((congrFun (congrFun e71 86) 37).trans rfl)
        have hs83 : (-1) ≤ σ74 86 38 ∧ σ74 86 38 ≤ 120 := hI76.1 86 38
        have hs84 : σ74 86 38 = (σ 86 38) := (congrFun (congrFun e75 86) 38).trans ((congrFun (congrFun e71 86) 38).trans rfl)
        have hs85 : 0 ≤ σ74 86 39 ∧ σ74 86 39 ≤ 6 := hI76.1 86 39
        have hs86 : σ74 86 39 = ((σ 86 39) + 1) := (congrFun (congrFun e75 86) 39).trans ((congrFun (congrFun e71 86) 39).trans rfl)
        refine qr_callN 83 rfl rfl rfl (ihO hI76 (by omega) (by omega) (by omega) (by omega)) ?_
        have hs90 : 0 ≤ σ74 86 36 ∧ σ74 86 36 ≤ 120 := hI76.1 86 36
        have hs91 : σ74 86 36 = ((σ 86 36) + 1) := (congrFun (congrFun e75 86) 36).trans rfl
        have hs92 : 0 ≤ σ74 86 37 ∧ σ74 86 37 ≤ 120 := hI76.1 86 37
        have hs93 : σ74 86 37 = (σ 86 37) := (congrFun (congrFun e75 86) 37).trans ((congrFun (congrFun e71 86) 37).trans rfl)
        have hs94 : 0 ≤ σ74 86 39 ∧ σ74 86 39 ≤ 6 := hI76.1 86 39
        have hs95 : σ74 86 39 = ((σ 86 39) + 1) := (congrFun (congrFun e75 86) 39).trans ((congrFun (congrFun e71 86) 39).trans rfl)
        rintro _ _ ⟨σ96, rfl, hI97, hG98, v87, rfl, hv87, hp88, hx89⟩
        have hF99 : qFr [(86, 36), (86, 38), (86, 39)] [] σ α σ96 α := qFr_t hF77 hG98 (by decide) (by decide)
        have hs100 : 0 ≤ σ96 86 36 ∧ σ96 86 36 ≤ 120 := hI97.1 86 36
        have hs101 : (-1) ≤ σ96 86 38 ∧ σ96 86 38 ≤ 120 := hI97.1 86 38
        have hs102 : 0 ≤ σ96 86 39 ∧ σ96 86 39 ≤ 6 := hI97.1 86 39
        rw [hF77.1 86 37 (by decide), (show σ74 86 36 = ((σ 86 36) + 1) from (congrFun (congrFun e75 86) 36).trans rfl), (show σ74 86 39 = ((σ 86 39) + 1) from (congrFun (congrFun e75 86) 39).trans ((congrFun (congrFun e71 86) 39).trans rfl))] at hp88
        rw [hF77.1 86 35 (by decide), hF77.1 86 37 (by decide), (show σ74 86 36 = ((σ 86 36) + 1) from (congrFun (congrFun e75 86) 36).trans rfl)] at hx89
        show qr_W (qe L xs vb) (d + 2) qx_e219 _ (83, _, [.int (qz v87)], qw σ96 α κ ρ, 0, 0)
        refine qr_istore_n _ 84 rfl (by decide) rfl rfl ?_
        refine qr_iload_n 85 rfl rfl rfl ?_
        refine qr_bipush 87 rfl (by decide) rfl ?_
        refine qr_icmp_ne 104 90 rfl rfl rfl (by omega) (by omega) (fun h103 => ?_) (fun h => False.elim (by omega))
        refine qr_aload_n 105 rfl rfl rfl ?_
        refine qr_dup 106 rfl rfl rfl ?_
        refine qr_get 109 rfl rfl rfl (by decide) rfl ?_
        refine qr_iconst 110 rfl rfl ?_
        refine qr_isub 111 rfl rfl ?_
        refine qr_put 114 rfl (by decide) rfl (Nat.le_of_ble_eq_true rfl) (Nat.le_of_ble_eq_true rfl) (Or.inl rfl) (qr_fitI rfl _) rfl ?_
        refine qy_wS (qw_s σ96 86 39 ((σ96 86 39) - 1)) rfl (fun σ104 e105 => ?_)
        have hI106 : qI σ104 α κ ρ := by rw [e105]; exact qI_s hI97 86 39 rfl (show 0 ≤ ((σ96 86 39) - 1) ∧ ((σ96 86 39) - 1) ≤ 6 by omega)
        have hF107 : qFr [(86, 36), (86, 38), (86, 39)] [] σ α σ104 α := by rw [e105]; exact qFr_s hF99 86 39 _ (by decide)
        refine qr_iload_n 115 rfl rfl rfl ?_
        refine qr_bipush 117 rfl (by decide) rfl ?_
        refine qr_icmp_ne 124 120 rfl rfl rfl (by omega) (by omega) (fun h108 => ?_) (fun h => False.elim (by omega))
        refine qr_iload_n 125 rfl rfl rfl ?_
        refine qr_bipush 127 rfl (by decide) rfl ?_
        refine qr_icmp_ne 135 130 rfl rfl rfl (by omega) (by omega) (fun h => False.elim (by omega)) (fun h109 => ?_)
        refine qr_iload_n 131 rfl rfl rfl ?_
        as_aux_lemma =>
          refine qr_ineg 132 rfl rfl ?_
          refine qy_canE (fun v110 hv110 hev110 => ?_)
          refine qr_goto 144 rfl rfl ?_
          refine qr_retI rfl rfl (by decide) (by decide) ?_
          have hw111 : σ104 86 36 = (σ96 86 36) := (congrFun (congrFun e105 86) 36).trans rfl
          have hw112 : σ104 86 38 = (σ96 86 38) := (congrFun (congrFun e105 86) 38).trans rfl
          have hw113 : σ104 86 39 = ((σ96 86 39) - 1) := (congrFun (congrFun e105 86) 39).trans rfl
          exact ⟨_, rfl, hI106, hF107, v110, rfl, by omega, by omega, (by rw [show σ104 86 36 = (σ96 86 36) from (congrFun (congrFun e105 86) 36).trans rfl, show σ104 86 38 = (σ96 86 38) from (congrFun (congrFun e105 86) 38).trans rfl]; exact qO_u (T := (qtT (α 106) (α 107) (σ 86 35))) (n := (σ 86 37)) (N := (α 109)) (r := ro) (a := (σ 86 36)) (c := 45) (by omega) (by omega) (by omega) hx89 (by omega) (fun _ => qap_neg hev110 (by omega)))⟩
      · skip
        refine qr_aload_n 42 rfl rfl rfl ?_
        refine qr_callN 45 rfl rfl rfl (sf_221_86x (d := d + 1) hI ) ?_
        have hs116 : 0 ≤ σ 86 36 ∧ σ 86 36 ≤ 120 := hI.1 86 36
        have hs117 : (-1) ≤ σ 86 38 ∧ σ 86 38 ≤ 120 := hI.1 86 38
        rintro _ _ ⟨σ118, rfl, hI119, hG120, v114, rfl, hv114, hp115⟩
        have hF121 : qFr [(86, 36), (86, 38), (86, 39)] [] σ α σ118 α := qFr_t hF0 hG120 (by decide) (by decide)
        have hs122 : (-1) ≤ σ118 86 38 ∧ σ118 86 38 ≤ 120 := hI119.1 86 38
        show qr_W (qe L xs vb) (d + 2) qx_e219 _ (45, _, [.int (qz v114)], qw σ118 α κ ρ, 0, 0)
        refine qr_retI rfl rfl (by decide) (by decide) ?_
        have hw123 : σ118 86 36 = (σ 86 36) := (hG120.1 86 36 (by decide)).trans rfl
        have hw124 : σ118 86 38 = (σ118 86 38) := rfl
        have hw125 : σ118 86 39 = (σ 86 39) := (hG120.1 86 39 (by decide)).trans rfl
        exact ⟨_, rfl, hI119, hF121, v114, rfl, by omega, by omega, (by rw [show σ118 86 36 = (σ 86 36) from (hG120.1 86 36 (by decide)).trans rfl]; rw [show σ118 86 38 = σ 86 36 by omega]; exact qO_b (T := (qtT (α 106) (α 107) (σ 86 35))) (n := (σ 86 37)) (N := (α 109)) (r := ro) (a := (σ 86 36)) _ (by omega))⟩
    · skip
      refine qr_iload_n 27 rfl rfl rfl ?_
      refine qr_bipush 29 rfl (by decide) rfl ?_
      refine qr_icmp_ne 145 32 rfl rfl rfl (by omega) (by omega) (fun h126 => ?_) (fun h126 => ?_)
      · skip
        refine qr_iload_n 146 rfl rfl rfl ?_
        refine qr_callN 149 rfl rfl rfl (sf_223x (d := d + 1) hI (by omega)) ?_
        rintro _ _ ⟨rfl, v127, rfl, hv127, hp128⟩
        show qr_W (qe L xs vb) (d + 2) qx_e219 _ (149, _, [.int (qz v127)], qw σ α κ ρ, 0, 0)
        refine qr_istore_n _ 150 rfl (by decide) rfl rfl ?_
        refine qr_iload_n 151 rfl rfl rfl ?_
        refine qr_if_lt 171 154 rfl rfl rfl (by omega) (fun h129 => ?_) (fun h129 => ?_)
        · skip
          refine qr_iconst 172 rfl rfl ?_
          refine qr_istore_n _ 173 rfl (by decide) rfl rfl ?_
          refine qr_iconst 174 rfl rfl ?_
          refine qr_istore _ 176 rfl (by decide) rfl rfl ?_
          have hL518 : ∀ (n : Nat) (ls : qm_L) (u503 u505 : Int) (σ506 : Nat → Nat → Int), 4 - u505 < (n : Int) → qm_get ls 0 = some (.ref 86) → qm_get ls 3 = some (.int (qz u503)) → qm_get ls 4 = some (.int (qz u505)) → (0 ≤ u503 ∧ u503 ≤ 9999) → (0 ≤ u505 ∧ u505 ≤ 4) → qI σ506 α κ ρ → qFr [(86, 36), (86, 38), (86, 39)] [] σ α σ506 α → σ506 86 35 = (σ 86 35) → σ506 86 37 = (σ 86 37) → σ506 86 38 = (σ 86 38) → σ506 86 39 = (σ 86 39) → qtx_num (qtT (α 106) (α 107) (σ 86 35)) (σ 86 37) 4 0 (σ 86 36) = qtx_num (qtT (α 106) (α 107) (σ 86 35)) (σ 86 37) (4 - u505 : Int).toNat u503 (σ506 86 36) → (((u505 = 0 ∧ σ506 86 36 = σ 86 36) ∨ (1 ≤ u505 ∧ 48 ≤ (qtx_c (qtT (α 106) (α 107) (σ 86 35)) (σ 86 37) (σ 86 36)) ∧ (qtx_c (qtT (α 106) (α 107) (σ 86 35)) (σ 86 37) (σ 86 36)) ≤ 57)) ∧ σ 86 36 + u505 = σ506 86 36 ∧ σ506 86 36 ≤ σ 86 37 ∧ ((u505 = 0 ∧ u503 = 0) ∨ (u505 = 1 ∧ u503 ≤ 9) ∨ (u505 = 2 ∧ u503 ≤ 99) ∨ (u505 = 3 ∧ u503 ≤ 999) ∨ (u505 = 4 ∧ u503 ≤ 9999))) → qr_W (qe L xs vb) (d + 2) qx_e219 (fun r w' => ∃ σ', w' = qw σ' α κ ρ ∧ qI σ' α κ ρ ∧ qFr [(86, 36), (86, 38), (86, 39)] [] σ α σ' α ∧ ∃ v : Int, r = some (.int (qz v)) ∧ ((-2147483648) ≤ v ∧ v ≤ 2147483647) ∧ (σ 86 36 ≤ σ' 86 36 ∧ σ' 86 36 ≤ σ 86 37 ∧ σ 86 39 ≤ σ' 86 39 ∧ ((σ' 86 38 = -1 ∧ σ' 86 39 = σ 86 39 ∧ σ 86 36 < σ' 86 36) ∨ σ' 86 38 = σ' 86 36)) ∧ qRes ((fun b => qtx_on (qtT (α 106) (α 107) (σ 86 35)) (σ 86 37) (α 109) ro b) (σ 86 36)) v (σ' 86 36) (σ' 86 38)) (176, ls, [], qw σ506 α κ ρ, 0, 0) := by
            intro n
            induction n with
            | zero => intro ls u503 u505 σ506 hm g501 g502 g504 hf514 hf515 hI508 hF509 hk510 hk511 hk512 hk513 hx516 hx517; exact False.elim (by omega)
            | succ n ih519 =>
              intro ls u503 u505 σ506 hm g501 g502 g504 hf514 hf515 hI508 hF509 hk510 hk511 hk512 hk513 hx516 hx517
              have hs520 : 0 ≤ σ506 86 36 ∧ σ506 86 36 ≤ 120 := hI508.1 86 36
              refine qr_iload 178 rfl g504 rfl ?_
              refine qr_iconst 179 rfl rfl ?_
              refine qr_icmp_ge 229 182 rfl rfl rfl (by omega) (by omega) (fun h521 => ?_) (fun h521 => ?_)
              · skip
                refine qr_iload 231 rfl g504 rfl ?_
                refine qr_if_ne 241 234 rfl rfl rfl (by omega) (fun h522 => ?_) (fun h => False.elim (by omega))
                refine qr_iload_n 242 rfl g502 rfl ?_
                refine qr_retI rfl rfl (by decide) (by decide) ?_
                have hw523 : σ506 86 36 = (σ506 86 36) := rfl
                have hw524 : σ506 86 38 = (σ 86 38) := (hk512).trans rfl
                have hw525 : σ506 86 39 = (σ 86 39) := (hk513).trans rfl
                exact ⟨_, rfl, hI508, hF509, u503, rfl, by omega, by omega, (by rw [show σ506 86 38 = (σ 86 38) from (hk512).trans rfl]; rw [p1]; exact qO_d (T := (qtT (α 106) (α 107) (σ 86 35))) (n := (σ 86 37)) (N := (α 109)) (r := ro) (a := (σ 86 36)) (by omega) (hx516.trans (qtx_num_e (by omega))))⟩
              · skip
                refine qr_aload_n 183 rfl g501 rfl ?_
                refine qr_callN 186 rfl rfl rfl (sf_220_86x (d := d + 1) hI508 ) ?_
                have hs528 : (-1) ≤ σ506 86 35 ∧ σ506 86 35 ≤ 120 := hI508.1 86 35
                have hs529 : σ506 86 35 = (σ 86 35) := (hk510).trans rfl
                have hs530 : 0 ≤ σ506 86 36 ∧ σ506 86 36 ≤ 120 := hI508.1 86 36
                have hs531 : 0 ≤ σ506 86 37 ∧ σ506 86 37 ≤ 120 := hI508.1 86 37
                have hs532 : σ506 86 37 = (σ 86 37) := (hk511).trans rfl
                rintro _ _ ⟨rfl, v526, rfl, hv526, hp527⟩
                rw [hF509.1 86 35 (by decide), hF509.1 86 37 (by decide)] at hp527
                show qr_W (qe L xs vb) (d + 2) qx_e219 _ (186, _, [.int (qz v526)], qw σ506 α κ ρ, 0, 0)
                refine qr_bipush 188 rfl (by decide) rfl ?_
                refine qr_icmp_lt 229 191 rfl rfl rfl (by omega) (by omega) (fun h533 => ?_) (fun h533 => ?_)
                · skip
                  refine qr_iload 231 rfl g504 rfl ?_
                  refine qr_if_ne 241 234 rfl rfl rfl (by omega) (fun h534 => ?_) (fun h534 => ?_)
                  · skip
                    refine qr_iload_n 242 rfl g502 rfl ?_
                    refine qr_retI rfl rfl (by decide) (by decide) ?_
                    have hw535 : σ506 86 36 = (σ506 86 36) := rfl
                    have hw536 : σ506 86 38 = (σ 86 38) := (hk512).trans rfl
                    have hw537 : σ506 86 39 = (σ 86 39) := (hk513).trans rfl
                    exact ⟨_, rfl, hI508, hF509, u503, rfl, by omega, by omega, (by rw [show σ506 86 38 = (σ 86 38) from (hk512).trans rfl]; rw [p1]; exact qO_d (T := (qtT (α 106) (α 107) (σ 86 35))) (n := (σ 86 37)) (N := (α 109)) (r := ro) (a := (σ 86 36)) (by omega) (hx516.trans (qtx_num_e (by omega))))⟩
                  · skip
                    refine qr_aload_n 235 rfl g501 rfl ?_
                    refine qr_callN 238 rfl rfl rfl (sf_221_86x (d := d + 1) hI508 ) ?_
                    have hs540 : 0 ≤ σ506 86 36 ∧ σ506 86 36 ≤ 120 := hI508.1 86 36
                    have hs541 : (-1) ≤ σ506 86 38 ∧ σ506 86 38 ≤ 120 := hI508.1 86 38
                    have hs542 : σ506 86 38 = (σ 86 38) := (hk512).trans rfl
                    rintro _ _ ⟨σ543, rfl, hI544, hG545, v538, rfl, hv538, hp539⟩
                    have hF546 : qFr [(86, 36), (86, 38), (86, 39)] [] σ α σ543 α := qFr_t hF509 hG545 (by decide) (by decide)
                    have hs547 : (-1) ≤ σ543 86 38 ∧ σ543 86 38 ≤ 120 := hI544.1 86 38
                    rw [(show σ506 86 38 = (σ 86 38) from (hk512).trans rfl)] at hp539
                    show qr_W (qe L xs vb) (d + 2) qx_e219 _ (238, _, [.int (qz v538)], qw σ543 α κ ρ, 0, 0)
                    refine qr_goto 242 rfl rfl ?_
                    refine qr_retI rfl rfl (by decide) (by decide) ?_
                    have hw548 : σ543 86 36 = (σ506 86 36) := (hG545.1 86 36 (by decide)).trans rfl
                    have hw549 : σ543 86 38 = (σ543 86 38) := rfl
                    have hw550 : σ543 86 39 = (σ 86 39) := (hG545.1 86 39 (by decide)).trans ((hk513).trans rfl)
                    exact ⟨_, rfl, hI544, hF546, v538, rfl, by omega, by omega, (by have hng := qnm_neg (c0 := (qtx_c (qtT (α 106) (α 107) (σ 86 35)) (σ 86 37) (σ 86 36))) hp128 (by omega) (by omega); have hz : (qtx_c (qtT (α 106) (α 107) (σ 86 35)) (σ 86 37) (σ506 86 36)) = (qtx_c (qtT (α 106) (α 107) (σ 86 35)) (σ 86 37) (σ 86 36)) := (by rw [show σ506 86 36 = σ 86 36 by omega]); rw [show σ543 86 36 = σ 86 36 by omega]; rw [show σ543 86 38 = σ 86 36 by omega]; exact qO_b (T := (qtT (α 106) (α 107) (σ 86 35))) (n := (σ 86 37)) (N := (α 109)) (r := ro) (a := (σ 86 36)) _ (by omega))⟩
                · skip
                  refine qr_aload_n 192 rfl g501 rfl ?_
                  refine qr_callN 195 rfl rfl rfl (sf_220_86x (d := d + 1) hI508 ) ?_
                  have hs553 : (-1) ≤ σ506 86 35 ∧ σ506 86 35 ≤ 120 := hI508.1 86 35
                  have hs554 : σ506 86 35 = (σ 86 35) := (hk510).trans rfl
                  have hs555 : 0 ≤ σ506 86 36 ∧ σ506 86 36 ≤ 120 := hI508.1 86 36
                  have hs556 : 0 ≤ σ506 86 37 ∧ σ506 86 37 ≤ 120 := hI508.1 86 37
                  have hs557 : σ506 86 37 = (σ 86 37) := (hk511).trans rfl
                  rintro _ _ ⟨rfl, v551, rfl, hv551, hp552⟩
                  rw [hF509.1 86 35 (by decide), hF509.1 86 37 (by decide)] at hp552
                  show qr_W (qe L xs vb) (d + 2) qx_e219 _ (195, _, [.int (qz v551)], qw σ506 α κ ρ, 0, 0)
                  refine qr_bipush 197 rfl (by decide) rfl ?_
                  refine qr_icmp_gt 229 200 rfl rfl rfl (by omega) (by omega) (fun h558 => ?_) (fun h558 => ?_)
                  · skip
                    refine qr_iload 231 rfl g504 rfl ?_
                    refine qr_if_ne 241 234 rfl rfl rfl (by omega) (fun h559 => ?_) (fun h559 => ?_)
                    · skip
                      refine qr_iload_n 242 rfl g502 rfl ?_
                      refine qr_retI rfl rfl (by decide) (by decide) ?_
                      have hw560 : σ506 86 36 = (σ506 86 36) := rfl
                      have hw561 : σ506 86 38 = (σ 86 38) := (hk512).trans rfl
                      have hw562 : σ506 86 39 = (σ 86 39) := (hk513).trans rfl
                      exact ⟨_, rfl, hI508, hF509, u503, rfl, by omega, by omega, (by rw [show σ506 86 38 = (σ 86 38) from (hk512).trans rfl]; rw [p1]; exact qO_d (T := (qtT (α 106) (α 107) (σ 86 35))) (n := (σ 86 37)) (N := (α 109)) (r := ro) (a := (σ 86 36)) (by omega) (hx516.trans (qtx_num_e (by omega))))⟩
                    · skip
                      refine qr_aload_n 235 rfl g501 rfl ?_
                      refine qr_callN 238 rfl rfl rfl (sf_221_86x (d := d + 1) hI508 ) ?_
                      have hs565 : 0 ≤ σ506 86 36 ∧ σ506 86 36 ≤ 120 := hI508.1 86 36
                      have hs566 : (-1) ≤ σ506 86 38 ∧ σ506 86 38 ≤ 120 := hI508.1 86 38
                      have hs567 : σ506 86 38 = (σ 86 38) := (hk512).trans rfl
                      rintro _ _ ⟨σ568, rfl, hI569, hG570, v563, rfl, hv563, hp564⟩
                      have hF571 : qFr [(86, 36), (86, 38), (86, 39)] [] σ α σ568 α := qFr_t hF509 hG570 (by decide) (by decide)
                      have hs572 : (-1) ≤ σ568 86 38 ∧ σ568 86 38 ≤ 120 := hI569.1 86 38
                      rw [(show σ506 86 38 = (σ 86 38) from (hk512).trans rfl)] at hp564
                      show qr_W (qe L xs vb) (d + 2) qx_e219 _ (238, _, [.int (qz v563)], qw σ568 α κ ρ, 0, 0)
                      refine qr_goto 242 rfl rfl ?_
                      refine qr_retI rfl rfl (by decide) (by decide) ?_
                      have hw573 : σ568 86 36 = (σ506 86 36) := (hG570.1 86 36 (by decide)).trans rfl
                      have hw574 : σ568 86 38 = (σ568 86 38) := rfl
                      have hw575 : σ568 86 39 = (σ 86 39) := (hG570.1 86 39 (by decide)).trans ((hk513).trans rfl)
                      exact ⟨_, rfl, hI569, hF571, v563, rfl, by omega, by omega, (by have hng := qnm_neg (c0 := (qtx_c (qtT (α 106) (α 107) (σ 86 35)) (σ 86 37) (σ 86 36))) hp128 (by omega) (by omega); have hz : (qtx_c (qtT (α 106) (α 107) (σ 86 35)) (σ 86 37) (σ506 86 36)) = (qtx_c (qtT (α 106) (α 107) (σ 86 35)) (σ 86 37) (σ 86 36)) := (by rw [show σ506 86 36 = σ 86 36 by omega]); rw [show σ568 86 36 = σ 86 36 by omega]; rw [show σ568 86 38 = σ 86 36 by omega]; exact qO_b (T := (qtT (α 106) (α 107) (σ 86 35))) (n := (σ 86 37)) (N := (α 109)) (r := ro) (a := (σ 86 36)) _ (by omega))⟩
                  · skip
                    refine qr_bipush 202 rfl (by decide) rfl ?_
                    refine qr_iload_n 203 rfl g502 rfl ?_
                    refine qr_imul 204 rfl rfl ?_
                    refine qr_aload_n 205 rfl g501 rfl ?_
                    refine qr_callN 208 rfl rfl rfl (sf_220_86x (d := d + 1) hI508 ) ?_
                    have hs578 : (-1) ≤ σ506 86 35 ∧ σ506 86 35 ≤ 120 := hI508.1 86 35
                    have hs579 : σ506 86 35 = (σ 86 35) := (hk510).trans rfl
                    have hs580 : 0 ≤ σ506 86 36 ∧ σ506 86 36 ≤ 120 := hI508.1 86 36
                    have hs581 : 0 ≤ σ506 86 37 ∧ σ506 86 37 ≤ 120 := hI508.1 86 37
                    have hs582 : σ506 86 37 = (σ 86 37) := (hk511).trans rfl
                    rintro _ _ ⟨rfl, v576, rfl, hv576, hp577⟩
                    rw [hF509.1 86 35 (by decide), hF509.1 86 37 (by decide)] at hp577
                    show qr_W (qe L xs vb) (d + 2) qx_e219 _ (208, _, [.int (qz v576), .int (qz (10 * u503))], qw σ506 α κ ρ, 0, 0)
                    refine qr_iadd 209 rfl rfl ?_
                    refine qr_bipush 211 rfl (by decide) rfl ?_
                    refine qr_isub 212 rfl rfl ?_
                    refine qr_istore_n _ 213 rfl (by decide) rfl rfl ?_
                    refine qr_iinc _ 216 rfl (qm_gk g504 (by decide) (Or.inl (by decide))) (by decide) rfl rfl ?_
                    refine qr_aload_n 217 rfl (qm_gk (qm_gk g501 (by decide) (Or.inl (by decide))) (by decide) (Or.inl (by decide))) rfl ?_
                    refine qr_dup 218 rfl rfl rfl ?_
                    refine qr_get 221 rfl rfl rfl (by decide) rfl ?_
                    refine qr_iconst 222 rfl rfl ?_
                    refine qr_iadd 223 rfl rfl ?_
                    refine qr_put 226 rfl (by decide) rfl (Nat.le_of_ble_eq_true rfl) (Nat.le_of_ble_eq_true rfl) (Or.inl rfl) (qr_fitI rfl _) rfl ?_
                    refine qy_wS (qw_s σ506 86 36 ((σ506 86 36) + 1)) rfl (fun σ583 e584 => ?_)
                    have hI585 : qI σ583 α κ ρ := by rw [e584]; exact qI_s hI508 86 36 rfl (show 0 ≤ ((σ506 86 36) + 1) ∧ ((σ506 86 36) + 1) ≤ 120 by omega)
                    have hF586 : qFr [(86, 36), (86, 38), (86, 39)] [] σ α σ583 α := by rw [e584]; exact qFr_s hF509 86 36 _ (by decide)
                    refine qr_goto 176 rfl rfl ?_
                    exact ih519 _ (((10 * u503) + v576) - 48) (u505 + 1) σ583 (by omega) (qm_gk (qm_gk g501 (by decide) (Or.inl (by decide))) (by decide) (Or.inl (by decide))) (qm_gk (qm_ge _ _ _) (by decide) (Or.inr rfl)) (qm_ge _ _ _) (by omega) (by omega) hI585 hF586 ((congrFun (congrFun e584 86) 35).trans ((hk510).trans rfl)) ((congrFun (congrFun e584 86) 37).trans ((hk511).trans rfl)) ((congrFun (congrFun e584 86) 38).trans ((hk512).trans rfl)) ((congrFun (congrFun e584 86) 39).trans ((hk513).trans rfl)) (by rw [show σ583 86 36 = ((σ506 86 36) + 1) from (congrFun (congrFun e584 86) 36).trans rfl]; exact hx516.trans (qtx_num_g (by omega) (by omega) (by omega) (by omega))) (by have hz : u505 = 0 → (qtx_c (qtT (α 106) (α 107) (σ 86 35)) (σ 86 37) (σ506 86 36)) = (qtx_c (qtT (α 106) (α 107) (σ 86 35)) (σ 86 37) (σ 86 36)) := fun e => (by rw [show σ506 86 36 = σ 86 36 by omega]); have hw0 : σ583 86 36 = ((σ506 86 36) + 1) := (congrFun (congrFun e584 86) 36).trans rfl; have hw1 : σ583 86 38 = (σ 86 38) := (congrFun (congrFun e584 86) 38).trans ((hk512).trans rfl); have hw2 : σ583 86 39 = (σ 86 39) := (congrFun (congrFun e584 86) 39).trans ((hk513).trans rfl); omega)
          exact hL518 ((4 - 0 + 1 : Int)).toNat _ 0 0 σ (by omega) rfl rfl rfl (by omega) (by omega) hI hF0 (rfl) (rfl) (rfl) (rfl) (by rfl) (by omega)
        · skip
          have hnn587 := qnm_pos hp128 (by omega)
          refine qr_aload_n 155 rfl rfl rfl ?_
          refine qr_dup 156 rfl rfl rfl ?_
          refine qr_get 159 rfl rfl rfl (by decide) rfl ?_
          refine qr_iconst 160 rfl rfl ?_
          refine qr_iadd 161 rfl rfl ?_
          refine qr_put 164 rfl (by decide) rfl (Nat.le_of_ble_eq_true rfl) (Nat.le_of_ble_eq_true rfl) (Or.inl rfl) (qr_fitI rfl _) rfl ?_
          refine qy_wS (qw_s σ 86 36 ((σ 86 36) + 1)) rfl (fun σ588 e589 => ?_)
          have hI590 : qI σ588 α κ ρ := by rw [e589]; exact qI_s hI 86 36 rfl (show 0 ≤ ((σ 86 36) + 1) ∧ ((σ 86 36) + 1) ≤ 120 by omega)
          have hF591 : qFr [(86, 36), (86, 38), (86, 39)] [] σ α σ588 α := by rw [e589]; exact qFr_s hF0 86 36 _ (by decide)
          refine qr_aload_n 165 rfl rfl rfl ?_
          refine qr_get 168 rfl rfl rfl (by decide) rfl ?_
          refine qr_iload_n 169 rfl rfl rfl ?_
          refine qr_iaload 170 rfl rfl (by omega) (by decide) rfl ?_
          refine qr_topI (fun v592 hv592 => ?_)
          have hs593 : (-2147483648) ≤ v592 ∧ v592 ≤ 2147483647 := by rw [hv592]; exact hI590.2.1 109 _ (show _ < 9 by omega)
          refine qr_retI rfl rfl (by decide) (by decide) ?_
          have hw594 : σ588 86 36 = ((σ 86 36) + 1) := (congrFun (congrFun e589 86) 36).trans rfl
          have hw595 : σ588 86 38 = (σ 86 38) := (congrFun (congrFun e589 86) 38).trans rfl
          have hw596 : σ588 86 39 = (σ 86 39) := (congrFun (congrFun e589 86) 39).trans rfl
          exact ⟨_, rfl, hI590, hF591, v592, rfl, by omega, by omega, (by rw [show σ588 86 36 = ((σ 86 36) + 1) from (congrFun (congrFun e589 86) 36).trans rfl, show σ588 86 38 = (σ 86 38) from (congrFun (congrFun e589 86) 38).trans rfl]; rw [p1]; exact qO_n (T := (qtT (α 106) (α 107) (σ 86 35))) (n := (σ 86 37)) (N := (α 109)) (r := ro) (a := (σ 86 36)) (m := v127) (by rw [show (qtx_c (qtT (α 106) (α 107) (σ 86 35)) (σ 86 37) (σ 86 36)) = v2 by omega]; exact hp128.symm) (by omega) hv592)⟩
      · skip
        refine qr_aload_n 33 rfl rfl rfl ?_
        refine qr_get 36 rfl rfl rfl (by decide) rfl ?_
        refine qr_bipush 38 rfl (by decide) rfl ?_
        refine qr_icmp_ne 46 41 rfl rfl rfl (by omega) (by omega) (fun h597 => ?_) (fun h597 => ?_)
        · skip
          refine qr_aload_n 47 rfl rfl rfl ?_
          refine qr_dup 48 rfl rfl rfl ?_
          refine qr_get 51 rfl rfl rfl (by decide) rfl ?_
          refine qr_iconst 52 rfl rfl ?_
          refine qr_iadd 53 rfl rfl ?_
          refine qr_put 56 rfl (by decide) rfl (Nat.le_of_ble_eq_true rfl) (Nat.le_of_ble_eq_true rfl) (Or.inl rfl) (qr_fitI rfl _) rfl ?_
          refine qy_wS (qw_s σ 86 39 ((σ 86 39) + 1)) rfl (fun σ598 e599 => ?_)
          have hI600 : qI σ598 α κ ρ := by rw [e599]; exact qI_s hI 86 39 rfl (show 0 ≤ ((σ 86 39) + 1) ∧ ((σ 86 39) + 1) ≤ 6 by omega)
          have hF601 : qFr [(86, 36), (86, 38), (86, 39)] [] σ α σ598 α := by rw [e599]; exact qFr_s hF0 86 39 _ (by decide)
          refine qr_aload_n 57 rfl rfl rfl ?_
          refine qr_dup 58 rfl rfl rfl ?_
          refine qr_get 61 rfl rfl rfl (by decide) rfl ?_
          refine qy_v (σ 86 36) ((congrFun (congrFun e599 86) 36).trans rfl) ?_
          refine qr_iconst 62 rfl rfl ?_
          refine qr_iadd 63 rfl rfl ?_
          refine qr_put 66 rfl (by decide) rfl (Nat.le_of_ble_eq_true rfl) (Nat.le_of_ble_eq_true rfl) (Or.inl rfl) (qr_fitI rfl _) rfl ?_
          refine qy_wS (qw_s σ598 86 36 ((σ 86 36) + 1)) rfl (fun σ602 e603 => ?_)
          have hI604 : qI σ602 α κ ρ := by rw [e603]; exact qI_s hI600 86 36 rfl (show 0 ≤ ((σ 86 36) + 1) ∧ ((σ 86 36) + 1) ≤ 120 by omega)
          have hF605 : qFr [(86, 36), (86, 38), (86, 39)] [] σ α σ602 α := by rw [e603]; exact qFr_s hF601 86 36 _ (by decide)
          refine qr_iload_n 67 rfl rfl rfl ?_
          refine qr_bipush 69 rfl (by decide) rfl ?_
          refine qr_icmp_ne 79 72 rfl rfl rfl (by omega) (by omega) (fun h => False.elim (by omega)) (fun h606 => ?_)
          refine qr_aload_n 73 rfl rfl rfl ?_
          have hs607 : 0 ≤ σ602 86 36 ∧ σ602 86 36 ≤ 120 := hI604.1 86 36
          have hs608 : σ602 86 36 = ((σ 86 36) + 1) := (congrFun (congrFun e603 86) 36).trans rfl
          have hs609 : 0 ≤ σ602 86 37 ∧ σ602 86 37 ≤ 120 := hI604.1 86 37
          have hs610 : σ602 86 37 = (σ 86 37) := (congrFun (congrFun e603 86) 37).trans ((congrFun (congrFun e599 86) 37).trans rfl)
          have hs611 : (-1) ≤ σ602 86 38 ∧ σ602 86 38 ≤ 120 := hI604.1 86 38
          have hs612 : σ602 86 38 = (σ 86 38) := (congrFun (congrFun e603 86) 38).trans ((congrFun (congrFun e599 86) 38).trans rfl)
          have hs613 : 0 ≤ σ602 86 39 ∧ σ602 86 39 ≤ 6 := hI604.1 86 39
          have hs614 : σ602 86 39 = ((σ 86 39) + 1) := (congrFun (congrFun e603 86) 39).trans ((congrFun (congrFun e599 86) 39).trans rfl)
          refine qr_callN 76 rfl rfl rfl (ihE hI604 (by omega) (by omega) (by omega) (by omega)) ?_
          have hs618 : 0 ≤ σ602 86 36 ∧ σ602 86 36 ≤ 120 := hI604.1 86 36
          have hs619 : σ602 86 36 = ((σ 86 36) + 1) := (congrFun (congrFun e603 86) 36).trans rfl
          have hs620 : 0 ≤ σ602 86 37 ∧ σ602 86 37 ≤ 120 := hI604.1 86 37
          have hs621 : σ602 86 37 = (σ 86 37) := (congrFun (congrFun e603 86) 37).trans ((congrFun (congrFun e599 86) 37).trans rfl)
          have hs622 : 0 ≤ σ602 86 39 ∧ σ602 86 39 ≤ 6 := hI604.1 86 39
          have hs623 : σ602 86 39 = ((σ 86 39) + 1) := (congrFun (congrFun e603 86) 39).trans ((congrFun (congrFun e599 86) 39).trans rfl)
          rintro _ _ ⟨σ624, rfl, hI625, hG626, v615, rfl, hv615, hp616, hx617⟩
          have hF627 : qFr [(86, 36), (86, 38), (86, 39)] [] σ α σ624 α := qFr_t hF605 hG626 (by decide) (by decide)
          have hs628 : 0 ≤ σ624 86 36 ∧ σ624 86 36 ≤ 120 := hI625.1 86 36
          have hs629 : (-1) ≤ σ624 86 38 ∧ σ624 86 38 ≤ 120 := hI625.1 86 38
          have hs630 : 0 ≤ σ624 86 39 ∧ σ624 86 39 ≤ 6 := hI625.1 86 39
          rw [hF605.1 86 37 (by decide), (show σ602 86 36 = ((σ 86 36) + 1) from (congrFun (congrFun e603 86) 36).trans rfl), (show σ602 86 39 = ((σ 86 39) + 1) from (congrFun (congrFun e603 86) 39).trans ((congrFun (congrFun e599 86) 39).trans rfl))] at hp616
          rw [hF605.1 86 35 (by decide), hF605.1 86 37 (by decide), (show σ602 86 36 = ((σ 86 36) + 1) from (congrFun (congrFun e603 86) 36).trans rfl)] at hx617
          show qr_W (qe L xs vb) (d + 2) qx_e219 _ (76, _, [.int (qz v615)], qw σ624 α κ ρ, 0, 0)
          refine qr_goto 83 rfl rfl ?_
          refine qr_istore_n _ 84 rfl (by decide) rfl rfl ?_
          refine qr_iload_n 85 rfl rfl rfl ?_
          refine qr_bipush 87 rfl (by decide) rfl ?_
          refine qr_icmp_ne 104 90 rfl rfl rfl (by omega) (by omega) (fun h => False.elim (by omega)) (fun h631 => ?_)
          refine qr_aload_n 91 rfl rfl rfl ?_
          refine qr_bipush 93 rfl (by decide) rfl ?_
          refine qr_callN 96 rfl rfl rfl (sf_222_86x (d := d + 0) hI625 (by omega) (by omega)) ?_
          have hs634 : (-1) ≤ σ624 86 35 ∧ σ624 86 35 ≤ 120 := hI625.1 86 35
          have hs635 : σ624 86 35 = (σ 86 35) := (hG626.1 86 35 (by decide)).trans ((congrFun (congrFun e603 86) 35).trans ((congrFun (congrFun e599 86) 35).trans rfl))
          have hs636 : 0 ≤ σ624 86 36 ∧ σ624 86 36 ≤ 120 := hI625.1 86 36
          have hs637 : 0 ≤ σ624 86 37 ∧ σ624 86 37 ≤ 120 := hI625.1 86 37
          have hs638 : σ624 86 37 = (σ 86 37) := (hG626.1 86 37 (by decide)).trans ((congrFun (congrFun e603 86) 37).trans ((congrFun (congrFun e599 86) 37).trans rfl))
          have hs639 : (-1) ≤ σ624 86 38 ∧ σ624 86 38 ≤ 120 := hI625.1 86 38
          rintro _ _ ⟨σ640, rfl, hI641, hG642, v632, rfl, hv632, hp633⟩
          have hF643 : qFr [(86, 36), (86, 38), (86, 39)] [] σ α σ640 α := qFr_t hF627 hG642 (by decide) (by decide)
          have hs644 : 0 ≤ σ640 86 36 ∧ σ640 86 36 ≤ 120 := hI641.1 86 36
          rw [hF627.1 86 35 (by decide), hF627.1 86 37 (by decide)] at hp633
          show qr_W (qe L xs vb) (d + 2) qx_e219 _ (96, _, [.int (qz v632)], qw σ640 α κ ρ, 0, 0)
          refine qr_if_ne 104 99 rfl rfl rfl (by omega) (fun h645 => ?_) (fun h645 => ?_)
          · skip
            refine qr_aload_n 105 rfl rfl rfl ?_
            refine qr_dup 106 rfl rfl rfl ?_
            refine qr_get 109 rfl rfl rfl (by decide) rfl ?_
            refine qy_v (σ624 86 39) ((hG642.1 86 39 (by decide)).trans rfl) ?_
            refine qr_iconst 110 rfl rfl ?_
            refine qr_isub 111 rfl rfl ?_
            as_aux_lemma =>
              refine qr_put 114 rfl (by decide) rfl (Nat.le_of_ble_eq_true rfl) (Nat.le_of_ble_eq_true rfl) (Or.inl rfl) (qr_fitI rfl _) rfl ?_
              refine qy_wS (qw_s σ640 86 39 ((σ624 86 39) - 1)) rfl (fun σ646 e647 => ?_)
              have hI648 : qI σ646 α κ ρ := by rw [e647]; exact qI_s hI641 86 39 rfl (show 0 ≤ ((σ624 86 39) - 1) ∧ ((σ624 86 39) - 1) ≤ 6 by omega)
              have hF649 : qFr [(86, 36), (86, 38), (86, 39)] [] σ α σ646 α := by rw [e647]; exact qFr_s hF643 86 39 _ (by decide)
              refine qr_iload_n 115 rfl rfl rfl ?_
              refine qr_bipush 117 rfl (by decide) rfl ?_
              refine qr_icmp_ne 124 120 rfl rfl rfl (by omega) (by omega) (fun h => False.elim (by omega)) (fun h650 => ?_)
              refine qr_iload_n 121 rfl rfl rfl ?_
              refine qr_goto 144 rfl rfl ?_
              refine qr_retI rfl rfl (by decide) (by decide) ?_
              have hw651 : σ646 86 36 = (σ640 86 36) := (congrFun (congrFun e647 86) 36).trans rfl
              have hw652 : σ646 86 38 = (σ624 86 38) := (congrFun (congrFun e647 86) 38).trans ((hG642.1 86 38 (by decide)).trans rfl)
              have hw653 : σ646 86 39 = ((σ624 86 39) - 1) := (congrFun (congrFun e647 86) 39).trans rfl
              exact ⟨_, rfl, hI648, hF649, v615, rfl, by omega, by omega, (by rw [show σ646 86 36 = (σ640 86 36) from (congrFun (congrFun e647 86) 36).trans rfl, show σ646 86 38 = (σ624 86 38) from (congrFun (congrFun e647 86) 38).trans ((hG642.1 86 38 (by decide)).trans rfl)]; exact qO_p (T := (qtT (α 106) (α 107) (σ 86 35))) (n := (σ 86 37)) (N := (α 109)) (r := ro) (a := (σ 86 36)) (a2 := (σ624 86 36)) (fa := (σ624 86 38)) (by omega) (by omega) hx617 (by omega) (by omega))⟩
          · skip
            refine qr_aload_n 100 rfl rfl rfl ?_
            refine qr_callN 103 rfl rfl rfl (sf_221_86x (d := d + 1) hI641 ) ?_
            have hs656 : 0 ≤ σ640 86 36 ∧ σ640 86 36 ≤ 120 := hI641.1 86 36
            have hs657 : (-1) ≤ σ640 86 38 ∧ σ640 86 38 ≤ 120 := hI641.1 86 38
            have hs658 : σ640 86 38 = (σ624 86 38) := (hG642.1 86 38 (by decide)).trans rfl
            rintro _ _ ⟨σ659, rfl, hI660, hG661, v654, rfl, hv654, hp655⟩
            have hF662 : qFr [(86, 36), (86, 38), (86, 39)] [] σ α σ659 α := qFr_t hF643 hG661 (by decide) (by decide)
            have hs663 : (-1) ≤ σ659 86 38 ∧ σ659 86 38 ≤ 120 := hI660.1 86 38
            rw [(show σ640 86 38 = (σ624 86 38) from (hG642.1 86 38 (by decide)).trans rfl)] at hp655
            show qr_W (qe L xs vb) (d + 2) qx_e219 _ (103, _, [.int (qz v654)], qw σ659 α κ ρ, 0, 0)
            refine qr_retI rfl rfl (by decide) (by decide) ?_
            have hw664 : σ659 86 36 = (σ640 86 36) := (hG661.1 86 36 (by decide)).trans rfl
            have hw665 : σ659 86 38 = (σ659 86 38) := rfl
            have hw666 : σ659 86 39 = (σ624 86 39) := (hG661.1 86 39 (by decide)).trans ((hG642.1 86 39 (by decide)).trans rfl)
            exact ⟨_, rfl, hI660, hF662, v654, rfl, by omega, by omega, (by rw [show σ659 86 36 = (σ640 86 36) from (hG661.1 86 36 (by decide)).trans rfl]; exact qO_p (T := (qtT (α 106) (α 107) (σ 86 35))) (n := (σ 86 37)) (N := (α 109)) (r := ro) (a := (σ 86 36)) (a2 := (σ624 86 36)) (fa := (σ624 86 38)) (by omega) (by omega) hx617 (by omega) (by omega))⟩
        · skip
          refine qr_aload_n 42 rfl rfl rfl ?_
          refine qr_callN 45 rfl rfl rfl (sf_221_86x (d := d + 1) hI ) ?_
          have hs669 : 0 ≤ σ 86 36 ∧ σ 86 36 ≤ 120 := hI.1 86 36
          have hs670 : (-1) ≤ σ 86 38 ∧ σ 86 38 ≤ 120 := hI.1 86 38
          rintro _ _ ⟨σ671, rfl, hI672, hG673, v667, rfl, hv667, hp668⟩
          have hF674 : qFr [(86, 36), (86, 38), (86, 39)] [] σ α σ671 α := qFr_t hF0 hG673 (by decide) (by decide)
          have hs675 : (-1) ≤ σ671 86 38 ∧ σ671 86 38 ≤ 120 := hI672.1 86 38
          show qr_W (qe L xs vb) (d + 2) qx_e219 _ (45, _, [.int (qz v667)], qw σ671 α κ ρ, 0, 0)
          refine qr_retI rfl rfl (by decide) (by decide) ?_
          have hw676 : σ671 86 36 = (σ 86 36) := (hG673.1 86 36 (by decide)).trans rfl
          have hw677 : σ671 86 38 = (σ671 86 38) := rfl
          have hw678 : σ671 86 39 = (σ 86 39) := (hG673.1 86 39 (by decide)).trans rfl
          exact ⟨_, rfl, hI672, hF674, v667, rfl, by omega, by omega, (by rw [show σ671 86 36 = (σ 86 36) from (hG673.1 86 36 (by decide)).trans rfl]; rw [show σ671 86 38 = σ 86 36 by omega]; exact qO_b (T := (qtT (α 106) (α 107) (σ 86 35))) (n := (σ 86 37)) (N := (α 109)) (r := ro) (a := (σ 86 36)) _ (by omega))⟩
theorem sq_up {L : Nat} {xs : Nat → Int} {vb : Bool} {d : Nat} {κ : Nat → Option Nat} {ρ : Nat} {ro : Nat} (hO : (∀ {σ α : Nat → Nat → Int}, qI σ α κ ρ → σ 86 36 ≤ σ 86 37 → σ 86 38 = -1 → σ 86 39 + (ro : Int) = 6 → qm_T (qe L xs vb) (d + 3) 219 [.ref 86] (qw σ α κ ρ) (fun r w' => ∃ σ', w' = qw σ' α κ ρ ∧ qI σ' α κ ρ ∧ qFr [(86, 36), (86, 38), (86, 39)] [] σ α σ' α ∧ ∃ v : Int, r = some (.int (qz v)) ∧ ((-2147483648) ≤ v ∧ v ≤ 2147483647) ∧ (σ 86 36 ≤ σ' 86 36 ∧ σ' 86 36 ≤ σ 86 37 ∧ σ 86 39 ≤ σ' 86 39 ∧ ((σ' 86 38 = -1 ∧ σ' 86 39 = σ 86 39 ∧ σ 86 36 < σ' 86 36) ∨ σ' 86 38 = σ' 86 36)) ∧ qRes ((fun b => qtx_on (qtT (α 106) (α 107) (σ 86 35)) (σ 86 37) (α 109) ro b) (σ 86 36)) v (σ' 86 36) (σ' 86 38)))) : (∀ {σ α : Nat → Nat → Int}, qI σ α κ ρ → σ 86 36 ≤ σ 86 37 → σ 86 38 = -1 → σ 86 39 + (ro : Int) = 6 → qm_T (qe L xs vb) (d + 8) 214 [.ref 86] (qw σ α κ ρ) (fun r w' => ∃ σ', w' = qw σ' α κ ρ ∧ qI σ' α κ ρ ∧ qFr [(86, 36), (86, 38), (86, 39)] [] σ α σ' α ∧ ∃ v : Int, r = some (.int (qz v)) ∧ ((-2147483648) ≤ v ∧ v ≤ 2147483647) ∧ (σ 86 36 ≤ σ' 86 36 ∧ σ' 86 36 ≤ σ 86 37 ∧ σ 86 39 ≤ σ' 86 39 ∧ ((σ' 86 38 = -1 ∧ σ' 86 39 = σ 86 39 ∧ σ 86 36 < σ' 86 36) ∨ σ' 86 38 = σ' 86 36)) ∧ qRes ((qtx_lv (qtT (α 106) (α 107) (σ 86 35)) (σ 86 37) (fun b => qtx_on (qtT (α 106) (α 107) (σ 86 35)) (σ 86 37) (α 109) ro b) 5) (σ 86 36)) v (σ' 86 36) (σ' 86 38))) := by
  have hP := fun {σ α : Nat → Nat → Int} (hI : qI σ α κ ρ) p0 p1 p2 => sf_218_86x (d := d + 2) (ro := ro) hO hI p0 p1 p2
  have hS := fun {σ α : Nat → Nat → Int} (hI : qI σ α κ ρ) p0 p1 p2 => sf_217_86x (d := d + 3) (ro := ro) hP hI p0 p1 p2
  have hC := fun {σ α : Nat → Nat → Int} (hI : qI σ α κ ρ) p0 p1 p2 => sf_216_86x (d := d + 4) (ro := ro) hS hI p0 p1 p2
  have hB := fun {σ α : Nat → Nat → Int} (hI : qI σ α κ ρ) p0 p1 p2 => sf_215_86x (d := d + 4) (ro := ro) hC hI p0 p1 p2
  intro σ α hI p0 p1 p2
  exact sf_214_86x (d := d + 5) (ro := ro) hB hI p0 p1 p2
theorem sq_all {L : Nat} {xs : Nat → Int} {vb : Bool} {d : Nat} {κ : Nat → Option Nat} {ρ : Nat} (ro : Nat) : (∀ {σ α : Nat → Nat → Int}, qI σ α κ ρ → σ 86 36 ≤ σ 86 37 → σ 86 38 = -1 → σ 86 39 + (ro : Int) = 6 → qm_T (qe L xs vb) (d + 6 * ro + 3) 219 [.ref 86] (qw σ α κ ρ) (fun r w' => ∃ σ', w' = qw σ' α κ ρ ∧ qI σ' α κ ρ ∧ qFr [(86, 36), (86, 38), (86, 39)] [] σ α σ' α ∧ ∃ v : Int, r = some (.int (qz v)) ∧ ((-2147483648) ≤ v ∧ v ≤ 2147483647) ∧ (σ 86 36 ≤ σ' 86 36 ∧ σ' 86 36 ≤ σ 86 37 ∧ σ 86 39 ≤ σ' 86 39 ∧ ((σ' 86 38 = -1 ∧ σ' 86 39 = σ 86 39 ∧ σ 86 36 < σ' 86 36) ∨ σ' 86 38 = σ' 86 36)) ∧ qRes ((fun b => qtx_on (qtT (α 106) (α 107) (σ 86 35)) (σ 86 37) (α 109) ro b) (σ 86 36)) v (σ' 86 36) (σ' 86 38))) ∧ (∀ {σ α : Nat → Nat → Int}, qI σ α κ ρ → σ 86 36 ≤ σ 86 37 → σ 86 38 = -1 → σ 86 39 + (ro : Int) = 6 → qm_T (qe L xs vb) (d + 6 * ro + 8) 214 [.ref 86] (qw σ α κ ρ) (fun r w' => ∃ σ', w' = qw σ' α κ ρ ∧ qI σ' α κ ρ ∧ qFr [(86, 36), (86, 38), (86, 39)] [] σ α σ' α ∧ ∃ v : Int, r = some (.int (qz v)) ∧ ((-2147483648) ≤ v ∧ v ≤ 2147483647) ∧ (σ 86 36 ≤ σ' 86 36 ∧ σ' 86 36 ≤ σ 86 37 ∧ σ 86 39 ≤ σ' 86 39 ∧ ((σ' 86 38 = -1 ∧ σ' 86 39 = σ 86 39 ∧ σ 86 36 < σ' 86 36) ∨ σ' 86 38 = σ' 86 36)) ∧ qRes ((qtx_lv (qtT (α 106) (α 107) (σ 86 35)) (σ 86 37) (fun b => qtx_on (qtT (α 106) (α 107) (σ 86 35)) (σ 86 37) (α 109) ro b) 5) (σ 86 36)) v (σ' 86 36) (σ' 86 38))) := by
  induction ro with
  | zero =>
    have hO : (∀ {σ α : Nat → Nat → Int}, qI σ α κ ρ → σ 86 36 ≤ σ 86 37 → σ 86 38 = -1 → σ 86 39 + ((0 : Nat) : Int) = 6 → qm_T (qe L xs vb) (d + 3) 219 [.ref 86] (qw σ α κ ρ) (fun r w' => ∃ σ', w' = qw σ' α κ ρ ∧ qI σ' α κ ρ ∧ qFr [(86, 36), (86, 38), (86, 39)] [] σ α σ' α ∧ ∃ v : Int, r = some (.int (qz v)) ∧ ((-2147483648) ≤ v ∧ v ≤ 2147483647) ∧ (σ 86 36 ≤ σ' 86 36 ∧ σ' 86 36 ≤ σ 86 37 ∧ σ 86 39 ≤ σ' 86 39 ∧ ((σ' 86 38 = -1 ∧ σ' 86 39 = σ 86 39 ∧ σ 86 36 < σ' 86 36) ∨ σ' 86 38 = σ' 86 36)) ∧ qRes ((fun b => qtx_on (qtT (α 106) (α 107) (σ 86 35)) (σ 86 37) (α 109) 0 b) (σ 86 36)) v (σ' 86 36) (σ' 86 38))) := fun hI p0 p1 p2 => sf_219_86x (d := d) (ro := 0) (fun _ h => absurd h (by decide)) (fun _ h => absurd h (by decide)) hI p0 p1 p2
    exact ⟨hO, sq_up hO⟩
  | succ rr ih =>
    obtain ⟨iO, iE⟩ := ih
    have hO : (∀ {σ α : Nat → Nat → Int}, qI σ α κ ρ → σ 86 36 ≤ σ 86 37 → σ 86 38 = -1 → σ 86 39 + ((rr + 1 : Nat) : Int) = 6 → qm_T (qe L xs vb) (d + 6 * rr + 9) 219 [.ref 86] (qw σ α κ ρ) (fun r w' => ∃ σ', w' = qw σ' α κ ρ ∧ qI σ' α κ ρ ∧ qFr [(86, 36), (86, 38), (86, 39)] [] σ α σ' α ∧ ∃ v : Int, r = some (.int (qz v)) ∧ ((-2147483648) ≤ v ∧ v ≤ 2147483647) ∧ (σ 86 36 ≤ σ' 86 36 ∧ σ' 86 36 ≤ σ 86 37 ∧ σ 86 39 ≤ σ' 86 39 ∧ ((σ' 86 38 = -1 ∧ σ' 86 39 = σ 86 39 ∧ σ 86 36 < σ' 86 36) ∨ σ' 86 38 = σ' 86 36)) ∧ qRes ((fun b => qtx_on (qtT (α 106) (α 107) (σ 86 35)) (σ 86 37) (α 109) (rr + 1) b) (σ 86 36)) v (σ' 86 36) (σ' 86 38))) := fun hI p0 p1 p2 => sf_219_86x (d := d + 6 * rr + 6) (ro := rr + 1) (fun hI _ q0 q1 q2 => iE hI q0 q1 q2) (fun hI _ q0 q1 q2 => qm_T_le _ (by omega) (iO hI q0 q1 q2)) hI p0 p1 p2
    exact ⟨hO, sq_up (d := d + 6 * (rr + 1)) hO⟩
