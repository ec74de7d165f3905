set_option maxHeartbeats 4000000 in
set_option maxRecDepth 20000 in
/-- OneRoofModel.byteAt -/
theorem sf_220_86t {L : Nat} {xs : Nat → Int} {vb : Bool} {d : Nat} {σ α : Nat → Nat → Int} {κ : Nat → Option Nat} {ρ : Nat}  (hI : qI σ α κ ρ)  : qm_T (qe L xs vb) (d + 1) 220 [.ref 86] (qw σ α κ ρ) (fun r w' => w' = qw σ α κ ρ ∧ ∃ v : Int, r = some (.int (qz v)) ∧ ((-2147483648) ≤ v ∧ v ≤ 2147483647) ∧ (v = 0 ∨ σ 86 36 < σ 86 37)) := by
  refine qr_start (d := d + 0) qv_e220 (Nat.le_of_ble_eq_true rfl) ?_
  show qr_W (qe L xs vb) (d + 0) qx_e220 _ (0, [(0, .ref 86)], [], _, 0, 0)
  have hz86_36 : 0 ≤ σ 86 36 ∧ σ 86 36 ≤ 120 := hI.1 86 36
  have hz86_37 : 0 ≤ σ 86 37 ∧ σ 86 37 ≤ 120 := hI.1 86 37
  refine qr_aload_n 1 rfl rfl rfl ?_
  refine qr_get 4 rfl rfl rfl (by decide) rfl ?_
  refine qr_aload_n 5 rfl rfl rfl ?_
  refine qr_get 8 rfl rfl rfl (by decide) rfl ?_
  refine qr_icmp_ge 47 11 rfl rfl rfl (qrg hz86_36 (by decide) (by decide)) (qrg hz86_37 (by decide) (by decide)) (fun h1 => ?_) (fun h1 => ?_)
  · skip
    refine qr_iconst 48 rfl rfl ?_
    refine qr_retI rfl rfl (by decide) (by decide) ?_
    exact ⟨rfl, 0, rfl, (by decide), by omega⟩
  · skip
    refine qr_aload_n 12 rfl rfl rfl ?_
    refine qr_get 15 rfl rfl rfl (by decide) rfl ?_
    have hs2 : (-1) ≤ σ 86 35 ∧ σ 86 35 ≤ 120 := hI.1 86 35
    refine qr_if_ge 30 18 rfl rfl rfl (qrg hs2 (by decide) (by decide)) (fun h3 => ?_) (fun h3 => ?_)
    · skip
      refine qr_aload_n 31 rfl rfl rfl ?_
      refine qr_get 34 rfl rfl rfl (by decide) rfl ?_
      refine qr_aload_n 35 rfl rfl rfl ?_
      refine qr_get 38 rfl rfl rfl (by decide) rfl ?_
      refine qr_aload_n 39 rfl rfl rfl ?_
      refine qr_get 42 rfl rfl rfl (by decide) rfl ?_
      refine qr_iadd 43 rfl rfl ?_
      refine qr_iaload 44 rfl rfl (by omega) (by decide) rfl ?_
      refine qr_topI (fun v4 hv4 => ?_)
      have hs5 : (-2147483648) ≤ v4 ∧ v4 ≤ 2147483647 := by rw [hv4]; exact hI.2.1 107 _ (show _ < 240 by omega)
      refine qr_goto 48 rfl rfl ?_
      refine qr_retI rfl rfl (by decide) (by decide) ?_
      exact ⟨rfl, v4, rfl, hs5, by omega⟩
    · skip
      refine qr_aload_n 19 rfl rfl rfl ?_
      refine qr_get 22 rfl rfl rfl (by decide) rfl ?_
      refine qr_aload_n 23 rfl rfl rfl ?_
      refine qr_get 26 rfl rfl rfl (by decide) rfl ?_
      refine qr_iaload 27 rfl rfl (by omega) (by decide) rfl ?_
      refine qr_topI (fun v6 hv6 => ?_)
      have hs7 : (-2147483648) ≤ v6 ∧ v6 ≤ 2147483647 := by rw [hv6]; exact hI.2.1 106 _ (show _ < 120 by omega)
      refine qr_goto 48 rfl rfl ?_
      refine qr_retI rfl rfl (by decide) (by decide) ?_
      exact ⟨rfl, v6, rfl, hs7, by omega⟩

set_option maxHeartbeats 4000000 in
set_option maxRecDepth 20000 in
/-- OneRoofModel.takes -/
theorem sf_222_86t {L : Nat} {xs : Nat → Int} {vb : Bool} {d : Nat} {σ α : Nat → Nat → Int} {κ : Nat → Option Nat} {ρ : Nat} {x1 : Int} (hI : qI σ α κ ρ) (r1 : (-2147483648) ≤ x1 ∧ x1 ≤ 2147483647) (p0 : ¬ x1 = 0) : qm_T (qe L xs vb) (d + 2) 222 [.ref 86, .int (qz x1)] (qw σ α κ ρ) (fun r w' => ∃ σ', w' = qw σ' α κ ρ ∧ qI σ' α κ ρ ∧ qFr [(86, 36)] [] σ α σ' α ∧ ∃ v : Int, r = some (.int (qz v)) ∧ (0 ≤ v ∧ v ≤ 1) ∧ ((v = 0 ∧ σ' 86 36 = σ 86 36) ∨ (v = 1 ∧ σ' 86 36 = σ 86 36 + 1 ∧ σ 86 36 < σ 86 37))) := by
  refine qr_start (d := d + 1) qv_e222 (Nat.le_of_ble_eq_true rfl) ?_
  show qr_W (qe L xs vb) (d + 1) qx_e222 _ (0, [(0, .ref 86), (1, .int (qz x1))], [], _, 0, 0)
  have hF0 := qFr_rf [(86, 36)] [] σ α
  have hz86_36 : 0 ≤ σ 86 36 ∧ σ 86 36 ≤ 120 := hI.1 86 36
  have hz86_37 : 0 ≤ σ 86 37 ∧ σ 86 37 ≤ 120 := hI.1 86 37
  refine qr_aload_n 1 rfl rfl rfl ?_
  refine qr_get 4 rfl rfl rfl (by decide) rfl ?_
  have hs1 : (-1) ≤ σ 86 38 ∧ σ 86 38 ≤ 120 := hI.1 86 38
  refine qr_if_ge 15 7 rfl rfl rfl (qrg hs1 (by decide) (by decide)) (fun h2 => ?_) (fun h2 => ?_)
  · skip
    refine qr_iconst 16 rfl rfl ?_
    refine qr_retZ rfl rfl (Or.inl rfl) (by decide) (by decide) ?_
    have hw3 : σ 86 36 = (σ 86 36) := rfl
    exact ⟨_, rfl, hI, hF0, 0, rfl, (by decide), by omega⟩
  · skip
    refine qr_aload_n 8 rfl rfl rfl ?_
    refine qr_callN 11 rfl rfl rfl (sf_220_86 (d := d + 0) hI ) ?_
    have hs6 : 0 ≤ σ 86 36 ∧ σ 86 36 ≤ 120 := hI.1 86 36
    have hs7 : 0 ≤ σ 86 37 ∧ σ 86 37 ≤ 120 := hI.1 86 37
    rintro _ _ ⟨rfl, v4, rfl, hv4, hp5⟩
    show qr_W (qe L xs vb) (d + 1) qx_e222 _ (11, _, [.int (qz v4)], qw σ α κ ρ, 0, 0)
    refine qr_iload_n 12 rfl rfl rfl ?_
    refine qr_icmp_eq 17 15 rfl rfl rfl hv4 r1 (fun h8 => ?_) (fun h8 => ?_)
    · skip
      refine qr_aload_n 18 rfl rfl rfl ?_
      refine qr_dup 19 rfl rfl rfl ?_
      refine qr_get 22 rfl rfl rfl (by decide) rfl ?_
      refine qr_iconst 23 rfl rfl ?_
      refine qr_iadd 24 rfl rfl ?_
      refine qr_put 27 rfl (by decide) rfl (Nat.le_of_ble_eq_true rfl) (Nat.le_of_ble_eq_true rfl) (Or.inl rfl) (qr_fitI rfl _) rfl ?_
      refine qy_wS (qw_s σ 86 36 ((σ 86 36) + 1)) rfl (fun σ9 e10 => ?_)
      have hI11 : qI σ9 α κ ρ := by rw [e10]; exact qI_s hI 86 36 rfl (show 0 ≤ ((σ 86 36) + 1) ∧ ((σ 86 36) + 1) ≤ 120 by omega)
      have hF12 : qFr [(86, 36)] [] σ α σ9 α := by rw [e10]; exact qFr_s hF0 86 36 _ (by decide)
      refine qr_iconst 28 rfl rfl ?_
      refine qr_retZ rfl rfl (Or.inr rfl) (by decide) (by decide) ?_
      have hw13 : σ9 86 36 = ((σ 86 36) + 1) := (congrFun (congrFun e10 86) 36).trans rfl
      exact ⟨_, rfl, hI11, hF12, 1, rfl, (by decide), by omega⟩
    · skip
      refine qr_iconst 16 rfl rfl ?_
      refine qr_retZ rfl rfl (Or.inl rfl) (by decide) (by decide) ?_
      have hw14 : σ 86 36 = (σ 86 36) := rfl
      exact ⟨_, rfl, hI, hF0, 0, rfl, (by decide), by omega⟩

set_option maxHeartbeats 4000000 in
set_option maxRecDepth 20000 in
/-- OneRoofModel.nameOf -/
theorem sf_223t {L : Nat} {xs : Nat → Int} {vb : Bool} {d : Nat} {σ α : Nat → Nat → Int} {κ : Nat → Option Nat} {ρ : Nat} {x0 : Int} (hI : qI σ α κ ρ) (r0 : (-2147483648) ≤ x0 ∧ x0 ≤ 2147483647) : qm_T (qe L xs vb) (d + 1) 223 [.int (qz x0)] (qw σ α κ ρ) (fun r w' => w' = qw σ α κ ρ ∧ ∃ v : Int, r = some (.int (qz v)) ∧ ((-1) ≤ v ∧ v ≤ 8) ∧ (x0 = 0 → v = -1)) := by
  refine qr_start (d := d + 0) qv_e223 (Nat.le_of_ble_eq_true rfl) ?_
  show qr_W (qe L xs vb) (d + 0) qx_e223 _ (0, [(0, .int (qz x0))], [], _, 0, 0)
  refine qr_iload_n 1 rfl rfl rfl ?_
  have h1 : x0 = 99 ∨ x0 = 100 ∨ x0 = 101 ∨ x0 = 102 ∨ x0 = 103 ∨ x0 = 104 ∨ x0 = 105 ∨ x0 = 106 ∨ x0 = 107 ∨ x0 = 108 ∨ x0 = 109 ∨ x0 = 110 ∨ x0 = 111 ∨ x0 = 112 ∨ x0 = 113 ∨ x0 = 114 ∨ x0 = 115 ∨ x0 = 116 ∨ x0 = 117 ∨ x0 = 118 ∨ x0 = 119 ∨ (x0 < 99 ∨ 119 < x0) := by omega
  rcases h1 with h1 | h1 | h1 | h1 | h1 | h1 | h1 | h1 | h1 | h1 | h1 | h1 | h1 | h1 | h1 | h1 | h1 | h1 | h1 | h1 | h1 | h1
  · skip
    refine qr_tabIn 104 rfl r0 (by rw [h1]; decide) (by rw [h1]; rfl) rfl ?_
    refine qr_iconst 105 rfl rfl ?_
    refine qr_retI rfl rfl (by decide) (by decide) ?_
    exact ⟨rfl, 2, rfl, (by decide), by omega⟩
  · skip
    refine qr_tabIn 118 rfl r0 (by rw [h1]; decide) (by rw [h1]; rfl) rfl ?_
    refine qr_bipush 120 rfl (by decide) rfl ?_
    refine qr_retI rfl rfl (by decide) (by decide) ?_
    exact ⟨rfl, 8, rfl, (by decide), by omega⟩
  · skip
    refine qr_tabIn 121 rfl r0 (by rw [h1]; decide) (by rw [h1]; rfl) rfl ?_
    refine qr_iconst 122 rfl rfl ?_
    refine qr_retI rfl rfl (by decide) (by decide) ?_
    exact ⟨rfl, (-1), rfl, (by decide), by omega⟩
  · skip
    refine qr_tabIn 100 rfl r0 (by rw [h1]; decide) (by rw [h1]; rfl) rfl ?_
    refine qr_iconst 101 rfl rfl ?_
    refine qr_retI rfl rfl (by decide) (by decide) ?_
    exact ⟨rfl, 0, rfl, (by decide), by omega⟩
  · skip
    refine qr_tabIn 121 rfl r0 (by rw [h1]; decide) (by rw [h1]; rfl) rfl ?_
    refine qr_iconst 122 rfl rfl ?_
    refine qr_retI rfl rfl (by decide) (by decide) ?_
    exact ⟨rfl, (-1), rfl, (by decide), by omega⟩
  · skip
    refine qr_tabIn 121 rfl r0 (by rw [h1]; decide) (by rw [h1]; rfl) rfl ?_
    refine qr_iconst 122 rfl rfl ?_
    refine qr_retI rfl rfl (by decide) (by decide) ?_
    exact ⟨rfl, (-1), rfl, (by decide), by omega⟩
  · skip
    refine qr_tabIn 121 rfl r0 (by rw [h1]; decide) (by rw [h1]; rfl) rfl ?_
    refine qr_iconst 122 rfl rfl ?_
    refine qr_retI rfl rfl (by decide) (by decide) ?_
    exact ⟨rfl, (-1), rfl, (by decide), by omega⟩
  · skip
    refine qr_tabIn 121 rfl r0 (by rw [h1]; decide) (by rw [h1]; rfl) rfl ?_
    refine qr_iconst 122 rfl rfl ?_
    refine qr_retI rfl rfl (by decide) (by decide) ?_
    exact ⟨rfl, (-1), rfl, (by decide), by omega⟩
  · skip
    refine qr_tabIn 112 rfl r0 (by rw [h1]; decide) (by rw [h1]; rfl) rfl ?_
    refine qr_bipush 114 rfl (by decide) rfl ?_
    refine qr_retI rfl rfl (by decide) (by decide) ?_
    exact ⟨rfl, 6, rfl, (by decide), by omega⟩
  · skip
    refine qr_tabIn 110 rfl r0 (by rw [h1]; decide) (by rw [h1]; rfl) rfl ?_
    refine qr_iconst 111 rfl rfl ?_
    refine qr_retI rfl rfl (by decide) (by decide) ?_
    exact ⟨rfl, 5, rfl, (by decide), by omega⟩
  · skip
    refine qr_tabIn 121 rfl r0 (by rw [h1]; decide) (by rw [h1]; rfl) rfl ?_
    refine qr_iconst 122 rfl rfl ?_
    refine qr_retI rfl rfl (by decide) (by decide) ?_
    exact ⟨rfl, (-1), rfl, (by decide), by omega⟩
  · skip
    refine qr_tabIn 102 rfl r0 (by rw [h1]; decide) (by rw [h1]; rfl) rfl ?_
    refine qr_iconst 103 rfl rfl ?_
    refine qr_retI rfl rfl (by decide) (by decide) ?_
    exact ⟨rfl, 1, rfl, (by decide), by omega⟩
  · skip
    refine qr_tabIn 115 rfl r0 (by rw [h1]; decide) (by rw [h1]; rfl) rfl ?_
    refine qr_bipush 117 rfl (by decide) rfl ?_
    refine qr_retI rfl rfl (by decide) (by decide) ?_
    exact ⟨rfl, 7, rfl, (by decide), by omega⟩
  · skip
    refine qr_tabIn 121 rfl r0 (by rw [h1]; decide) (by rw [h1]; rfl) rfl ?_
    refine qr_iconst 122 rfl rfl ?_
    refine qr_retI rfl rfl (by decide) (by decide) ?_
    exact ⟨rfl, (-1), rfl, (by decide), by omega⟩
  · skip
    refine qr_tabIn 121 rfl r0 (by rw [h1]; decide) (by rw [h1]; rfl) rfl ?_
    refine qr_iconst 122 rfl rfl ?_
    refine qr_retI rfl rfl (by decide) (by decide) ?_
    exact ⟨rfl, (-1), rfl, (by decide), by omega⟩
  · skip
    refine qr_tabIn 121 rfl r0 (by rw [h1]; decide) (by rw [h1]; rfl) rfl ?_
    refine qr_iconst 122 rfl rfl ?_
    refine qr_retI rfl rfl (by decide) (by decide) ?_
    exact ⟨rfl, (-1), rfl, (by decide), by omega⟩
  · skip
    refine qr_tabIn 121 rfl r0 (by rw [h1]; decide) (by rw [h1]; rfl) rfl ?_
    refine qr_iconst 122 rfl rfl ?_
    refine qr_retI rfl rfl (by decide) (by decide) ?_
    exact ⟨rfl, (-1), rfl, (by decide), by omega⟩
  · skip
    refine qr_tabIn 121 rfl r0 (by rw [h1]; decide) (by rw [h1]; rfl) rfl ?_
    refine qr_iconst 122 rfl rfl ?_
    refine qr_retI rfl rfl (by decide) (by decide) ?_
    exact ⟨rfl, (-1), rfl, (by decide), by omega⟩
  · skip
    refine qr_tabIn 121 rfl r0 (by rw [h1]; decide) (by rw [h1]; rfl) rfl ?_
    refine qr_iconst 122 rfl rfl ?_
    refine qr_retI rfl rfl (by decide) (by decide) ?_
    exact ⟨rfl, (-1), rfl, (by decide), by omega⟩
  · skip
    refine qr_tabIn 108 rfl r0 (by rw [h1]; decide) (by rw [h1]; rfl) rfl ?_
    refine qr_iconst 109 rfl rfl ?_
    refine qr_retI rfl rfl (by decide) (by decide) ?_
    exact ⟨rfl, 4, rfl, (by decide), by omega⟩
  · skip
    refine qr_tabIn 106 rfl r0 (by rw [h1]; decide) (by rw [h1]; rfl) rfl ?_
    refine qr_iconst 107 rfl rfl ?_
    refine qr_retI rfl rfl (by decide) (by decide) ?_
    exact ⟨rfl, 3, rfl, (by decide), by omega⟩
  · skip
    refine qr_tabOut 121 rfl r0 (by omega) rfl ?_
    refine qr_iconst 122 rfl rfl ?_
    refine qr_retI rfl rfl (by decide) (by decide) ?_
    exact ⟨rfl, (-1), rfl, (by decide), by omega⟩

set_option maxHeartbeats 4000000 in
set_option maxRecDepth 20000 in
/-- OneRoofModel.one -/
theorem sf_219_86o6 {L : Nat} {xs : Nat → Int} {vb : Bool} {d : Nat} {σ α : Nat → Nat → Int} {κ : Nat → Option Nat} {ρ : Nat}  (hI : qI σ α κ ρ) (p0 : 6 ≤ σ 86 39) (p1 : σ 86 36 ≤ σ 86 37) : qm_T (qe L xs vb) (d + 2) 219 [.ref 86] (qw σ α κ ρ) (fun r w' => ∃ σ', w' = qw σ' α κ ρ ∧ qI σ' α κ ρ ∧ qFr [(86, 36), (86, 38), (86, 39)] [] σ α σ' α ∧ ∃ v : Int, r = some (.int (qz v)) ∧ ((-2147483648) ≤ v ∧ v ≤ 2147483647) ∧ σ 86 39 ≤ σ' 86 39 ∧ σ 86 36 ≤ σ' 86 36 ∧ σ' 86 36 ≤ σ' 86 37 ∧ σ' 86 37 = σ 86 37) := by
  refine qr_start (d := d + 1) qv_e219 (Nat.le_of_ble_eq_true rfl) ?_
  show qr_W (qe L xs vb) (d + 1) qx_e219 _ (0, [(0, .ref 86)], [], _, 0, 0)
  have hF0 := qFr_rf [(86, 36), (86, 38), (86, 39)] [] σ α
  have hz86_39 : 0 ≤ σ 86 39 ∧ σ 86 39 ≤ 6 := hI.1 86 39
  have hz86_36 : 0 ≤ σ 86 36 ∧ σ 86 36 ≤ 120 := hI.1 86 36
  have hz86_37 : 0 ≤ σ 86 37 ∧ σ 86 37 ≤ 120 := hI.1 86 37
  refine qr_aload_n 1 rfl rfl rfl ?_
  refine qr_get 4 rfl rfl rfl (by decide) rfl ?_
  have hs1 : (-1) ≤ σ 86 38 ∧ σ 86 38 ≤ 120 := hI.1 86 38
  refine qr_if_lt 9 7 rfl rfl rfl (qrg hs1 (by decide) (by decide)) (fun h2 => ?_) (fun h2 => ?_)
  · skip
    refine qr_aload_n 10 rfl rfl rfl ?_
    refine qr_callN 13 rfl rfl rfl (sf_220_86t (d := d + 0) hI ) ?_
    have hs5 : 0 ≤ σ 86 36 ∧ σ 86 36 ≤ 120 := hI.1 86 36
    have hs6 : 0 ≤ σ 86 37 ∧ σ 86 37 ≤ 120 := hI.1 86 37
    rintro _ _ ⟨rfl, v3, rfl, hv3, hp4⟩
    show qr_W (qe L xs vb) (d + 1) qx_e219 _ (13, _, [.int (qz v3)], qw σ α κ ρ, 0, 0)
    refine qr_istore_n _ 14 rfl (by decide) rfl rfl ?_
    refine qr_iload_n 15 rfl rfl rfl ?_
    refine qr_bipush 17 rfl (by decide) rfl ?_
    refine qr_icmp_eq 32 20 rfl rfl rfl hv3 (by decide) (fun h7 => ?_) (fun h7 => ?_)
    · skip
      refine qr_aload_n 33 rfl rfl rfl ?_
      refine qr_get 36 rfl rfl rfl (by decide) rfl ?_
      refine qr_bipush 38 rfl (by decide) rfl ?_
      refine qr_icmp_ne 46 41 rfl rfl rfl (qrg hz86_39 (by decide) (by decide)) (by decide) (fun h => False.elim (by omega)) (fun h8 => ?_)
      refine qr_aload_n 42 rfl rfl rfl ?_
      refine qr_callN 45 rfl rfl rfl (sf_221_86 (d := d + 0) hI ) ?_
      rintro _ _ ⟨σ10, rfl, hI11, hG12, v9, rfl, hv9⟩
      have hF13 : qFr [(86, 36), (86, 38), (86, 39)] [] σ α σ10 α := qFr_t hF0 hG12 (by decide) (by decide)
      show qr_W (qe L xs vb) (d + 1) qx_e219 _ (45, _, [.int (qz v9)], qw σ10 α κ ρ, 0, 0)
      refine qr_retI rfl rfl (by decide) (by decide) ?_
      have hw14 : σ10 86 36 = (σ 86 36) := (hG12.1 86 36 (by decide)).trans rfl
      have hw15 : σ10 86 37 = (σ 86 37) := (hG12.1 86 37 (by decide)).trans rfl
      have hw16 : σ10 86 39 = (σ 86 39) := (hG12.1 86 39 (by decide)).trans rfl
      exact ⟨_, rfl, hI11, hF13, v9, rfl, (qrg hv9 (by decide) (by decide)), by omega⟩
    · skip
      refine qr_iload_n 21 rfl rfl rfl ?_
      refine qr_bipush 23 rfl (by decide) rfl ?_
      refine qr_icmp_eq 32 26 rfl rfl rfl hv3 (by decide) (fun h17 => ?_) (fun h17 => ?_)
      · skip
        refine qr_aload_n 33 rfl rfl rfl ?_
        refine qr_get 36 rfl rfl rfl (by decide) rfl ?_
        refine qr_bipush 38 rfl (by decide) rfl ?_
        refine qr_icmp_ne 46 41 rfl rfl rfl (qrg hz86_39 (by decide) (by decide)) (by decide) (fun h => False.elim (by omega)) (fun h18 => ?_)
        refine qr_aload_n 42 rfl rfl rfl ?_
        refine qr_callN 45 rfl rfl rfl (sf_221_86 (d := d + 0) hI ) ?_
        rintro _ _ ⟨σ20, rfl, hI21, hG22, v19, rfl, hv19⟩
        have hF23 : qFr [(86, 36), (86, 38), (86, 39)] [] σ α σ20 α := qFr_t hF0 hG22 (by decide) (by decide)
        show qr_W (qe L xs vb) (d + 1) qx_e219 _ (45, _, [.int (qz v19)], qw σ20 α κ ρ, 0, 0)
        refine qr_retI rfl rfl (by decide) (by decide) ?_
        have hw24 : σ20 86 36 = (σ 86 36) := (hG22.1 86 36 (by decide)).trans rfl
        have hw25 : σ20 86 37 = (σ 86 37) := (hG22.1 86 37 (by decide)).trans rfl
        have hw26 : σ20 86 39 = (σ 86 39) := (hG22.1 86 39 (by decide)).trans rfl
        exact ⟨_, rfl, hI21, hF23, v19, rfl, (qrg hv19 (by decide) (by decide)), by omega⟩
      · skip
        refine qr_iload_n 27 rfl rfl rfl ?_
        refine qr_bipush 29 rfl (by decide) rfl ?_
        refine qr_icmp_ne 145 32 rfl rfl rfl hv3 (by decide) (fun h27 => ?_) (fun h27 => ?_)
        · skip
          refine qr_iload_n 146 rfl rfl rfl ?_
          refine qr_callN 149 rfl rfl rfl (sf_223t (d := d + 0) hI hv3) ?_
          rintro _ _ ⟨rfl, v28, rfl, hv28, hp29⟩
          show qr_W (qe L xs vb) (d + 1) qx_e219 _ (149, _, [.int (qz v28)], qw σ α κ ρ, 0, 0)
          refine qr_istore_n _ 150 rfl (by decide) rfl rfl ?_
          refine qr_iload_n 151 rfl rfl rfl ?_
          refine qr_if_lt 171 154 rfl rfl rfl (qrg hv28 (by decide) (by decide)) (fun h30 => ?_) (fun h30 => ?_)
          · skip
            refine qr_iconst 172 rfl rfl ?_
            refine qr_istore_n _ 173 rfl (by decide) rfl rfl ?_
            refine qr_iconst 174 rfl rfl ?_
            refine qr_istore _ 176 rfl (by decide) rfl rfl ?_
            have hL321 : ∀ (n : Nat) (ls : qm_L) (u304 u306 : Int) (σ307 : Nat → Nat → Int), 4 - u306 < (n : Int) → qm_get ls 0 = some (.ref 86) → qm_get ls 3 = some (.int (qz u304)) → qm_get ls 4 = some (.int (qz u306)) → ((-2147483648) ≤ u304 ∧ u304 ≤ 2147483647) → (0 ≤ u306 ∧ u306 ≤ 4) → qI σ307 α κ ρ → qFr [(86, 36), (86, 38), (86, 39)] [] σ α σ307 α → σ307 86 37 = (σ 86 37) → σ307 86 38 = (σ 86 38) → σ307 86 39 = (σ 86 39) → 6 ≤ σ307 86 39 → σ 86 39 ≤ σ307 86 39 → σ 86 36 ≤ σ307 86 36 → σ307 86 36 ≤ σ307 86 37 → σ307 86 37 = σ 86 37 → qr_W (qe L xs vb) (d + 1) qx_e219 (fun r w' => ∃ σ', w' = qw σ' α κ ρ ∧ qI σ' α κ ρ ∧ qFr [(86, 36), (86, 38), (86, 39)] [] σ α σ' α ∧ ∃ v : Int, r = some (.int (qz v)) ∧ ((-2147483648) ≤ v ∧ v ≤ 2147483647) ∧ σ 86 39 ≤ σ' 86 39 ∧ σ 86 36 ≤ σ' 86 36 ∧ σ' 86 36 ≤ σ' 86 37 ∧ σ' 86 37 = σ 86 37) (176, ls, [], qw σ307 α κ ρ, 0, 0) := by
              intro n
              induction n with
              | zero => intro ls u304 u306 σ307 hm g302 g303 g305 hf314 hf315 hI309 hF310 hk311 hk312 hk313 hx316 hx317 hx318 hx319 hx320; exact False.elim (by omega)
              | succ n ih322 =>
                intro ls u304 u306 σ307 hm g302 g303 g305 hf314 hf315 hI309 hF310 hk311 hk312 hk313 hx316 hx317 hx318 hx319 hx320
                have hs323 : 0 ≤ σ307 86 39 ∧ σ307 86 39 ≤ 6 := hI309.1 86 39
                have hs324 : 0 ≤ σ307 86 36 ∧ σ307 86 36 ≤ 120 := hI309.1 86 36
                have hs325 : 0 ≤ σ307 86 37 ∧ σ307 86 37 ≤ 120 := hI309.1 86 37
                refine qr_iload 178 rfl g305 rfl ?_
                refine qr_iconst 179 rfl rfl ?_
                refine qr_icmp_ge 229 182 rfl rfl rfl (qrg hf315 (by decide) (by decide)) (by decide) (fun h326 => ?_) (fun h326 => ?_)
                · skip
                  refine qr_iload 231 rfl g305 rfl ?_
                  refine qr_if_ne 241 234 rfl rfl rfl (qrg hf315 (by decide) (by decide)) (fun h327 => ?_) (fun h => False.elim (by omega))
                  refine qr_iload_n 242 rfl g303 rfl ?_
                  refine qr_retI rfl rfl (by decide) (by decide) ?_
                  have hw328 : σ307 86 36 = (σ307 86 36) := rfl
                  have hw329 : σ307 86 37 = (σ 86 37) := (hk311).trans rfl
                  have hw330 : σ307 86 39 = (σ 86 39) := (hk313).trans rfl
                  exact ⟨_, rfl, hI309, hF310, u304, rfl, hf314, by omega⟩
                · skip
                  refine qr_aload_n 183 rfl g302 rfl ?_
                  refine qr_callN 186 rfl rfl rfl (sf_220_86t (d := d + 0) hI309 ) ?_
                  have hs333 : 0 ≤ σ307 86 36 ∧ σ307 86 36 ≤ 120 := hI309.1 86 36
                  have hs334 : 0 ≤ σ307 86 37 ∧ σ307 86 37 ≤ 120 := hI309.1 86 37
                  have hs335 : σ307 86 37 = (σ 86 37) := (hk311).trans rfl
                  rintro _ _ ⟨rfl, v331, rfl, hv331, hp332⟩
                  show qr_W (qe L xs vb) (d + 1) qx_e219 _ (186, _, [.int (qz v331)], qw σ307 α κ ρ, 0, 0)
                  refine qr_bipush 188 rfl (by decide) rfl ?_
                  refine qr_icmp_lt 229 191 rfl rfl rfl hv331 (by decide) (fun h336 => ?_) (fun h336 => ?_)
                  · skip
                    refine qr_iload 231 rfl g305 rfl ?_
                    refine qr_if_ne 241 234 rfl rfl rfl (qrg hf315 (by decide) (by decide)) (fun h337 => ?_) (fun h337 => ?_)
                    · skip
                      refine qr_iload_n 242 rfl g303 rfl ?_
                      refine qr_retI rfl rfl (by decide) (by decide) ?_
                      have hw338 : σ307 86 36 = (σ307 86 36) := rfl
                      have hw339 : σ307 86 37 = (σ 86 37) := (hk311).trans rfl
                      have hw340 : σ307 86 39 = (σ 86 39) := (hk313).trans rfl
                      exact ⟨_, rfl, hI309, hF310, u304, rfl, hf314, by omega⟩
                    · skip
                      refine qr_aload_n 235 rfl g302 rfl ?_
                      refine qr_callN 238 rfl rfl rfl (sf_221_86 (d := d + 0) hI309 ) ?_
                      rintro _ _ ⟨σ342, rfl, hI343, hG344, v341, rfl, hv341⟩
                      have hF345 : qFr [(86, 36), (86, 38), (86, 39)] [] σ α σ342 α := qFr_t hF310 hG344 (by decide) (by decide)
                      show qr_W (qe L xs vb) (d + 1) qx_e219 _ (238, _, [.int (qz v341)], qw σ342 α κ ρ, 0, 0)
                      refine qr_goto 242 rfl rfl ?_
                      refine qr_retI rfl rfl (by decide) (by decide) ?_
                      have hw346 : σ342 86 36 = (σ307 86 36) := (hG344.1 86 36 (by decide)).trans rfl
                      have hw347 : σ342 86 37 = (σ 86 37) := (hG344.1 86 37 (by decide)).trans ((hk311).trans rfl)
                      have hw348 : σ342 86 39 = (σ 86 39) := (hG344.1 86 39 (by decide)).trans ((hk313).trans rfl)
                      exact ⟨_, rfl, hI343, hF345, v341, rfl, (qrg hv341 (by decide) (by decide)), by omega⟩
                  · skip
                    refine qr_aload_n 192 rfl g302 rfl ?_
                    refine qr_callN 195 rfl rfl rfl (sf_220_86t (d := d + 0) hI309 ) ?_
                    have hs351 : 0 ≤ σ307 86 36 ∧ σ307 86 36 ≤ 120 := hI309.1 86 36
                    have hs352 : 0 ≤ σ307 86 37 ∧ σ307 86 37 ≤ 120 := hI309.1 86 37
                    have hs353 : σ307 86 37 = (σ 86 37) := (hk311).trans rfl
                    rintro _ _ ⟨rfl, v349, rfl, hv349, hp350⟩
                    show qr_W (qe L xs vb) (d + 1) qx_e219 _ (195, _, [.int (qz v349)], qw σ307 α κ ρ, 0, 0)
                    refine qr_bipush 197 rfl (by decide) rfl ?_
                    refine qr_icmp_gt 229 200 rfl rfl rfl hv349 (by decide) (fun h354 => ?_) (fun h354 => ?_)
                    · skip
                      refine qr_iload 231 rfl g305 rfl ?_
                      refine qr_if_ne 241 234 rfl rfl rfl (qrg hf315 (by decide) (by decide)) (fun h355 => ?_) (fun h355 => ?_)
                      · skip
                        refine qr_iload_n 242 rfl g303 rfl ?_
                        refine qr_retI rfl rfl (by decide) (by decide) ?_
                        have hw356 : σ307 86 36 = (σ307 86 36) := rfl
                        have hw357 : σ307 86 37 = (σ 86 37) := (hk311).trans rfl
                        have hw358 : σ307 86 39 = (σ 86 39) := (hk313).trans rfl
                        exact ⟨_, rfl, hI309, hF310, u304, rfl, hf314, by omega⟩
                      · skip
                        refine qr_aload_n 235 rfl g302 rfl ?_
                        refine qr_callN 238 rfl rfl rfl (sf_221_86 (d := d + 0) hI309 ) ?_
                        rintro _ _ ⟨σ360, rfl, hI361, hG362, v359, rfl, hv359⟩
                        have hF363 : qFr [(86, 36), (86, 38), (86, 39)] [] σ α σ360 α := qFr_t hF310 hG362 (by decide) (by decide)
                        show qr_W (qe L xs vb) (d + 1) qx_e219 _ (238, _, [.int (qz v359)], qw σ360 α κ ρ, 0, 0)
                        refine qr_goto 242 rfl rfl ?_
                        refine qr_retI rfl rfl (by decide) (by decide) ?_
                        have hw364 : σ360 86 36 = (σ307 86 36) := (hG362.1 86 36 (by decide)).trans rfl
                        have hw365 : σ360 86 37 = (σ 86 37) := (hG362.1 86 37 (by decide)).trans ((hk311).trans rfl)
                        have hw366 : σ360 86 39 = (σ 86 39) := (hG362.1 86 39 (by decide)).trans ((hk313).trans rfl)
                        exact ⟨_, rfl, hI361, hF363, v359, rfl, (qrg hv359 (by decide) (by decide)), by omega⟩
                    · skip
                      refine qr_bipush 202 rfl (by decide) rfl ?_
                      refine qr_iload_n 203 rfl g303 rfl ?_
                      refine qr_imul 204 rfl rfl ?_
                      refine qy_can (fun v367 hv367 => ?_)
                      refine qr_aload_n 205 rfl g302 rfl ?_
                      refine qr_callN 208 rfl rfl rfl (sf_220_86t (d := d + 0) hI309 ) ?_
                      have hs370 : 0 ≤ σ307 86 36 ∧ σ307 86 36 ≤ 120 := hI309.1 86 36
                      have hs371 : 0 ≤ σ307 86 37 ∧ σ307 86 37 ≤ 120 := hI309.1 86 37
                      have hs372 : σ307 86 37 = (σ 86 37) := (hk311).trans rfl
                      rintro _ _ ⟨rfl, v368, rfl, hv368, hp369⟩
                      show qr_W (qe L xs vb) (d + 1) qx_e219 _ (208, _, [.int (qz v368), .int (qz v367)], qw σ307 α κ ρ, 0, 0)
                      refine qr_iadd 209 rfl rfl ?_
                      refine qy_can (fun v373 hv373 => ?_)
                      refine qr_bipush 211 rfl (by decide) rfl ?_
                      refine qr_isub 212 rfl rfl ?_
                      refine qy_can (fun v374 hv374 => ?_)
                      refine qr_istore_n _ 213 rfl (by decide) rfl rfl ?_
                      refine qr_iinc _ 216 rfl (qm_gk g305 (by decide) (Or.inl (by decide))) (by decide) rfl rfl ?_
                      refine qr_aload_n 217 rfl (qm_gk (qm_gk g302 (by decide) (Or.inl (by decide))) (by decide) (Or.inl (by decide))) rfl ?_
                      refine qr_dup 218 rfl rfl rfl ?_
                      refine qr_get 221 rfl rfl rfl (by decide) rfl ?_
                      refine qr_iconst 222 rfl rfl ?_
                      refine qr_iadd 223 rfl rfl ?_
                      refine qr_put 226 rfl (by decide) rfl (Nat.le_of_ble_eq_true rfl) (Nat.le_of_ble_eq_true rfl) (Or.inl rfl) (qr_fitI rfl _) rfl ?_
                      refine qy_wS (qw_s σ307 86 36 ((σ307 86 36) + 1)) rfl (fun σ375 e376 => ?_)
                      have hI377 : qI σ375 α κ ρ := by rw [e376]; exact qI_s hI309 86 36 rfl (show 0 ≤ ((σ307 86 36) + 1) ∧ ((σ307 86 36) + 1) ≤ 120 by omega)
                      have hF378 : qFr [(86, 36), (86, 38), (86, 39)] [] σ α σ375 α := by rw [e376]; exact qFr_s hF310 86 36 _ (by decide)
                      refine qr_goto 176 rfl rfl ?_
                      exact ih322 _ v374 (u306 + 1) σ375 (by omega) (qm_gk (qm_gk g302 (by decide) (Or.inl (by decide))) (by decide) (Or.inl (by decide))) (qm_gk (qm_ge _ _ _) (by decide) (Or.inr rfl)) (qm_ge _ _ _) hv374 (by omega) hI377 hF378 ((congrFun (congrFun e376 86) 37).trans ((hk311).trans rfl)) ((congrFun (congrFun e376 86) 38).trans ((hk312).trans rfl)) ((congrFun (congrFun e376 86) 39).trans ((hk313).trans rfl)) (by have hw0 : σ375 86 39 = (σ 86 39) := (congrFun (congrFun e376 86) 39).trans ((hk313).trans rfl); have hw1 : σ375 86 36 = ((σ307 86 36) + 1) := (congrFun (congrFun e376 86) 36).trans rfl; have hw2 : σ375 86 37 = (σ 86 37) := (congrFun (congrFun e376 86) 37).trans ((hk311).trans rfl); omega) (by have hw0 : σ375 86 39 = (σ 86 39) := (congrFun (congrFun e376 86) 39).trans ((hk313).trans rfl); have hw1 : σ375 86 36 = ((σ307 86 36) + 1) := (congrFun (congrFun e376 86) 36).trans rfl; have hw2 : σ375 86 37 = (σ 86 37) := (congrFun (congrFun e376 86) 37).trans ((hk311).trans rfl); omega) (by have hw0 : σ375 86 39 = (σ 86 39) := (congrFun (congrFun e376 86) 39).trans ((hk313).trans rfl); have hw1 : σ375 86 36 = ((σ307 86 36) + 1) := (congrFun (congrFun e376 86) 36).trans rfl; have hw2 : σ375 86 37 = (σ 86 37) := (congrFun (congrFun e376 86) 37).trans ((hk311).trans rfl); omega) (by have hw0 : σ375 86 39 = (σ 86 39) := (congrFun (congrFun e376 86) 39).trans ((hk313).trans rfl); have hw1 : σ375 86 36 = ((σ307 86 36) + 1) := (congrFun (congrFun e376 86) 36).trans rfl; have hw2 : σ375 86 37 = (σ 86 37) := (congrFun (congrFun e376 86) 37).trans ((hk311).trans rfl); omega) (by have hw0 : σ375 86 39 = (σ 86 39) := (congrFun (congrFun e376 86) 39).trans ((hk313).trans rfl); have hw1 : σ375 86 36 = ((σ307 86 36) + 1) := (congrFun (congrFun e376 86) 36).trans rfl; have hw2 : σ375 86 37 = (σ 86 37) := (congrFun (congrFun e376 86) 37).trans ((hk311).trans rfl); omega)
            exact hL321 ((4 - 0 + 1 : Int)).toNat _ 0 0 σ (by omega) rfl rfl rfl (by decide) (by decide) hI hF0 (rfl) (rfl) (rfl) (by have hw0 : σ 86 39 = (σ 86 39) := rfl; have hw1 : σ 86 36 = (σ 86 36) := rfl; have hw2 : σ 86 37 = (σ 86 37) := rfl; omega) (by have hw0 : σ 86 39 = (σ 86 39) := rfl; have hw1 : σ 86 36 = (σ 86 36) := rfl; have hw2 : σ 86 37 = (σ 86 37) := rfl; omega) (by have hw0 : σ 86 39 = (σ 86 39) := rfl; have hw1 : σ 86 36 = (σ 86 36) := rfl; have hw2 : σ 86 37 = (σ 86 37) := rfl; omega) (by have hw0 : σ 86 39 = (σ 86 39) := rfl; have hw1 : σ 86 36 = (σ 86 36) := rfl; have hw2 : σ 86 37 = (σ 86 37) := rfl; omega) (by have hw0 : σ 86 39 = (σ 86 39) := rfl; have hw1 : σ 86 36 = (σ 86 36) := rfl; have hw2 : σ 86 37 = (σ 86 37) := rfl; omega)
          · skip
            refine qr_aload_n 155 rfl rfl rfl ?_
            refine qr_dup 156 rfl rfl rfl ?_
            refine qr_get 159 rfl rfl rfl (by decide) rfl ?_
            refine qr_iconst 160 rfl rfl ?_
            refine qr_iadd 161 rfl rfl ?_
            refine qr_put 164 rfl (by decide) rfl (Nat.le_of_ble_eq_true rfl) (Nat.le_of_ble_eq_true rfl) (Or.inl rfl) (qr_fitI rfl _) rfl ?_
            refine qy_wS (qw_s σ 86 36 ((σ 86 36) + 1)) rfl (fun σ379 e380 => ?_)
            have hI381 : qI σ379 α κ ρ := by rw [e380]; exact qI_s hI 86 36 rfl (show 0 ≤ ((σ 86 36) + 1) ∧ ((σ 86 36) + 1) ≤ 120 by omega)
            have hF382 : qFr [(86, 36), (86, 38), (86, 39)] [] σ α σ379 α := by rw [e380]; exact qFr_s hF0 86 36 _ (by decide)
            refine qr_aload_n 165 rfl rfl rfl ?_
            refine qr_get 168 rfl rfl rfl (by decide) rfl ?_
            refine qr_iload_n 169 rfl rfl rfl ?_
            refine qr_iaload 170 rfl rfl (by omega) (by decide) rfl ?_
            refine qr_topI (fun v383 hv383 => ?_)
            have hs384 : (-2147483648) ≤ v383 ∧ v383 ≤ 2147483647 := by rw [hv383]; exact hI381.2.1 109 _ (show _ < 9 from qrgt hv28 (by decide) (by decide))
            refine qr_retI rfl rfl (by decide) (by decide) ?_
            have hw385 : σ379 86 36 = ((σ 86 36) + 1) := (congrFun (congrFun e380 86) 36).trans rfl
            have hw386 : σ379 86 37 = (σ 86 37) := (congrFun (congrFun e380 86) 37).trans rfl
            have hw387 : σ379 86 39 = (σ 86 39) := (congrFun (congrFun e380 86) 39).trans rfl
            exact ⟨_, rfl, hI381, hF382, v383, rfl, hs384, by omega⟩
        · skip
          refine qr_aload_n 33 rfl rfl rfl ?_
          refine qr_get 36 rfl rfl rfl (by decide) rfl ?_
          refine qr_bipush 38 rfl (by decide) rfl ?_
          refine qr_icmp_ne 46 41 rfl rfl rfl (qrg hz86_39 (by decide) (by decide)) (by decide) (fun h => False.elim (by omega)) (fun h388 => ?_)
          refine qr_aload_n 42 rfl rfl rfl ?_
          refine qr_callN 45 rfl rfl rfl (sf_221_86 (d := d + 0) hI ) ?_
          rintro _ _ ⟨σ390, rfl, hI391, hG392, v389, rfl, hv389⟩
          have hF393 : qFr [(86, 36), (86, 38), (86, 39)] [] σ α σ390 α := qFr_t hF0 hG392 (by decide) (by decide)
          show qr_W (qe L xs vb) (d + 1) qx_e219 _ (45, _, [.int (qz v389)], qw σ390 α κ ρ, 0, 0)
          refine qr_retI rfl rfl (by decide) (by decide) ?_
          have hw394 : σ390 86 36 = (σ 86 36) := (hG392.1 86 36 (by decide)).trans rfl
          have hw395 : σ390 86 37 = (σ 86 37) := (hG392.1 86 37 (by decide)).trans rfl
          have hw396 : σ390 86 39 = (σ 86 39) := (hG392.1 86 39 (by decide)).trans rfl
          exact ⟨_, rfl, hI391, hF393, v389, rfl, (qrg hv389 (by decide) (by decide)), by omega⟩
  · skip
    refine qr_iconst 8 rfl rfl ?_
    refine qr_retI rfl rfl (by decide) (by decide) ?_
    have hw397 : σ 86 36 = (σ 86 36) := rfl
    have hw398 : σ 86 37 = (σ 86 37) := rfl
    have hw399 : σ 86 39 = (σ 86 39) := rfl
    exact ⟨_, rfl, hI, hF0, 0, rfl, (by decide), by omega⟩

set_option maxHeartbeats 4000000 in
set_option maxRecDepth 20000 in
/-- OneRoofModel.product -/
theorem sf_218_86o6 {L : Nat} {xs : Nat → Int} {vb : Bool} {d : Nat} {σ α : Nat → Nat → Int} {κ : Nat → Option Nat} {ρ : Nat}  (hI : qI σ α κ ρ) (p0 : 6 ≤ σ 86 39) (p1 : σ 86 36 ≤ σ 86 37) : qm_T (qe L xs vb) (d + 3) 218 [.ref 86] (qw σ α κ ρ) (fun r w' => ∃ σ', w' = qw σ' α κ ρ ∧ qI σ' α κ ρ ∧ qFr [(86, 36), (86, 38), (86, 39)] [] σ α σ' α ∧ ∃ v : Int, r = some (.int (qz v)) ∧ ((-2147483648) ≤ v ∧ v ≤ 2147483647) ∧ σ 86 39 ≤ σ' 86 39 ∧ σ 86 36 ≤ σ' 86 36 ∧ σ' 86 36 ≤ σ' 86 37 ∧ σ' 86 37 = σ 86 37) := by
  refine qr_start (d := d + 2) qv_e218 (Nat.le_of_ble_eq_true rfl) ?_
  show qr_W (qe L xs vb) (d + 2) qx_e218 _ (0, [(0, .ref 86)], [], _, 0, 0)
  have hF0 := qFr_rf [(86, 36), (86, 38), (86, 39)] [] σ α
  have hz86_39 : 0 ≤ σ 86 39 ∧ σ 86 39 ≤ 6 := hI.1 86 39
  have hz86_36 : 0 ≤ σ 86 36 ∧ σ 86 36 ≤ 120 := hI.1 86 36
  have hz86_37 : 0 ≤ σ 86 37 ∧ σ 86 37 ≤ 120 := hI.1 86 37
  refine qr_aload_n 1 rfl rfl rfl ?_
  have hs1 : 0 ≤ σ 86 36 ∧ σ 86 36 ≤ 120 := hI.1 86 36
  have hs2 : 0 ≤ σ 86 37 ∧ σ 86 37 ≤ 120 := hI.1 86 37
  have hs3 : 0 ≤ σ 86 39 ∧ σ 86 39 ≤ 6 := hI.1 86 39
  refine qr_callN 4 rfl rfl rfl (sf_219_86o6 (d := d + 0) hI (by omega) (by omega)) ?_
  have hs6 : 0 ≤ σ 86 36 ∧ σ 86 36 ≤ 120 := hI.1 86 36
  have hs7 : 0 ≤ σ 86 37 ∧ σ 86 37 ≤ 120 := hI.1 86 37
  have hs8 : 0 ≤ σ 86 39 ∧ σ 86 39 ≤ 6 := hI.1 86 39
  rintro _ _ ⟨σ9, rfl, hI10, hG11, v4, rfl, hv4, hp5⟩
  have hF12 : qFr [(86, 36), (86, 38), (86, 39)] [] σ α σ9 α := qFr_t hF0 hG11 (by decide) (by decide)
  have hs13 : 0 ≤ σ9 86 36 ∧ σ9 86 36 ≤ 120 := hI10.1 86 36
  have hs14 : 0 ≤ σ9 86 37 ∧ σ9 86 37 ≤ 120 := hI10.1 86 37
  have hs15 : 0 ≤ σ9 86 39 ∧ σ9 86 39 ≤ 6 := hI10.1 86 39
  show qr_W (qe L xs vb) (d + 2) qx_e218 _ (4, _, [.int (qz v4)], qw σ9 α κ ρ, 0, 0)
  refine qr_istore_n _ 5 rfl (by decide) rfl rfl ?_
  refine qr_aload_n 6 rfl rfl rfl ?_
  refine qr_callN 9 rfl rfl rfl (sf_220_86t (d := d + 1) hI10 ) ?_
  have hs18 : 0 ≤ σ9 86 36 ∧ σ9 86 36 ≤ 120 := hI10.1 86 36
  have hs19 : 0 ≤ σ9 86 37 ∧ σ9 86 37 ≤ 120 := hI10.1 86 37
  have hs20 : σ9 86 37 = (σ 86 37) := (hG11.1 86 37 (by decide)).trans rfl
  rintro _ _ ⟨rfl, v16, rfl, hv16, hp17⟩
  show qr_W (qe L xs vb) (d + 2) qx_e218 _ (9, _, [.int (qz v16)], qw σ9 α κ ρ, 0, 0)
  refine qr_istore_n _ 10 rfl (by decide) rfl rfl ?_
  have hL459 : ∀ (n : Nat) (ls : qm_L) (u443 u445 : Int) (σ446 : Nat → Nat → Int), ((120 - σ446 86 36).toNat : Int) < (n : Int) → qm_get ls 0 = some (.ref 86) → qm_get ls 1 = some (.int (qz u443)) → qm_get ls 2 = some (.int (qz u445)) → ((-2147483648) ≤ u443 ∧ u443 ≤ 2147483647) → ((-2147483648) ≤ u445 ∧ u445 ≤ 2147483647) → qI σ446 α κ ρ → qFr [(86, 36), (86, 38), (86, 39)] [] σ α σ446 α → σ446 86 37 = (σ 86 37) → 6 ≤ σ446 86 39 → σ 86 39 ≤ σ446 86 39 → σ 86 36 ≤ σ446 86 36 → σ446 86 36 ≤ σ446 86 37 → σ446 86 37 = σ 86 37 → (u445 = 0 ∨ σ446 86 36 < σ446 86 37) → qr_W (qe L xs vb) (d + 2) qx_e218 (fun r w' => ∃ σ', w' = qw σ' α κ ρ ∧ qI σ' α κ ρ ∧ qFr [(86, 36), (86, 38), (86, 39)] [] σ α σ' α ∧ ∃ v : Int, r = some (.int (qz v)) ∧ ((-2147483648) ≤ v ∧ v ≤ 2147483647) ∧ σ 86 39 ≤ σ' 86 39 ∧ σ 86 36 ≤ σ' 86 36 ∧ σ' 86 36 ≤ σ' 86 37 ∧ σ' 86 37 = σ 86 37) (10, ls, [], qw σ446 α κ ρ, 0, 0) := by
    intro n
    induction n with
    | zero => intro ls u443 u445 σ446 hm g441 g442 g444 hf451 hf452 hI448 hF449 hk450 hx453 hx454 hx455 hx456 hx457 hx458; exact False.elim (by omega)
    | succ n ih460 =>
      intro ls u443 u445 σ446 hm g441 g442 g444 hf451 hf452 hI448 hF449 hk450 hx453 hx454 hx455 hx456 hx457 hx458
      have hs461 : 0 ≤ σ446 86 39 ∧ σ446 86 39 ≤ 6 := hI448.1 86 39
      have hs462 : 0 ≤ σ446 86 36 ∧ σ446 86 36 ≤ 120 := hI448.1 86 36
      have hs463 : 0 ≤ σ446 86 37 ∧ σ446 86 37 ≤ 120 := hI448.1 86 37
      refine qr_aload_n 11 rfl g441 rfl ?_
      refine qr_get 14 rfl rfl rfl (by decide) rfl ?_
      have hs464 : (-1) ≤ σ446 86 38 ∧ σ446 86 38 ≤ 120 := hI448.1 86 38
      refine qr_if_ge 94 17 rfl rfl rfl (qrg hs464 (by decide) (by decide)) (fun h465 => ?_) (fun h465 => ?_)
      · skip
        refine qr_iload_n 95 rfl g442 rfl ?_
        refine qr_retI rfl rfl (by decide) (by decide) ?_
        have hw466 : σ446 86 36 = (σ446 86 36) := rfl
        have hw467 : σ446 86 37 = (σ 86 37) := (hk450).trans rfl
        have hw468 : σ446 86 39 = (σ446 86 39) := rfl
        exact ⟨_, rfl, hI448, hF449, u443, rfl, hf451, by omega⟩
      · skip
        refine qr_iload_n 18 rfl g444 rfl ?_
        refine qr_bipush 20 rfl (by decide) rfl ?_
        refine qr_icmp_eq 35 23 rfl rfl rfl hf452 (by decide) (fun h469 => ?_) (fun h469 => ?_)
        · skip
          refine qr_aload_n 36 rfl g441 rfl ?_
          refine qr_dup 37 rfl rfl rfl ?_
          refine qr_get 40 rfl rfl rfl (by decide) rfl ?_
          refine qr_iconst 41 rfl rfl ?_
          refine qr_iadd 42 rfl rfl ?_
          refine qr_put 45 rfl (by decide) rfl (Nat.le_of_ble_eq_true rfl) (Nat.le_of_ble_eq_true rfl) (Or.inl rfl) (qr_fitI rfl _) rfl ?_
          refine qy_wS (qw_s σ446 86 36 ((σ446 86 36) + 1)) rfl (fun σ470 e471 => ?_)
          have hI472 : qI σ470 α κ ρ := by rw [e471]; exact qI_s hI448 86 36 rfl (show 0 ≤ ((σ446 86 36) + 1) ∧ ((σ446 86 36) + 1) ≤ 120 by omega)
          have hF473 : qFr [(86, 36), (86, 38), (86, 39)] [] σ α σ470 α := by rw [e471]; exact qFr_s hF449 86 36 _ (by decide)
          refine qr_aload_n 46 rfl g441 rfl ?_
          have hs474 : 0 ≤ σ470 86 36 ∧ σ470 86 36 ≤ 120 := hI472.1 86 36
          have hs475 : σ470 86 36 = ((σ446 86 36) + 1) := (congrFun (congrFun e471 86) 36).trans rfl
          have hs476 : 0 ≤ σ470 86 37 ∧ σ470 86 37 ≤ 120 := hI472.1 86 37
          have hs477 : σ470 86 37 = (σ 86 37) := (congrFun (congrFun e471 86) 37).trans ((hk450).trans rfl)
          have hs478 : 0 ≤ σ470 86 39 ∧ σ470 86 39 ≤ 6 := hI472.1 86 39
          have hs479 : σ470 86 39 = (σ446 86 39) := (congrFun (congrFun e471 86) 39).trans rfl
          refine qr_callN 49 rfl rfl rfl (sf_219_86o6 (d := d + 0) hI472 (by omega) (by omega)) ?_
          have hs482 : 0 ≤ σ470 86 36 ∧ σ470 86 36 ≤ 120 := hI472.1 86 36
          have hs483 : σ470 86 36 = ((σ446 86 36) + 1) := (congrFun (congrFun e471 86) 36).trans rfl
          have hs484 : 0 ≤ σ470 86 37 ∧ σ470 86 37 ≤ 120 := hI472.1 86 37
          have hs485 : σ470 86 37 = (σ 86 37) := (congrFun (congrFun e471 86) 37).trans ((hk450).trans rfl)
          have hs486 : 0 ≤ σ470 86 39 ∧ σ470 86 39 ≤ 6 := hI472.1 86 39
          have hs487 : σ470 86 39 = (σ446 86 39) := (congrFun (congrFun e471 86) 39).trans rfl
          rintro _ _ ⟨σ488, rfl, hI489, hG490, v480, rfl, hv480, hp481⟩
          have hF491 : qFr [(86, 36), (86, 38), (86, 39)] [] σ α σ488 α := qFr_t hF473 hG490 (by decide) (by decide)
          have hs492 : 0 ≤ σ488 86 36 ∧ σ488 86 36 ≤ 120 := hI489.1 86 36
          have hs493 : 0 ≤ σ488 86 37 ∧ σ488 86 37 ≤ 120 := hI489.1 86 37
          have hs494 : 0 ≤ σ488 86 39 ∧ σ488 86 39 ≤ 6 := hI489.1 86 39
          show qr_W (qe L xs vb) (d + 2) qx_e218 _ (49, _, [.int (qz v480)], qw σ488 α κ ρ, 0, 0)
          refine qr_istore_n _ 50 rfl (by decide) rfl rfl ?_
          refine qr_iload_n 51 rfl (qm_gk g444 (by decide) (Or.inr rfl)) rfl ?_
          refine qr_bipush 53 rfl (by decide) rfl ?_
          refine qr_icmp_ne 62 56 rfl rfl rfl hf452 (by decide) (fun h => False.elim (by omega)) (fun h495 => ?_)
          refine qr_iload_n 57 rfl (qm_gk g442 (by decide) (Or.inl (by decide))) rfl ?_
          refine qr_iload_n 58 rfl (qm_ge _ _ _) rfl ?_
          refine qr_imul 59 rfl rfl ?_
          refine qy_can (fun v496 hv496 => ?_)
          refine qr_goto 85 rfl rfl ?_
          refine qr_istore_n _ 86 rfl (by decide) rfl rfl ?_
          refine qr_aload_n 87 rfl (qm_gk (qm_gk g441 (by decide) (Or.inl (by decide))) (by decide) (Or.inr rfl)) rfl ?_
          refine qr_callN 90 rfl rfl rfl (sf_220_86t (d := d + 1) hI489 ) ?_
          have hs499 : 0 ≤ σ488 86 36 ∧ σ488 86 36 ≤ 120 := hI489.1 86 36
          have hs500 : 0 ≤ σ488 86 37 ∧ σ488 86 37 ≤ 120 := hI489.1 86 37
          have hs501 : σ488 86 37 = (σ 86 37) := (hG490.1 86 37 (by decide)).trans ((congrFun (congrFun e471 86) 37).trans ((hk450).trans rfl))
          rintro _ _ ⟨rfl, v497, rfl, hv497, hp498⟩
          show qr_W (qe L xs vb) (d + 2) qx_e218 _ (90, _, [.int (qz v497)], qw σ488 α κ ρ, 0, 0)
          refine qr_istore_n _ 91 rfl (by decide) rfl rfl ?_
          refine qr_goto 10 rfl rfl ?_
          exact ih460 _ v496 v497 σ488 (by omega) (qm_gk (qm_gk (qm_gk g441 (by decide) (Or.inl (by decide))) (by decide) (Or.inr rfl)) (by decide) (Or.inl (by decide))) (qm_gk (qm_ge _ _ _) (by decide) (Or.inr rfl)) (qm_ge _ _ _) hv496 hv497 hI489 hF491 ((hG490.1 86 37 (by decide)).trans ((congrFun (congrFun e471 86) 37).trans ((hk450).trans rfl))) (by have hw0 : σ488 86 39 = (σ488 86 39) := rfl; have hw1 : σ488 86 36 = (σ488 86 36) := rfl; have hw2 : σ488 86 37 = (σ 86 37) := (hG490.1 86 37 (by decide)).trans ((congrFun (congrFun e471 86) 37).trans ((hk450).trans rfl)); omega) (by have hw0 : σ488 86 39 = (σ488 86 39) := rfl; have hw1 : σ488 86 36 = (σ488 86 36) := rfl; have hw2 : σ488 86 37 = (σ 86 37) := (hG490.1 86 37 (by decide)).trans ((congrFun (congrFun e471 86) 37).trans ((hk450).trans rfl)); omega) (by have hw0 : σ488 86 39 = (σ488 86 39) := rfl; have hw1 : σ488 86 36 = (σ488 86 36) := rfl; have hw2 : σ488 86 37 = (σ 86 37) := (hG490.1 86 37 (by decide)).trans ((congrFun (congrFun e471 86) 37).trans ((hk450).trans rfl)); omega) (by have hw0 : σ488 86 39 = (σ488 86 39) := rfl; have hw1 : σ488 86 36 = (σ488 86 36) := rfl; have hw2 : σ488 86 37 = (σ 86 37) := (hG490.1 86 37 (by decide)).trans ((congrFun (congrFun e471 86) 37).trans ((hk450).trans rfl)); omega) (by have hw0 : σ488 86 39 = (σ488 86 39) := rfl; have hw1 : σ488 86 36 = (σ488 86 36) := rfl; have hw2 : σ488 86 37 = (σ 86 37) := (hG490.1 86 37 (by decide)).trans ((congrFun (congrFun e471 86) 37).trans ((hk450).trans rfl)); omega) (by have hw0 : σ488 86 39 = (σ488 86 39) := rfl; have hw1 : σ488 86 36 = (σ488 86 36) := rfl; have hw2 : σ488 86 37 = (σ 86 37) := (hG490.1 86 37 (by decide)).trans ((congrFun (congrFun e471 86) 37).trans ((hk450).trans rfl)); omega)
        · skip
          refine qr_iload_n 24 rfl g444 rfl ?_
          refine qr_bipush 26 rfl (by decide) rfl ?_
          refine qr_icmp_eq 35 29 rfl rfl rfl hf452 (by decide) (fun h502 => ?_) (fun h502 => ?_)
          · skip
            refine qr_aload_n 36 rfl g441 rfl ?_
            refine qr_dup 37 rfl rfl rfl ?_
            refine qr_get 40 rfl rfl rfl (by decide) rfl ?_
            refine qr_iconst 41 rfl rfl ?_
            refine qr_iadd 42 rfl rfl ?_
            refine qr_put 45 rfl (by decide) rfl (Nat.le_of_ble_eq_true rfl) (Nat.le_of_ble_eq_true rfl) (Or.inl rfl) (qr_fitI rfl _) rfl ?_
            refine qy_wS (qw_s σ446 86 36 ((σ446 86 36) + 1)) rfl (fun σ503 e504 => ?_)
            have hI505 : qI σ503 α κ ρ := by rw [e504]; exact qI_s hI448 86 36 rfl (show 0 ≤ ((σ446 86 36) + 1) ∧ ((σ446 86 36) + 1) ≤ 120 by omega)
            have hF506 : qFr [(86, 36), (86, 38), (86, 39)] [] σ α σ503 α := by rw [e504]; exact qFr_s hF449 86 36 _ (by decide)
            refine qr_aload_n 46 rfl g441 rfl ?_
            have hs507 : 0 ≤ σ503 86 36 ∧ σ503 86 36 ≤ 120 := hI505.1 86 36
            have hs508 : σ503 86 36 = ((σ446 86 36) + 1) := (congrFun (congrFun e504 86) 36).trans rfl
            have hs509 : 0 ≤ σ503 86 37 ∧ σ503 86 37 ≤ 120 := hI505.1 86 37
            have hs510 : σ503 86 37 = (σ 86 37) := (congrFun (congrFun e504 86) 37).trans ((hk450).trans rfl)
            have hs511 : 0 ≤ σ503 86 39 ∧ σ503 86 39 ≤ 6 := hI505.1 86 39
            have hs512 : σ503 86 39 = (σ446 86 39) := (congrFun (congrFun e504 86) 39).trans rfl
            refine qr_callN 49 rfl rfl rfl (sf_219_86o6 (d := d + 0) hI505 (by omega) (by omega)) ?_
            have hs515 : 0 ≤ σ503 86 36 ∧ σ503 86 36 ≤ 120 := hI505.1 86 36
            have hs516 : σ503 86 36 = ((σ446 86 36) + 1) := (congrFun (congrFun e504 86) 36).trans rfl
            have hs517 : 0 ≤ σ503 86 37 ∧ σ503 86 37 ≤ 120 := hI505.1 86 37
            have hs518 : σ503 86 37 = (σ 86 37) := (congrFun (congrFun e504 86) 37).trans ((hk450).trans rfl)
            have hs519 : 0 ≤ σ503 86 39 ∧ σ503 86 39 ≤ 6 := hI505.1 86 39
            have hs520 : σ503 86 39 = (σ446 86 39) := (congrFun (congrFun e504 86) 39).trans rfl
            rintro _ _ ⟨σ521, rfl, hI522, hG523, v513, rfl, hv513, hp514⟩
            have hF524 : qFr [(86, 36), (86, 38), (86, 39)] [] σ α σ521 α := qFr_t hF506 hG523 (by decide) (by decide)
            have hs525 : 0 ≤ σ521 86 36 ∧ σ521 86 36 ≤ 120 := hI522.1 86 36
            have hs526 : 0 ≤ σ521 86 37 ∧ σ521 86 37 ≤ 120 := hI522.1 86 37
            have hs527 : 0 ≤ σ521 86 39 ∧ σ521 86 39 ≤ 6 := hI522.1 86 39
            show qr_W (qe L xs vb) (d + 2) qx_e218 _ (49, _, [.int (qz v513)], qw σ521 α κ ρ, 0, 0)
            refine qr_istore_n _ 50 rfl (by decide) rfl rfl ?_
            refine qr_iload_n 51 rfl (qm_gk g444 (by decide) (Or.inr rfl)) rfl ?_
            refine qr_bipush 53 rfl (by decide) rfl ?_
            refine qr_icmp_ne 62 56 rfl rfl rfl hf452 (by decide) (fun h528 => ?_) (fun h => False.elim (by omega))
            refine qr_iload_n 63 rfl (qm_ge _ _ _) rfl ?_
            have hJ533 : ∀ (ls : qm_L) (u531 : Int), qm_get ls 0 = some (.ref 86) → ((-2147483648) ≤ u531 ∧ u531 ≤ 2147483647) → qr_W (qe L xs vb) (d + 2) qx_e218 (fun r w' => ∃ σ', w' = qw σ' α κ ρ ∧ qI σ' α κ ρ ∧ qFr [(86, 36), (86, 38), (86, 39)] [] σ α σ' α ∧ ∃ v : Int, r = some (.int (qz v)) ∧ ((-2147483648) ≤ v ∧ v ≤ 2147483647) ∧ σ 86 39 ≤ σ' 86 39 ∧ σ 86 36 ≤ σ' 86 36 ∧ σ' 86 36 ≤ σ' 86 37 ∧ σ' 86 37 = σ 86 37) (85, ls, [.int (qz u531)], qw σ521 α κ ρ, 0, 0) := by
              intro ls u531 g530 hf532
              refine qr_istore_n _ 86 rfl (by decide) rfl rfl ?_
              refine qr_aload_n 87 rfl (qm_gk g530 (by decide) (Or.inr rfl)) rfl ?_
              refine qr_callN 90 rfl rfl rfl (sf_220_86t (d := d + 1) hI522 ) ?_
              have hs536 : 0 ≤ σ521 86 36 ∧ σ521 86 36 ≤ 120 := hI522.1 86 36
              have hs537 : 0 ≤ σ521 86 37 ∧ σ521 86 37 ≤ 120 := hI522.1 86 37
              have hs538 : σ521 86 37 = (σ 86 37) := (hG523.1 86 37 (by decide)).trans ((congrFun (congrFun e504 86) 37).trans ((hk450).trans rfl))
              rintro _ _ ⟨rfl, v534, rfl, hv534, hp535⟩
              show qr_W (qe L xs vb) (d + 2) qx_e218 _ (90, _, [.int (qz v534)], qw σ521 α κ ρ, 0, 0)
              refine qr_istore_n _ 91 rfl (by decide) rfl rfl ?_
              refine qr_goto 10 rfl rfl ?_
              exact ih460 _ u531 v534 σ521 (by omega) (qm_gk (qm_gk g530 (by decide) (Or.inr rfl)) (by decide) (Or.inl (by decide))) (qm_gk (qm_ge _ _ _) (by decide) (Or.inr rfl)) (qm_ge _ _ _) hf532 hv534 hI522 hF524 ((hG523.1 86 37 (by decide)).trans ((congrFun (congrFun e504 86) 37).trans ((hk450).trans rfl))) (by have hw0 : σ521 86 39 = (σ521 86 39) := rfl; have hw1 : σ521 86 36 = (σ521 86 36) := rfl; have hw2 : σ521 86 37 = (σ 86 37) := (hG523.1 86 37 (by decide)).trans ((congrFun (congrFun e504 86) 37).trans ((hk450).trans rfl)); omega) (by have hw0 : σ521 86 39 = (σ521 86 39) := rfl; have hw1 : σ521 86 36 = (σ521 86 36) := rfl; have hw2 : σ521 86 37 = (σ 86 37) := (hG523.1 86 37 (by decide)).trans ((congrFun (congrFun e504 86) 37).trans ((hk450).trans rfl)); omega) (by have hw0 : σ521 86 39 = (σ521 86 39) := rfl; have hw1 : σ521 86 36 = (σ521 86 36) := rfl; have hw2 : σ521 86 37 = (σ 86 37) := (hG523.1 86 37 (by decide)).trans ((congrFun (congrFun e504 86) 37).trans ((hk450).trans rfl)); omega) (by have hw0 : σ521 86 39 = (σ521 86 39) := rfl; have hw1 : σ521 86 36 = (σ521 86 36) := rfl; have hw2 : σ521 86 37 = (σ 86 37) := (hG523.1 86 37 (by decide)).trans ((congrFun (congrFun e504 86) 37).trans ((hk450).trans rfl)); omega) (by have hw0 : σ521 86 39 = (σ521 86 39) := rfl; have hw1 : σ521 86 36 = (σ521 86 36) := rfl; have hw2 : σ521 86 37 = (σ 86 37) := (hG523.1 86 37 (by decide)).trans ((congrFun (congrFun e504 86) 37).trans ((hk450).trans rfl)); omega) (by have hw0 : σ521 86 39 = (σ521 86 39) := rfl; have hw1 : σ521 86 36 = (σ521 86 36) := rfl; have hw2 : σ521 86 37 = (σ 86 37) := (hG523.1 86 37 (by decide)).trans ((congrFun (congrFun e504 86) 37).trans ((hk450).trans rfl)); omega)
            refine qr_if_ne 70 66 rfl rfl rfl hv513 (fun h539 => ?_) (fun h539 => ?_)
            · skip
              refine qr_iload_n 71 rfl (qm_gk g444 (by decide) (Or.inr rfl)) rfl ?_
              refine qr_bipush 73 rfl (by decide) rfl ?_
              refine qr_icmp_ne 82 76 rfl rfl rfl hf452 (by decide) (fun h => False.elim (by omega)) (fun h540 => ?_)
              refine qr_iload_n 77 rfl (qm_gk g442 (by decide) (Or.inl (by decide))) rfl ?_
              refine qr_iload_n 78 rfl (qm_ge _ _ _) rfl ?_
              refine qr_idivW 79 rfl (by omega) rfl ?_
              refine qy_can (fun v541 hv541 => ?_)
              refine qr_goto 85 rfl rfl ?_
              exact hJ533 _ v541 (qm_gk g441 (by decide) (Or.inl (by decide))) hv541
            · skip
              refine qr_iconst 67 rfl rfl ?_
              refine qr_goto 85 rfl rfl ?_
              exact hJ533 _ 0 (qm_gk g441 (by decide) (Or.inl (by decide))) (by decide)
          · skip
            refine qr_iload_n 30 rfl g444 rfl ?_
            refine qr_bipush 32 rfl (by decide) rfl ?_
            refine qr_icmp_ne 94 35 rfl rfl rfl hf452 (by decide) (fun h542 => ?_) (fun h542 => ?_)
            · skip
              refine qr_iload_n 95 rfl g442 rfl ?_
              refine qr_retI rfl rfl (by decide) (by decide) ?_
              have hw543 : σ446 86 36 = (σ446 86 36) := rfl
              have hw544 : σ446 86 37 = (σ 86 37) := (hk450).trans rfl
              have hw545 : σ446 86 39 = (σ446 86 39) := rfl
              exact ⟨_, rfl, hI448, hF449, u443, rfl, hf451, by omega⟩
            · skip
              refine qr_aload_n 36 rfl g441 rfl ?_
              refine qr_dup 37 rfl rfl rfl ?_
              refine qr_get 40 rfl rfl rfl (by decide) rfl ?_
              refine qr_iconst 41 rfl rfl ?_
              refine qr_iadd 42 rfl rfl ?_
              refine qr_put 45 rfl (by decide) rfl (Nat.le_of_ble_eq_true rfl) (Nat.le_of_ble_eq_true rfl) (Or.inl rfl) (qr_fitI rfl _) rfl ?_
              refine qy_wS (qw_s σ446 86 36 ((σ446 86 36) + 1)) rfl (fun σ546 e547 => ?_)
              have hI548 : qI σ546 α κ ρ := by rw [e547]; exact qI_s hI448 86 36 rfl (show 0 ≤ ((σ446 86 36) + 1) ∧ ((σ446 86 36) + 1) ≤ 120 by omega)
              have hF549 : qFr [(86, 36), (86, 38), (86, 39)] [] σ α σ546 α := by rw [e547]; exact qFr_s hF449 86 36 _ (by decide)
              refine qr_aload_n 46 rfl g441 rfl ?_
              have hs550 : 0 ≤ σ546 86 36 ∧ σ546 86 36 ≤ 120 := hI548.1 86 36
              have hs551 : σ546 86 36 = ((σ446 86 36) + 1) := (congrFun (congrFun e547 86) 36).trans rfl
              have hs552 : 0 ≤ σ546 86 37 ∧ σ546 86 37 ≤ 120 := hI548.1 86 37
              have hs553 : σ546 86 37 = (σ 86 37) := (congrFun (congrFun e547 86) 37).trans ((hk450).trans rfl)
              have hs554 : 0 ≤ σ546 86 39 ∧ σ546 86 39 ≤ 6 := hI548.1 86 39
              have hs555 : σ546 86 39 = (σ446 86 39) := (congrFun (congrFun e547 86) 39).trans rfl
              refine qr_callN 49 rfl rfl rfl (sf_219_86o6 (d := d + 0) hI548 (by omega) (by omega)) ?_
              have hs558 : 0 ≤ σ546 86 36 ∧ σ546 86 36 ≤ 120 := hI548.1 86 36
              have hs559 : σ546 86 36 = ((σ446 86 36) + 1) := (congrFun (congrFun e547 86) 36).trans rfl
              have hs560 : 0 ≤ σ546 86 37 ∧ σ546 86 37 ≤ 120 := hI548.1 86 37
              have hs561 : σ546 86 37 = (σ 86 37) := (congrFun (congrFun e547 86) 37).trans ((hk450).trans rfl)
              have hs562 : 0 ≤ σ546 86 39 ∧ σ546 86 39 ≤ 6 := hI548.1 86 39
              have hs563 : σ546 86 39 = (σ446 86 39) := (congrFun (congrFun e547 86) 39).trans rfl
              rintro _ _ ⟨σ564, rfl, hI565, hG566, v556, rfl, hv556, hp557⟩
              have hF567 : qFr [(86, 36), (86, 38), (86, 39)] [] σ α σ564 α := qFr_t hF549 hG566 (by decide) (by decide)
              have hs568 : 0 ≤ σ564 86 36 ∧ σ564 86 36 ≤ 120 := hI565.1 86 36
              have hs569 : 0 ≤ σ564 86 37 ∧ σ564 86 37 ≤ 120 := hI565.1 86 37
              have hs570 : 0 ≤ σ564 86 39 ∧ σ564 86 39 ≤ 6 := hI565.1 86 39
              show qr_W (qe L xs vb) (d + 2) qx_e218 _ (49, _, [.int (qz v556)], qw σ564 α κ ρ, 0, 0)
              refine qr_istore_n _ 50 rfl (by decide) rfl rfl ?_
              refine qr_iload_n 51 rfl (qm_gk g444 (by decide) (Or.inr rfl)) rfl ?_
              refine qr_bipush 53 rfl (by decide) rfl ?_
              refine qr_icmp_ne 62 56 rfl rfl rfl hf452 (by decide) (fun h571 => ?_) (fun h => False.elim (by omega))
              refine qr_iload_n 63 rfl (qm_ge _ _ _) rfl ?_
              have hJ576 : ∀ (ls : qm_L) (u574 : Int), qm_get ls 0 = some (.ref 86) → ((-2147483648) ≤ u574 ∧ u574 ≤ 2147483647) → qr_W (qe L xs vb) (d + 2) qx_e218 (fun r w' => ∃ σ', w' = qw σ' α κ ρ ∧ qI σ' α κ ρ ∧ qFr [(86, 36), (86, 38), (86, 39)] [] σ α σ' α ∧ ∃ v : Int, r = some (.int (qz v)) ∧ ((-2147483648) ≤ v ∧ v ≤ 2147483647) ∧ σ 86 39 ≤ σ' 86 39 ∧ σ 86 36 ≤ σ' 86 36 ∧ σ' 86 36 ≤ σ' 86 37 ∧ σ' 86 37 = σ 86 37) (85, ls, [.int (qz u574)], qw σ564 α κ ρ, 0, 0) := by
                intro ls u574 g573 hf575
                refine qr_istore_n _ 86 rfl (by decide) rfl rfl ?_
                refine qr_aload_n 87 rfl (qm_gk g573 (by decide) (Or.inr rfl)) rfl ?_
                refine qr_callN 90 rfl rfl rfl (sf_220_86t (d := d + 1) hI565 ) ?_
                have hs579 : 0 ≤ σ564 86 36 ∧ σ564 86 36 ≤ 120 := hI565.1 86 36
                have hs580 : 0 ≤ σ564 86 37 ∧ σ564 86 37 ≤ 120 := hI565.1 86 37
                have hs581 : σ564 86 37 = (σ 86 37) := (hG566.1 86 37 (by decide)).trans ((congrFun (congrFun e547 86) 37).trans ((hk450).trans rfl))
                rintro _ _ ⟨rfl, v577, rfl, hv577, hp578⟩
                show qr_W (qe L xs vb) (d + 2) qx_e218 _ (90, _, [.int (qz v577)], qw σ564 α κ ρ, 0, 0)
                refine qr_istore_n _ 91 rfl (by decide) rfl rfl ?_
                refine qr_goto 10 rfl rfl ?_
                exact ih460 _ u574 v577 σ564 (by omega) (qm_gk (qm_gk g573 (by decide) (Or.inr rfl)) (by decide) (Or.inl (by decide))) (qm_gk (qm_ge _ _ _) (by decide) (Or.inr rfl)) (qm_ge _ _ _) hf575 hv577 hI565 hF567 ((hG566.1 86 37 (by decide)).trans ((congrFun (congrFun e547 86) 37).trans ((hk450).trans rfl))) (by have hw0 : σ564 86 39 = (σ564 86 39) := rfl; have hw1 : σ564 86 36 = (σ564 86 36) := rfl; have hw2 : σ564 86 37 = (σ 86 37) := (hG566.1 86 37 (by decide)).trans ((congrFun (congrFun e547 86) 37).trans ((hk450).trans rfl)); omega) (by have hw0 : σ564 86 39 = (σ564 86 39) := rfl; have hw1 : σ564 86 36 = (σ564 86 36) := rfl; have hw2 : σ564 86 37 = (σ 86 37) := (hG566.1 86 37 (by decide)).trans ((congrFun (congrFun e547 86) 37).trans ((hk450).trans rfl)); omega) (by have hw0 : σ564 86 39 = (σ564 86 39) := rfl; have hw1 : σ564 86 36 = (σ564 86 36) := rfl; have hw2 : σ564 86 37 = (σ 86 37) := (hG566.1 86 37 (by decide)).trans ((congrFun (congrFun e547 86) 37).trans ((hk450).trans rfl)); omega) (by have hw0 : σ564 86 39 = (σ564 86 39) := rfl; have hw1 : σ564 86 36 = (σ564 86 36) := rfl; have hw2 : σ564 86 37 = (σ 86 37) := (hG566.1 86 37 (by decide)).trans ((congrFun (congrFun e547 86) 37).trans ((hk450).trans rfl)); omega) (by have hw0 : σ564 86 39 = (σ564 86 39) := rfl; have hw1 : σ564 86 36 = (σ564 86 36) := rfl; have hw2 : σ564 86 37 = (σ 86 37) := (hG566.1 86 37 (by decide)).trans ((congrFun (congrFun e547 86) 37).trans ((hk450).trans rfl)); omega) (by have hw0 : σ564 86 39 = (σ564 86 39) := rfl; have hw1 : σ564 86 36 = (σ564 86 36) := rfl; have hw2 : σ564 86 37 = (σ 86 37) := (hG566.1 86 37 (by decide)).trans ((congrFun (congrFun e547 86) 37).trans ((hk450).trans rfl)); omega)
              refine qr_if_ne 70 66 rfl rfl rfl hv556 (fun h582 => ?_) (fun h582 => ?_)
              · skip
                refine qr_iload_n 71 rfl (qm_gk g444 (by decide) (Or.inr rfl)) rfl ?_
                refine qr_bipush 73 rfl (by decide) rfl ?_
                refine qr_icmp_ne 82 76 rfl rfl rfl hf452 (by decide) (fun h583 => ?_) (fun h => False.elim (by omega))
                refine qr_iload_n 83 rfl (qm_gk g442 (by decide) (Or.inl (by decide))) rfl ?_
                refine qr_iload_n 84 rfl (qm_ge _ _ _) rfl ?_
                refine qr_iremW 85 rfl (by omega) rfl ?_
                refine qy_can (fun v584 hv584 => ?_)
                exact hJ576 _ v584 (qm_gk g441 (by decide) (Or.inl (by decide))) hv584
              · skip
                refine qr_iconst 67 rfl rfl ?_
                refine qr_goto 85 rfl rfl ?_
                exact hJ576 _ 0 (qm_gk g441 (by decide) (Or.inl (by decide))) (by decide)
  exact hL459 ((((120 - σ9 86 36).toNat : Int) + 1 : Int)).toNat _ v4 v16 σ9 (by omega) rfl rfl rfl hv4 hv16 hI10 hF12 ((hG11.1 86 37 (by decide)).trans rfl) (by have hw0 : σ9 86 39 = (σ9 86 39) := rfl; have hw1 : σ9 86 36 = (σ9 86 36) := rfl; have hw2 : σ9 86 37 = (σ 86 37) := (hG11.1 86 37 (by decide)).trans rfl; omega) (by have hw0 : σ9 86 39 = (σ9 86 39) := rfl; have hw1 : σ9 86 36 = (σ9 86 36) := rfl; have hw2 : σ9 86 37 = (σ 86 37) := (hG11.1 86 37 (by decide)).trans rfl; omega) (by have hw0 : σ9 86 39 = (σ9 86 39) := rfl; have hw1 : σ9 86 36 = (σ9 86 36) := rfl; have hw2 : σ9 86 37 = (σ 86 37) := (hG11.1 86 37 (by decide)).trans rfl; omega) (by have hw0 : σ9 86 39 = (σ9 86 39) := rfl; have hw1 : σ9 86 36 = (σ9 86 36) := rfl; have hw2 : σ9 86 37 = (σ 86 37) := (hG11.1 86 37 (by decide)).trans rfl; omega) (by have hw0 : σ9 86 39 = (σ9 86 39) := rfl; have hw1 : σ9 86 36 = (σ9 86 36) := rfl; have hw2 : σ9 86 37 = (σ 86 37) := (hG11.1 86 37 (by decide)).trans rfl; omega) (by have hw0 : σ9 86 39 = (σ9 86 39) := rfl; have hw1 : σ9 86 36 = (σ9 86 36) := rfl; have hw2 : σ9 86 37 = (σ 86 37) := (hG11.1 86 37 (by decide)).trans rfl; omega)

set_option maxHeartbeats 4000000 in
set_option maxRecDepth 20000 in
/-- OneRoofModel.sums -/
theorem sf_217_86o6 {L : Nat} {xs : Nat → Int} {vb : Bool} {d : Nat} {σ α : Nat → Nat → Int} {κ : Nat → Option Nat} {ρ : Nat}  (hI : qI σ α κ ρ) (p0 : 6 ≤ σ 86 39) (p1 : σ 86 36 ≤ σ 86 37) : qm_T (qe L xs vb) (d + 4) 217 [.ref 86] (qw σ α κ ρ) (fun r w' => ∃ σ', w' = qw σ' α κ ρ ∧ qI σ' α κ ρ ∧ qFr [(86, 36), (86, 38), (86, 39)] [] σ α σ' α ∧ ∃ v : Int, r = some (.int (qz v)) ∧ ((-2147483648) ≤ v ∧ v ≤ 2147483647) ∧ σ 86 39 ≤ σ' 86 39 ∧ σ 86 36 ≤ σ' 86 36 ∧ σ' 86 36 ≤ σ' 86 37 ∧ σ' 86 37 = σ 86 37) := by
  refine qr_start (d := d + 3) qv_e217 (Nat.le_of_ble_eq_true rfl) ?_
  show qr_W (qe L xs vb) (d + 3) qx_e217 _ (0, [(0, .ref 86)], [], _, 0, 0)
  have hF0 := qFr_rf [(86, 36), (86, 38), (86, 39)] [] σ α
  have hz86_39 : 0 ≤ σ 86 39 ∧ σ 86 39 ≤ 6 := hI.1 86 39
  have hz86_36 : 0 ≤ σ 86 36 ∧ σ 86 36 ≤ 120 := hI.1 86 36
  have hz86_37 : 0 ≤ σ 86 37 ∧ σ 86 37 ≤ 120 := hI.1 86 37
  refine qr_aload_n 1 rfl rfl rfl ?_
  have hs1 : 0 ≤ σ 86 36 ∧ σ 86 36 ≤ 120 := hI.1 86 36
  have hs2 : 0 ≤ σ 86 37 ∧ σ 86 37 ≤ 120 := hI.1 86 37
  have hs3 : 0 ≤ σ 86 39 ∧ σ 86 39 ≤ 6 := hI.1 86 39
  refine qr_callN 4 rfl rfl rfl (sf_218_86o6 (d := d + 0) hI (by omega) (by omega)) ?_
  have hs6 : 0 ≤ σ 86 36 ∧ σ 86 36 ≤ 120 := hI.1 86 36
  have hs7 : 0 ≤ σ 86 37 ∧ σ 86 37 ≤ 120 := hI.1 86 37
  have hs8 : 0 ≤ σ 86 39 ∧ σ 86 39 ≤ 6 := hI.1 86 39
  rintro _ _ ⟨σ9, rfl, hI10, hG11, v4, rfl, hv4, hp5⟩
  have hF12 : qFr [(86, 36), (86, 38), (86, 39)] [] σ α σ9 α := qFr_t hF0 hG11 (by decide) (by decide)
  have hs13 : 0 ≤ σ9 86 36 ∧ σ9 86 36 ≤ 120 := hI10.1 86 36
  have hs14 : 0 ≤ σ9 86 37 ∧ σ9 86 37 ≤ 120 := hI10.1 86 37
  have hs15 : 0 ≤ σ9 86 39 ∧ σ9 86 39 ≤ 6 := hI10.1 86 39
  show qr_W (qe L xs vb) (d + 3) qx_e217 _ (4, _, [.int (qz v4)], qw σ9 α κ ρ, 0, 0)
  refine qr_istore_n _ 5 rfl (by decide) rfl rfl ?_
  have hL550 : ∀ (n : Nat) (ls : qm_L) (u538 : Int) (σ539 : Nat → Nat → Int), ((120 - σ539 86 36).toNat : Int) < (n : Int) → qm_get ls 0 = some (.ref 86) → qm_get ls 1 = some (.int (qz u538)) → ((-2147483648) ≤ u538 ∧ u538 ≤ 2147483647) → qI σ539 α κ ρ → qFr [(86, 36), (86, 38), (86, 39)] [] σ α σ539 α → σ539 86 37 = (σ 86 37) → 6 ≤ σ539 86 39 → σ 86 39 ≤ σ539 86 39 → σ 86 36 ≤ σ539 86 36 → σ539 86 36 ≤ σ539 86 37 → σ539 86 37 = σ 86 37 → qr_W (qe L xs vb) (d + 3) qx_e217 (fun r w' => ∃ σ', w' = qw σ' α κ ρ ∧ qI σ' α κ ρ ∧ qFr [(86, 36), (86, 38), (86, 39)] [] σ α σ' α ∧ ∃ v : Int, r = some (.int (qz v)) ∧ ((-2147483648) ≤ v ∧ v ≤ 2147483647) ∧ σ 86 39 ≤ σ' 86 39 ∧ σ 86 36 ≤ σ' 86 36 ∧ σ' 86 36 ≤ σ' 86 37 ∧ σ' 86 37 = σ 86 37) (5, ls, [], qw σ539 α κ ρ, 0, 0) := by
    intro n
    induction n with
    | zero => intro ls u538 σ539 hm g536 g537 hf544 hI541 hF542 hk543 hx545 hx546 hx547 hx548 hx549; exact False.elim (by omega)
    | succ n ih551 =>
      intro ls u538 σ539 hm g536 g537 hf544 hI541 hF542 hk543 hx545 hx546 hx547 hx548 hx549
      have hs552 : 0 ≤ σ539 86 39 ∧ σ539 86 39 ≤ 6 := hI541.1 86 39
      have hs553 : 0 ≤ σ539 86 36 ∧ σ539 86 36 ≤ 120 := hI541.1 86 36
      have hs554 : 0 ≤ σ539 86 37 ∧ σ539 86 37 ≤ 120 := hI541.1 86 37
      refine qr_aload_n 6 rfl g536 rfl ?_
      refine qr_get 9 rfl rfl rfl (by decide) rfl ?_
      have hs555 : (-1) ≤ σ539 86 38 ∧ σ539 86 38 ≤ 120 := hI541.1 86 38
      refine qr_if_ge 77 12 rfl rfl rfl (qrg hs555 (by decide) (by decide)) (fun h556 => ?_) (fun h556 => ?_)
      · skip
        refine qr_iload_n 78 rfl g537 rfl ?_
        refine qr_retI rfl rfl (by decide) (by decide) ?_
        have hw557 : σ539 86 36 = (σ539 86 36) := rfl
        have hw558 : σ539 86 37 = (σ 86 37) := (hk543).trans rfl
        have hw559 : σ539 86 39 = (σ539 86 39) := rfl
        exact ⟨_, rfl, hI541, hF542, u538, rfl, hf544, by omega⟩
      · skip
        refine qr_aload_n 13 rfl g536 rfl ?_
        refine qr_callN 16 rfl rfl rfl (sf_220_86t (d := d + 2) hI541 ) ?_
        have hs562 : 0 ≤ σ539 86 36 ∧ σ539 86 36 ≤ 120 := hI541.1 86 36
        have hs563 : 0 ≤ σ539 86 37 ∧ σ539 86 37 ≤ 120 := hI541.1 86 37
        have hs564 : σ539 86 37 = (σ 86 37) := (hk543).trans rfl
        rintro _ _ ⟨rfl, v560, rfl, hv560, hp561⟩
        show qr_W (qe L xs vb) (d + 3) qx_e217 _ (16, _, [.int (qz v560)], qw σ539 α κ ρ, 0, 0)
        refine qr_bipush 18 rfl (by decide) rfl ?_
        refine qr_icmp_eq 30 21 rfl rfl rfl hv560 (by decide) (fun h565 => ?_) (fun h565 => ?_)
        · skip
          refine qr_aload_n 31 rfl g536 rfl ?_
          refine qr_callN 34 rfl rfl rfl (sf_220_86t (d := d + 2) hI541 ) ?_
          have hs568 : 0 ≤ σ539 86 36 ∧ σ539 86 36 ≤ 120 := hI541.1 86 36
          have hs569 : 0 ≤ σ539 86 37 ∧ σ539 86 37 ≤ 120 := hI541.1 86 37
          have hs570 : σ539 86 37 = (σ 86 37) := (hk543).trans rfl
          rintro _ _ ⟨rfl, v566, rfl, hv566, hp567⟩
          show qr_W (qe L xs vb) (d + 3) qx_e217 _ (34, _, [.int (qz v566)], qw σ539 α κ ρ, 0, 0)
          refine qr_bipush 36 rfl (by decide) rfl ?_
          refine qr_icmp_ne 43 39 rfl rfl rfl hv566 (by decide) (fun h571 => ?_) (fun h571 => ?_)
          · skip
            refine qr_iconst 44 rfl rfl ?_
            refine qr_istore_n _ 45 rfl (by decide) rfl rfl ?_
            refine qr_aload_n 46 rfl (qm_gk g536 (by decide) (Or.inl (by decide))) rfl ?_
            refine qr_dup 47 rfl rfl rfl ?_
            refine qr_get 50 rfl rfl rfl (by decide) rfl ?_
            refine qr_iconst 51 rfl rfl ?_
            refine qr_iadd 52 rfl rfl ?_
            refine qr_put 55 rfl (by decide) rfl (Nat.le_of_ble_eq_true rfl) (Nat.le_of_ble_eq_true rfl) (Or.inl rfl) (qr_fitI rfl _) rfl ?_
            refine qy_wS (qw_s σ539 86 36 ((σ539 86 36) + 1)) rfl (fun σ572 e573 => ?_)
            have hI574 : qI σ572 α κ ρ := by rw [e573]; exact qI_s hI541 86 36 rfl (show 0 ≤ ((σ539 86 36) + 1) ∧ ((σ539 86 36) + 1) ≤ 120 by omega)
            have hF575 : qFr [(86, 36), (86, 38), (86, 39)] [] σ α σ572 α := by rw [e573]; exact qFr_s hF542 86 36 _ (by decide)
            refine qr_aload_n 56 rfl (qm_gk g536 (by decide) (Or.inl (by decide))) rfl ?_
            have hs576 : 0 ≤ σ572 86 36 ∧ σ572 86 36 ≤ 120 := hI574.1 86 36
            have hs577 : σ572 86 36 = ((σ539 86 36) + 1) := (congrFun (congrFun e573 86) 36).trans rfl
            have hs578 : 0 ≤ σ572 86 37 ∧ σ572 86 37 ≤ 120 := hI574.1 86 37
            have hs579 : σ572 86 37 = (σ 86 37) := (congrFun (congrFun e573 86) 37).trans ((hk543).trans rfl)
            have hs580 : 0 ≤ σ572 86 39 ∧ σ572 86 39 ≤ 6 := hI574.1 86 39
            have hs581 : σ572 86 39 = (σ539 86 39) := (congrFun (congrFun e573 86) 39).trans rfl
            refine qr_callN 59 rfl rfl rfl (sf_218_86o6 (d := d + 0) hI574 (by omega) (by omega)) ?_
            have hs584 : 0 ≤ σ572 86 36 ∧ σ572 86 36 ≤ 120 := hI574.1 86 36
            have hs585 : σ572 86 36 = ((σ539 86 36) + 1) := (congrFun (congrFun e573 86) 36).trans rfl
            have hs586 : 0 ≤ σ572 86 37 ∧ σ572 86 37 ≤ 120 := hI574.1 86 37
            have hs587 : σ572 86 37 = (σ 86 37) := (congrFun (congrFun e573 86) 37).trans ((hk543).trans rfl)
            have hs588 : 0 ≤ σ572 86 39 ∧ σ572 86 39 ≤ 6 := hI574.1 86 39
            have hs589 : σ572 86 39 = (σ539 86 39) := (congrFun (congrFun e573 86) 39).trans rfl
            rintro _ _ ⟨σ590, rfl, hI591, hG592, v582, rfl, hv582, hp583⟩
            have hF593 : qFr [(86, 36), (86, 38), (86, 39)] [] σ α σ590 α := qFr_t hF575 hG592 (by decide) (by decide)
            have hs594 : 0 ≤ σ590 86 36 ∧ σ590 86 36 ≤ 120 := hI591.1 86 36
            have hs595 : 0 ≤ σ590 86 37 ∧ σ590 86 37 ≤ 120 := hI591.1 86 37
            have hs596 : 0 ≤ σ590 86 39 ∧ σ590 86 39 ≤ 6 := hI591.1 86 39
            show qr_W (qe L xs vb) (d + 3) qx_e217 _ (59, _, [.int (qz v582)], qw σ590 α κ ρ, 0, 0)
            refine qr_istore_n _ 60 rfl (by decide) rfl rfl ?_
            refine qr_iload_n 61 rfl (qm_gk (qm_ge _ _ _) (by decide) (Or.inr rfl)) rfl ?_
            refine qr_if_eq 70 64 rfl rfl rfl (by decide) (fun h597 => ?_) (fun h => False.elim (by omega))
            refine qr_iload_n 71 rfl (qm_gk (qm_gk g537 (by decide) (Or.inr rfl)) (by decide) (Or.inl (by decide))) rfl ?_
            refine qr_iload_n 72 rfl (qm_ge _ _ _) rfl ?_
            refine qr_isub 73 rfl rfl ?_
            refine qy_can (fun v598 hv598 => ?_)
            refine qr_istore_n _ 74 rfl (by decide) rfl rfl ?_
            refine qr_goto 5 rfl rfl ?_
            exact ih551 _ v598 σ590 (by omega) (qm_gk (qm_gk (qm_gk g536 (by decide) (Or.inl (by decide))) (by decide) (Or.inl (by decide))) (by decide) (Or.inr rfl)) (qm_ge _ _ _) hv598 hI591 hF593 ((hG592.1 86 37 (by decide)).trans ((congrFun (congrFun e573 86) 37).trans ((hk543).trans rfl))) (by have hw0 : σ590 86 39 = (σ590 86 39) := rfl; have hw1 : σ590 86 36 = (σ590 86 36) := rfl; have hw2 : σ590 86 37 = (σ 86 37) := (hG592.1 86 37 (by decide)).trans ((congrFun (congrFun e573 86) 37).trans ((hk543).trans rfl)); omega) (by have hw0 : σ590 86 39 = (σ590 86 39) := rfl; have hw1 : σ590 86 36 = (σ590 86 36) := rfl; have hw2 : σ590 86 37 = (σ 86 37) := (hG592.1 86 37 (by decide)).trans ((congrFun (congrFun e573 86) 37).trans ((hk543).trans rfl)); omega) (by have hw0 : σ590 86 39 = (σ590 86 39) := rfl; have hw1 : σ590 86 36 = (σ590 86 36) := rfl; have hw2 : σ590 86 37 = (σ 86 37) := (hG592.1 86 37 (by decide)).trans ((congrFun (congrFun e573 86) 37).trans ((hk543).trans rfl)); omega) (by have hw0 : σ590 86 39 = (σ590 86 39) := rfl; have hw1 : σ590 86 36 = (σ590 86 36) := rfl; have hw2 : σ590 86 37 = (σ 86 37) := (hG592.1 86 37 (by decide)).trans ((congrFun (congrFun e573 86) 37).trans ((hk543).trans rfl)); omega) (by have hw0 : σ590 86 39 = (σ590 86 39) := rfl; have hw1 : σ590 86 36 = (σ590 86 36) := rfl; have hw2 : σ590 86 37 = (σ 86 37) := (hG592.1 86 37 (by decide)).trans ((congrFun (congrFun e573 86) 37).trans ((hk543).trans rfl)); omega)
          · skip
            refine qr_iconst 40 rfl rfl ?_
            refine qr_goto 44 rfl rfl ?_
            refine qr_istore_n _ 45 rfl (by decide) rfl rfl ?_
            refine qr_aload_n 46 rfl (qm_gk g536 (by decide) (Or.inl (by decide))) rfl ?_
            refine qr_dup 47 rfl rfl rfl ?_
            refine qr_get 50 rfl rfl rfl (by decide) rfl ?_
            refine qr_iconst 51 rfl rfl ?_
            refine qr_iadd 52 rfl rfl ?_
            refine qr_put 55 rfl (by decide) rfl (Nat.le_of_ble_eq_true rfl) (Nat.le_of_ble_eq_true rfl) (Or.inl rfl) (qr_fitI rfl _) rfl ?_
            refine qy_wS (qw_s σ539 86 36 ((σ539 86 36) + 1)) rfl (fun σ599 e600 => ?_)
            have hI601 : qI σ599 α κ ρ := by rw [e600]; exact qI_s hI541 86 36 rfl (show 0 ≤ ((σ539 86 36) + 1) ∧ ((σ539 86 36) + 1) ≤ 120 by omega)
            have hF602 : qFr [(86, 36), (86, 38), (86, 39)] [] σ α σ599 α := by rw [e600]; exact qFr_s hF542 86 36 _ (by decide)
            refine qr_aload_n 56 rfl (qm_gk g536 (by decide) (Or.inl (by decide))) rfl ?_
            have hs603 : 0 ≤ σ599 86 36 ∧ σ599 86 36 ≤ 120 := hI601.1 86 36
            have hs604 : σ599 86 36 = ((σ539 86 36) + 1) := (congrFun (congrFun e600 86) 36).trans rfl
            have hs605 : 0 ≤ σ599 86 37 ∧ σ599 86 37 ≤ 120 := hI601.1 86 37
            have hs606 : σ599 86 37 = (σ 86 37) := (congrFun (congrFun e600 86) 37).trans ((hk543).trans rfl)
            have hs607 : 0 ≤ σ599 86 39 ∧ σ599 86 39 ≤ 6 := hI601.1 86 39
            have hs608 : σ599 86 39 = (σ539 86 39) := (congrFun (congrFun e600 86) 39).trans rfl
            refine qr_callN 59 rfl rfl rfl (sf_218_86o6 (d := d + 0) hI601 (by omega) (by omega)) ?_
            have hs611 : 0 ≤ σ599 86 36 ∧ σ599 86 36 ≤ 120 := hI601.1 86 36
            have hs612 : σ599 86 36 = ((σ539 86 36) + 1) := (congrFun (congrFun e600 86) 36).trans rfl
            have hs613 : 0 ≤ σ599 86 37 ∧ σ599 86 37 ≤ 120 := hI601.1 86 37
            have hs614 : σ599 86 37 = (σ 86 37) := (congrFun (congrFun e600 86) 37).trans ((hk543).trans rfl)
            have hs615 : 0 ≤ σ599 86 39 ∧ σ599 86 39 ≤ 6 := hI601.1 86 39
            have hs616 : σ599 86 39 = (σ539 86 39) := (congrFun (congrFun e600 86) 39).trans rfl
            rintro _ _ ⟨σ617, rfl, hI618, hG619, v609, rfl, hv609, hp610⟩
            have hF620 : qFr [(86, 36), (86, 38), (86, 39)] [] σ α σ617 α := qFr_t hF602 hG619 (by decide) (by decide)
            have hs621 : 0 ≤ σ617 86 36 ∧ σ617 86 36 ≤ 120 := hI618.1 86 36
            have hs622 : 0 ≤ σ617 86 37 ∧ σ617 86 37 ≤ 120 := hI618.1 86 37
            have hs623 : 0 ≤ σ617 86 39 ∧ σ617 86 39 ≤ 6 := hI618.1 86 39
            show qr_W (qe L xs vb) (d + 3) qx_e217 _ (59, _, [.int (qz v609)], qw σ617 α κ ρ, 0, 0)
            refine qr_istore_n _ 60 rfl (by decide) rfl rfl ?_
            refine qr_iload_n 61 rfl (qm_gk (qm_ge _ _ _) (by decide) (Or.inr rfl)) rfl ?_
            refine qr_if_eq 70 64 rfl rfl rfl (by decide) (fun h => False.elim (by omega)) (fun h624 => ?_)
            refine qr_iload_n 65 rfl (qm_gk (qm_gk g537 (by decide) (Or.inr rfl)) (by decide) (Or.inl (by decide))) rfl ?_
            refine qr_iload_n 66 rfl (qm_ge _ _ _) rfl ?_
            refine qr_iadd 67 rfl rfl ?_
            refine qy_can (fun v625 hv625 => ?_)
            refine qr_goto 73 rfl rfl ?_
            refine qr_istore_n _ 74 rfl (by decide) rfl rfl ?_
            refine qr_goto 5 rfl rfl ?_
            exact ih551 _ v625 σ617 (by omega) (qm_gk (qm_gk (qm_gk g536 (by decide) (Or.inl (by decide))) (by decide) (Or.inl (by decide))) (by decide) (Or.inr rfl)) (qm_ge _ _ _) hv625 hI618 hF620 ((hG619.1 86 37 (by decide)).trans ((congrFun (congrFun e600 86) 37).trans ((hk543).trans rfl))) (by have hw0 : σ617 86 39 = (σ617 86 39) := rfl; have hw1 : σ617 86 36 = (σ617 86 36) := rfl; have hw2 : σ617 86 37 = (σ 86 37) := (hG619.1 86 37 (by decide)).trans ((congrFun (congrFun e600 86) 37).trans ((hk543).trans rfl)); omega) (by have hw0 : σ617 86 39 = (σ617 86 39) := rfl; have hw1 : σ617 86 36 = (σ617 86 36) := rfl; have hw2 : σ617 86 37 = (σ 86 37) := (hG619.1 86 37 (by decide)).trans ((congrFun (congrFun e600 86) 37).trans ((hk543).trans rfl)); omega) (by have hw0 : σ617 86 39 = (σ617 86 39) := rfl; have hw1 : σ617 86 36 = (σ617 86 36) := rfl; have hw2 : σ617 86 37 = (σ 86 37) := (hG619.1 86 37 (by decide)).trans ((congrFun (congrFun e600 86) 37).trans ((hk543).trans rfl)); omega) (by have hw0 : σ617 86 39 = (σ617 86 39) := rfl; have hw1 : σ617 86 36 = (σ617 86 36) := rfl; have hw2 : σ617 86 37 = (σ 86 37) := (hG619.1 86 37 (by decide)).trans ((congrFun (congrFun e600 86) 37).trans ((hk543).trans rfl)); omega) (by have hw0 : σ617 86 39 = (σ617 86 39) := rfl; have hw1 : σ617 86 36 = (σ617 86 36) := rfl; have hw2 : σ617 86 37 = (σ 86 37) := (hG619.1 86 37 (by decide)).trans ((congrFun (congrFun e600 86) 37).trans ((hk543).trans rfl)); omega)
        · skip
          refine qr_aload_n 22 rfl g536 rfl ?_
          refine qr_callN 25 rfl rfl rfl (sf_220_86t (d := d + 2) hI541 ) ?_
          have hs628 : 0 ≤ σ539 86 36 ∧ σ539 86 36 ≤ 120 := hI541.1 86 36
          have hs629 : 0 ≤ σ539 86 37 ∧ σ539 86 37 ≤ 120 := hI541.1 86 37
          have hs630 : σ539 86 37 = (σ 86 37) := (hk543).trans rfl
          rintro _ _ ⟨rfl, v626, rfl, hv626, hp627⟩
          show qr_W (qe L xs vb) (d + 3) qx_e217 _ (25, _, [.int (qz v626)], qw σ539 α κ ρ, 0, 0)
          refine qr_bipush 27 rfl (by decide) rfl ?_
          refine qr_icmp_ne 77 30 rfl rfl rfl hv626 (by decide) (fun h631 => ?_) (fun h631 => ?_)
          · skip
            refine qr_iload_n 78 rfl g537 rfl ?_
            refine qr_retI rfl rfl (by decide) (by decide) ?_
            have hw632 : σ539 86 36 = (σ539 86 36) := rfl
            have hw633 : σ539 86 37 = (σ 86 37) := (hk543).trans rfl
            have hw634 : σ539 86 39 = (σ539 86 39) := rfl
            exact ⟨_, rfl, hI541, hF542, u538, rfl, hf544, by omega⟩
          · skip
            refine qr_aload_n 31 rfl g536 rfl ?_
            refine qr_callN 34 rfl rfl rfl (sf_220_86t (d := d + 2) hI541 ) ?_
            have hs637 : 0 ≤ σ539 86 36 ∧ σ539 86 36 ≤ 120 := hI541.1 86 36
            have hs638 : 0 ≤ σ539 86 37 ∧ σ539 86 37 ≤ 120 := hI541.1 86 37
            have hs639 : σ539 86 37 = (σ 86 37) := (hk543).trans rfl
            rintro _ _ ⟨rfl, v635, rfl, hv635, hp636⟩
            show qr_W (qe L xs vb) (d + 3) qx_e217 _ (34, _, [.int (qz v635)], qw σ539 α κ ρ, 0, 0)
            refine qr_bipush 36 rfl (by decide) rfl ?_
            refine qr_icmp_ne 43 39 rfl rfl rfl hv635 (by decide) (fun h640 => ?_) (fun h640 => ?_)
            · skip
              refine qr_iconst 44 rfl rfl ?_
              refine qr_istore_n _ 45 rfl (by decide) rfl rfl ?_
              refine qr_aload_n 46 rfl (qm_gk g536 (by decide) (Or.inl (by decide))) rfl ?_
              refine qr_dup 47 rfl rfl rfl ?_
              refine qr_get 50 rfl rfl rfl (by decide) rfl ?_
              refine qr_iconst 51 rfl rfl ?_
              refine qr_iadd 52 rfl rfl ?_
              refine qr_put 55 rfl (by decide) rfl (Nat.le_of_ble_eq_true rfl) (Nat.le_of_ble_eq_true rfl) (Or.inl rfl) (qr_fitI rfl _) rfl ?_
              refine qy_wS (qw_s σ539 86 36 ((σ539 86 36) + 1)) rfl (fun σ641 e642 => ?_)
              have hI643 : qI σ641 α κ ρ := by rw [e642]; exact qI_s hI541 86 36 rfl (show 0 ≤ ((σ539 86 36) + 1) ∧ ((σ539 86 36) + 1) ≤ 120 by omega)
              have hF644 : qFr [(86, 36), (86, 38), (86, 39)] [] σ α σ641 α := by rw [e642]; exact qFr_s hF542 86 36 _ (by decide)
              refine qr_aload_n 56 rfl (qm_gk g536 (by decide) (Or.inl (by decide))) rfl ?_
              have hs645 : 0 ≤ σ641 86 36 ∧ σ641 86 36 ≤ 120 := hI643.1 86 36
              have hs646 : σ641 86 36 = ((σ539 86 36) + 1) := (congrFun (congrFun e642 86) 36).trans rfl
              have hs647 : 0 ≤ σ641 86 37 ∧ σ641 86 37 ≤ 120 := hI643.1 86 37
              have hs648 : σ641 86 37 = (σ 86 37) := (congrFun (congrFun e642 86) 37).trans ((hk543).trans rfl)
              have hs649 : 0 ≤ σ641 86 39 ∧ σ641 86 39 ≤ 6 := hI643.1 86 39
              have hs650 : σ641 86 39 = (σ539 86 39) := (congrFun (congrFun e642 86) 39).trans rfl
              refine qr_callN 59 rfl rfl rfl (sf_218_86o6 (d := d + 0) hI643 (by omega) (by omega)) ?_
              have hs653 : 0 ≤ σ641 86 36 ∧ σ641 86 36 ≤ 120 := hI643.1 86 36
              have hs654 : σ641 86 36 = ((σ539 86 36) + 1) := (congrFun (congrFun e642 86) 36).trans rfl
              have hs655 : 0 ≤ σ641 86 37 ∧ σ641 86 37 ≤ 120 := hI643.1 86 37
              have hs656 : σ641 86 37 = (σ 86 37) := (congrFun (congrFun e642 86) 37).trans ((hk543).trans rfl)
              have hs657 : 0 ≤ σ641 86 39 ∧ σ641 86 39 ≤ 6 := hI643.1 86 39
              have hs658 : σ641 86 39 = (σ539 86 39) := (congrFun (congrFun e642 86) 39).trans rfl
              rintro _ _ ⟨σ659, rfl, hI660, hG661, v651, rfl, hv651, hp652⟩
              have hF662 : qFr [(86, 36), (86, 38), (86, 39)] [] σ α σ659 α := qFr_t hF644 hG661 (by decide) (by decide)
              have hs663 : 0 ≤ σ659 86 36 ∧ σ659 86 36 ≤ 120 := hI660.1 86 36
              have hs664 : 0 ≤ σ659 86 37 ∧ σ659 86 37 ≤ 120 := hI660.1 86 37
              have hs665 : 0 ≤ σ659 86 39 ∧ σ659 86 39 ≤ 6 := hI660.1 86 39
              show qr_W (qe L xs vb) (d + 3) qx_e217 _ (59, _, [.int (qz v651)], qw σ659 α κ ρ, 0, 0)
              refine qr_istore_n _ 60 rfl (by decide) rfl rfl ?_
              refine qr_iload_n 61 rfl (qm_gk (qm_ge _ _ _) (by decide) (Or.inr rfl)) rfl ?_
              refine qr_if_eq 70 64 rfl rfl rfl (by decide) (fun h666 => ?_) (fun h => False.elim (by omega))
              refine qr_iload_n 71 rfl (qm_gk (qm_gk g537 (by decide) (Or.inr rfl)) (by decide) (Or.inl (by decide))) rfl ?_
              refine qr_iload_n 72 rfl (qm_ge _ _ _) rfl ?_
              refine qr_isub 73 rfl rfl ?_
              refine qy_can (fun v667 hv667 => ?_)
              refine qr_istore_n _ 74 rfl (by decide) rfl rfl ?_
              refine qr_goto 5 rfl rfl ?_
              exact ih551 _ v667 σ659 (by omega) (qm_gk (qm_gk (qm_gk g536 (by decide) (Or.inl (by decide))) (by decide) (Or.inl (by decide))) (by decide) (Or.inr rfl)) (qm_ge _ _ _) hv667 hI660 hF662 ((hG661.1 86 37 (by decide)).trans ((congrFun (congrFun e642 86) 37).trans ((hk543).trans rfl))) (by have hw0 : σ659 86 39 = (σ659 86 39) := rfl; have hw1 : σ659 86 36 = (σ659 86 36) := rfl; have hw2 : σ659 86 37 = (σ 86 37) := (hG661.1 86 37 (by decide)).trans ((congrFun (congrFun e642 86) 37).trans ((hk543).trans rfl)); omega) (by have hw0 : σ659 86 39 = (σ659 86 39) := rfl; have hw1 : σ659 86 36 = (σ659 86 36) := rfl; have hw2 : σ659 86 37 = (σ 86 37) := (hG661.1 86 37 (by decide)).trans ((congrFun (congrFun e642 86) 37).trans ((hk543).trans rfl)); omega) (by have hw0 : σ659 86 39 = (σ659 86 39) := rfl; have hw1 : σ659 86 36 = (σ659 86 36) := rfl; have hw2 : σ659 86 37 = (σ 86 37) := (hG661.1 86 37 (by decide)).trans ((congrFun (congrFun e642 86) 37).trans ((hk543).trans rfl)); omega) (by have hw0 : σ659 86 39 = (σ659 86 39) := rfl; have hw1 : σ659 86 36 = (σ659 86 36) := rfl; have hw2 : σ659 86 37 = (σ 86 37) := (hG661.1 86 37 (by decide)).trans ((congrFun (congrFun e642 86) 37).trans ((hk543).trans rfl)); omega) (by have hw0 : σ659 86 39 = (σ659 86 39) := rfl; have hw1 : σ659 86 36 = (σ659 86 36) := rfl; have hw2 : σ659 86 37 = (σ 86 37) := (hG661.1 86 37 (by decide)).trans ((congrFun (congrFun e642 86) 37).trans ((hk543).trans rfl)); omega)
            · skip
              refine qr_iconst 40 rfl rfl ?_
              refine qr_goto 44 rfl rfl ?_
              refine qr_istore_n _ 45 rfl (by decide) rfl rfl ?_
              refine qr_aload_n 46 rfl (qm_gk g536 (by decide) (Or.inl (by decide))) rfl ?_
              refine qr_dup 47 rfl rfl rfl ?_
              refine qr_get 50 rfl rfl rfl (by decide) rfl ?_
              refine qr_iconst 51 rfl rfl ?_
              refine qr_iadd 52 rfl rfl ?_
              refine qr_put 55 rfl (by decide) rfl (Nat.le_of_ble_eq_true rfl) (Nat.le_of_ble_eq_true rfl) (Or.inl rfl) (qr_fitI rfl _) rfl ?_
              refine qy_wS (qw_s σ539 86 36 ((σ539 86 36) + 1)) rfl (fun σ668 e669 => ?_)
              have hI670 : qI σ668 α κ ρ := by rw [e669]; exact qI_s hI541 86 36 rfl (show 0 ≤ ((σ539 86 36) + 1) ∧ ((σ539 86 36) + 1) ≤ 120 by omega)
              have hF671 : qFr [(86, 36), (86, 38), (86, 39)] [] σ α σ668 α := by rw [e669]; exact qFr_s hF542 86 36 _ (by decide)
              refine qr_aload_n 56 rfl (qm_gk g536 (by decide) (Or.inl (by decide))) rfl ?_
              have hs672 : 0 ≤ σ668 86 36 ∧ σ668 86 36 ≤ 120 := hI670.1 86 36
              have hs673 : σ668 86 36 = ((σ539 86 36) + 1) := (congrFun (congrFun e669 86) 36).trans rfl
              have hs674 : 0 ≤ σ668 86 37 ∧ σ668 86 37 ≤ 120 := hI670.1 86 37
              have hs675 : σ668 86 37 = (σ 86 37) := (congrFun (congrFun e669 86) 37).trans ((hk543).trans rfl)
              have hs676 : 0 ≤ σ668 86 39 ∧ σ668 86 39 ≤ 6 := hI670.1 86 39
              have hs677 : σ668 86 39 = (σ539 86 39) := (congrFun (congrFun e669 86) 39).trans rfl
              refine qr_callN 59 rfl rfl rfl (sf_218_86o6 (d := d + 0) hI670 (by omega) (by omega)) ?_
              have hs680 : 0 ≤ σ668 86 36 ∧ σ668 86 36 ≤ 120 := hI670.1 86 36
              have hs681 : σ668 86 36 = ((σ539 86 36) + 1) := (congrFun (congrFun e669 86) 36).trans rfl
              have hs682 : 0 ≤ σ668 86 37 ∧ σ668 86 37 ≤ 120 := hI670.1 86 37
              have hs683 : σ668 86 37 = (σ 86 37) := (congrFun (congrFun e669 86) 37).trans ((hk543).trans rfl)
              have hs684 : 0 ≤ σ668 86 39 ∧ σ668 86 39 ≤ 6 := hI670.1 86 39
              have hs685 : σ668 86 39 = (σ539 86 39) := (congrFun (congrFun e669 86) 39).trans rfl
              rintro _ _ ⟨σ686, rfl, hI687, hG688, v678, rfl, hv678, hp679⟩
              have hF689 : qFr [(86, 36), (86, 38), (86, 39)] [] σ α σ686 α := qFr_t hF671 hG688 (by decide) (by decide)
              have hs690 : 0 ≤ σ686 86 36 ∧ σ686 86 36 ≤ 120 := hI687.1 86 36
              have hs691 : 0 ≤ σ686 86 37 ∧ σ686 86 37 ≤ 120 := hI687.1 86 37
              have hs692 : 0 ≤ σ686 86 39 ∧ σ686 86 39 ≤ 6 := hI687.1 86 39
              show qr_W (qe L xs vb) (d + 3) qx_e217 _ (59, _, [.int (qz v678)], qw σ686 α κ ρ, 0, 0)
              refine qr_istore_n _ 60 rfl (by decide) rfl rfl ?_
              refine qr_iload_n 61 rfl (qm_gk (qm_ge _ _ _) (by decide) (Or.inr rfl)) rfl ?_
              refine qr_if_eq 70 64 rfl rfl rfl (by decide) (fun h => False.elim (by omega)) (fun h693 => ?_)
              refine qr_iload_n 65 rfl (qm_gk (qm_gk g537 (by decide) (Or.inr rfl)) (by decide) (Or.inl (by decide))) rfl ?_
              refine qr_iload_n 66 rfl (qm_ge _ _ _) rfl ?_
              refine qr_iadd 67 rfl rfl ?_
              refine qy_can (fun v694 hv694 => ?_)
              refine qr_goto 73 rfl rfl ?_
              refine qr_istore_n _ 74 rfl (by decide) rfl rfl ?_
              refine qr_goto 5 rfl rfl ?_
              exact ih551 _ v694 σ686 (by omega) (qm_gk (qm_gk (qm_gk g536 (by decide) (Or.inl (by decide))) (by decide) (Or.inl (by decide))) (by decide) (Or.inr rfl)) (qm_ge _ _ _) hv694 hI687 hF689 ((hG688.1 86 37 (by decide)).trans ((congrFun (congrFun e669 86) 37).trans ((hk543).trans rfl))) (by have hw0 : σ686 86 39 = (σ686 86 39) := rfl; have hw1 : σ686 86 36 = (σ686 86 36) := rfl; have hw2 : σ686 86 37 = (σ 86 37) := (hG688.1 86 37 (by decide)).trans ((congrFun (congrFun e669 86) 37).trans ((hk543).trans rfl)); omega) (by have hw0 : σ686 86 39 = (σ686 86 39) := rfl; have hw1 : σ686 86 36 = (σ686 86 36) := rfl; have hw2 : σ686 86 37 = (σ 86 37) := (hG688.1 86 37 (by decide)).trans ((congrFun (congrFun e669 86) 37).trans ((hk543).trans rfl)); omega) (by have hw0 : σ686 86 39 = (σ686 86 39) := rfl; have hw1 : σ686 86 36 = (σ686 86 36) := rfl; have hw2 : σ686 86 37 = (σ 86 37) := (hG688.1 86 37 (by decide)).trans ((congrFun (congrFun e669 86) 37).trans ((hk543).trans rfl)); omega) (by have hw0 : σ686 86 39 = (σ686 86 39) := rfl; have hw1 : σ686 86 36 = (σ686 86 36) := rfl; have hw2 : σ686 86 37 = (σ 86 37) := (hG688.1 86 37 (by decide)).trans ((congrFun (congrFun e669 86) 37).trans ((hk543).trans rfl)); omega) (by have hw0 : σ686 86 39 = (σ686 86 39) := rfl; have hw1 : σ686 86 36 = (σ686 86 36) := rfl; have hw2 : σ686 86 37 = (σ 86 37) := (hG688.1 86 37 (by decide)).trans ((congrFun (congrFun e669 86) 37).trans ((hk543).trans rfl)); omega)
  exact hL550 ((((120 - σ9 86 36).toNat : Int) + 1 : Int)).toNat _ v4 σ9 (by omega) rfl rfl hv4 hI10 hF12 ((hG11.1 86 37 (by decide)).trans rfl) (by have hw0 : σ9 86 39 = (σ9 86 39) := rfl; have hw1 : σ9 86 36 = (σ9 86 36) := rfl; have hw2 : σ9 86 37 = (σ 86 37) := (hG11.1 86 37 (by decide)).trans rfl; omega) (by have hw0 : σ9 86 39 = (σ9 86 39) := rfl; have hw1 : σ9 86 36 = (σ9 86 36) := rfl; have hw2 : σ9 86 37 = (σ 86 37) := (hG11.1 86 37 (by decide)).trans rfl; omega) (by have hw0 : σ9 86 39 = (σ9 86 39) := rfl; have hw1 : σ9 86 36 = (σ9 86 36) := rfl; have hw2 : σ9 86 37 = (σ 86 37) := (hG11.1 86 37 (by decide)).trans rfl; omega) (by have hw0 : σ9 86 39 = (σ9 86 39) := rfl; have hw1 : σ9 86 36 = (σ9 86 36) := rfl; have hw2 : σ9 86 37 = (σ 86 37) := (hG11.1 86 37 (by decide)).trans rfl; omega) (by have hw0 : σ9 86 39 = (σ9 86 39) := rfl; have hw1 : σ9 86 36 = (σ9 86 36) := rfl; have hw2 : σ9 86 37 = (σ 86 37) := (hG11.1 86 37 (by decide)).trans rfl; omega)

set_option maxHeartbeats 4000000 in
set_option maxRecDepth 20000 in
/-- OneRoofModel.compared -/
theorem sf_216_86o6 {L : Nat} {xs : Nat → Int} {vb : Bool} {d : Nat} {σ α : Nat → Nat → Int} {κ : Nat → Option Nat} {ρ : Nat}  (hI : qI σ α κ ρ) (p0 : 6 ≤ σ 86 39) (p1 : σ 86 36 ≤ σ 86 37) : qm_T (qe L xs vb) (d + 5) 216 [.ref 86] (qw σ α κ ρ) (fun r w' => ∃ σ', w' = qw σ' α κ ρ ∧ qI σ' α κ ρ ∧ qFr [(86, 36), (86, 38), (86, 39)] [] σ α σ' α ∧ ∃ v : Int, r = some (.int (qz v)) ∧ ((-2147483648) ≤ v ∧ v ≤ 2147483647) ∧ σ 86 39 ≤ σ' 86 39 ∧ σ 86 36 ≤ σ' 86 36 ∧ σ' 86 36 ≤ σ' 86 37 ∧ σ' 86 37 = σ 86 37) := by
  refine qr_start (d := d + 4) qv_e216 (Nat.le_of_ble_eq_true rfl) ?_
  show qr_W (qe L xs vb) (d + 4) qx_e216 _ (0, [(0, .ref 86)], [], _, 0, 0)
  have hF0 := qFr_rf [(86, 36), (86, 38), (86, 39)] [] σ α
  have hz86_39 : 0 ≤ σ 86 39 ∧ σ 86 39 ≤ 6 := hI.1 86 39
  have hz86_36 : 0 ≤ σ 86 36 ∧ σ 86 36 ≤ 120 := hI.1 86 36
  have hz86_37 : 0 ≤ σ 86 37 ∧ σ 86 37 ≤ 120 := hI.1 86 37
  refine qr_aload_n 1 rfl rfl rfl ?_
  have hs1 : 0 ≤ σ 86 36 ∧ σ 86 36 ≤ 120 := hI.1 86 36
  have hs2 : 0 ≤ σ 86 37 ∧ σ 86 37 ≤ 120 := hI.1 86 37
  have hs3 : 0 ≤ σ 86 39 ∧ σ 86 39 ≤ 6 := hI.1 86 39
  refine qr_callN 4 rfl rfl rfl (sf_217_86o6 (d := d + 0) hI (by omega) (by omega)) ?_
  have hs6 : 0 ≤ σ 86 36 ∧ σ 86 36 ≤ 120 := hI.1 86 36
  have hs7 : 0 ≤ σ 86 37 ∧ σ 86 37 ≤ 120 := hI.1 86 37
  have hs8 : 0 ≤ σ 86 39 ∧ σ 86 39 ≤ 6 := hI.1 86 39
  rintro _ _ ⟨σ9, rfl, hI10, hG11, v4, rfl, hv4, hp5⟩
  have hF12 : qFr [(86, 36), (86, 38), (86, 39)] [] σ α σ9 α := qFr_t hF0 hG11 (by decide) (by decide)
  have hs13 : 0 ≤ σ9 86 36 ∧ σ9 86 36 ≤ 120 := hI10.1 86 36
  have hs14 : 0 ≤ σ9 86 37 ∧ σ9 86 37 ≤ 120 := hI10.1 86 37
  have hs15 : 0 ≤ σ9 86 39 ∧ σ9 86 39 ≤ 6 := hI10.1 86 39
  show qr_W (qe L xs vb) (d + 4) qx_e216 _ (4, _, [.int (qz v4)], qw σ9 α κ ρ, 0, 0)
  refine qr_istore_n _ 5 rfl (by decide) rfl rfl ?_
  refine qr_aload_n 6 rfl rfl rfl ?_
  refine qr_callN 9 rfl rfl rfl (sf_220_86t (d := d + 3) hI10 ) ?_
  have hs18 : 0 ≤ σ9 86 36 ∧ σ9 86 36 ≤ 120 := hI10.1 86 36
  have hs19 : 0 ≤ σ9 86 37 ∧ σ9 86 37 ≤ 120 := hI10.1 86 37
  have hs20 : σ9 86 37 = (σ 86 37) := (hG11.1 86 37 (by decide)).trans rfl
  rintro _ _ ⟨rfl, v16, rfl, hv16, hp17⟩
  show qr_W (qe L xs vb) (d + 4) qx_e216 _ (9, _, [.int (qz v16)], qw σ9 α κ ρ, 0, 0)
  refine qr_istore_n _ 10 rfl (by decide) rfl rfl ?_
  refine qr_aload_n 11 rfl rfl rfl ?_
  refine qr_get 14 rfl rfl rfl (by decide) rfl ?_
  have hs21 : (-1) ≤ σ9 86 38 ∧ σ9 86 38 ≤ 120 := hI10.1 86 38
  refine qr_if_ge 35 17 rfl rfl rfl (qrg hs21 (by decide) (by decide)) (fun h22 => ?_) (fun h22 => ?_)
  · skip
    refine qr_iload_n 36 rfl rfl rfl ?_
    refine qr_retI rfl rfl (by decide) (by decide) ?_
    have hw23 : σ9 86 36 = (σ9 86 36) := rfl
    have hw24 : σ9 86 37 = (σ 86 37) := (hG11.1 86 37 (by decide)).trans rfl
    have hw25 : σ9 86 39 = (σ9 86 39) := rfl
    exact ⟨_, rfl, hI10, hF12, v4, rfl, hv4, by omega⟩
  · skip
    refine qr_iload_n 18 rfl rfl rfl ?_
    refine qr_bipush 20 rfl (by decide) rfl ?_
    refine qr_icmp_eq 37 23 rfl rfl rfl hv16 (by decide) (fun h26 => ?_) (fun h26 => ?_)
    · skip
      refine qr_aload_n 38 rfl rfl rfl ?_
      refine qr_dup 39 rfl rfl rfl ?_
      refine qr_get 42 rfl rfl rfl (by decide) rfl ?_
      refine qr_iconst 43 rfl rfl ?_
      refine qr_iadd 44 rfl rfl ?_
      refine qr_put 47 rfl (by decide) rfl (Nat.le_of_ble_eq_true rfl) (Nat.le_of_ble_eq_true rfl) (Or.inl rfl) (qr_fitI rfl _) rfl ?_
      refine qy_wS (qw_s σ9 86 36 ((σ9 86 36) + 1)) rfl (fun σ27 e28 => ?_)
      have hI29 : qI σ27 α κ ρ := by rw [e28]; exact qI_s hI10 86 36 rfl (show 0 ≤ ((σ9 86 36) + 1) ∧ ((σ9 86 36) + 1) ≤ 120 by omega)
      have hF30 : qFr [(86, 36), (86, 38), (86, 39)] [] σ α σ27 α := by rw [e28]; exact qFr_s hF12 86 36 _ (by decide)
      refine qr_aload_n 48 rfl rfl rfl ?_
      have hs31 : 0 ≤ σ27 86 36 ∧ σ27 86 36 ≤ 120 := hI29.1 86 36
      have hs32 : σ27 86 36 = ((σ9 86 36) + 1) := (congrFun (congrFun e28 86) 36).trans rfl
      have hs33 : 0 ≤ σ27 86 37 ∧ σ27 86 37 ≤ 120 := hI29.1 86 37
      have hs34 : σ27 86 37 = (σ 86 37) := (congrFun (congrFun e28 86) 37).trans ((hG11.1 86 37 (by decide)).trans rfl)
      have hs35 : 0 ≤ σ27 86 39 ∧ σ27 86 39 ≤ 6 := hI29.1 86 39
      have hs36 : σ27 86 39 = (σ9 86 39) := (congrFun (congrFun e28 86) 39).trans rfl
      refine qr_callN 51 rfl rfl rfl (sf_217_86o6 (d := d + 0) hI29 (by omega) (by omega)) ?_
      have hs39 : 0 ≤ σ27 86 36 ∧ σ27 86 36 ≤ 120 := hI29.1 86 36
      have hs40 : σ27 86 36 = ((σ9 86 36) + 1) := (congrFun (congrFun e28 86) 36).trans rfl
      have hs41 : 0 ≤ σ27 86 37 ∧ σ27 86 37 ≤ 120 := hI29.1 86 37
      have hs42 : σ27 86 37 = (σ 86 37) := (congrFun (congrFun e28 86) 37).trans ((hG11.1 86 37 (by decide)).trans rfl)
      have hs43 : 0 ≤ σ27 86 39 ∧ σ27 86 39 ≤ 6 := hI29.1 86 39
      have hs44 : σ27 86 39 = (σ9 86 39) := (congrFun (congrFun e28 86) 39).trans rfl
      rintro _ _ ⟨σ45, rfl, hI46, hG47, v37, rfl, hv37, hp38⟩
      have hF48 : qFr [(86, 36), (86, 38), (86, 39)] [] σ α σ45 α := qFr_t hF30 hG47 (by decide) (by decide)
      have hs49 : 0 ≤ σ45 86 36 ∧ σ45 86 36 ≤ 120 := hI46.1 86 36
      have hs50 : 0 ≤ σ45 86 37 ∧ σ45 86 37 ≤ 120 := hI46.1 86 37
      have hs51 : 0 ≤ σ45 86 39 ∧ σ45 86 39 ≤ 6 := hI46.1 86 39
      show qr_W (qe L xs vb) (d + 4) qx_e216 _ (51, _, [.int (qz v37)], qw σ45 α κ ρ, 0, 0)
      refine qr_istore_n _ 52 rfl (by decide) rfl rfl ?_
      refine qr_iload_n 53 rfl rfl rfl ?_
      refine qr_bipush 55 rfl (by decide) rfl ?_
      refine qr_icmp_ne 66 58 rfl rfl rfl hv16 (by decide) (fun h => False.elim (by omega)) (fun h52 => ?_)
      refine qr_iload_n 59 rfl rfl rfl ?_
      refine qr_iload_n 60 rfl rfl rfl ?_
      refine qr_icmp_ge 89 63 rfl rfl rfl hv4 hv37 (fun h53 => ?_) (fun h53 => ?_)
      · skip
        refine qr_iconst 90 rfl rfl ?_
        refine qr_retI rfl rfl (by decide) (by decide) ?_
        have hw54 : σ45 86 36 = (σ45 86 36) := rfl
        have hw55 : σ45 86 37 = (σ 86 37) := (hG47.1 86 37 (by decide)).trans ((congrFun (congrFun e28 86) 37).trans ((hG11.1 86 37 (by decide)).trans rfl))
        have hw56 : σ45 86 39 = (σ45 86 39) := rfl
        exact ⟨_, rfl, hI46, hF48, 0, rfl, (by decide), by omega⟩
      · skip
        refine qr_goto 85 rfl rfl ?_
        refine qr_iconst 86 rfl rfl ?_
        refine qr_goto 90 rfl rfl ?_
        refine qr_retI rfl rfl (by decide) (by decide) ?_
        have hw57 : σ45 86 36 = (σ45 86 36) := rfl
        have hw58 : σ45 86 37 = (σ 86 37) := (hG47.1 86 37 (by decide)).trans ((congrFun (congrFun e28 86) 37).trans ((hG11.1 86 37 (by decide)).trans rfl))
        have hw59 : σ45 86 39 = (σ45 86 39) := rfl
        exact ⟨_, rfl, hI46, hF48, 1, rfl, (by decide), by omega⟩
    · skip
      refine qr_iload_n 24 rfl rfl rfl ?_
      refine qr_bipush 26 rfl (by decide) rfl ?_
      refine qr_icmp_eq 37 29 rfl rfl rfl hv16 (by decide) (fun h60 => ?_) (fun h60 => ?_)
      · skip
        refine qr_aload_n 38 rfl rfl rfl ?_
        refine qr_dup 39 rfl rfl rfl ?_
        refine qr_get 42 rfl rfl rfl (by decide) rfl ?_
        refine qr_iconst 43 rfl rfl ?_
        refine qr_iadd 44 rfl rfl ?_
        refine qr_put 47 rfl (by decide) rfl (Nat.le_of_ble_eq_true rfl) (Nat.le_of_ble_eq_true rfl) (Or.inl rfl) (qr_fitI rfl _) rfl ?_
        refine qy_wS (qw_s σ9 86 36 ((σ9 86 36) + 1)) rfl (fun σ61 e62 => ?_)
        have hI63 : qI σ61 α κ ρ := by rw [e62]; exact qI_s hI10 86 36 rfl (show 0 ≤ ((σ9 86 36) + 1) ∧ ((σ9 86 36) + 1) ≤ 120 by omega)
        have hF64 : qFr [(86, 36), (86, 38), (86, 39)] [] σ α σ61 α := by rw [e62]; exact qFr_s hF12 86 36 _ (by decide)
        refine qr_aload_n 48 rfl rfl rfl ?_
        have hs65 : 0 ≤ σ61 86 36 ∧ σ61 86 36 ≤ 120 := hI63.1 86 36
        have hs66 : σ61 86 36 = ((σ9 86 36) + 1) := (congrFun (congrFun e62 86) 36).trans rfl
        have hs67 : 0 ≤ σ61 86 37 ∧ σ61 86 37 ≤ 120 := hI63.1 86 37
        have hs68 : σ61 86 37 = (σ 86 37) := (congrFun (congrFun e62 86) 37).trans ((hG11.1 86 37 (by decide)).trans rfl)
        have hs69 : 0 ≤ σ61 86 39 ∧ σ61 86 39 ≤ 6 := hI63.1 86 39
        have hs70 : σ61 86 39 = (σ9 86 39) := (congrFun (congrFun e62 86) 39).trans rfl
        refine qr_callN 51 rfl rfl rfl (sf_217_86o6 (d := d + 0) hI63 (by omega) (by omega)) ?_
        have hs73 : 0 ≤ σ61 86 36 ∧ σ61 86 36 ≤ 120 := hI63.1 86 36
        have hs74 : σ61 86 36 = ((σ9 86 36) + 1) := (congrFun (congrFun e62 86) 36).trans rfl
        have hs75 : 0 ≤ σ61 86 37 ∧ σ61 86 37 ≤ 120 := hI63.1 86 37
        have hs76 : σ61 86 37 = (σ 86 37) := (congrFun (congrFun e62 86) 37).trans ((hG11.1 86 37 (by decide)).trans rfl)
        have hs77 : 0 ≤ σ61 86 39 ∧ σ61 86 39 ≤ 6 := hI63.1 86 39
        have hs78 : σ61 86 39 = (σ9 86 39) := (congrFun (congrFun e62 86) 39).trans rfl
        rintro _ _ ⟨σ79, rfl, hI80, hG81, v71, rfl, hv71, hp72⟩
        have hF82 : qFr [(86, 36), (86, 38), (86, 39)] [] σ α σ79 α := qFr_t hF64 hG81 (by decide) (by decide)
        have hs83 : 0 ≤ σ79 86 36 ∧ σ79 86 36 ≤ 120 := hI80.1 86 36
        have hs84 : 0 ≤ σ79 86 37 ∧ σ79 86 37 ≤ 120 := hI80.1 86 37
        have hs85 : 0 ≤ σ79 86 39 ∧ σ79 86 39 ≤ 6 := hI80.1 86 39
        show qr_W (qe L xs vb) (d + 4) qx_e216 _ (51, _, [.int (qz v71)], qw σ79 α κ ρ, 0, 0)
        refine qr_istore_n _ 52 rfl (by decide) rfl rfl ?_
        refine qr_iload_n 53 rfl rfl rfl ?_
        refine qr_bipush 55 rfl (by decide) rfl ?_
        refine qr_icmp_ne 66 58 rfl rfl rfl hv16 (by decide) (fun h86 => ?_) (fun h => False.elim (by omega))
        refine qr_iload_n 67 rfl rfl rfl ?_
        refine qr_bipush 69 rfl (by decide) rfl ?_
        refine qr_icmp_ne 80 72 rfl rfl rfl hv16 (by decide) (fun h => False.elim (by omega)) (fun h87 => ?_)
        refine qr_iload_n 73 rfl rfl rfl ?_
        refine qr_iload_n 74 rfl rfl rfl ?_
        refine qr_icmp_ne 89 77 rfl rfl rfl hv4 hv71 (fun h88 => ?_) (fun h88 => ?_)
        · skip
          refine qr_iconst 90 rfl rfl ?_
          refine qr_retI rfl rfl (by decide) (by decide) ?_
          have hw89 : σ79 86 36 = (σ79 86 36) := rfl
          have hw90 : σ79 86 37 = (σ 86 37) := (hG81.1 86 37 (by decide)).trans ((congrFun (congrFun e62 86) 37).trans ((hG11.1 86 37 (by decide)).trans rfl))
          have hw91 : σ79 86 39 = (σ79 86 39) := rfl
          exact ⟨_, rfl, hI80, hF82, 0, rfl, (by decide), by omega⟩
        · skip
          refine qr_goto 85 rfl rfl ?_
          refine qr_iconst 86 rfl rfl ?_
          refine qr_goto 90 rfl rfl ?_
          refine qr_retI rfl rfl (by decide) (by decide) ?_
          have hw92 : σ79 86 36 = (σ79 86 36) := rfl
          have hw93 : σ79 86 37 = (σ 86 37) := (hG81.1 86 37 (by decide)).trans ((congrFun (congrFun e62 86) 37).trans ((hG11.1 86 37 (by decide)).trans rfl))
          have hw94 : σ79 86 39 = (σ79 86 39) := rfl
          exact ⟨_, rfl, hI80, hF82, 1, rfl, (by decide), by omega⟩
      · skip
        refine qr_iload_n 30 rfl rfl rfl ?_
        refine qr_bipush 32 rfl (by decide) rfl ?_
        refine qr_icmp_eq 37 35 rfl rfl rfl hv16 (by decide) (fun h95 => ?_) (fun h95 => ?_)
        · skip
          refine qr_aload_n 38 rfl rfl rfl ?_
          refine qr_dup 39 rfl rfl rfl ?_
          refine qr_get 42 rfl rfl rfl (by decide) rfl ?_
          refine qr_iconst 43 rfl rfl ?_
          refine qr_iadd 44 rfl rfl ?_
          refine qr_put 47 rfl (by decide) rfl (Nat.le_of_ble_eq_true rfl) (Nat.le_of_ble_eq_true rfl) (Or.inl rfl) (qr_fitI rfl _) rfl ?_
          refine qy_wS (qw_s σ9 86 36 ((σ9 86 36) + 1)) rfl (fun σ96 e97 => ?_)
          have hI98 : qI σ96 α κ ρ := by rw [e97]; exact qI_s hI10 86 36 rfl (show 0 ≤ ((σ9 86 36) + 1) ∧ ((σ9 86 36) + 1) ≤ 120 by omega)
          have hF99 : qFr [(86, 36), (86, 38), (86, 39)] [] σ α σ96 α := by rw [e97]; exact qFr_s hF12 86 36 _ (by decide)
          refine qr_aload_n 48 rfl rfl rfl ?_
          have hs100 : 0 ≤ σ96 86 36 ∧ σ96 86 36 ≤ 120 := hI98.1 86 36
          have hs101 : σ96 86 36 = ((σ9 86 36) + 1) := (congrFun (congrFun e97 86) 36).trans rfl
          have hs102 : 0 ≤ σ96 86 37 ∧ σ96 86 37 ≤ 120 := hI98.1 86 37
          have hs103 : σ96 86 37 = (σ 86 37) := (congrFun (congrFun e97 86) 37).trans ((hG11.1 86 37 (by decide)).trans rfl)
          have hs104 : 0 ≤ σ96 86 39 ∧ σ96 86 39 ≤ 6 := hI98.1 86 39
          have hs105 : σ96 86 39 = (σ9 86 39) := (congrFun (congrFun e97 86) 39).trans rfl
          refine qr_callN 51 rfl rfl rfl (sf_217_86o6 (d := d + 0) hI98 (by omega) (by omega)) ?_
          have hs108 : 0 ≤ σ96 86 36 ∧ σ96 86 36 ≤ 120 := hI98.1 86 36
          have hs109 : σ96 86 36 = ((σ9 86 36) + 1) := (congrFun (congrFun e97 86) 36).trans rfl
          have hs110 : 0 ≤ σ96 86 37 ∧ σ96 86 37 ≤ 120 := hI98.1 86 37
          have hs111 : σ96 86 37 = (σ 86 37) := (congrFun (congrFun e97 86) 37).trans ((hG11.1 86 37 (by decide)).trans rfl)
          have hs112 : 0 ≤ σ96 86 39 ∧ σ96 86 39 ≤ 6 := hI98.1 86 39
          have hs113 : σ96 86 39 = (σ9 86 39) := (congrFun (congrFun e97 86) 39).trans rfl
          rintro _ _ ⟨σ114, rfl, hI115, hG116, v106, rfl, hv106, hp107⟩
          have hF117 : qFr [(86, 36), (86, 38), (86, 39)] [] σ α σ114 α := qFr_t hF99 hG116 (by decide) (by decide)
          have hs118 : 0 ≤ σ114 86 36 ∧ σ114 86 36 ≤ 120 := hI115.1 86 36
          have hs119 : 0 ≤ σ114 86 37 ∧ σ114 86 37 ≤ 120 := hI115.1 86 37
          have hs120 : 0 ≤ σ114 86 39 ∧ σ114 86 39 ≤ 6 := hI115.1 86 39
          show qr_W (qe L xs vb) (d + 4) qx_e216 _ (51, _, [.int (qz v106)], qw σ114 α κ ρ, 0, 0)
          refine qr_istore_n _ 52 rfl (by decide) rfl rfl ?_
          refine qr_iload_n 53 rfl rfl rfl ?_
          refine qr_bipush 55 rfl (by decide) rfl ?_
          refine qr_icmp_ne 66 58 rfl rfl rfl hv16 (by decide) (fun h121 => ?_) (fun h => False.elim (by omega))
          refine qr_iload_n 67 rfl rfl rfl ?_
          refine qr_bipush 69 rfl (by decide) rfl ?_
          refine qr_icmp_ne 80 72 rfl rfl rfl hv16 (by decide) (fun h122 => ?_) (fun h => False.elim (by omega))
          refine qr_iload_n 81 rfl rfl rfl ?_
          refine qr_iload_n 82 rfl rfl rfl ?_
          refine qr_icmp_le 89 85 rfl rfl rfl hv4 hv106 (fun h123 => ?_) (fun h123 => ?_)
          · skip
            refine qr_iconst 90 rfl rfl ?_
            refine qr_retI rfl rfl (by decide) (by decide) ?_
            have hw124 : σ114 86 36 = (σ114 86 36) := rfl
            have hw125 : σ114 86 37 = (σ 86 37) := (hG116.1 86 37 (by decide)).trans ((congrFun (congrFun e97 86) 37).trans ((hG11.1 86 37 (by decide)).trans rfl))
            have hw126 : σ114 86 39 = (σ114 86 39) := rfl
            exact ⟨_, rfl, hI115, hF117, 0, rfl, (by decide), by omega⟩
          · skip
            refine qr_iconst 86 rfl rfl ?_
            refine qr_goto 90 rfl rfl ?_
            refine qr_retI rfl rfl (by decide) (by decide) ?_
            have hw127 : σ114 86 36 = (σ114 86 36) := rfl
            have hw128 : σ114 86 37 = (σ 86 37) := (hG116.1 86 37 (by decide)).trans ((congrFun (congrFun e97 86) 37).trans ((hG11.1 86 37 (by decide)).trans rfl))
            have hw129 : σ114 86 39 = (σ114 86 39) := rfl
            exact ⟨_, rfl, hI115, hF117, 1, rfl, (by decide), by omega⟩
        · skip
          refine qr_iload_n 36 rfl rfl rfl ?_
          refine qr_retI rfl rfl (by decide) (by decide) ?_
          have hw130 : σ9 86 36 = (σ9 86 36) := rfl
          have hw131 : σ9 86 37 = (σ 86 37) := (hG11.1 86 37 (by decide)).trans rfl
          have hw132 : σ9 86 39 = (σ9 86 39) := rfl
          exact ⟨_, rfl, hI10, hF12, v4, rfl, hv4, by omega⟩

set_option maxHeartbeats 4000000 in
set_option maxRecDepth 20000 in
/-- OneRoofModel.both -/
theorem sf_215_86o6 {L : Nat} {xs : Nat → Int} {vb : Bool} {d : Nat} {σ α : Nat → Nat → Int} {κ : Nat → Option Nat} {ρ : Nat}  (hI : qI σ α κ ρ) (p0 : 6 ≤ σ 86 39) (p1 : σ 86 36 ≤ σ 86 37) : qm_T (qe L xs vb) (d + 6) 215 [.ref 86] (qw σ α κ ρ) (fun r w' => ∃ σ', w' = qw σ' α κ ρ ∧ qI σ' α κ ρ ∧ qFr [(86, 36), (86, 38), (86, 39)] [] σ α σ' α ∧ ∃ v : Int, r = some (.int (qz v)) ∧ ((-2147483648) ≤ v ∧ v ≤ 2147483647) ∧ σ 86 39 ≤ σ' 86 39 ∧ σ 86 36 ≤ σ' 86 36 ∧ σ' 86 36 ≤ σ' 86 37 ∧ σ' 86 37 = σ 86 37) := by
  refine qr_start (d := d + 5) qv_e215 (Nat.le_of_ble_eq_true rfl) ?_
  show qr_W (qe L xs vb) (d + 5) qx_e215 _ (0, [(0, .ref 86)], [], _, 0, 0)
  have hF0 := qFr_rf [(86, 36), (86, 38), (86, 39)] [] σ α
  have hz86_39 : 0 ≤ σ 86 39 ∧ σ 86 39 ≤ 6 := hI.1 86 39
  have hz86_36 : 0 ≤ σ 86 36 ∧ σ 86 36 ≤ 120 := hI.1 86 36
  have hz86_37 : 0 ≤ σ 86 37 ∧ σ 86 37 ≤ 120 := hI.1 86 37
  refine qr_aload_n 1 rfl rfl rfl ?_
  have hs1 : 0 ≤ σ 86 36 ∧ σ 86 36 ≤ 120 := hI.1 86 36
  have hs2 : 0 ≤ σ 86 37 ∧ σ 86 37 ≤ 120 := hI.1 86 37
  have hs3 : 0 ≤ σ 86 39 ∧ σ 86 39 ≤ 6 := hI.1 86 39
  refine qr_callN 4 rfl rfl rfl (sf_216_86o6 (d := d + 0) hI (by omega) (by omega)) ?_
  have hs6 : 0 ≤ σ 86 36 ∧ σ 86 36 ≤ 120 := hI.1 86 36
  have hs7 : 0 ≤ σ 86 37 ∧ σ 86 37 ≤ 120 := hI.1 86 37
  have hs8 : 0 ≤ σ 86 39 ∧ σ 86 39 ≤ 6 := hI.1 86 39
  rintro _ _ ⟨σ9, rfl, hI10, hG11, v4, rfl, hv4, hp5⟩
  have hF12 : qFr [(86, 36), (86, 38), (86, 39)] [] σ α σ9 α := qFr_t hF0 hG11 (by decide) (by decide)
  have hs13 : 0 ≤ σ9 86 36 ∧ σ9 86 36 ≤ 120 := hI10.1 86 36
  have hs14 : 0 ≤ σ9 86 37 ∧ σ9 86 37 ≤ 120 := hI10.1 86 37
  have hs15 : 0 ≤ σ9 86 39 ∧ σ9 86 39 ≤ 6 := hI10.1 86 39
  show qr_W (qe L xs vb) (d + 5) qx_e215 _ (4, _, [.int (qz v4)], qw σ9 α κ ρ, 0, 0)
  refine qr_istore_n _ 5 rfl (by decide) rfl rfl ?_
  have hL166 : ∀ (n : Nat) (ls : qm_L) (u154 : Int) (σ155 : Nat → Nat → Int), ((120 - σ155 86 36).toNat : Int) < (n : Int) → qm_get ls 0 = some (.ref 86) → qm_get ls 1 = some (.int (qz u154)) → ((-2147483648) ≤ u154 ∧ u154 ≤ 2147483647) → qI σ155 α κ ρ → qFr [(86, 36), (86, 38), (86, 39)] [] σ α σ155 α → σ155 86 37 = (σ 86 37) → 6 ≤ σ155 86 39 → σ 86 39 ≤ σ155 86 39 → σ 86 36 ≤ σ155 86 36 → σ155 86 36 ≤ σ155 86 37 → σ155 86 37 = σ 86 37 → qr_W (qe L xs vb) (d + 5) qx_e215 (fun r w' => ∃ σ', w' = qw σ' α κ ρ ∧ qI σ' α κ ρ ∧ qFr [(86, 36), (86, 38), (86, 39)] [] σ α σ' α ∧ ∃ v : Int, r = some (.int (qz v)) ∧ ((-2147483648) ≤ v ∧ v ≤ 2147483647) ∧ σ 86 39 ≤ σ' 86 39 ∧ σ 86 36 ≤ σ' 86 36 ∧ σ' 86 36 ≤ σ' 86 37 ∧ σ' 86 37 = σ 86 37) (5, ls, [], qw σ155 α κ ρ, 0, 0) := by
    intro n
    induction n with
    | zero => intro ls u154 σ155 hm g152 g153 hf160 hI157 hF158 hk159 hx161 hx162 hx163 hx164 hx165; exact False.elim (by omega)
    | succ n ih167 =>
      intro ls u154 σ155 hm g152 g153 hf160 hI157 hF158 hk159 hx161 hx162 hx163 hx164 hx165
      have hs168 : 0 ≤ σ155 86 39 ∧ σ155 86 39 ≤ 6 := hI157.1 86 39
      have hs169 : 0 ≤ σ155 86 36 ∧ σ155 86 36 ≤ 120 := hI157.1 86 36
      have hs170 : 0 ≤ σ155 86 37 ∧ σ155 86 37 ≤ 120 := hI157.1 86 37
      refine qr_aload_n 6 rfl g152 rfl ?_
      refine qr_bipush 8 rfl (by decide) rfl ?_
      refine qr_callN 11 rfl rfl rfl (sf_222_86t (d := d + 3) hI157 (by decide) (by omega)) ?_
      have hs173 : 0 ≤ σ155 86 36 ∧ σ155 86 36 ≤ 120 := hI157.1 86 36
      have hs174 : 0 ≤ σ155 86 37 ∧ σ155 86 37 ≤ 120 := hI157.1 86 37
      have hs175 : σ155 86 37 = (σ 86 37) := (hk159).trans rfl
      rintro _ _ ⟨σ176, rfl, hI177, hG178, v171, rfl, hv171, hp172⟩
      have hF179 : qFr [(86, 36), (86, 38), (86, 39)] [] σ α σ176 α := qFr_t hF158 hG178 (by decide) (by decide)
      have hs180 : 0 ≤ σ176 86 36 ∧ σ176 86 36 ≤ 120 := hI177.1 86 36
      show qr_W (qe L xs vb) (d + 5) qx_e215 _ (11, _, [.int (qz v171)], qw σ176 α κ ρ, 0, 0)
      refine qr_if_eq 36 14 rfl rfl rfl (qrg hv171 (by decide) (by decide)) (fun h181 => ?_) (fun h181 => ?_)
      · skip
        refine qr_iload_n 37 rfl g153 rfl ?_
        refine qr_retI rfl rfl (by decide) (by decide) ?_
        have hw182 : σ176 86 36 = (σ176 86 36) := rfl
        have hw183 : σ176 86 37 = (σ 86 37) := (hG178.1 86 37 (by decide)).trans ((hk159).trans rfl)
        have hw184 : σ176 86 39 = (σ155 86 39) := (hG178.1 86 39 (by decide)).trans rfl
        exact ⟨_, rfl, hI177, hF179, u154, rfl, hf160, by omega⟩
      · skip
        refine qr_aload_n 15 rfl g152 rfl ?_
        have hs185 : 0 ≤ σ176 86 36 ∧ σ176 86 36 ≤ 120 := hI177.1 86 36
        have hs186 : 0 ≤ σ176 86 37 ∧ σ176 86 37 ≤ 120 := hI177.1 86 37
        have hs187 : σ176 86 37 = (σ 86 37) := (hG178.1 86 37 (by decide)).trans ((hk159).trans rfl)
        have hs188 : 0 ≤ σ176 86 39 ∧ σ176 86 39 ≤ 6 := hI177.1 86 39
        have hs189 : σ176 86 39 = (σ155 86 39) := (hG178.1 86 39 (by decide)).trans rfl
        refine qr_callN 18 rfl rfl rfl (sf_216_86o6 (d := d + 0) hI177 (by omega) (by omega)) ?_
        have hs192 : 0 ≤ σ176 86 36 ∧ σ176 86 36 ≤ 120 := hI177.1 86 36
        have hs193 : 0 ≤ σ176 86 37 ∧ σ176 86 37 ≤ 120 := hI177.1 86 37
        have hs194 : σ176 86 37 = (σ 86 37) := (hG178.1 86 37 (by decide)).trans ((hk159).trans rfl)
        have hs195 : 0 ≤ σ176 86 39 ∧ σ176 86 39 ≤ 6 := hI177.1 86 39
        have hs196 : σ176 86 39 = (σ155 86 39) := (hG178.1 86 39 (by decide)).trans rfl
        rintro _ _ ⟨σ197, rfl, hI198, hG199, v190, rfl, hv190, hp191⟩
        have hF200 : qFr [(86, 36), (86, 38), (86, 39)] [] σ α σ197 α := qFr_t hF179 hG199 (by decide) (by decide)
        have hs201 : 0 ≤ σ197 86 36 ∧ σ197 86 36 ≤ 120 := hI198.1 86 36
        have hs202 : 0 ≤ σ197 86 37 ∧ σ197 86 37 ≤ 120 := hI198.1 86 37
        have hs203 : 0 ≤ σ197 86 39 ∧ σ197 86 39 ≤ 6 := hI198.1 86 39
        show qr_W (qe L xs vb) (d + 5) qx_e215 _ (18, _, [.int (qz v190)], qw σ197 α κ ρ, 0, 0)
        refine qr_istore_n _ 19 rfl (by decide) rfl rfl ?_
        refine qr_iload_n 20 rfl (qm_gk g153 (by decide) (Or.inr rfl)) rfl ?_
        refine qr_if_eq 31 23 rfl rfl rfl hf160 (fun h204 => ?_) (fun h204 => ?_)
        · skip
          refine qr_iconst 32 rfl rfl ?_
          refine qr_istore_n _ 33 rfl (by decide) rfl rfl ?_
          refine qr_goto 5 rfl rfl ?_
          exact ih167 _ 0 σ197 (by omega) (qm_gk (qm_gk g152 (by decide) (Or.inl (by decide))) (by decide) (Or.inr rfl)) (qm_ge _ _ _) (by decide) hI198 hF200 ((hG199.1 86 37 (by decide)).trans ((hG178.1 86 37 (by decide)).trans ((hk159).trans rfl))) (by have hw0 : σ197 86 39 = (σ197 86 39) := rfl; have hw1 : σ197 86 36 = (σ197 86 36) := rfl; have hw2 : σ197 86 37 = (σ 86 37) := (hG199.1 86 37 (by decide)).trans ((hG178.1 86 37 (by decide)).trans ((hk159).trans rfl)); omega) (by have hw0 : σ197 86 39 = (σ197 86 39) := rfl; have hw1 : σ197 86 36 = (σ197 86 36) := rfl; have hw2 : σ197 86 37 = (σ 86 37) := (hG199.1 86 37 (by decide)).trans ((hG178.1 86 37 (by decide)).trans ((hk159).trans rfl)); omega) (by have hw0 : σ197 86 39 = (σ197 86 39) := rfl; have hw1 : σ197 86 36 = (σ197 86 36) := rfl; have hw2 : σ197 86 37 = (σ 86 37) := (hG199.1 86 37 (by decide)).trans ((hG178.1 86 37 (by decide)).trans ((hk159).trans rfl)); omega) (by have hw0 : σ197 86 39 = (σ197 86 39) := rfl; have hw1 : σ197 86 36 = (σ197 86 36) := rfl; have hw2 : σ197 86 37 = (σ 86 37) := (hG199.1 86 37 (by decide)).trans ((hG178.1 86 37 (by decide)).trans ((hk159).trans rfl)); omega) (by have hw0 : σ197 86 39 = (σ197 86 39) := rfl; have hw1 : σ197 86 36 = (σ197 86 36) := rfl; have hw2 : σ197 86 37 = (σ 86 37) := (hG199.1 86 37 (by decide)).trans ((hG178.1 86 37 (by decide)).trans ((hk159).trans rfl)); omega)
        · skip
          refine qr_iload_n 24 rfl (qm_ge _ _ _) rfl ?_
          refine qr_if_eq 31 27 rfl rfl rfl hv190 (fun h205 => ?_) (fun h205 => ?_)
          · skip
            refine qr_iconst 32 rfl rfl ?_
            refine qr_istore_n _ 33 rfl (by decide) rfl rfl ?_
            refine qr_goto 5 rfl rfl ?_
            exact ih167 _ 0 σ197 (by omega) (qm_gk (qm_gk g152 (by decide) (Or.inl (by decide))) (by decide) (Or.inr rfl)) (qm_ge _ _ _) (by decide) hI198 hF200 ((hG199.1 86 37 (by decide)).trans ((hG178.1 86 37 (by decide)).trans ((hk159).trans rfl))) (by have hw0 : σ197 86 39 = (σ197 86 39) := rfl; have hw1 : σ197 86 36 = (σ197 86 36) := rfl; have hw2 : σ197 86 37 = (σ 86 37) := (hG199.1 86 37 (by decide)).trans ((hG178.1 86 37 (by decide)).trans ((hk159).trans rfl)); omega) (by have hw0 : σ197 86 39 = (σ197 86 39) := rfl; have hw1 : σ197 86 36 = (σ197 86 36) := rfl; have hw2 : σ197 86 37 = (σ 86 37) := (hG199.1 86 37 (by decide)).trans ((hG178.1 86 37 (by decide)).trans ((hk159).trans rfl)); omega) (by have hw0 : σ197 86 39 = (σ197 86 39) := rfl; have hw1 : σ197 86 36 = (σ197 86 36) := rfl; have hw2 : σ197 86 37 = (σ 86 37) := (hG199.1 86 37 (by decide)).trans ((hG178.1 86 37 (by decide)).trans ((hk159).trans rfl)); omega) (by have hw0 : σ197 86 39 = (σ197 86 39) := rfl; have hw1 : σ197 86 36 = (σ197 86 36) := rfl; have hw2 : σ197 86 37 = (σ 86 37) := (hG199.1 86 37 (by decide)).trans ((hG178.1 86 37 (by decide)).trans ((hk159).trans rfl)); omega) (by have hw0 : σ197 86 39 = (σ197 86 39) := rfl; have hw1 : σ197 86 36 = (σ197 86 36) := rfl; have hw2 : σ197 86 37 = (σ 86 37) := (hG199.1 86 37 (by decide)).trans ((hG178.1 86 37 (by decide)).trans ((hk159).trans rfl)); omega)
          · skip
            refine qr_iconst 28 rfl rfl ?_
            refine qr_goto 32 rfl rfl ?_
            refine qr_istore_n _ 33 rfl (by decide) rfl rfl ?_
            refine qr_goto 5 rfl rfl ?_
            exact ih167 _ 1 σ197 (by omega) (qm_gk (qm_gk g152 (by decide) (Or.inl (by decide))) (by decide) (Or.inr rfl)) (qm_ge _ _ _) (by decide) hI198 hF200 ((hG199.1 86 37 (by decide)).trans ((hG178.1 86 37 (by decide)).trans ((hk159).trans rfl))) (by have hw0 : σ197 86 39 = (σ197 86 39) := rfl; have hw1 : σ197 86 36 = (σ197 86 36) := rfl; have hw2 : σ197 86 37 = (σ 86 37) := (hG199.1 86 37 (by decide)).trans ((hG178.1 86 37 (by decide)).trans ((hk159).trans rfl)); omega) (by have hw0 : σ197 86 39 = (σ197 86 39) := rfl; have hw1 : σ197 86 36 = (σ197 86 36) := rfl; have hw2 : σ197 86 37 = (σ 86 37) := (hG199.1 86 37 (by decide)).trans ((hG178.1 86 37 (by decide)).trans ((hk159).trans rfl)); omega) (by have hw0 : σ197 86 39 = (σ197 86 39) := rfl; have hw1 : σ197 86 36 = (σ197 86 36) := rfl; have hw2 : σ197 86 37 = (σ 86 37) := (hG199.1 86 37 (by decide)).trans ((hG178.1 86 37 (by decide)).trans ((hk159).trans rfl)); omega) (by have hw0 : σ197 86 39 = (σ197 86 39) := rfl; have hw1 : σ197 86 36 = (σ197 86 36) := rfl; have hw2 : σ197 86 37 = (σ 86 37) := (hG199.1 86 37 (by decide)).trans ((hG178.1 86 37 (by decide)).trans ((hk159).trans rfl)); omega) (by have hw0 : σ197 86 39 = (σ197 86 39) := rfl; have hw1 : σ197 86 36 = (σ197 86 36) := rfl; have hw2 : σ197 86 37 = (σ 86 37) := (hG199.1 86 37 (by decide)).trans ((hG178.1 86 37 (by decide)).trans ((hk159).trans rfl)); omega)
  exact hL166 ((((120 - σ9 86 36).toNat : Int) + 1 : Int)).toNat _ v4 σ9 (by omega) rfl rfl hv4 hI10 hF12 ((hG11.1 86 37 (by decide)).trans rfl) (by have hw0 : σ9 86 39 = (σ9 86 39) := rfl; have hw1 : σ9 86 36 = (σ9 86 36) := rfl; have hw2 : σ9 86 37 = (σ 86 37) := (hG11.1 86 37 (by decide)).trans rfl; omega) (by have hw0 : σ9 86 39 = (σ9 86 39) := rfl; have hw1 : σ9 86 36 = (σ9 86 36) := rfl; have hw2 : σ9 86 37 = (σ 86 37) := (hG11.1 86 37 (by decide)).trans rfl; omega) (by have hw0 : σ9 86 39 = (σ9 86 39) := rfl; have hw1 : σ9 86 36 = (σ9 86 36) := rfl; have hw2 : σ9 86 37 = (σ 86 37) := (hG11.1 86 37 (by decide)).trans rfl; omega) (by have hw0 : σ9 86 39 = (σ9 86 39) := rfl; have hw1 : σ9 86 36 = (σ9 86 36) := rfl; have hw2 : σ9 86 37 = (σ 86 37) := (hG11.1 86 37 (by decide)).trans rfl; omega) (by have hw0 : σ9 86 39 = (σ9 86 39) := rfl; have hw1 : σ9 86 36 = (σ9 86 36) := rfl; have hw2 : σ9 86 37 = (σ 86 37) := (hG11.1 86 37 (by decide)).trans rfl; omega)

set_option maxHeartbeats 4000000 in
set_option maxRecDepth 20000 in
/-- OneRoofModel.either -/
theorem sf_214_86o6 {L : Nat} {xs : Nat → Int} {vb : Bool} {d : Nat} {σ α : Nat → Nat → Int} {κ : Nat → Option Nat} {ρ : Nat}  (hI : qI σ α κ ρ) (p0 : 6 ≤ σ 86 39) (p1 : σ 86 36 ≤ σ 86 37) : qm_T (qe L xs vb) (d + 7) 214 [.ref 86] (qw σ α κ ρ) (fun r w' => ∃ σ', w' = qw σ' α κ ρ ∧ qI σ' α κ ρ ∧ qFr [(86, 36), (86, 38), (86, 39)] [] σ α σ' α ∧ ∃ v : Int, r = some (.int (qz v)) ∧ ((-2147483648) ≤ v ∧ v ≤ 2147483647) ∧ σ 86 39 ≤ σ' 86 39 ∧ σ 86 36 ≤ σ' 86 36 ∧ σ' 86 36 ≤ σ' 86 37 ∧ σ' 86 37 = σ 86 37) := by
  refine qr_start (d := d + 6) qv_e214 (Nat.le_of_ble_eq_true rfl) ?_
  show qr_W (qe L xs vb) (d + 6) qx_e214 _ (0, [(0, .ref 86)], [], _, 0, 0)
  have hF0 := qFr_rf [(86, 36), (86, 38), (86, 39)] [] σ α
  have hz86_39 : 0 ≤ σ 86 39 ∧ σ 86 39 ≤ 6 := hI.1 86 39
  have hz86_36 : 0 ≤ σ 86 36 ∧ σ 86 36 ≤ 120 := hI.1 86 36
  have hz86_37 : 0 ≤ σ 86 37 ∧ σ 86 37 ≤ 120 := hI.1 86 37
  refine qr_aload_n 1 rfl rfl rfl ?_
  have hs1 : 0 ≤ σ 86 36 ∧ σ 86 36 ≤ 120 := hI.1 86 36
  have hs2 : 0 ≤ σ 86 37 ∧ σ 86 37 ≤ 120 := hI.1 86 37
  have hs3 : 0 ≤ σ 86 39 ∧ σ 86 39 ≤ 6 := hI.1 86 39
  refine qr_callN 4 rfl rfl rfl (sf_215_86o6 (d := d + 0) hI (by omega) (by omega)) ?_
  have hs6 : 0 ≤ σ 86 36 ∧ σ 86 36 ≤ 120 := hI.1 86 36
  have hs7 : 0 ≤ σ 86 37 ∧ σ 86 37 ≤ 120 := hI.1 86 37
  have hs8 : 0 ≤ σ 86 39 ∧ σ 86 39 ≤ 6 := hI.1 86 39
  rintro _ _ ⟨σ9, rfl, hI10, hG11, v4, rfl, hv4, hp5⟩
  have hF12 : qFr [(86, 36), (86, 38), (86, 39)] [] σ α σ9 α := qFr_t hF0 hG11 (by decide) (by decide)
  have hs13 : 0 ≤ σ9 86 36 ∧ σ9 86 36 ≤ 120 := hI10.1 86 36
  have hs14 : 0 ≤ σ9 86 37 ∧ σ9 86 37 ≤ 120 := hI10.1 86 37
  have hs15 : 0 ≤ σ9 86 39 ∧ σ9 86 39 ≤ 6 := hI10.1 86 39
  show qr_W (qe L xs vb) (d + 6) qx_e214 _ (4, _, [.int (qz v4)], qw σ9 α κ ρ, 0, 0)
  refine qr_istore_n _ 5 rfl (by decide) rfl rfl ?_
  have hL166 : ∀ (n : Nat) (ls : qm_L) (u154 : Int) (σ155 : Nat → Nat → Int), ((120 - σ155 86 36).toNat : Int) < (n : Int) → qm_get ls 0 = some (.ref 86) → qm_get ls 1 = some (.int (qz u154)) → ((-2147483648) ≤ u154 ∧ u154 ≤ 2147483647) → qI σ155 α κ ρ → qFr [(86, 36), (86, 38), (86, 39)] [] σ α σ155 α → σ155 86 37 = (σ 86 37) → 6 ≤ σ155 86 39 → σ 86 39 ≤ σ155 86 39 → σ 86 36 ≤ σ155 86 36 → σ155 86 36 ≤ σ155 86 37 → σ155 86 37 = σ 86 37 → qr_W (qe L xs vb) (d + 6) qx_e214 (fun r w' => ∃ σ', w' = qw σ' α κ ρ ∧ qI σ' α κ ρ ∧ qFr [(86, 36), (86, 38), (86, 39)] [] σ α σ' α ∧ ∃ v : Int, r = some (.int (qz v)) ∧ ((-2147483648) ≤ v ∧ v ≤ 2147483647) ∧ σ 86 39 ≤ σ' 86 39 ∧ σ 86 36 ≤ σ' 86 36 ∧ σ' 86 36 ≤ σ' 86 37 ∧ σ' 86 37 = σ 86 37) (5, ls, [], qw σ155 α κ ρ, 0, 0) := by
    intro n
    induction n with
    | zero => intro ls u154 σ155 hm g152 g153 hf160 hI157 hF158 hk159 hx161 hx162 hx163 hx164 hx165; exact False.elim (by omega)
    | succ n ih167 =>
      intro ls u154 σ155 hm g152 g153 hf160 hI157 hF158 hk159 hx161 hx162 hx163 hx164 hx165
      have hs168 : 0 ≤ σ155 86 39 ∧ σ155 86 39 ≤ 6 := hI157.1 86 39
      have hs169 : 0 ≤ σ155 86 36 ∧ σ155 86 36 ≤ 120 := hI157.1 86 36
      have hs170 : 0 ≤ σ155 86 37 ∧ σ155 86 37 ≤ 120 := hI157.1 86 37
      refine qr_aload_n 6 rfl g152 rfl ?_
      refine qr_bipush 8 rfl (by decide) rfl ?_
      refine qr_callN 11 rfl rfl rfl (sf_222_86t (d := d + 4) hI157 (by decide) (by omega)) ?_
      have hs173 : 0 ≤ σ155 86 36 ∧ σ155 86 36 ≤ 120 := hI157.1 86 36
      have hs174 : 0 ≤ σ155 86 37 ∧ σ155 86 37 ≤ 120 := hI157.1 86 37
      have hs175 : σ155 86 37 = (σ 86 37) := (hk159).trans rfl
      rintro _ _ ⟨σ176, rfl, hI177, hG178, v171, rfl, hv171, hp172⟩
      have hF179 : qFr [(86, 36), (86, 38), (86, 39)] [] σ α σ176 α := qFr_t hF158 hG178 (by decide) (by decide)
      have hs180 : 0 ≤ σ176 86 36 ∧ σ176 86 36 ≤ 120 := hI177.1 86 36
      show qr_W (qe L xs vb) (d + 6) qx_e214 _ (11, _, [.int (qz v171)], qw σ176 α κ ρ, 0, 0)
      refine qr_if_eq 36 14 rfl rfl rfl (qrg hv171 (by decide) (by decide)) (fun h181 => ?_) (fun h181 => ?_)
      · skip
        refine qr_iload_n 37 rfl g153 rfl ?_
        refine qr_retI rfl rfl (by decide) (by decide) ?_
        have hw182 : σ176 86 36 = (σ176 86 36) := rfl
        have hw183 : σ176 86 37 = (σ 86 37) := (hG178.1 86 37 (by decide)).trans ((hk159).trans rfl)
        have hw184 : σ176 86 39 = (σ155 86 39) := (hG178.1 86 39 (by decide)).trans rfl
        exact ⟨_, rfl, hI177, hF179, u154, rfl, hf160, by omega⟩
      · skip
        refine qr_aload_n 15 rfl g152 rfl ?_
        have hs185 : 0 ≤ σ176 86 36 ∧ σ176 86 36 ≤ 120 := hI177.1 86 36
        have hs186 : 0 ≤ σ176 86 37 ∧ σ176 86 37 ≤ 120 := hI177.1 86 37
        have hs187 : σ176 86 37 = (σ 86 37) := (hG178.1 86 37 (by decide)).trans ((hk159).trans rfl)
        have hs188 : 0 ≤ σ176 86 39 ∧ σ176 86 39 ≤ 6 := hI177.1 86 39
        have hs189 : σ176 86 39 = (σ155 86 39) := (hG178.1 86 39 (by decide)).trans rfl
        refine qr_callN 18 rfl rfl rfl (sf_215_86o6 (d := d + 0) hI177 (by omega) (by omega)) ?_
        have hs192 : 0 ≤ σ176 86 36 ∧ σ176 86 36 ≤ 120 := hI177.1 86 36
        have hs193 : 0 ≤ σ176 86 37 ∧ σ176 86 37 ≤ 120 := hI177.1 86 37
        have hs194 : σ176 86 37 = (σ 86 37) := (hG178.1 86 37 (by decide)).trans ((hk159).trans rfl)
        have hs195 : 0 ≤ σ176 86 39 ∧ σ176 86 39 ≤ 6 := hI177.1 86 39
        have hs196 : σ176 86 39 = (σ155 86 39) := (hG178.1 86 39 (by decide)).trans rfl
        rintro _ _ ⟨σ197, rfl, hI198, hG199, v190, rfl, hv190, hp191⟩
        have hF200 : qFr [(86, 36), (86, 38), (86, 39)] [] σ α σ197 α := qFr_t hF179 hG199 (by decide) (by decide)
        have hs201 : 0 ≤ σ197 86 36 ∧ σ197 86 36 ≤ 120 := hI198.1 86 36
        have hs202 : 0 ≤ σ197 86 37 ∧ σ197 86 37 ≤ 120 := hI198.1 86 37
        have hs203 : 0 ≤ σ197 86 39 ∧ σ197 86 39 ≤ 6 := hI198.1 86 39
        show qr_W (qe L xs vb) (d + 6) qx_e214 _ (18, _, [.int (qz v190)], qw σ197 α κ ρ, 0, 0)
        refine qr_istore_n _ 19 rfl (by decide) rfl rfl ?_
        refine qr_iload_n 20 rfl (qm_gk g153 (by decide) (Or.inr rfl)) rfl ?_
        refine qr_if_ne 27 23 rfl rfl rfl hf160 (fun h204 => ?_) (fun h204 => ?_)
        · skip
          refine qr_iconst 28 rfl rfl ?_
          refine qr_goto 32 rfl rfl ?_
          refine qr_istore_n _ 33 rfl (by decide) rfl rfl ?_
          refine qr_goto 5 rfl rfl ?_
          exact ih167 _ 1 σ197 (by omega) (qm_gk (qm_gk g152 (by decide) (Or.inl (by decide))) (by decide) (Or.inr rfl)) (qm_ge _ _ _) (by decide) hI198 hF200 ((hG199.1 86 37 (by decide)).trans ((hG178.1 86 37 (by decide)).trans ((hk159).trans rfl))) (by have hw0 : σ197 86 39 = (σ197 86 39) := rfl; have hw1 : σ197 86 36 = (σ197 86 36) := rfl; have hw2 : σ197 86 37 = (σ 86 37) := (hG199.1 86 37 (by decide)).trans ((hG178.1 86 37 (by decide)).trans ((hk159).trans rfl)); omega) (by have hw0 : σ197 86 39 = (σ197 86 39) := rfl; have hw1 : σ197 86 36 = (σ197 86 36) := rfl; have hw2 : σ197 86 37 = (σ 86 37) := (hG199.1 86 37 (by decide)).trans ((hG178.1 86 37 (by decide)).trans ((hk159).trans rfl)); omega) (by have hw0 : σ197 86 39 = (σ197 86 39) := rfl; have hw1 : σ197 86 36 = (σ197 86 36) := rfl; have hw2 : σ197 86 37 = (σ 86 37) := (hG199.1 86 37 (by decide)).trans ((hG178.1 86 37 (by decide)).trans ((hk159).trans rfl)); omega) (by have hw0 : σ197 86 39 = (σ197 86 39) := rfl; have hw1 : σ197 86 36 = (σ197 86 36) := rfl; have hw2 : σ197 86 37 = (σ 86 37) := (hG199.1 86 37 (by decide)).trans ((hG178.1 86 37 (by decide)).trans ((hk159).trans rfl)); omega) (by have hw0 : σ197 86 39 = (σ197 86 39) := rfl; have hw1 : σ197 86 36 = (σ197 86 36) := rfl; have hw2 : σ197 86 37 = (σ 86 37) := (hG199.1 86 37 (by decide)).trans ((hG178.1 86 37 (by decide)).trans ((hk159).trans rfl)); omega)
        · skip
          refine qr_iload_n 24 rfl (qm_ge _ _ _) rfl ?_
          refine qr_if_eq 31 27 rfl rfl rfl hv190 (fun h205 => ?_) (fun h205 => ?_)
          · skip
            refine qr_iconst 32 rfl rfl ?_
            refine qr_istore_n _ 33 rfl (by decide) rfl rfl ?_
            refine qr_goto 5 rfl rfl ?_
            exact ih167 _ 0 σ197 (by omega) (qm_gk (qm_gk g152 (by decide) (Or.inl (by decide))) (by decide) (Or.inr rfl)) (qm_ge _ _ _) (by decide) hI198 hF200 ((hG199.1 86 37 (by decide)).trans ((hG178.1 86 37 (by decide)).trans ((hk159).trans rfl))) (by have hw0 : σ197 86 39 = (σ197 86 39) := rfl; have hw1 : σ197 86 36 = (σ197 86 36) := rfl; have hw2 : σ197 86 37 = (σ 86 37) := (hG199.1 86 37 (by decide)).trans ((hG178.1 86 37 (by decide)).trans ((hk159).trans rfl)); omega) (by have hw0 : σ197 86 39 = (σ197 86 39) := rfl; have hw1 : σ197 86 36 = (σ197 86 36) := rfl; have hw2 : σ197 86 37 = (σ 86 37) := (hG199.1 86 37 (by decide)).trans ((hG178.1 86 37 (by decide)).trans ((hk159).trans rfl)); omega) (by have hw0 : σ197 86 39 = (σ197 86 39) := rfl; have hw1 : σ197 86 36 = (σ197 86 36) := rfl; have hw2 : σ197 86 37 = (σ 86 37) := (hG199.1 86 37 (by decide)).trans ((hG178.1 86 37 (by decide)).trans ((hk159).trans rfl)); omega) (by have hw0 : σ197 86 39 = (σ197 86 39) := rfl; have hw1 : σ197 86 36 = (σ197 86 36) := rfl; have hw2 : σ197 86 37 = (σ 86 37) := (hG199.1 86 37 (by decide)).trans ((hG178.1 86 37 (by decide)).trans ((hk159).trans rfl)); omega) (by have hw0 : σ197 86 39 = (σ197 86 39) := rfl; have hw1 : σ197 86 36 = (σ197 86 36) := rfl; have hw2 : σ197 86 37 = (σ 86 37) := (hG199.1 86 37 (by decide)).trans ((hG178.1 86 37 (by decide)).trans ((hk159).trans rfl)); omega)
          · skip
            refine qr_iconst 28 rfl rfl ?_
            refine qr_goto 32 rfl rfl ?_
            refine qr_istore_n _ 33 rfl (by decide) rfl rfl ?_
            refine qr_goto 5 rfl rfl ?_
            exact ih167 _ 1 σ197 (by omega) (qm_gk (qm_gk g152 (by decide) (Or.inl (by decide))) (by decide) (Or.inr rfl)) (qm_ge _ _ _) (by decide) hI198 hF200 ((hG199.1 86 37 (by decide)).trans ((hG178.1 86 37 (by decide)).trans ((hk159).trans rfl))) (by have hw0 : σ197 86 39 = (σ197 86 39) := rfl; have hw1 : σ197 86 36 = (σ197 86 36) := rfl; have hw2 : σ197 86 37 = (σ 86 37) := (hG199.1 86 37 (by decide)).trans ((hG178.1 86 37 (by decide)).trans ((hk159).trans rfl)); omega) (by have hw0 : σ197 86 39 = (σ197 86 39) := rfl; have hw1 : σ197 86 36 = (σ197 86 36) := rfl; have hw2 : σ197 86 37 = (σ 86 37) := (hG199.1 86 37 (by decide)).trans ((hG178.1 86 37 (by decide)).trans ((hk159).trans rfl)); omega) (by have hw0 : σ197 86 39 = (σ197 86 39) := rfl; have hw1 : σ197 86 36 = (σ197 86 36) := rfl; have hw2 : σ197 86 37 = (σ 86 37) := (hG199.1 86 37 (by decide)).trans ((hG178.1 86 37 (by decide)).trans ((hk159).trans rfl)); omega) (by have hw0 : σ197 86 39 = (σ197 86 39) := rfl; have hw1 : σ197 86 36 = (σ197 86 36) := rfl; have hw2 : σ197 86 37 = (σ 86 37) := (hG199.1 86 37 (by decide)).trans ((hG178.1 86 37 (by decide)).trans ((hk159).trans rfl)); omega) (by have hw0 : σ197 86 39 = (σ197 86 39) := rfl; have hw1 : σ197 86 36 = (σ197 86 36) := rfl; have hw2 : σ197 86 37 = (σ 86 37) := (hG199.1 86 37 (by decide)).trans ((hG178.1 86 37 (by decide)).trans ((hk159).trans rfl)); omega)
  exact hL166 ((((120 - σ9 86 36).toNat : Int) + 1 : Int)).toNat _ v4 σ9 (by omega) rfl rfl hv4 hI10 hF12 ((hG11.1 86 37 (by decide)).trans rfl) (by have hw0 : σ9 86 39 = (σ9 86 39) := rfl; have hw1 : σ9 86 36 = (σ9 86 36) := rfl; have hw2 : σ9 86 37 = (σ 86 37) := (hG11.1 86 37 (by decide)).trans rfl; omega) (by have hw0 : σ9 86 39 = (σ9 86 39) := rfl; have hw1 : σ9 86 36 = (σ9 86 36) := rfl; have hw2 : σ9 86 37 = (σ 86 37) := (hG11.1 86 37 (by decide)).trans rfl; omega) (by have hw0 : σ9 86 39 = (σ9 86 39) := rfl; have hw1 : σ9 86 36 = (σ9 86 36) := rfl; have hw2 : σ9 86 37 = (σ 86 37) := (hG11.1 86 37 (by decide)).trans rfl; omega) (by have hw0 : σ9 86 39 = (σ9 86 39) := rfl; have hw1 : σ9 86 36 = (σ9 86 36) := rfl; have hw2 : σ9 86 37 = (σ 86 37) := (hG11.1 86 37 (by decide)).trans rfl; omega) (by have hw0 : σ9 86 39 = (σ9 86 39) := rfl; have hw1 : σ9 86 36 = (σ9 86 36) := rfl; have hw2 : σ9 86 37 = (σ 86 37) := (hG11.1 86 37 (by decide)).trans rfl; omega)

set_option maxHeartbeats 4000000 in
set_option maxRecDepth 20000 in
/-- OneRoofModel.one -/
theorem sf_219_86o5 {L : Nat} {xs : Nat → Int} {vb : Bool} {d : Nat} {σ α : Nat → Nat → Int} {κ : Nat → Option Nat} {ρ : Nat}  (hI : qI σ α κ ρ) (p0 : 5 ≤ σ 86 39) (p1 : σ 86 36 ≤ σ 86 37) : qm_T (qe L xs vb) (d + 8) 219 [.ref 86] (qw σ α κ ρ) (fun r w' => ∃ σ', w' = qw σ' α κ ρ ∧ qI σ' α κ ρ ∧ qFr [(86, 36), (86, 38), (86, 39)] [] σ α σ' α ∧ ∃ v : Int, r = some (.int (qz v)) ∧ ((-2147483648) ≤ v ∧ v ≤ 2147483647) ∧ σ 86 39 ≤ σ' 86 39 ∧ σ 86 36 ≤ σ' 86 36 ∧ σ' 86 36 ≤ σ' 86 37 ∧ σ' 86 37 = σ 86 37) := by
  refine qr_start (d := d + 7) qv_e219 (Nat.le_of_ble_eq_true rfl) ?_
  show qr_W (qe L xs vb) (d + 7) qx_e219 _ (0, [(0, .ref 86)], [], _, 0, 0)
  have hF0 := qFr_rf [(86, 36), (86, 38), (86, 39)] [] σ α
  have hz86_39 : 0 ≤ σ 86 39 ∧ σ 86 39 ≤ 6 := hI.1 86 39
  have hz86_36 : 0 ≤ σ 86 36 ∧ σ 86 36 ≤ 120 := hI.1 86 36
  have hz86_37 : 0 ≤ σ 86 37 ∧ σ 86 37 ≤ 120 := hI.1 86 37
  refine qr_aload_n 1 rfl rfl rfl ?_
  refine qr_get 4 rfl rfl rfl (by decide) rfl ?_
  have hs1 : (-1) ≤ σ 86 38 ∧ σ 86 38 ≤ 120 := hI.1 86 38
  refine qr_if_lt 9 7 rfl rfl rfl (qrg hs1 (by decide) (by decide)) (fun h2 => ?_) (fun h2 => ?_)
  · skip
    refine qr_aload_n 10 rfl rfl rfl ?_
    refine qr_callN 13 rfl rfl rfl (sf_220_86t (d := d + 6) hI ) ?_
    have hs5 : 0 ≤ σ 86 36 ∧ σ 86 36 ≤ 120 := hI.1 86 36
    have hs6 : 0 ≤ σ 86 37 ∧ σ 86 37 ≤ 120 := hI.1 86 37
    rintro _ _ ⟨rfl, v3, rfl, hv3, hp4⟩
    show qr_W (qe L xs vb) (d + 7) qx_e219 _ (13, _, [.int (qz v3)], qw σ α κ ρ, 0, 0)
    refine qr_istore_n _ 14 rfl (by decide) rfl rfl ?_
    refine qr_iload_n 15 rfl rfl rfl ?_
    refine qr_bipush 17 rfl (by decide) rfl ?_
    refine qr_icmp_eq 32 20 rfl rfl rfl hv3 (by decide) (fun h7 => ?_) (fun h7 => ?_)
    · skip
      refine qr_aload_n 33 rfl rfl rfl ?_
      refine qr_get 36 rfl rfl rfl (by decide) rfl ?_
      refine qr_bipush 38 rfl (by decide) rfl ?_
      refine qr_icmp_ne 46 41 rfl rfl rfl (qrg hz86_39 (by decide) (by decide)) (by decide) (fun h8 => ?_) (fun h8 => ?_)
      · skip
        refine qr_aload_n 47 rfl rfl rfl ?_
        refine qr_dup 48 rfl rfl rfl ?_
        refine qr_get 51 rfl rfl rfl (by decide) rfl ?_
        refine qr_iconst 52 rfl rfl ?_
        refine qr_iadd 53 rfl rfl ?_
        refine qr_put 56 rfl (by decide) rfl (Nat.le_of_ble_eq_true rfl) (Nat.le_of_ble_eq_true rfl) (Or.inl rfl) (qr_fitI rfl _) rfl ?_
        refine qy_wS (qw_s σ 86 39 ((σ 86 39) + 1)) rfl (fun σ9 e10 => ?_)
        have hI11 : qI σ9 α κ ρ := by rw [e10]; exact qI_s hI 86 39 rfl (show 0 ≤ ((σ 86 39) + 1) ∧ ((σ 86 39) + 1) ≤ 6 by omega)
        have hF12 : qFr [(86, 36), (86, 38), (86, 39)] [] σ α σ9 α := by rw [e10]; exact qFr_s hF0 86 39 _ (by decide)
        refine qr_aload_n 57 rfl rfl rfl ?_
        refine qr_dup 58 rfl rfl rfl ?_
        refine qr_get 61 rfl rfl rfl (by decide) rfl ?_
        refine qy_v (σ 86 36) ((congrFun (congrFun e10 86) 36).trans rfl) ?_
        refine qr_iconst 62 rfl rfl ?_
        refine qr_iadd 63 rfl rfl ?_
        refine qr_put 66 rfl (by decide) rfl (Nat.le_of_ble_eq_true rfl) (Nat.le_of_ble_eq_true rfl) (Or.inl rfl) (qr_fitI rfl _) rfl ?_
        refine qy_wS (qw_s σ9 86 36 ((σ 86 36) + 1)) rfl (fun σ13 e14 => ?_)
        have hI15 : qI σ13 α κ ρ := by rw [e14]; exact qI_s hI11 86 36 rfl (show 0 ≤ ((σ 86 36) + 1) ∧ ((σ 86 36) + 1) ≤ 120 by omega)
        have hF16 : qFr [(86, 36), (86, 38), (86, 39)] [] σ α σ13 α := by rw [e14]; exact qFr_s hF12 86 36 _ (by decide)
        refine qr_iload_n 67 rfl rfl rfl ?_
        refine qr_bipush 69 rfl (by decide) rfl ?_
        refine qr_icmp_ne 79 72 rfl rfl rfl hv3 (by decide) (fun h17 => ?_) (fun h => False.elim (by omega))
        refine qr_aload_n 80 rfl rfl rfl ?_
        have hs18 : 0 ≤ σ13 86 36 ∧ σ13 86 36 ≤ 120 := hI15.1 86 36
        have hs19 : σ13 86 36 = ((σ 86 36) + 1) := (congrFun (congrFun e14 86) 36).trans rfl
        have hs20 : 0 ≤ σ13 86 37 ∧ σ13 86 37 ≤ 120 := hI15.1 86 37
        have hs21 : σ13 86 37 = (σ 86 37) := (congrFun (congrFun e14 86) 37).trans ((congrFun (congrFun e10 86) 37).trans rfl)
        have hs22 : 0 ≤ σ13 86 39 ∧ σ13 86 39 ≤ 6 := hI15.1 86 39
        have hs23 : σ13 86 39 = ((σ 86 39) + 1) := (congrFun (congrFun e14 86) 39).trans ((congrFun (congrFun e10 86) 39).trans rfl)
        refine qr_callN 83 rfl rfl rfl (sf_219_86o6 (d := d + 5) hI15 (by omega) (by omega)) ?_
        have hs26 : 0 ≤ σ13 86 36 ∧ σ13 86 36 ≤ 120 := hI15.1 86 36
        have hs27 : σ13 86 36 = ((σ 86 36) + 1) := (congrFun (congrFun e14 86) 36).trans rfl
        have hs28 : 0 ≤ σ13 86 37 ∧ σ13 86 37 ≤ 120 := hI15.1 86 37
        have hs29 : σ13 86 37 = (σ 86 37) := (congrFun (congrFun e14 86) 37).trans ((congrFun (congrFun e10 86) 37).trans rfl)
        have hs30 : 0 ≤ σ13 86 39 ∧ σ13 86 39 ≤ 6 := hI15.1 86 39
        have hs31 : σ13 86 39 = ((σ 86 39) + 1) := (congrFun (congrFun e14 86) 39).trans ((congrFun (congrFun e10 86) 39).trans rfl)
        rintro _ _ ⟨σ32, rfl, hI33, hG34, v24, rfl, hv24, hp25⟩
        have hF35 : qFr [(86, 36), (86, 38), (86, 39)] [] σ α σ32 α := qFr_t hF16 hG34 (by decide) (by decide)
        have hs36 : 0 ≤ σ32 86 36 ∧ σ32 86 36 ≤ 120 := hI33.1 86 36
        have hs37 : 0 ≤ σ32 86 37 ∧ σ32 86 37 ≤ 120 := hI33.1 86 37
        have hs38 : 0 ≤ σ32 86 39 ∧ σ32 86 39 ≤ 6 := hI33.1 86 39
        show qr_W (qe L xs vb) (d + 7) qx_e219 _ (83, _, [.int (qz v24)], qw σ32 α κ ρ, 0, 0)
        refine qr_istore_n _ 84 rfl (by decide) rfl rfl ?_
        refine qr_iload_n 85 rfl rfl rfl ?_
        refine qr_bipush 87 rfl (by decide) rfl ?_
        refine qr_icmp_ne 104 90 rfl rfl rfl hv3 (by decide) (fun h39 => ?_) (fun h => False.elim (by omega))
        refine qr_aload_n 105 rfl rfl rfl ?_
        refine qr_dup 106 rfl rfl rfl ?_
        refine qr_get 109 rfl rfl rfl (by decide) rfl ?_
        refine qr_iconst 110 rfl rfl ?_
        refine qr_isub 111 rfl rfl ?_
        refine qr_put 114 rfl (by decide) rfl (Nat.le_of_ble_eq_true rfl) (Nat.le_of_ble_eq_true rfl) (Or.inl rfl) (qr_fitI rfl _) rfl ?_
        refine qy_wS (qw_s σ32 86 39 ((σ32 86 39) - 1)) rfl (fun σ40 e41 => ?_)
        have hI42 : qI σ40 α κ ρ := by rw [e41]; exact qI_s hI33 86 39 rfl (show 0 ≤ ((σ32 86 39) - 1) ∧ ((σ32 86 39) - 1) ≤ 6 by omega)
        have hF43 : qFr [(86, 36), (86, 38), (86, 39)] [] σ α σ40 α := by rw [e41]; exact qFr_s hF35 86 39 _ (by decide)
        refine qr_iload_n 115 rfl rfl rfl ?_
        refine qr_bipush 117 rfl (by decide) rfl ?_
        refine qr_icmp_ne 124 120 rfl rfl rfl hv3 (by decide) (fun h44 => ?_) (fun h => False.elim (by omega))
        refine qr_iload_n 125 rfl rfl rfl ?_
        refine qr_bipush 127 rfl (by decide) rfl ?_
        refine qr_icmp_ne 135 130 rfl rfl rfl hv3 (by decide) (fun h45 => ?_) (fun h => False.elim (by omega))
        refine qr_iload_n 136 rfl rfl rfl ?_
        refine qr_if_ne 143 139 rfl rfl rfl hv24 (fun h46 => ?_) (fun h46 => ?_)
        · skip
          refine qr_iconst 144 rfl rfl ?_
          refine qr_retI rfl rfl (by decide) (by decide) ?_
          have hw47 : σ40 86 36 = (σ32 86 36) := (congrFun (congrFun e41 86) 36).trans rfl
          have hw48 : σ40 86 37 = (σ 86 37) := (congrFun (congrFun e41 86) 37).trans ((hG34.1 86 37 (by decide)).trans ((congrFun (congrFun e14 86) 37).trans ((congrFun (congrFun e10 86) 37).trans rfl)))
          have hw49 : σ40 86 39 = ((σ32 86 39) - 1) := (congrFun (congrFun e41 86) 39).trans rfl
          exact ⟨_, rfl, hI42, hF43, 0, rfl, (by decide), by omega⟩
        · skip
          refine qr_iconst 140 rfl rfl ?_
          refine qr_goto 144 rfl rfl ?_
          as_aux_lemma =>
            refine qr_retI rfl rfl (by decide) (by decide) ?_
            have hw50 : σ40 86 36 = (σ32 86 36) := (congrFun (congrFun e41 86) 36).trans rfl
            have hw51 : σ40 86 37 = (σ 86 37) := (congrFun (congrFun e41 86) 37).trans ((hG34.1 86 37 (by decide)).trans ((congrFun (congrFun e14 86) 37).trans ((congrFun (congrFun e10 86) 37).trans rfl)))
            have hw52 : σ40 86 39 = ((σ32 86 39) - 1) := (congrFun (congrFun e41 86) 39).trans rfl
            exact ⟨_, rfl, hI42, hF43, 1, rfl, (by decide), by omega⟩
      · skip
        refine qr_aload_n 42 rfl rfl rfl ?_
        refine qr_callN 45 rfl rfl rfl (sf_221_86 (d := d + 6) hI ) ?_
        rintro _ _ ⟨σ54, rfl, hI55, hG56, v53, rfl, hv53⟩
        have hF57 : qFr [(86, 36), (86, 38), (86, 39)] [] σ α σ54 α := qFr_t hF0 hG56 (by decide) (by decide)
        show qr_W (qe L xs vb) (d + 7) qx_e219 _ (45, _, [.int (qz v53)], qw σ54 α κ ρ, 0, 0)
        refine qr_retI rfl rfl (by decide) (by decide) ?_
        have hw58 : σ54 86 36 = (σ 86 36) := (hG56.1 86 36 (by decide)).trans rfl
        have hw59 : σ54 86 37 = (σ 86 37) := (hG56.1 86 37 (by decide)).trans rfl
        have hw60 : σ54 86 39 = (σ 86 39) := (hG56.1 86 39 (by decide)).trans rfl
        exact ⟨_, rfl, hI55, hF57, v53, rfl, (qrg hv53 (by decide) (by decide)), by omega⟩
    · skip
      refine qr_iload_n 21 rfl rfl rfl ?_
      refine qr_bipush 23 rfl (by decide) rfl ?_
      refine qr_icmp_eq 32 26 rfl rfl rfl hv3 (by decide) (fun h61 => ?_) (fun h61 => ?_)
      · skip
        refine qr_aload_n 33 rfl rfl rfl ?_
        refine qr_get 36 rfl rfl rfl (by decide) rfl ?_
        refine qr_bipush 38 rfl (by decide) rfl ?_
        refine qr_icmp_ne 46 41 rfl rfl rfl (qrg hz86_39 (by decide) (by decide)) (by decide) (fun h62 => ?_) (fun h62 => ?_)
        · skip
          refine qr_aload_n 47 rfl rfl rfl ?_
          refine qr_dup 48 rfl rfl rfl ?_
          refine qr_get 51 rfl rfl rfl (by decide) rfl ?_
          refine qr_iconst 52 rfl rfl ?_
          refine qr_iadd 53 rfl rfl ?_
          refine qr_put 56 rfl (by decide) rfl (Nat.le_of_ble_eq_true rfl) (Nat.le_of_ble_eq_true rfl) (Or.inl rfl) (qr_fitI rfl _) rfl ?_
          refine qy_wS (qw_s σ 86 39 ((σ 86 39) + 1)) rfl (fun σ63 e64 => ?_)
          have hI65 : qI σ63 α κ ρ := by rw [e64]; exact qI_s hI 86 39 rfl (show 0 ≤ ((σ 86 39) + 1) ∧ ((σ 86 39) + 1) ≤ 6 by omega)
          have hF66 : qFr [(86, 36), (86, 38), (86, 39)] [] σ α σ63 α := by rw [e64]; exact qFr_s hF0 86 39 _ (by decide)
          refine qr_aload_n 57 rfl rfl rfl ?_
          refine qr_dup 58 rfl rfl rfl ?_
          refine qr_get 61 rfl rfl rfl (by decide) rfl ?_
          refine qy_v (σ 86 36) ((congrFun (congrFun e64 86) 36).trans rfl) ?_
          refine qr_iconst 62 rfl rfl ?_
          refine qr_iadd 63 rfl rfl ?_
          refine qr_put 66 rfl (by decide) rfl (Nat.le_of_ble_eq_true rfl) (Nat.le_of_ble_eq_true rfl) (Or.inl rfl) (qr_fitI rfl _) rfl ?_
          refine qy_wS (qw_s σ63 86 36 ((σ 86 36) + 1)) rfl (fun σ67 e68 => ?_)
          have hI69 : qI σ67 α κ ρ := by rw [e68]; exact qI_s hI65 86 36 rfl (show 0 ≤ ((σ 86 36) + 1) ∧ ((σ 86 36) + 1) ≤ 120 by omega)
          have hF70 : qFr [(86, 36), (86, 38), (86, 39)] [] σ α σ67 α := by rw [e68]; exact qFr_s hF66 86 36 _ (by decide)
          refine qr_iload_n 67 rfl rfl rfl ?_
          refine qr_bipush 69 rfl (by decide) rfl ?_
          refine qr_icmp_ne 79 72 rfl rfl rfl hv3 (by decide) (fun h71 => ?_) (fun h => False.elim (by omega))
          refine qr_aload_n 80 rfl rfl rfl ?_
          have hs72 : 0 ≤ σ67 86 36 ∧ σ67 86 36 ≤ 120 := hI69.1 86 36
          have hs73 : σ67 86 36 = ((σ 86 36) + 1) := (congrFun (congrFun e68 86) 36).trans rfl
          have hs74 : 0 ≤ σ67 86 37 ∧ σ67 86 37 ≤ 120 := hI69.1 86 37
          have hs75 : σ67 86 37 = (σ 86 37) := (congrFun (congrFun e68 86) 37).trans ((congrFun (congrFun e64 86) 37).trans rfl)
          have hs76 : 0 ≤ σ67 86 39 ∧ σ67 86 39 ≤ 6 := hI69.1 86 39
          have hs77 : σ67 86 39 = ((σ 86 39) + 1) := (congrFun (congrFun e68 86) 39).trans ((congrFun (congrFun e64 86) 39).trans rfl)
          refine qr_callN 83 rfl rfl rfl (sf_219_86o6 (d := d + 5) hI69 (by omega) (by omega)) ?_
          have hs80 : 0 ≤ σ67 86 36 ∧ σ67 86 36 ≤ 120 := hI69.1 86 36
          have hs81 : σ67 86 36 = ((σ 86 36) + 1) := (congrFun (congrFun e68 86) 36).trans rfl
          have hs82 : 0 ≤ σ67 86 37 ∧ σ67 86 37 ≤ 120 := hI69.1 86 37
          have hs83 : σ67 86 37 = (σ 86 37) := (congrFun (congrFun e68 86) 37).trans ((congrFun (congrFun e64 86) 37).trans rfl)
          have hs84 : 0 ≤ σ67 86 39 ∧ σ67 86 39 ≤ 6 := hI69.1 86 39
          have hs85 : σ67 86 39 = ((σ 86 39) + 1) := (congrFun (congrFun e68 86) 39).trans ((congrFun (congrFun e64 86) 39).trans rfl)
          rintro _ _ ⟨σ86, rfl, hI87, hG88, v78, rfl, hv78, hp79⟩
          have hF89 : qFr [(86, 36), (86, 38), (86, 39)] [] σ α σ86 α := qFr_t hF70 hG88 (by decide) (by decide)
          have hs90 : 0 ≤ σ86 86 36 ∧ σ86 86 36 ≤ 120 := hI87.1 86 36
          have hs91 : 0 ≤ σ86 86 37 ∧ σ86 86 37 ≤ 120 := hI87.1 86 37
          have hs92 : 0 ≤ σ86 86 39 ∧ σ86 86 39 ≤ 6 := hI87.1 86 39
          show qr_W (qe L xs vb) (d + 7) qx_e219 _ (83, _, [.int (qz v78)], qw σ86 α κ ρ, 0, 0)
          refine qr_istore_n _ 84 rfl (by decide) rfl rfl ?_
          refine qr_iload_n 85 rfl rfl rfl ?_
          refine qr_bipush 87 rfl (by decide) rfl ?_
          refine qr_icmp_ne 104 90 rfl rfl rfl hv3 (by decide) (fun h93 => ?_) (fun h => False.elim (by omega))
          refine qr_aload_n 105 rfl rfl rfl ?_
          refine qr_dup 106 rfl rfl rfl ?_
          refine qr_get 109 rfl rfl rfl (by decide) rfl ?_
          refine qr_iconst 110 rfl rfl ?_
          refine qr_isub 111 rfl rfl ?_
          refine qr_put 114 rfl (by decide) rfl (Nat.le_of_ble_eq_true rfl) (Nat.le_of_ble_eq_true rfl) (Or.inl rfl) (qr_fitI rfl _) rfl ?_
          refine qy_wS (qw_s σ86 86 39 ((σ86 86 39) - 1)) rfl (fun σ94 e95 => ?_)
          have hI96 : qI σ94 α κ ρ := by rw [e95]; exact qI_s hI87 86 39 rfl (show 0 ≤ ((σ86 86 39) - 1) ∧ ((σ86 86 39) - 1) ≤ 6 by omega)
          have hF97 : qFr [(86, 36), (86, 38), (86, 39)] [] σ α σ94 α := by rw [e95]; exact qFr_s hF89 86 39 _ (by decide)
          refine qr_iload_n 115 rfl rfl rfl ?_
          refine qr_bipush 117 rfl (by decide) rfl ?_
          refine qr_icmp_ne 124 120 rfl rfl rfl hv3 (by decide) (fun h98 => ?_) (fun h => False.elim (by omega))
          refine qr_iload_n 125 rfl rfl rfl ?_
          refine qr_bipush 127 rfl (by decide) rfl ?_
          refine qr_icmp_ne 135 130 rfl rfl rfl hv3 (by decide) (fun h => False.elim (by omega)) (fun h99 => ?_)
          refine qr_iload_n 131 rfl rfl rfl ?_
          as_aux_lemma =>
            refine qr_ineg 132 rfl rfl ?_
            refine qy_can (fun v100 hv100 => ?_)
            refine qr_goto 144 rfl rfl ?_
            refine qr_retI rfl rfl (by decide) (by decide) ?_
            have hw101 : σ94 86 36 = (σ86 86 36) := (congrFun (congrFun e95 86) 36).trans rfl
            have hw102 : σ94 86 37 = (σ 86 37) := (congrFun (congrFun e95 86) 37).trans ((hG88.1 86 37 (by decide)).trans ((congrFun (congrFun e68 86) 37).trans ((congrFun (congrFun e64 86) 37).trans rfl)))
            have hw103 : σ94 86 39 = ((σ86 86 39) - 1) := (congrFun (congrFun e95 86) 39).trans rfl
            exact ⟨_, rfl, hI96, hF97, v100, rfl, hv100, by omega⟩
        · skip
          refine qr_aload_n 42 rfl rfl rfl ?_
          refine qr_callN 45 rfl rfl rfl (sf_221_86 (d := d + 6) hI ) ?_
          rintro _ _ ⟨σ105, rfl, hI106, hG107, v104, rfl, hv104⟩
          have hF108 : qFr [(86, 36), (86, 38), (86, 39)] [] σ α σ105 α := qFr_t hF0 hG107 (by decide) (by decide)
          show qr_W (qe L xs vb) (d + 7) qx_e219 _ (45, _, [.int (qz v104)], qw σ105 α κ ρ, 0, 0)
          refine qr_retI rfl rfl (by decide) (by decide) ?_
          have hw109 : σ105 86 36 = (σ 86 36) := (hG107.1 86 36 (by decide)).trans rfl
          have hw110 : σ105 86 37 = (σ 86 37) := (hG107.1 86 37 (by decide)).trans rfl
          have hw111 : σ105 86 39 = (σ 86 39) := (hG107.1 86 39 (by decide)).trans rfl
          exact ⟨_, rfl, hI106, hF108, v104, rfl, (qrg hv104 (by decide) (by decide)), by omega⟩
      · skip
        refine qr_iload_n 27 rfl rfl rfl ?_
        refine qr_bipush 29 rfl (by decide) rfl ?_
        refine qr_icmp_ne 145 32 rfl rfl rfl hv3 (by decide) (fun h112 => ?_) (fun h112 => ?_)
        · skip
          refine qr_iload_n 146 rfl rfl rfl ?_
          refine qr_callN 149 rfl rfl rfl (sf_223t (d := d + 6) hI hv3) ?_
          rintro _ _ ⟨rfl, v113, rfl, hv113, hp114⟩
          show qr_W (qe L xs vb) (d + 7) qx_e219 _ (149, _, [.int (qz v113)], qw σ α κ ρ, 0, 0)
          refine qr_istore_n _ 150 rfl (by decide) rfl rfl ?_
          refine qr_iload_n 151 rfl rfl rfl ?_
          refine qr_if_lt 171 154 rfl rfl rfl (qrg hv113 (by decide) (by decide)) (fun h115 => ?_) (fun h115 => ?_)
          · skip
            refine qr_iconst 172 rfl rfl ?_
            refine qr_istore_n _ 173 rfl (by decide) rfl rfl ?_
            refine qr_iconst 174 rfl rfl ?_
            refine qr_istore _ 176 rfl (by decide) rfl rfl ?_
            have hL406 : ∀ (n : Nat) (ls : qm_L) (u389 u391 : Int) (σ392 : Nat → Nat → Int), 4 - u391 < (n : Int) → qm_get ls 0 = some (.ref 86) → qm_get ls 3 = some (.int (qz u389)) → qm_get ls 4 = some (.int (qz u391)) → ((-2147483648) ≤ u389 ∧ u389 ≤ 2147483647) → (0 ≤ u391 ∧ u391 ≤ 4) → qI σ392 α κ ρ → qFr [(86, 36), (86, 38), (86, 39)] [] σ α σ392 α → σ392 86 37 = (σ 86 37) → σ392 86 38 = (σ 86 38) → σ392 86 39 = (σ 86 39) → 5 ≤ σ392 86 39 → σ 86 39 ≤ σ392 86 39 → σ 86 36 ≤ σ392 86 36 → σ392 86 36 ≤ σ392 86 37 → σ392 86 37 = σ 86 37 → qr_W (qe L xs vb) (d + 7) qx_e219 (fun r w' => ∃ σ', w' = qw σ' α κ ρ ∧ qI σ' α κ ρ ∧ qFr [(86, 36), (86, 38), (86, 39)] [] σ α σ' α ∧ ∃ v : Int, r = some (.int (qz v)) ∧ ((-2147483648) ≤ v ∧ v ≤ 2147483647) ∧ σ 86 39 ≤ σ' 86 39 ∧ σ 86 36 ≤ σ' 86 36 ∧ σ' 86 36 ≤ σ' 86 37 ∧ σ' 86 37 = σ 86 37) (176, ls, [], qw σ392 α κ ρ, 0, 0) := by
              intro n
              induction n with
              | zero => intro ls u389 u391 σ392 hm g387 g388 g390 hf399 hf400 hI394 hF395 hk396 hk397 hk398 hx401 hx402 hx403 hx404 hx405; exact False.elim (by omega)
              | succ n ih407 =>
                intro ls u389 u391 σ392 hm g387 g388 g390 hf399 hf400 hI394 hF395 hk396 hk397 hk398 hx401 hx402 hx403 hx404 hx405
                have hs408 : 0 ≤ σ392 86 39 ∧ σ392 86 39 ≤ 6 := hI394.1 86 39
                have hs409 : 0 ≤ σ392 86 36 ∧ σ392 86 36 ≤ 120 := hI394.1 86 36
                have hs410 : 0 ≤ σ392 86 37 ∧ σ392 86 37 ≤ 120 := hI394.1 86 37
                refine qr_iload 178 rfl g390 rfl ?_
                refine qr_iconst 179 rfl rfl ?_
                refine qr_icmp_ge 229 182 rfl rfl rfl (qrg hf400 (by decide) (by decide)) (by decide) (fun h411 => ?_) (fun h411 => ?_)
                · skip
                  refine qr_iload 231 rfl g390 rfl ?_
                  refine qr_if_ne 241 234 rfl rfl rfl (qrg hf400 (by decide) (by decide)) (fun h412 => ?_) (fun h => False.elim (by omega))
                  refine qr_iload_n 242 rfl g388 rfl ?_
                  refine qr_retI rfl rfl (by decide) (by decide) ?_
                  have hw413 : σ392 86 36 = (σ392 86 36) := rfl
                  have hw414 : σ392 86 37 = (σ 86 37) := (hk396).trans rfl
                  have hw415 : σ392 86 39 = (σ 86 39) := (hk398).trans rfl
                  exact ⟨_, rfl, hI394, hF395, u389, rfl, hf399, by omega⟩
                · skip
                  refine qr_aload_n 183 rfl g387 rfl ?_
                  refine qr_callN 186 rfl rfl rfl (sf_220_86t (d := d + 6) hI394 ) ?_
                  have hs418 : 0 ≤ σ392 86 36 ∧ σ392 86 36 ≤ 120 := hI394.1 86 36
                  have hs419 : 0 ≤ σ392 86 37 ∧ σ392 86 37 ≤ 120 := hI394.1 86 37
                  have hs420 : σ392 86 37 = (σ 86 37) := (hk396).trans rfl
                  rintro _ _ ⟨rfl, v416, rfl, hv416, hp417⟩
                  show qr_W (qe L xs vb) (d + 7) qx_e219 _ (186, _, [.int (qz v416)], qw σ392 α κ ρ, 0, 0)
                  refine qr_bipush 188 rfl (by decide) rfl ?_
                  refine qr_icmp_lt 229 191 rfl rfl rfl hv416 (by decide) (fun h421 => ?_) (fun h421 => ?_)
                  · skip
                    refine qr_iload 231 rfl g390 rfl ?_
                    refine qr_if_ne 241 234 rfl rfl rfl (qrg hf400 (by decide) (by decide)) (fun h422 => ?_) (fun h422 => ?_)
                    · skip
                      refine qr_iload_n 242 rfl g388 rfl ?_
                      refine qr_retI rfl rfl (by decide) (by decide) ?_
                      have hw423 : σ392 86 36 = (σ392 86 36) := rfl
                      have hw424 : σ392 86 37 = (σ 86 37) := (hk396).trans rfl
                      have hw425 : σ392 86 39 = (σ 86 39) := (hk398).trans rfl
                      exact ⟨_, rfl, hI394, hF395, u389, rfl, hf399, by omega⟩
                    · skip
                      refine qr_aload_n 235 rfl g387 rfl ?_
                      refine qr_callN 238 rfl rfl rfl (sf_221_86 (d := d + 6) hI394 ) ?_
                      rintro _ _ ⟨σ427, rfl, hI428, hG429, v426, rfl, hv426⟩
                      have hF430 : qFr [(86, 36), (86, 38), (86, 39)] [] σ α σ427 α := qFr_t hF395 hG429 (by decide) (by decide)
                      show qr_W (qe L xs vb) (d + 7) qx_e219 _ (238, _, [.int (qz v426)], qw σ427 α κ ρ, 0, 0)
                      refine qr_goto 242 rfl rfl ?_
                      refine qr_retI rfl rfl (by decide) (by decide) ?_
                      have hw431 : σ427 86 36 = (σ392 86 36) := (hG429.1 86 36 (by decide)).trans rfl
                      have hw432 : σ427 86 37 = (σ 86 37) := (hG429.1 86 37 (by decide)).trans ((hk396).trans rfl)
                      have hw433 : σ427 86 39 = (σ 86 39) := (hG429.1 86 39 (by decide)).trans ((hk398).trans rfl)
                      exact ⟨_, rfl, hI428, hF430, v426, rfl, (qrg hv426 (by decide) (by decide)), by omega⟩
                  · skip
                    refine qr_aload_n 192 rfl g387 rfl ?_
                    refine qr_callN 195 rfl rfl rfl (sf_220_86t (d := d + 6) hI394 ) ?_
                    have hs436 : 0 ≤ σ392 86 36 ∧ σ392 86 36 ≤ 120 := hI394.1 86 36
                    have hs437 : 0 ≤ σ392 86 37 ∧ σ392 86 37 ≤ 120 := hI394.1 86 37
                    have hs438 : σ392 86 37 = (σ 86 37) := (hk396).trans rfl
                    rintro _ _ ⟨rfl, v434, rfl, hv434, hp435⟩
                    show qr_W (qe L xs vb) (d + 7) qx_e219 _ (195, _, [.int (qz v434)], qw σ392 α κ ρ, 0, 0)
                    refine qr_bipush 197 rfl (by decide) rfl ?_
                    refine qr_icmp_gt 229 200 rfl rfl rfl hv434 (by decide) (fun h439 => ?_) (fun h439 => ?_)
                    · skip
                      refine qr_iload 231 rfl g390 rfl ?_
                      refine qr_if_ne 241 234 rfl rfl rfl (qrg hf400 (by decide) (by decide)) (fun h440 => ?_) (fun h440 => ?_)
                      · skip
                        refine qr_iload_n 242 rfl g388 rfl ?_
                        refine qr_retI rfl rfl (by decide) (by decide) ?_
                        have hw441 : σ392 86 36 = (σ392 86 36) := rfl
                        have hw442 : σ392 86 37 = (σ 86 37) := (hk396).trans rfl
                        have hw443 : σ392 86 39 = (σ 86 39) := (hk398).trans rfl
                        exact ⟨_, rfl, hI394, hF395, u389, rfl, hf399, by omega⟩
                      · skip
                        refine qr_aload_n 235 rfl g387 rfl ?_
                        refine qr_callN 238 rfl rfl rfl (sf_221_86 (d := d + 6) hI394 ) ?_
                        rintro _ _ ⟨σ445, rfl, hI446, hG447, v444, rfl, hv444⟩
                        have hF448 : qFr [(86, 36), (86, 38), (86, 39)] [] σ α σ445 α := qFr_t hF395 hG447 (by decide) (by decide)
                        show qr_W (qe L xs vb) (d + 7) qx_e219 _ (238, _, [.int (qz v444)], qw σ445 α κ ρ, 0, 0)
                        refine qr_goto 242 rfl rfl ?_
                        refine qr_retI rfl rfl (by decide) (by decide) ?_
                        have hw449 : σ445 86 36 = (σ392 86 36) := (hG447.1 86 36 (by decide)).trans rfl
                        have hw450 : σ445 86 37 = (σ 86 37) := (hG447.1 86 37 (by decide)).trans ((hk396).trans rfl)
                        have hw451 : σ445 86 39 = (σ 86 39) := (hG447.1 86 39 (by decide)).trans ((hk398).trans rfl)
                        exact ⟨_, rfl, hI446, hF448, v444, rfl, (qrg hv444 (by decide) (by decide)), by omega⟩
                    · skip
                      refine qr_bipush 202 rfl (by decide) rfl ?_
                      refine qr_iload_n 203 rfl g388 rfl ?_
                      refine qr_imul 204 rfl rfl ?_
                      refine qy_can (fun v452 hv452 => ?_)
                      refine qr_aload_n 205 rfl g387 rfl ?_
                      refine qr_callN 208 rfl rfl rfl (sf_220_86t (d := d + 6) hI394 ) ?_
                      have hs455 : 0 ≤ σ392 86 36 ∧ σ392 86 36 ≤ 120 := hI394.1 86 36
                      have hs456 : 0 ≤ σ392 86 37 ∧ σ392 86 37 ≤ 120 := hI394.1 86 37
                      have hs457 : σ392 86 37 = (σ 86 37) := (hk396).trans rfl
                      rintro _ _ ⟨rfl, v453, rfl, hv453, hp454⟩
                      show qr_W (qe L xs vb) (d + 7) qx_e219 _ (208, _, [.int (qz v453), .int (qz v452)], qw σ392 α κ ρ, 0, 0)
                      refine qr_iadd 209 rfl rfl ?_
                      refine qy_can (fun v458 hv458 => ?_)
                      refine qr_bipush 211 rfl (by decide) rfl ?_
                      refine qr_isub 212 rfl rfl ?_
                      refine qy_can (fun v459 hv459 => ?_)
                      refine qr_istore_n _ 213 rfl (by decide) rfl rfl ?_
                      refine qr_iinc _ 216 rfl (qm_gk g390 (by decide) (Or.inl (by decide))) (by decide) rfl rfl ?_
                      refine qr_aload_n 217 rfl (qm_gk (qm_gk g387 (by decide) (Or.inl (by decide))) (by decide) (Or.inl (by decide))) rfl ?_
                      refine qr_dup 218 rfl rfl rfl ?_
                      refine qr_get 221 rfl rfl rfl (by decide) rfl ?_
                      refine qr_iconst 222 rfl rfl ?_
                      refine qr_iadd 223 rfl rfl ?_
                      refine qr_put 226 rfl (by decide) rfl (Nat.le_of_ble_eq_true rfl) (Nat.le_of_ble_eq_true rfl) (Or.inl rfl) (qr_fitI rfl _) rfl ?_
                      refine qy_wS (qw_s σ392 86 36 ((σ392 86 36) + 1)) rfl (fun σ460 e461 => ?_)
                      have hI462 : qI σ460 α κ ρ := by rw [e461]; exact qI_s hI394 86 36 rfl (show 0 ≤ ((σ392 86 36) + 1) ∧ ((σ392 86 36) + 1) ≤ 120 by omega)
                      have hF463 : qFr [(86, 36), (86, 38), (86, 39)] [] σ α σ460 α := by rw [e461]; exact qFr_s hF395 86 36 _ (by decide)
                      refine qr_goto 176 rfl rfl ?_
                      exact ih407 _ v459 (u391 + 1) σ460 (by omega) (qm_gk (qm_gk g387 (by decide) (Or.inl (by decide))) (by decide) (Or.inl (by decide))) (qm_gk (qm_ge _ _ _) (by decide) (Or.inr rfl)) (qm_ge _ _ _) hv459 (by omega) hI462 hF463 ((congrFun (congrFun e461 86) 37).trans ((hk396).trans rfl)) ((congrFun (congrFun e461 86) 38).trans ((hk397).trans rfl)) ((congrFun (congrFun e461 86) 39).trans ((hk398).trans rfl)) (by have hw0 : σ460 86 39 = (σ 86 39) := (congrFun (congrFun e461 86) 39).trans ((hk398).trans rfl); have hw1 : σ460 86 36 = ((σ392 86 36) + 1) := (congrFun (congrFun e461 86) 36).trans rfl; have hw2 : σ460 86 37 = (σ 86 37) := (congrFun (congrFun e461 86) 37).trans ((hk396).trans rfl); omega) (by have hw0 : σ460 86 39 = (σ 86 39) := (congrFun (congrFun e461 86) 39).trans ((hk398).trans rfl); have hw1 : σ460 86 36 = ((σ392 86 36) + 1) := (congrFun (congrFun e461 86) 36).trans rfl; have hw2 : σ460 86 37 = (σ 86 37) := (congrFun (congrFun e461 86) 37).trans ((hk396).trans rfl); omega) (by have hw0 : σ460 86 39 = (σ 86 39) := (congrFun (congrFun e461 86) 39).trans ((hk398).trans rfl); have hw1 : σ460 86 36 = ((σ392 86 36) + 1) := (congrFun (congrFun e461 86) 36).trans rfl; have hw2 : σ460 86 37 = (σ 86 37) := (congrFun (congrFun e461 86) 37).trans ((hk396).trans rfl); omega) (by have hw0 : σ460 86 39 = (σ 86 39) := (congrFun (congrFun e461 86) 39).trans ((hk398).trans rfl); have hw1 : σ460 86 36 = ((σ392 86 36) + 1) := (congrFun (congrFun e461 86) 36).trans rfl; have hw2 : σ460 86 37 = (σ 86 37) := (congrFun (congrFun e461 86) 37).trans ((hk396).trans rfl); omega) (by have hw0 : σ460 86 39 = (σ 86 39) := (congrFun (congrFun e461 86) 39).trans ((hk398).trans rfl); have hw1 : σ460 86 36 = ((σ392 86 36) + 1) := (congrFun (congrFun e461 86) 36).trans rfl; have hw2 : σ460 86 37 = (σ 86 37) := (congrFun (congrFun e461 86) 37).trans ((hk396).trans rfl); omega)
            exact hL406 ((4 - 0 + 1 : Int)).toNat _ 0 0 σ (by omega) rfl rfl rfl (by decide) (by decide) hI hF0 (rfl) (rfl) (rfl) (by have hw0 : σ 86 39 = (σ 86 39) := rfl; have hw1 : σ 86 36 = (σ 86 36) := rfl; have hw2 : σ 86 37 = (σ 86 37) := rfl; omega) (by have hw0 : σ 86 39 = (σ 86 39) := rfl; have hw1 : σ 86 36 = (σ 86 36) := rfl; have hw2 : σ 86 37 = (σ 86 37) := rfl; omega) (by have hw0 : σ 86 39 = (σ 86 39) := rfl; have hw1 : σ 86 36 = (σ 86 36) := rfl; have hw2 : σ 86 37 = (σ 86 37) := rfl; omega) (by have hw0 : σ 86 39 = (σ 86 39) := rfl; have hw1 : σ 86 36 = (σ 86 36) := rfl; have hw2 : σ 86 37 = (σ 86 37) := rfl; omega) (by have hw0 : σ 86 39 = (σ 86 39) := rfl; have hw1 : σ 86 36 = (σ 86 36) := rfl; have hw2 : σ 86 37 = (σ 86 37) := rfl; omega)
          · skip
            refine qr_aload_n 155 rfl rfl rfl ?_
            refine qr_dup 156 rfl rfl rfl ?_
            refine qr_get 159 rfl rfl rfl (by decide) rfl ?_
            refine qr_iconst 160 rfl rfl ?_
            refine qr_iadd 161 rfl rfl ?_
            refine qr_put 164 rfl (by decide) rfl (Nat.le_of_ble_eq_true rfl) (Nat.le_of_ble_eq_true rfl) (Or.inl rfl) (qr_fitI rfl _) rfl ?_
            refine qy_wS (qw_s σ 86 36 ((σ 86 36) + 1)) rfl (fun σ464 e465 => ?_)
            have hI466 : qI σ464 α κ ρ := by rw [e465]; exact qI_s hI 86 36 rfl (show 0 ≤ ((σ 86 36) + 1) ∧ ((σ 86 36) + 1) ≤ 120 by omega)
            have hF467 : qFr [(86, 36), (86, 38), (86, 39)] [] σ α σ464 α := by rw [e465]; exact qFr_s hF0 86 36 _ (by decide)
            refine qr_aload_n 165 rfl rfl rfl ?_
            refine qr_get 168 rfl rfl rfl (by decide) rfl ?_
            refine qr_iload_n 169 rfl rfl rfl ?_
            refine qr_iaload 170 rfl rfl (by omega) (by decide) rfl ?_
            refine qr_topI (fun v468 hv468 => ?_)
            have hs469 : (-2147483648) ≤ v468 ∧ v468 ≤ 2147483647 := by rw [hv468]; exact hI466.2.1 109 _ (show _ < 9 from qrgt hv113 (by decide) (by decide))
            refine qr_retI rfl rfl (by decide) (by decide) ?_
            have hw470 : σ464 86 36 = ((σ 86 36) + 1) := (congrFun (congrFun e465 86) 36).trans rfl
            have hw471 : σ464 86 37 = (σ 86 37) := (congrFun (congrFun e465 86) 37).trans rfl
            have hw472 : σ464 86 39 = (σ 86 39) := (congrFun (congrFun e465 86) 39).trans rfl
            exact ⟨_, rfl, hI466, hF467, v468, rfl, hs469, by omega⟩
        · skip
          refine qr_aload_n 33 rfl rfl rfl ?_
          refine qr_get 36 rfl rfl rfl (by decide) rfl ?_
          refine qr_bipush 38 rfl (by decide) rfl ?_
          refine qr_icmp_ne 46 41 rfl rfl rfl (qrg hz86_39 (by decide) (by decide)) (by decide) (fun h473 => ?_) (fun h473 => ?_)
          · skip
            refine qr_aload_n 47 rfl rfl rfl ?_
            refine qr_dup 48 rfl rfl rfl ?_
            refine qr_get 51 rfl rfl rfl (by decide) rfl ?_
            refine qr_iconst 52 rfl rfl ?_
            refine qr_iadd 53 rfl rfl ?_
            refine qr_put 56 rfl (by decide) rfl (Nat.le_of_ble_eq_true rfl) (Nat.le_of_ble_eq_true rfl) (Or.inl rfl) (qr_fitI rfl _) rfl ?_
            refine qy_wS (qw_s σ 86 39 ((σ 86 39) + 1)) rfl (fun σ474 e475 => ?_)
            have hI476 : qI σ474 α κ ρ := by rw [e475]; exact qI_s hI 86 39 rfl (show 0 ≤ ((σ 86 39) + 1) ∧ ((σ 86 39) + 1) ≤ 6 by omega)
            have hF477 : qFr [(86, 36), (86, 38), (86, 39)] [] σ α σ474 α := by rw [e475]; exact qFr_s hF0 86 39 _ (by decide)
            refine qr_aload_n 57 rfl rfl rfl ?_
            refine qr_dup 58 rfl rfl rfl ?_
            refine qr_get 61 rfl rfl rfl (by decide) rfl ?_
            refine qy_v (σ 86 36) ((congrFun (congrFun e475 86) 36).trans rfl) ?_
            refine qr_iconst 62 rfl rfl ?_
            refine qr_iadd 63 rfl rfl ?_
            refine qr_put 66 rfl (by decide) rfl (Nat.le_of_ble_eq_true rfl) (Nat.le_of_ble_eq_true rfl) (Or.inl rfl) (qr_fitI rfl _) rfl ?_
            refine qy_wS (qw_s σ474 86 36 ((σ 86 36) + 1)) rfl (fun σ478 e479 => ?_)
            have hI480 : qI σ478 α κ ρ := by rw [e479]; exact qI_s hI476 86 36 rfl (show 0 ≤ ((σ 86 36) + 1) ∧ ((σ 86 36) + 1) ≤ 120 by omega)
            have hF481 : qFr [(86, 36), (86, 38), (86, 39)] [] σ α σ478 α := by rw [e479]; exact qFr_s hF477 86 36 _ (by decide)
            refine qr_iload_n 67 rfl rfl rfl ?_
            refine qr_bipush 69 rfl (by decide) rfl ?_
            refine qr_icmp_ne 79 72 rfl rfl rfl hv3 (by decide) (fun h => False.elim (by omega)) (fun h482 => ?_)
            refine qr_aload_n 73 rfl rfl rfl ?_
            have hs483 : 0 ≤ σ478 86 36 ∧ σ478 86 36 ≤ 120 := hI480.1 86 36
            have hs484 : σ478 86 36 = ((σ 86 36) + 1) := (congrFun (congrFun e479 86) 36).trans rfl
            have hs485 : 0 ≤ σ478 86 37 ∧ σ478 86 37 ≤ 120 := hI480.1 86 37
            have hs486 : σ478 86 37 = (σ 86 37) := (congrFun (congrFun e479 86) 37).trans ((congrFun (congrFun e475 86) 37).trans rfl)
            have hs487 : 0 ≤ σ478 86 39 ∧ σ478 86 39 ≤ 6 := hI480.1 86 39
            have hs488 : σ478 86 39 = ((σ 86 39) + 1) := (congrFun (congrFun e479 86) 39).trans ((congrFun (congrFun e475 86) 39).trans rfl)
            refine qr_callN 76 rfl rfl rfl (sf_214_86o6 (d := d + 0) hI480 (by omega) (by omega)) ?_
            have hs491 : 0 ≤ σ478 86 36 ∧ σ478 86 36 ≤ 120 := hI480.1 86 36
            have hs492 : σ478 86 36 = ((σ 86 36) + 1) := (congrFun (congrFun e479 86) 36).trans rfl
            have hs493 : 0 ≤ σ478 86 37 ∧ σ478 86 37 ≤ 120 := hI480.1 86 37
            have hs494 : σ478 86 37 = (σ 86 37) := (congrFun (congrFun e479 86) 37).trans ((congrFun (congrFun e475 86) 37).trans rfl)
            have hs495 : 0 ≤ σ478 86 39 ∧ σ478 86 39 ≤ 6 := hI480.1 86 39
            have hs496 : σ478 86 39 = ((σ 86 39) + 1) := (congrFun (congrFun e479 86) 39).trans ((congrFun (congrFun e475 86) 39).trans rfl)
            rintro _ _ ⟨σ497, rfl, hI498, hG499, v489, rfl, hv489, hp490⟩
            have hF500 : qFr [(86, 36), (86, 38), (86, 39)] [] σ α σ497 α := qFr_t hF481 hG499 (by decide) (by decide)
            have hs501 : 0 ≤ σ497 86 36 ∧ σ497 86 36 ≤ 120 := hI498.1 86 36
            have hs502 : 0 ≤ σ497 86 37 ∧ σ497 86 37 ≤ 120 := hI498.1 86 37
            have hs503 : 0 ≤ σ497 86 39 ∧ σ497 86 39 ≤ 6 := hI498.1 86 39
            show qr_W (qe L xs vb) (d + 7) qx_e219 _ (76, _, [.int (qz v489)], qw σ497 α κ ρ, 0, 0)
            refine qr_goto 83 rfl rfl ?_
            refine qr_istore_n _ 84 rfl (by decide) rfl rfl ?_
            refine qr_iload_n 85 rfl rfl rfl ?_
            refine qr_bipush 87 rfl (by decide) rfl ?_
            refine qr_icmp_ne 104 90 rfl rfl rfl hv3 (by decide) (fun h => False.elim (by omega)) (fun h504 => ?_)
            refine qr_aload_n 91 rfl rfl rfl ?_
            refine qr_bipush 93 rfl (by decide) rfl ?_
            refine qr_callN 96 rfl rfl rfl (sf_222_86t (d := d + 5) hI498 (by decide) (by omega)) ?_
            have hs507 : 0 ≤ σ497 86 36 ∧ σ497 86 36 ≤ 120 := hI498.1 86 36
            have hs508 : 0 ≤ σ497 86 37 ∧ σ497 86 37 ≤ 120 := hI498.1 86 37
            have hs509 : σ497 86 37 = (σ 86 37) := (hG499.1 86 37 (by decide)).trans ((congrFun (congrFun e479 86) 37).trans ((congrFun (congrFun e475 86) 37).trans rfl))
            rintro _ _ ⟨σ510, rfl, hI511, hG512, v505, rfl, hv505, hp506⟩
            have hF513 : qFr [(86, 36), (86, 38), (86, 39)] [] σ α σ510 α := qFr_t hF500 hG512 (by decide) (by decide)
            have hs514 : 0 ≤ σ510 86 36 ∧ σ510 86 36 ≤ 120 := hI511.1 86 36
            show qr_W (qe L xs vb) (d + 7) qx_e219 _ (96, _, [.int (qz v505)], qw σ510 α κ ρ, 0, 0)
            refine qr_if_ne 104 99 rfl rfl rfl (qrg hv505 (by decide) (by decide)) (fun h515 => ?_) (fun h515 => ?_)
            · skip
              refine qr_aload_n 105 rfl rfl rfl ?_
              refine qr_dup 106 rfl rfl rfl ?_
              refine qr_get 109 rfl rfl rfl (by decide) rfl ?_
              refine qy_v (σ497 86 39) ((hG512.1 86 39 (by decide)).trans rfl) ?_
              refine qr_iconst 110 rfl rfl ?_
              refine qr_isub 111 rfl rfl ?_
              as_aux_lemma =>
                refine qr_put 114 rfl (by decide) rfl (Nat.le_of_ble_eq_true rfl) (Nat.le_of_ble_eq_true rfl) (Or.inl rfl) (qr_fitI rfl _) rfl ?_
                refine qy_wS (qw_s σ510 86 39 ((σ497 86 39) - 1)) rfl (fun σ516 e517 => ?_)
                have hI518 : qI σ516 α κ ρ := by rw [e517]; exact qI_s hI511 86 39 rfl (show 0 ≤ ((σ497 86 39) - 1) ∧ ((σ497 86 39) - 1) ≤ 6 by omega)
                have hF519 : qFr [(86, 36), (86, 38), (86, 39)] [] σ α σ516 α := by rw [e517]; exact qFr_s hF513 86 39 _ (by decide)
                refine qr_iload_n 115 rfl rfl rfl ?_
                refine qr_bipush 117 rfl (by decide) rfl ?_
                refine qr_icmp_ne 124 120 rfl rfl rfl hv3 (by decide) (fun h => False.elim (by omega)) (fun h520 => ?_)
                refine qr_iload_n 121 rfl rfl rfl ?_
                refine qr_goto 144 rfl rfl ?_
                refine qr_retI rfl rfl (by decide) (by decide) ?_
                have hw521 : σ516 86 36 = (σ510 86 36) := (congrFun (congrFun e517 86) 36).trans rfl
                have hw522 : σ516 86 37 = (σ 86 37) := (congrFun (congrFun e517 86) 37).trans ((hG512.1 86 37 (by decide)).trans ((hG499.1 86 37 (by decide)).trans ((congrFun (congrFun e479 86) 37).trans ((congrFun (congrFun e475 86) 37).trans rfl))))
                have hw523 : σ516 86 39 = ((σ497 86 39) - 1) := (congrFun (congrFun e517 86) 39).trans rfl
                exact ⟨_, rfl, hI518, hF519, v489, rfl, hv489, by omega⟩
            · skip
              refine qr_aload_n 100 rfl rfl rfl ?_
              refine qr_callN 103 rfl rfl rfl (sf_221_86 (d := d + 6) hI511 ) ?_
              rintro _ _ ⟨σ525, rfl, hI526, hG527, v524, rfl, hv524⟩
              have hF528 : qFr [(86, 36), (86, 38), (86, 39)] [] σ α σ525 α := qFr_t hF513 hG527 (by decide) (by decide)
              show qr_W (qe L xs vb) (d + 7) qx_e219 _ (103, _, [.int (qz v524)], qw σ525 α κ ρ, 0, 0)
              refine qr_retI rfl rfl (by decide) (by decide) ?_
              have hw529 : σ525 86 36 = (σ510 86 36) := (hG527.1 86 36 (by decide)).trans rfl
              have hw530 : σ525 86 37 = (σ 86 37) := (hG527.1 86 37 (by decide)).trans ((hG512.1 86 37 (by decide)).trans ((hG499.1 86 37 (by decide)).trans ((congrFun (congrFun e479 86) 37).trans ((congrFun (congrFun e475 86) 37).trans rfl))))
              have hw531 : σ525 86 39 = (σ497 86 39) := (hG527.1 86 39 (by decide)).trans ((hG512.1 86 39 (by decide)).trans rfl)
              exact ⟨_, rfl, hI526, hF528, v524, rfl, (qrg hv524 (by decide) (by decide)), by omega⟩
          · skip
            refine qr_aload_n 42 rfl rfl rfl ?_
            refine qr_callN 45 rfl rfl rfl (sf_221_86 (d := d + 6) hI ) ?_
            rintro _ _ ⟨σ533, rfl, hI534, hG535, v532, rfl, hv532⟩
            have hF536 : qFr [(86, 36), (86, 38), (86, 39)] [] σ α σ533 α := qFr_t hF0 hG535 (by decide) (by decide)
            show qr_W (qe L xs vb) (d + 7) qx_e219 _ (45, _, [.int (qz v532)], qw σ533 α κ ρ, 0, 0)
            refine qr_retI rfl rfl (by decide) (by decide) ?_
            have hw537 : σ533 86 36 = (σ 86 36) := (hG535.1 86 36 (by decide)).trans rfl
            have hw538 : σ533 86 37 = (σ 86 37) := (hG535.1 86 37 (by decide)).trans rfl
            have hw539 : σ533 86 39 = (σ 86 39) := (hG535.1 86 39 (by decide)).trans rfl
            exact ⟨_, rfl, hI534, hF536, v532, rfl, (qrg hv532 (by decide) (by decide)), by omega⟩
  · skip
    refine qr_iconst 8 rfl rfl ?_
    refine qr_retI rfl rfl (by decide) (by decide) ?_
    have hw540 : σ 86 36 = (σ 86 36) := rfl
    have hw541 : σ 86 37 = (σ 86 37) := rfl
    have hw542 : σ 86 39 = (σ 86 39) := rfl
    exact ⟨_, rfl, hI, hF0, 0, rfl, (by decide), by omega⟩

set_option maxHeartbeats 4000000 in
set_option maxRecDepth 20000 in
/-- OneRoofModel.product -/
theorem sf_218_86o5 {L : Nat} {xs : Nat → Int} {vb : Bool} {d : Nat} {σ α : Nat → Nat → Int} {κ : Nat → Option Nat} {ρ : Nat}  (hI : qI σ α κ ρ) (p0 : 5 ≤ σ 86 39) (p1 : σ 86 36 ≤ σ 86 37) : qm_T (qe L xs vb) (d + 9) 218 [.ref 86] (qw σ α κ ρ) (fun r w' => ∃ σ', w' = qw σ' α κ ρ ∧ qI σ' α κ ρ ∧ qFr [(86, 36), (86, 38), (86, 39)] [] σ α σ' α ∧ ∃ v : Int, r = some (.int (qz v)) ∧ ((-2147483648) ≤ v ∧ v ≤ 2147483647) ∧ σ 86 39 ≤ σ' 86 39 ∧ σ 86 36 ≤ σ' 86 36 ∧ σ' 86 36 ≤ σ' 86 37 ∧ σ' 86 37 = σ 86 37) := by
  refine qr_start (d := d + 8) qv_e218 (Nat.le_of_ble_eq_true rfl) ?_
  show qr_W (qe L xs vb) (d + 8) qx_e218 _ (0, [(0, .ref 86)], [], _, 0, 0)
  have hF0 := qFr_rf [(86, 36), (86, 38), (86, 39)] [] σ α
  have hz86_39 : 0 ≤ σ 86 39 ∧ σ 86 39 ≤ 6 := hI.1 86 39
  have hz86_36 : 0 ≤ σ 86 36 ∧ σ 86 36 ≤ 120 := hI.1 86 36
  have hz86_37 : 0 ≤ σ 86 37 ∧ σ 86 37 ≤ 120 := hI.1 86 37
  refine qr_aload_n 1 rfl rfl rfl ?_
  have hs1 : 0 ≤ σ 86 36 ∧ σ 86 36 ≤ 120 := hI.1 86 36
  have hs2 : 0 ≤ σ 86 37 ∧ σ 86 37 ≤ 120 := hI.1 86 37
  have hs3 : 0 ≤ σ 86 39 ∧ σ 86 39 ≤ 6 := hI.1 86 39
  refine qr_callN 4 rfl rfl rfl (sf_219_86o5 (d := d + 0) hI (by omega) (by omega)) ?_
  have hs6 : 0 ≤ σ 86 36 ∧ σ 86 36 ≤ 120 := hI.1 86 36
  have hs7 : 0 ≤ σ 86 37 ∧ σ 86 37 ≤ 120 := hI.1 86 37
  have hs8 : 0 ≤ σ 86 39 ∧ σ 86 39 ≤ 6 := hI.1 86 39
  rintro _ _ ⟨σ9, rfl, hI10, hG11, v4, rfl, hv4, hp5⟩
  have hF12 : qFr [(86, 36), (86, 38), (86, 39)] [] σ α σ9 α := qFr_t hF0 hG11 (by decide) (by decide)
  have hs13 : 0 ≤ σ9 86 36 ∧ σ9 86 36 ≤ 120 := hI10.1 86 36
  have hs14 : 0 ≤ σ9 86 37 ∧ σ9 86 37 ≤ 120 := hI10.1 86 37
  have hs15 : 0 ≤ σ9 86 39 ∧ σ9 86 39 ≤ 6 := hI10.1 86 39
  show qr_W (qe L xs vb) (d + 8) qx_e218 _ (4, _, [.int (qz v4)], qw σ9 α κ ρ, 0, 0)
  refine qr_istore_n _ 5 rfl (by decide) rfl rfl ?_
  refine qr_aload_n 6 rfl rfl rfl ?_
  refine qr_callN 9 rfl rfl rfl (sf_220_86t (d := d + 7) hI10 ) ?_
  have hs18 : 0 ≤ σ9 86 36 ∧ σ9 86 36 ≤ 120 := hI10.1 86 36
  have hs19 : 0 ≤ σ9 86 37 ∧ σ9 86 37 ≤ 120 := hI10.1 86 37
  have hs20 : σ9 86 37 = (σ 86 37) := (hG11.1 86 37 (by decide)).trans rfl
  rintro _ _ ⟨rfl, v16, rfl, hv16, hp17⟩
  show qr_W (qe L xs vb) (d + 8) qx_e218 _ (9, _, [.int (qz v16)], qw σ9 α κ ρ, 0, 0)
  refine qr_istore_n _ 10 rfl (by decide) rfl rfl ?_
  have hL459 : ∀ (n : Nat) (ls : qm_L) (u443 u445 : Int) (σ446 : Nat → Nat → Int), ((120 - σ446 86 36).toNat : Int) < (n : Int) → qm_get ls 0 = some (.ref 86) → qm_get ls 1 = some (.int (qz u443)) → qm_get ls 2 = some (.int (qz u445)) → ((-2147483648) ≤ u443 ∧ u443 ≤ 2147483647) → ((-2147483648) ≤ u445 ∧ u445 ≤ 2147483647) → qI σ446 α κ ρ → qFr [(86, 36), (86, 38), (86, 39)] [] σ α σ446 α → σ446 86 37 = (σ 86 37) → 5 ≤ σ446 86 39 → σ 86 39 ≤ σ446 86 39 → σ 86 36 ≤ σ446 86 36 → σ446 86 36 ≤ σ446 86 37 → σ446 86 37 = σ 86 37 → (u445 = 0 ∨ σ446 86 36 < σ446 86 37) → qr_W (qe L xs vb) (d + 8) qx_e218 (fun r w' => ∃ σ', w' = qw σ' α κ ρ ∧ qI σ' α κ ρ ∧ qFr [(86, 36), (86, 38), (86, 39)] [] σ α σ' α ∧ ∃ v : Int, r = some (.int (qz v)) ∧ ((-2147483648) ≤ v ∧ v ≤ 2147483647) ∧ σ 86 39 ≤ σ' 86 39 ∧ σ 86 36 ≤ σ' 86 36 ∧ σ' 86 36 ≤ σ' 86 37 ∧ σ' 86 37 = σ 86 37) (10, ls, [], qw σ446 α κ ρ, 0, 0) := by
    intro n
    induction n with
    | zero => intro ls u443 u445 σ446 hm g441 g442 g444 hf451 hf452 hI448 hF449 hk450 hx453 hx454 hx455 hx456 hx457 hx458; exact False.elim (by omega)
    | succ n ih460 =>
      intro ls u443 u445 σ446 hm g441 g442 g444 hf451 hf452 hI448 hF449 hk450 hx453 hx454 hx455 hx456 hx457 hx458
      have hs461 : 0 ≤ σ446 86 39 ∧ σ446 86 39 ≤ 6 := hI448.1 86 39
      have hs462 : 0 ≤ σ446 86 36 ∧ σ446 86 36 ≤ 120 := hI448.1 86 36
      have hs463 : 0 ≤ σ446 86 37 ∧ σ446 86 37 ≤ 120 := hI448.1 86 37
      refine qr_aload_n 11 rfl g441 rfl ?_
      refine qr_get 14 rfl rfl rfl (by decide) rfl ?_
      have hs464 : (-1) ≤ σ446 86 38 ∧ σ446 86 38 ≤ 120 := hI448.1 86 38
      refine qr_if_ge 94 17 rfl rfl rfl (qrg hs464 (by decide) (by decide)) (fun h465 => ?_) (fun h465 => ?_)
      · skip
        refine qr_iload_n 95 rfl g442 rfl ?_
        refine qr_retI rfl rfl (by decide) (by decide) ?_
        have hw466 : σ446 86 36 = (σ446 86 36) := rfl
        have hw467 : σ446 86 37 = (σ 86 37) := (hk450).trans rfl
        have hw468 : σ446 86 39 = (σ446 86 39) := rfl
        exact ⟨_, rfl, hI448, hF449, u443, rfl, hf451, by omega⟩
      · skip
        refine qr_iload_n 18 rfl g444 rfl ?_
        refine qr_bipush 20 rfl (by decide) rfl ?_
        refine qr_icmp_eq 35 23 rfl rfl rfl hf452 (by decide) (fun h469 => ?_) (fun h469 => ?_)
        · skip
          refine qr_aload_n 36 rfl g441 rfl ?_
          refine qr_dup 37 rfl rfl rfl ?_
          refine qr_get 40 rfl rfl rfl (by decide) rfl ?_
          refine qr_iconst 41 rfl rfl ?_
          refine qr_iadd 42 rfl rfl ?_
          refine qr_put 45 rfl (by decide) rfl (Nat.le_of_ble_eq_true rfl) (Nat.le_of_ble_eq_true rfl) (Or.inl rfl) (qr_fitI rfl _) rfl ?_
          refine qy_wS (qw_s σ446 86 36 ((σ446 86 36) + 1)) rfl (fun σ470 e471 => ?_)
          have hI472 : qI σ470 α κ ρ := by rw [e471]; exact qI_s hI448 86 36 rfl (show 0 ≤ ((σ446 86 36) + 1) ∧ ((σ446 86 36) + 1) ≤ 120 by omega)
          have hF473 : qFr [(86, 36), (86, 38), (86, 39)] [] σ α σ470 α := by rw [e471]; exact qFr_s hF449 86 36 _ (by decide)
          refine qr_aload_n 46 rfl g441 rfl ?_
          have hs474 : 0 ≤ σ470 86 36 ∧ σ470 86 36 ≤ 120 := hI472.1 86 36
          have hs475 : σ470 86 36 = ((σ446 86 36) + 1) := (congrFun (congrFun e471 86) 36).trans rfl
          have hs476 : 0 ≤ σ470 86 37 ∧ σ470 86 37 ≤ 120 := hI472.1 86 37
          have hs477 : σ470 86 37 = (σ 86 37) := (congrFun (congrFun e471 86) 37).trans ((hk450).trans rfl)
          have hs478 : 0 ≤ σ470 86 39 ∧ σ470 86 39 ≤ 6 := hI472.1 86 39
          have hs479 : σ470 86 39 = (σ446 86 39) := (congrFun (congrFun e471 86) 39).trans rfl
          refine qr_callN 49 rfl rfl rfl (sf_219_86o5 (d := d + 0) hI472 (by omega) (by omega)) ?_
          have hs482 : 0 ≤ σ470 86 36 ∧ σ470 86 36 ≤ 120 := hI472.1 86 36
          have hs483 : σ470 86 36 = ((σ446 86 36) + 1) := (congrFun (congrFun e471 86) 36).trans rfl
          have hs484 : 0 ≤ σ470 86 37 ∧ σ470 86 37 ≤ 120 := hI472.1 86 37
          have hs485 : σ470 86 37 = (σ 86 37) := (congrFun (congrFun e471 86) 37).trans ((hk450).trans rfl)
          have hs486 : 0 ≤ σ470 86 39 ∧ σ470 86 39 ≤ 6 := hI472.1 86 39
          have hs487 : σ470 86 39 = (σ446 86 39) := (congrFun (congrFun e471 86) 39).trans rfl
          rintro _ _ ⟨σ488, rfl, hI489, hG490, v480, rfl, hv480, hp481⟩
          have hF491 : qFr [(86, 36), (86, 38), (86, 39)] [] σ α σ488 α := qFr_t hF473 hG490 (by decide) (by decide)
          have hs492 : 0 ≤ σ488 86 36 ∧ σ488 86 36 ≤ 120 := hI489.1 86 36
          have hs493 : 0 ≤ σ488 86 37 ∧ σ488 86 37 ≤ 120 := hI489.1 86 37
          have hs494 : 0 ≤ σ488 86 39 ∧ σ488 86 39 ≤ 6 := hI489.1 86 39
          show qr_W (qe L xs vb) (d + 8) qx_e218 _ (49, _, [.int (qz v480)], qw σ488 α κ ρ, 0, 0)
          refine qr_istore_n _ 50 rfl (by decide) rfl rfl ?_
          refine qr_iload_n 51 rfl (qm_gk g444 (by decide) (Or.inr rfl)) rfl ?_
          refine qr_bipush 53 rfl (by decide) rfl ?_
          refine qr_icmp_ne 62 56 rfl rfl rfl hf452 (by decide) (fun h => False.elim (by omega)) (fun h495 => ?_)
          refine qr_iload_n 57 rfl (qm_gk g442 (by decide) (Or.inl (by decide))) rfl ?_
          refine qr_iload_n 58 rfl (qm_ge _ _ _) rfl ?_
          refine qr_imul 59 rfl rfl ?_
          refine qy_can (fun v496 hv496 => ?_)
          refine qr_goto 85 rfl rfl ?_
          refine qr_istore_n _ 86 rfl (by decide) rfl rfl ?_
          refine qr_aload_n 87 rfl (qm_gk (qm_gk g441 (by decide) (Or.inl (by decide))) (by decide) (Or.inr rfl)) rfl ?_
          refine qr_callN 90 rfl rfl rfl (sf_220_86t (d := d + 7) hI489 ) ?_
          have hs499 : 0 ≤ σ488 86 36 ∧ σ488 86 36 ≤ 120 := hI489.1 86 36
          have hs500 : 0 ≤ σ488 86 37 ∧ σ488 86 37 ≤ 120 := hI489.1 86 37
          have hs501 : σ488 86 37 = (σ 86 37) := (hG490.1 86 37 (by decide)).trans ((congrFun (congrFun e471 86) 37).trans ((hk450).trans rfl))
          rintro _ _ ⟨rfl, v497, rfl, hv497, hp498⟩
          show qr_W (qe L xs vb) (d + 8) qx_e218 _ (90, _, [.int (qz v497)], qw σ488 α κ ρ, 0, 0)
          refine qr_istore_n _ 91 rfl (by decide) rfl rfl ?_
          refine qr_goto 10 rfl rfl ?_
          exact ih460 _ v496 v497 σ488 (by omega) (qm_gk (qm_gk (qm_gk g441 (by decide) (Or.inl (by decide))) (by decide) (Or.inr rfl)) (by decide) (Or.inl (by decide))) (qm_gk (qm_ge _ _ _) (by decide) (Or.inr rfl)) (qm_ge _ _ _) hv496 hv497 hI489 hF491 ((hG490.1 86 37 (by decide)).trans ((congrFun (congrFun e471 86) 37).trans ((hk450).trans rfl))) (by have hw0 : σ488 86 39 = (σ488 86 39) := rfl; have hw1 : σ488 86 36 = (σ488 86 36) := rfl; have hw2 : σ488 86 37 = (σ 86 37) := (hG490.1 86 37 (by decide)).trans ((congrFun (congrFun e471 86) 37).trans ((hk450).trans rfl)); omega) (by have hw0 : σ488 86 39 = (σ488 86 39) := rfl; have hw1 : σ488 86 36 = (σ488 86 36) := rfl; have hw2 : σ488 86 37 = (σ 86 37) := (hG490.1 86 37 (by decide)).trans ((congrFun (congrFun e471 86) 37).trans ((hk450).trans rfl)); omega) (by have hw0 : σ488 86 39 = (σ488 86 39) := rfl; have hw1 : σ488 86 36 = (σ488 86 36) := rfl; have hw2 : σ488 86 37 = (σ 86 37) := (hG490.1 86 37 (by decide)).trans ((congrFun (congrFun e471 86) 37).trans ((hk450).trans rfl)); omega) (by have hw0 : σ488 86 39 = (σ488 86 39) := rfl; have hw1 : σ488 86 36 = (σ488 86 36) := rfl; have hw2 : σ488 86 37 = (σ 86 37) := (hG490.1 86 37 (by decide)).trans ((congrFun (congrFun e471 86) 37).trans ((hk450).trans rfl)); omega) (by have hw0 : σ488 86 39 = (σ488 86 39) := rfl; have hw1 : σ488 86 36 = (σ488 86 36) := rfl; have hw2 : σ488 86 37 = (σ 86 37) := (hG490.1 86 37 (by decide)).trans ((congrFun (congrFun e471 86) 37).trans ((hk450).trans rfl)); omega) (by have hw0 : σ488 86 39 = (σ488 86 39) := rfl; have hw1 : σ488 86 36 = (σ488 86 36) := rfl; have hw2 : σ488 86 37 = (σ 86 37) := (hG490.1 86 37 (by decide)).trans ((congrFun (congrFun e471 86) 37).trans ((hk450).trans rfl)); omega)
        · skip
          refine qr_iload_n 24 rfl g444 rfl ?_
          refine qr_bipush 26 rfl (by decide) rfl ?_
          refine qr_icmp_eq 35 29 rfl rfl rfl hf452 (by decide) (fun h502 => ?_) (fun h502 => ?_)
          · skip
            refine qr_aload_n 36 rfl g441 rfl ?_
            refine qr_dup 37 rfl rfl rfl ?_
            refine qr_get 40 rfl rfl rfl (by decide) rfl ?_
            refine qr_iconst 41 rfl rfl ?_
            refine qr_iadd 42 rfl rfl ?_
            refine qr_put 45 rfl (by decide) rfl (Nat.le_of_ble_eq_true rfl) (Nat.le_of_ble_eq_true rfl) (Or.inl rfl) (qr_fitI rfl _) rfl ?_
            refine qy_wS (qw_s σ446 86 36 ((σ446 86 36) + 1)) rfl (fun σ503 e504 => ?_)
            have hI505 : qI σ503 α κ ρ := by rw [e504]; exact qI_s hI448 86 36 rfl (show 0 ≤ ((σ446 86 36) + 1) ∧ ((σ446 86 36) + 1) ≤ 120 by omega)
            have hF506 : qFr [(86, 36), (86, 38), (86, 39)] [] σ α σ503 α := by rw [e504]; exact qFr_s hF449 86 36 _ (by decide)
            refine qr_aload_n 46 rfl g441 rfl ?_
            have hs507 : 0 ≤ σ503 86 36 ∧ σ503 86 36 ≤ 120 := hI505.1 86 36
            have hs508 : σ503 86 36 = ((σ446 86 36) + 1) := (congrFun (congrFun e504 86) 36).trans rfl
            have hs509 : 0 ≤ σ503 86 37 ∧ σ503 86 37 ≤ 120 := hI505.1 86 37
            have hs510 : σ503 86 37 = (σ 86 37) := (congrFun (congrFun e504 86) 37).trans ((hk450).trans rfl)
            have hs511 : 0 ≤ σ503 86 39 ∧ σ503 86 39 ≤ 6 := hI505.1 86 39
            have hs512 : σ503 86 39 = (σ446 86 39) := (congrFun (congrFun e504 86) 39).trans rfl
            refine qr_callN 49 rfl rfl rfl (sf_219_86o5 (d := d + 0) hI505 (by omega) (by omega)) ?_
            have hs515 : 0 ≤ σ503 86 36 ∧ σ503 86 36 ≤ 120 := hI505.1 86 36
            have hs516 : σ503 86 36 = ((σ446 86 36) + 1) := (congrFun (congrFun e504 86) 36).trans rfl
            have hs517 : 0 ≤ σ503 86 37 ∧ σ503 86 37 ≤ 120 := hI505.1 86 37
            have hs518 : σ503 86 37 = (σ 86 37) := (congrFun (congrFun e504 86) 37).trans ((hk450).trans rfl)
            have hs519 : 0 ≤ σ503 86 39 ∧ σ503 86 39 ≤ 6 := hI505.1 86 39
            have hs520 : σ503 86 39 = (σ446 86 39) := (congrFun (congrFun e504 86) 39).trans rfl
            rintro _ _ ⟨σ521, rfl, hI522, hG523, v513, rfl, hv513, hp514⟩
            have hF524 : qFr [(86, 36), (86, 38), (86, 39)] [] σ α σ521 α := qFr_t hF506 hG523 (by decide) (by decide)
            have hs525 : 0 ≤ σ521 86 36 ∧ σ521 86 36 ≤ 120 := hI522.1 86 36
            have hs526 : 0 ≤ σ521 86 37 ∧ σ521 86 37 ≤ 120 := hI522.1 86 37
            have hs527 : 0 ≤ σ521 86 39 ∧ σ521 86 39 ≤ 6 := hI522.1 86 39
            show qr_W (qe L xs vb) (d + 8) qx_e218 _ (49, _, [.int (qz v513)], qw σ521 α κ ρ, 0, 0)
            refine qr_istore_n _ 50 rfl (by decide) rfl rfl ?_
            refine qr_iload_n 51 rfl (qm_gk g444 (by decide) (Or.inr rfl)) rfl ?_
            refine qr_bipush 53 rfl (by decide) rfl ?_
            refine qr_icmp_ne 62 56 rfl rfl rfl hf452 (by decide) (fun h528 => ?_) (fun h => False.elim (by omega))
            refine qr_iload_n 63 rfl (qm_ge _ _ _) rfl ?_
            have hJ533 : ∀ (ls : qm_L) (u531 : Int), qm_get ls 0 = some (.ref 86) → ((-2147483648) ≤ u531 ∧ u531 ≤ 2147483647) → qr_W (qe L xs vb) (d + 8) qx_e218 (fun r w' => ∃ σ', w' = qw σ' α κ ρ ∧ qI σ' α κ ρ ∧ qFr [(86, 36), (86, 38), (86, 39)] [] σ α σ' α ∧ ∃ v : Int, r = some (.int (qz v)) ∧ ((-2147483648) ≤ v ∧ v ≤ 2147483647) ∧ σ 86 39 ≤ σ' 86 39 ∧ σ 86 36 ≤ σ' 86 36 ∧ σ' 86 36 ≤ σ' 86 37 ∧ σ' 86 37 = σ 86 37) (85, ls, [.int (qz u531)], qw σ521 α κ ρ, 0, 0) := by
              intro ls u531 g530 hf532
              refine qr_istore_n _ 86 rfl (by decide) rfl rfl ?_
              refine qr_aload_n 87 rfl (qm_gk g530 (by decide) (Or.inr rfl)) rfl ?_
              refine qr_callN 90 rfl rfl rfl (sf_220_86t (d := d + 7) hI522 ) ?_
              have hs536 : 0 ≤ σ521 86 36 ∧ σ521 86 36 ≤ 120 := hI522.1 86 36
              have hs537 : 0 ≤ σ521 86 37 ∧ σ521 86 37 ≤ 120 := hI522.1 86 37
              have hs538 : σ521 86 37 = (σ 86 37) := (hG523.1 86 37 (by decide)).trans ((congrFun (congrFun e504 86) 37).trans ((hk450).trans rfl))
              rintro _ _ ⟨rfl, v534, rfl, hv534, hp535⟩
              show qr_W (qe L xs vb) (d + 8) qx_e218 _ (90, _, [.int (qz v534)], qw σ521 α κ ρ, 0, 0)
              refine qr_istore_n _ 91 rfl (by decide) rfl rfl ?_
              refine qr_goto 10 rfl rfl ?_
              exact ih460 _ u531 v534 σ521 (by omega) (qm_gk (qm_gk g530 (by decide) (Or.inr rfl)) (by decide) (Or.inl (by decide))) (qm_gk (qm_ge _ _ _) (by decide) (Or.inr rfl)) (qm_ge _ _ _) hf532 hv534 hI522 hF524 ((hG523.1 86 37 (by decide)).trans ((congrFun (congrFun e504 86) 37).trans ((hk450).trans rfl))) (by have hw0 : σ521 86 39 = (σ521 86 39) := rfl; have hw1 : σ521 86 36 = (σ521 86 36) := rfl; have hw2 : σ521 86 37 = (σ 86 37) := (hG523.1 86 37 (by decide)).trans ((congrFun (congrFun e504 86) 37).trans ((hk450).trans rfl)); omega) (by have hw0 : σ521 86 39 = (σ521 86 39) := rfl; have hw1 : σ521 86 36 = (σ521 86 36) := rfl; have hw2 : σ521 86 37 = (σ 86 37) := (hG523.1 86 37 (by decide)).trans ((congrFun (congrFun e504 86) 37).trans ((hk450).trans rfl)); omega) (by have hw0 : σ521 86 39 = (σ521 86 39) := rfl; have hw1 : σ521 86 36 = (σ521 86 36) := rfl; have hw2 : σ521 86 37 = (σ 86 37) := (hG523.1 86 37 (by decide)).trans ((congrFun (congrFun e504 86) 37).trans ((hk450).trans rfl)); omega) (by have hw0 : σ521 86 39 = (σ521 86 39) := rfl; have hw1 : σ521 86 36 = (σ521 86 36) := rfl; have hw2 : σ521 86 37 = (σ 86 37) := (hG523.1 86 37 (by decide)).trans ((congrFun (congrFun e504 86) 37).trans ((hk450).trans rfl)); omega) (by have hw0 : σ521 86 39 = (σ521 86 39) := rfl; have hw1 : σ521 86 36 = (σ521 86 36) := rfl; have hw2 : σ521 86 37 = (σ 86 37) := (hG523.1 86 37 (by decide)).trans ((congrFun (congrFun e504 86) 37).trans ((hk450).trans rfl)); omega) (by have hw0 : σ521 86 39 = (σ521 86 39) := rfl; have hw1 : σ521 86 36 = (σ521 86 36) := rfl; have hw2 : σ521 86 37 = (σ 86 37) := (hG523.1 86 37 (by decide)).trans ((congrFun (congrFun e504 86) 37).trans ((hk450).trans rfl)); omega)
            refine qr_if_ne 70 66 rfl rfl rfl hv513 (fun h539 => ?_) (fun h539 => ?_)
            · skip
              refine qr_iload_n 71 rfl (qm_gk g444 (by decide) (Or.inr rfl)) rfl ?_
              refine qr_bipush 73 rfl (by decide) rfl ?_
              refine qr_icmp_ne 82 76 rfl rfl rfl hf452 (by decide) (fun h => False.elim (by omega)) (fun h540 => ?_)
              refine qr_iload_n 77 rfl (qm_gk g442 (by decide) (Or.inl (by decide))) rfl ?_
              refine qr_iload_n 78 rfl (qm_ge _ _ _) rfl ?_
              refine qr_idivW 79 rfl (by omega) rfl ?_
              refine qy_can (fun v541 hv541 => ?_)
              refine qr_goto 85 rfl rfl ?_
              exact hJ533 _ v541 (qm_gk g441 (by decide) (Or.inl (by decide))) hv541
            · skip
              refine qr_iconst 67 rfl rfl ?_
              refine qr_goto 85 rfl rfl ?_
              exact hJ533 _ 0 (qm_gk g441 (by decide) (Or.inl (by decide))) (by decide)
          · skip
            refine qr_iload_n 30 rfl g444 rfl ?_
            refine qr_bipush 32 rfl (by decide) rfl ?_
            refine qr_icmp_ne 94 35 rfl rfl rfl hf452 (by decide) (fun h542 => ?_) (fun h542 => ?_)
            · skip
              refine qr_iload_n 95 rfl g442 rfl ?_
              refine qr_retI rfl rfl (by decide) (by decide) ?_
              have hw543 : σ446 86 36 = (σ446 86 36) := rfl
              have hw544 : σ446 86 37 = (σ 86 37) := (hk450).trans rfl
              have hw545 : σ446 86 39 = (σ446 86 39) := rfl
              exact ⟨_, rfl, hI448, hF449, u443, rfl, hf451, by omega⟩
            · skip
              refine qr_aload_n 36 rfl g441 rfl ?_
              refine qr_dup 37 rfl rfl rfl ?_
              refine qr_get 40 rfl rfl rfl (by decide) rfl ?_
              refine qr_iconst 41 rfl rfl ?_
              refine qr_iadd 42 rfl rfl ?_
              refine qr_put 45 rfl (by decide) rfl (Nat.le_of_ble_eq_true rfl) (Nat.le_of_ble_eq_true rfl) (Or.inl rfl) (qr_fitI rfl _) rfl ?_
              refine qy_wS (qw_s σ446 86 36 ((σ446 86 36) + 1)) rfl (fun σ546 e547 => ?_)
              have hI548 : qI σ546 α κ ρ := by rw [e547]; exact qI_s hI448 86 36 rfl (show 0 ≤ ((σ446 86 36) + 1) ∧ ((σ446 86 36) + 1) ≤ 120 by omega)
              have hF549 : qFr [(86, 36), (86, 38), (86, 39)] [] σ α σ546 α := by rw [e547]; exact qFr_s hF449 86 36 _ (by decide)
              refine qr_aload_n 46 rfl g441 rfl ?_
              have hs550 : 0 ≤ σ546 86 36 ∧ σ546 86 36 ≤ 120 := hI548.1 86 36
              have hs551 : σ546 86 36 = ((σ446 86 36) + 1) := (congrFun (congrFun e547 86) 36).trans rfl
              have hs552 : 0 ≤ σ546 86 37 ∧ σ546 86 37 ≤ 120 := hI548.1 86 37
              have hs553 : σ546 86 37 = (σ 86 37) := (congrFun (congrFun e547 86) 37).trans ((hk450).trans rfl)
              have hs554 : 0 ≤ σ546 86 39 ∧ σ546 86 39 ≤ 6 := hI548.1 86 39
              have hs555 : σ546 86 39 = (σ446 86 39) := (congrFun (congrFun e547 86) 39).trans rfl
              refine qr_callN 49 rfl rfl rfl (sf_219_86o5 (d := d + 0) hI548 (by omega) (by omega)) ?_
              have hs558 : 0 ≤ σ546 86 36 ∧ σ546 86 36 ≤ 120 := hI548.1 86 36
              have hs559 : σ546 86 36 = ((σ446 86 36) + 1) := (congrFun (congrFun e547 86) 36).trans rfl
              have hs560 : 0 ≤ σ546 86 37 ∧ σ546 86 37 ≤ 120 := hI548.1 86 37
              have hs561 : σ546 86 37 = (σ 86 37) := (congrFun (congrFun e547 86) 37).trans ((hk450).trans rfl)
              have hs562 : 0 ≤ σ546 86 39 ∧ σ546 86 39 ≤ 6 := hI548.1 86 39
              have hs563 : σ546 86 39 = (σ446 86 39) := (congrFun (congrFun e547 86) 39).trans rfl
              rintro _ _ ⟨σ564, rfl, hI565, hG566, v556, rfl, hv556, hp557⟩
              have hF567 : qFr [(86, 36), (86, 38), (86, 39)] [] σ α σ564 α := qFr_t hF549 hG566 (by decide) (by decide)
              have hs568 : 0 ≤ σ564 86 36 ∧ σ564 86 36 ≤ 120 := hI565.1 86 36
              have hs569 : 0 ≤ σ564 86 37 ∧ σ564 86 37 ≤ 120 := hI565.1 86 37
              have hs570 : 0 ≤ σ564 86 39 ∧ σ564 86 39 ≤ 6 := hI565.1 86 39
              show qr_W (qe L xs vb) (d + 8) qx_e218 _ (49, _, [.int (qz v556)], qw σ564 α κ ρ, 0, 0)
              refine qr_istore_n _ 50 rfl (by decide) rfl rfl ?_
              refine qr_iload_n 51 rfl (qm_gk g444 (by decide) (Or.inr rfl)) rfl ?_
              refine qr_bipush 53 rfl (by decide) rfl ?_
              refine qr_icmp_ne 62 56 rfl rfl rfl hf452 (by decide) (fun h571 => ?_) (fun h => False.elim (by omega))
              refine qr_iload_n 63 rfl (qm_ge _ _ _) rfl ?_
              have hJ576 : ∀ (ls : qm_L) (u574 : Int), qm_get ls 0 = some (.ref 86) → ((-2147483648) ≤ u574 ∧ u574 ≤ 2147483647) → qr_W (qe L xs vb) (d + 8) qx_e218 (fun r w' => ∃ σ', w' = qw σ' α κ ρ ∧ qI σ' α κ ρ ∧ qFr [(86, 36), (86, 38), (86, 39)] [] σ α σ' α ∧ ∃ v : Int, r = some (.int (qz v)) ∧ ((-2147483648) ≤ v ∧ v ≤ 2147483647) ∧ σ 86 39 ≤ σ' 86 39 ∧ σ 86 36 ≤ σ' 86 36 ∧ σ' 86 36 ≤ σ' 86 37 ∧ σ' 86 37 = σ 86 37) (85, ls, [.int (qz u574)], qw σ564 α κ ρ, 0, 0) := by
                intro ls u574 g573 hf575
                refine qr_istore_n _ 86 rfl (by decide) rfl rfl ?_
                refine qr_aload_n 87 rfl (qm_gk g573 (by decide) (Or.inr rfl)) rfl ?_
                refine qr_callN 90 rfl rfl rfl (sf_220_86t (d := d + 7) hI565 ) ?_
                have hs579 : 0 ≤ σ564 86 36 ∧ σ564 86 36 ≤ 120 := hI565.1 86 36
                have hs580 : 0 ≤ σ564 86 37 ∧ σ564 86 37 ≤ 120 := hI565.1 86 37
                have hs581 : σ564 86 37 = (σ 86 37) := (hG566.1 86 37 (by decide)).trans ((congrFun (congrFun e547 86) 37).trans ((hk450).trans rfl))
                rintro _ _ ⟨rfl, v577, rfl, hv577, hp578⟩
                show qr_W (qe L xs vb) (d + 8) qx_e218 _ (90, _, [.int (qz v577)], qw σ564 α κ ρ, 0, 0)
                refine qr_istore_n _ 91 rfl (by decide) rfl rfl ?_
                refine qr_goto 10 rfl rfl ?_
                exact ih460 _ u574 v577 σ564 (by omega) (qm_gk (qm_gk g573 (by decide) (Or.inr rfl)) (by decide) (Or.inl (by decide))) (qm_gk (qm_ge _ _ _) (by decide) (Or.inr rfl)) (qm_ge _ _ _) hf575 hv577 hI565 hF567 ((hG566.1 86 37 (by decide)).trans ((congrFun (congrFun e547 86) 37).trans ((hk450).trans rfl))) (by have hw0 : σ564 86 39 = (σ564 86 39) := rfl; have hw1 : σ564 86 36 = (σ564 86 36) := rfl; have hw2 : σ564 86 37 = (σ 86 37) := (hG566.1 86 37 (by decide)).trans ((congrFun (congrFun e547 86) 37).trans ((hk450).trans rfl)); omega) (by have hw0 : σ564 86 39 = (σ564 86 39) := rfl; have hw1 : σ564 86 36 = (σ564 86 36) := rfl; have hw2 : σ564 86 37 = (σ 86 37) := (hG566.1 86 37 (by decide)).trans ((congrFun (congrFun e547 86) 37).trans ((hk450).trans rfl)); omega) (by have hw0 : σ564 86 39 = (σ564 86 39) := rfl; have hw1 : σ564 86 36 = (σ564 86 36) := rfl; have hw2 : σ564 86 37 = (σ 86 37) := (hG566.1 86 37 (by decide)).trans ((congrFun (congrFun e547 86) 37).trans ((hk450).trans rfl)); omega) (by have hw0 : σ564 86 39 = (σ564 86 39) := rfl; have hw1 : σ564 86 36 = (σ564 86 36) := rfl; have hw2 : σ564 86 37 = (σ 86 37) := (hG566.1 86 37 (by decide)).trans ((congrFun (congrFun e547 86) 37).trans ((hk450).trans rfl)); omega) (by have hw0 : σ564 86 39 = (σ564 86 39) := rfl; have hw1 : σ564 86 36 = (σ564 86 36) := rfl; have hw2 : σ564 86 37 = (σ 86 37) := (hG566.1 86 37 (by decide)).trans ((congrFun (congrFun e547 86) 37).trans ((hk450).trans rfl)); omega) (by have hw0 : σ564 86 39 = (σ564 86 39) := rfl; have hw1 : σ564 86 36 = (σ564 86 36) := rfl; have hw2 : σ564 86 37 = (σ 86 37) := (hG566.1 86 37 (by decide)).trans ((congrFun (congrFun e547 86) 37).trans ((hk450).trans rfl)); omega)
              refine qr_if_ne 70 66 rfl rfl rfl hv556 (fun h582 => ?_) (fun h582 => ?_)
              · skip
                refine qr_iload_n 71 rfl (qm_gk g444 (by decide) (Or.inr rfl)) rfl ?_
                refine qr_bipush 73 rfl (by decide) rfl ?_
                refine qr_icmp_ne 82 76 rfl rfl rfl hf452 (by decide) (fun h583 => ?_) (fun h => False.elim (by omega))
                refine qr_iload_n 83 rfl (qm_gk g442 (by decide) (Or.inl (by decide))) rfl ?_
                refine qr_iload_n 84 rfl (qm_ge _ _ _) rfl ?_
                refine qr_iremW 85 rfl (by omega) rfl ?_
                refine qy_can (fun v584 hv584 => ?_)
                exact hJ576 _ v584 (qm_gk g441 (by decide) (Or.inl (by decide))) hv584
              · skip
                refine qr_iconst 67 rfl rfl ?_
                refine qr_goto 85 rfl rfl ?_
                exact hJ576 _ 0 (qm_gk g441 (by decide) (Or.inl (by decide))) (by decide)
  exact hL459 ((((120 - σ9 86 36).toNat : Int) + 1 : Int)).toNat _ v4 v16 σ9 (by omega) rfl rfl rfl hv4 hv16 hI10 hF12 ((hG11.1 86 37 (by decide)).trans rfl) (by have hw0 : σ9 86 39 = (σ9 86 39) := rfl; have hw1 : σ9 86 36 = (σ9 86 36) := rfl; have hw2 : σ9 86 37 = (σ 86 37) := (hG11.1 86 37 (by decide)).trans rfl; omega) (by have hw0 : σ9 86 39 = (σ9 86 39) := rfl; have hw1 : σ9 86 36 = (σ9 86 36) := rfl; have hw2 : σ9 86 37 = (σ 86 37) := (hG11.1 86 37 (by decide)).trans rfl; omega) (by have hw0 : σ9 86 39 = (σ9 86 39) := rfl; have hw1 : σ9 86 36 = (σ9 86 36) := rfl; have hw2 : σ9 86 37 = (σ 86 37) := (hG11.1 86 37 (by decide)).trans rfl; omega) (by have hw0 : σ9 86 39 = (σ9 86 39) := rfl; have hw1 : σ9 86 36 = (σ9 86 36) := rfl; have hw2 : σ9 86 37 = (σ 86 37) := (hG11.1 86 37 (by decide)).trans rfl; omega) (by have hw0 : σ9 86 39 = (σ9 86 39) := rfl; have hw1 : σ9 86 36 = (σ9 86 36) := rfl; have hw2 : σ9 86 37 = (σ 86 37) := (hG11.1 86 37 (by decide)).trans rfl; omega) (by have hw0 : σ9 86 39 = (σ9 86 39) := rfl; have hw1 : σ9 86 36 = (σ9 86 36) := rfl; have hw2 : σ9 86 37 = (σ 86 37) := (hG11.1 86 37 (by decide)).trans rfl; omega)

set_option maxHeartbeats 4000000 in
set_option maxRecDepth 20000 in
/-- OneRoofModel.sums -/
theorem sf_217_86o5 {L : Nat} {xs : Nat → Int} {vb : Bool} {d : Nat} {σ α : Nat → Nat → Int} {κ : Nat → Option Nat} {ρ : Nat}  (hI : qI σ α κ ρ) (p0 : 5 ≤ σ 86 39) (p1 : σ 86 36 ≤ σ 86 37) : qm_T (qe L xs vb) (d + 10) 217 [.ref 86] (qw σ α κ ρ) (fun r w' => ∃ σ', w' = qw σ' α κ ρ ∧ qI σ' α κ ρ ∧ qFr [(86, 36), (86, 38), (86, 39)] [] σ α σ' α ∧ ∃ v : Int, r = some (.int (qz v)) ∧ ((-2147483648) ≤ v ∧ v ≤ 2147483647) ∧ σ 86 39 ≤ σ' 86 39 ∧ σ 86 36 ≤ σ' 86 36 ∧ σ' 86 36 ≤ σ' 86 37 ∧ σ' 86 37 = σ 86 37) := by
  refine qr_start (d := d + 9) qv_e217 (Nat.le_of_ble_eq_true rfl) ?_
  show qr_W (qe L xs vb) (d + 9) qx_e217 _ (0, [(0, .ref 86)], [], _, 0, 0)
  have hF0 := qFr_rf [(86, 36), (86, 38), (86, 39)] [] σ α
  have hz86_39 : 0 ≤ σ 86 39 ∧ σ 86 39 ≤ 6 := hI.1 86 39
  have hz86_36 : 0 ≤ σ 86 36 ∧ σ 86 36 ≤ 120 := hI.1 86 36
  have hz86_37 : 0 ≤ σ 86 37 ∧ σ 86 37 ≤ 120 := hI.1 86 37
  refine qr_aload_n 1 rfl rfl rfl ?_
  have hs1 : 0 ≤ σ 86 36 ∧ σ 86 36 ≤ 120 := hI.1 86 36
  have hs2 : 0 ≤ σ 86 37 ∧ σ 86 37 ≤ 120 := hI.1 86 37
  have hs3 : 0 ≤ σ 86 39 ∧ σ 86 39 ≤ 6 := hI.1 86 39
  refine qr_callN 4 rfl rfl rfl (sf_218_86o5 (d := d + 0) hI (by omega) (by omega)) ?_
  have hs6 : 0 ≤ σ 86 36 ∧ σ 86 36 ≤ 120 := hI.1 86 36
  have hs7 : 0 ≤ σ 86 37 ∧ σ 86 37 ≤ 120 := hI.1 86 37
  have hs8 : 0 ≤ σ 86 39 ∧ σ 86 39 ≤ 6 := hI.1 86 39
  rintro _ _ ⟨σ9, rfl, hI10, hG11, v4, rfl, hv4, hp5⟩
  have hF12 : qFr [(86, 36), (86, 38), (86, 39)] [] σ α σ9 α := qFr_t hF0 hG11 (by decide) (by decide)
  have hs13 : 0 ≤ σ9 86 36 ∧ σ9 86 36 ≤ 120 := hI10.1 86 36
  have hs14 : 0 ≤ σ9 86 37 ∧ σ9 86 37 ≤ 120 := hI10.1 86 37
  have hs15 : 0 ≤ σ9 86 39 ∧ σ9 86 39 ≤ 6 := hI10.1 86 39
  show qr_W (qe L xs vb) (d + 9) qx_e217 _ (4, _, [.int (qz v4)], qw σ9 α κ ρ, 0, 0)
  refine qr_istore_n _ 5 rfl (by decide) rfl rfl ?_
  have hL550 : ∀ (n : Nat) (ls : qm_L) (u538 : Int) (σ539 : Nat → Nat → Int), ((120 - σ539 86 36).toNat : Int) < (n : Int) → qm_get ls 0 = some (.ref 86) → qm_get ls 1 = some (.int (qz u538)) → ((-2147483648) ≤ u538 ∧ u538 ≤ 2147483647) → qI σ539 α κ ρ → qFr [(86, 36), (86, 38), (86, 39)] [] σ α σ539 α → σ539 86 37 = (σ 86 37) → 5 ≤ σ539 86 39 → σ 86 39 ≤ σ539 86 39 → σ 86 36 ≤ σ539 86 36 → σ539 86 36 ≤ σ539 86 37 → σ539 86 37 = σ 86 37 → qr_W (qe L xs vb) (d + 9) qx_e217 (fun r w' => ∃ σ', w' = qw σ' α κ ρ ∧ qI σ' α κ ρ ∧ qFr [(86, 36), (86, 38), (86, 39)] [] σ α σ' α ∧ ∃ v : Int, r = some (.int (qz v)) ∧ ((-2147483648) ≤ v ∧ v ≤ 2147483647) ∧ σ 86 39 ≤ σ' 86 39 ∧ σ 86 36 ≤ σ' 86 36 ∧ σ' 86 36 ≤ σ' 86 37 ∧ σ' 86 37 = σ 86 37) (5, ls, [], qw σ539 α κ ρ, 0, 0) := by
    intro n
    induction n with
    | zero => intro ls u538 σ539 hm g536 g537 hf544 hI541 hF542 hk543 hx545 hx546 hx547 hx548 hx549; exact False.elim (by omega)
    | succ n ih551 =>
      intro ls u538 σ539 hm g536 g537 hf544 hI541 hF542 hk543 hx545 hx546 hx547 hx548 hx549
      have hs552 : 0 ≤ σ539 86 39 ∧ σ539 86 39 ≤ 6 := hI541.1 86 39
      have hs553 : 0 ≤ σ539 86 36 ∧ σ539 86 36 ≤ 120 := hI541.1 86 36
      have hs554 : 0 ≤ σ539 86 37 ∧ σ539 86 37 ≤ 120 := hI541.1 86 37
      refine qr_aload_n 6 rfl g536 rfl ?_
      refine qr_get 9 rfl rfl rfl (by decide) rfl ?_
      have hs555 : (-1) ≤ σ539 86 38 ∧ σ539 86 38 ≤ 120 := hI541.1 86 38
      refine qr_if_ge 77 12 rfl rfl rfl (qrg hs555 (by decide) (by decide)) (fun h556 => ?_) (fun h556 => ?_)
      · skip
        refine qr_iload_n 78 rfl g537 rfl ?_
        refine qr_retI rfl rfl (by decide) (by decide) ?_
        have hw557 : σ539 86 36 = (σ539 86 36) := rfl
        have hw558 : σ539 86 37 = (σ 86 37) := (hk543).trans rfl
        have hw559 : σ539 86 39 = (σ539 86 39) := rfl
        exact ⟨_, rfl, hI541, hF542, u538, rfl, hf544, by omega⟩
      · skip
        refine qr_aload_n 13 rfl g536 rfl ?_
        refine qr_callN 16 rfl rfl rfl (sf_220_86t (d := d + 8) hI541 ) ?_
        have hs562 : 0 ≤ σ539 86 36 ∧ σ539 86 36 ≤ 120 := hI541.1 86 36
        have hs563 : 0 ≤ σ539 86 37 ∧ σ539 86 37 ≤ 120 := hI541.1 86 37
        have hs564 : σ539 86 37 = (σ 86 37) := (hk543).trans rfl
        rintro _ _ ⟨rfl, v560, rfl, hv560, hp561⟩
        show qr_W (qe L xs vb) (d + 9) qx_e217 _ (16, _, [.int (qz v560)], qw σ539 α κ ρ, 0, 0)
        refine qr_bipush 18 rfl (by decide) rfl ?_
        refine qr_icmp_eq 30 21 rfl rfl rfl hv560 (by decide) (fun h565 => ?_) (fun h565 => ?_)
        · skip
          refine qr_aload_n 31 rfl g536 rfl ?_
          refine qr_callN 34 rfl rfl rfl (sf_220_86t (d := d + 8) hI541 ) ?_
          have hs568 : 0 ≤ σ539 86 36 ∧ σ539 86 36 ≤ 120 := hI541.1 86 36
          have hs569 : 0 ≤ σ539 86 37 ∧ σ539 86 37 ≤ 120 := hI541.1 86 37
          have hs570 : σ539 86 37 = (σ 86 37) := (hk543).trans rfl
          rintro _ _ ⟨rfl, v566, rfl, hv566, hp567⟩
          show qr_W (qe L xs vb) (d + 9) qx_e217 _ (34, _, [.int (qz v566)], qw σ539 α κ ρ, 0, 0)
          refine qr_bipush 36 rfl (by decide) rfl ?_
          refine qr_icmp_ne 43 39 rfl rfl rfl hv566 (by decide) (fun h571 => ?_) (fun h571 => ?_)
          · skip
            refine qr_iconst 44 rfl rfl ?_
            refine qr_istore_n _ 45 rfl (by decide) rfl rfl ?_
            refine qr_aload_n 46 rfl (qm_gk g536 (by decide) (Or.inl (by decide))) rfl ?_
            refine qr_dup 47 rfl rfl rfl ?_
            refine qr_get 50 rfl rfl rfl (by decide) rfl ?_
            refine qr_iconst 51 rfl rfl ?_
            refine qr_iadd 52 rfl rfl ?_
            refine qr_put 55 rfl (by decide) rfl (Nat.le_of_ble_eq_true rfl) (Nat.le_of_ble_eq_true rfl) (Or.inl rfl) (qr_fitI rfl _) rfl ?_
            refine qy_wS (qw_s σ539 86 36 ((σ539 86 36) + 1)) rfl (fun σ572 e573 => ?_)
            have hI574 : qI σ572 α κ ρ := by rw [e573]; exact qI_s hI541 86 36 rfl (show 0 ≤ ((σ539 86 36) + 1) ∧ ((σ539 86 36) + 1) ≤ 120 by omega)
            have hF575 : qFr [(86, 36), (86, 38), (86, 39)] [] σ α σ572 α := by rw [e573]; exact qFr_s hF542 86 36 _ (by decide)
            refine qr_aload_n 56 rfl (qm_gk g536 (by decide) (Or.inl (by decide))) rfl ?_
            have hs576 : 0 ≤ σ572 86 36 ∧ σ572 86 36 ≤ 120 := hI574.1 86 36
            have hs577 : σ572 86 36 = ((σ539 86 36) + 1) := (congrFun (congrFun e573 86) 36).trans rfl
            have hs578 : 0 ≤ σ572 86 37 ∧ σ572 86 37 ≤ 120 := hI574.1 86 37
            have hs579 : σ572 86 37 = (σ 86 37) := (congrFun (congrFun e573 86) 37).trans ((hk543).trans rfl)
            have hs580 : 0 ≤ σ572 86 39 ∧ σ572 86 39 ≤ 6 := hI574.1 86 39
            have hs581 : σ572 86 39 = (σ539 86 39) := (congrFun (congrFun e573 86) 39).trans rfl
            refine qr_callN 59 rfl rfl rfl (sf_218_86o5 (d := d + 0) hI574 (by omega) (by omega)) ?_
            have hs584 : 0 ≤ σ572 86 36 ∧ σ572 86 36 ≤ 120 := hI574.1 86 36
            have hs585 : σ572 86 36 = ((σ539 86 36) + 1) := (congrFun (congrFun e573 86) 36).trans rfl
            have hs586 : 0 ≤ σ572 86 37 ∧ σ572 86 37 ≤ 120 := hI574.1 86 37
            have hs587 : σ572 86 37 = (σ 86 37) := (congrFun (congrFun e573 86) 37).trans ((hk543).trans rfl)
            have hs588 : 0 ≤ σ572 86 39 ∧ σ572 86 39 ≤ 6 := hI574.1 86 39
            have hs589 : σ572 86 39 = (σ539 86 39) := (congrFun (congrFun e573 86) 39).trans rfl
            rintro _ _ ⟨σ590, rfl, hI591, hG592, v582, rfl, hv582, hp583⟩
            have hF593 : qFr [(86, 36), (86, 38), (86, 39)] [] σ α σ590 α := qFr_t hF575 hG592 (by decide) (by decide)
            have hs594 : 0 ≤ σ590 86 36 ∧ σ590 86 36 ≤ 120 := hI591.1 86 36
            have hs595 : 0 ≤ σ590 86 37 ∧ σ590 86 37 ≤ 120 := hI591.1 86 37
            have hs596 : 0 ≤ σ590 86 39 ∧ σ590 86 39 ≤ 6 := hI591.1 86 39
            show qr_W (qe L xs vb) (d + 9) qx_e217 _ (59, _, [.int (qz v582)], qw σ590 α κ ρ, 0, 0)
            refine qr_istore_n _ 60 rfl (by decide) rfl rfl ?_
            refine qr_iload_n 61 rfl (qm_gk (qm_ge _ _ _) (by decide) (Or.inr rfl)) rfl ?_
            refine qr_if_eq 70 64 rfl rfl rfl (by decide) (fun h597 => ?_) (fun h => False.elim (by omega))
            refine qr_iload_n 71 rfl (qm_gk (qm_gk g537 (by decide) (Or.inr rfl)) (by decide) (Or.inl (by decide))) rfl ?_
            refine qr_iload_n 72 rfl (qm_ge _ _ _) rfl ?_
            refine qr_isub 73 rfl rfl ?_
            refine qy_can (fun v598 hv598 => ?_)
            refine qr_istore_n _ 74 rfl (by decide) rfl rfl ?_
            refine qr_goto 5 rfl rfl ?_
            exact ih551 _ v598 σ590 (by omega) (qm_gk (qm_gk (qm_gk g536 (by decide) (Or.inl (by decide))) (by decide) (Or.inl (by decide))) (by decide) (Or.inr rfl)) (qm_ge _ _ _) hv598 hI591 hF593 ((hG592.1 86 37 (by decide)).trans ((congrFun (congrFun e573 86) 37).trans ((hk543).trans rfl))) (by have hw0 : σ590 86 39 = (σ590 86 39) := rfl; have hw1 : σ590 86 36 = (σ590 86 36) := rfl; have hw2 : σ590 86 37 = (σ 86 37) := (hG592.1 86 37 (by decide)).trans ((congrFun (congrFun e573 86) 37).trans ((hk543).trans rfl)); omega) (by have hw0 : σ590 86 39 = (σ590 86 39) := rfl; have hw1 : σ590 86 36 = (σ590 86 36) := rfl; have hw2 : σ590 86 37 = (σ 86 37) := (hG592.1 86 37 (by decide)).trans ((congrFun (congrFun e573 86) 37).trans ((hk543).trans rfl)); omega) (by have hw0 : σ590 86 39 = (σ590 86 39) := rfl; have hw1 : σ590 86 36 = (σ590 86 36) := rfl; have hw2 : σ590 86 37 = (σ 86 37) := (hG592.1 86 37 (by decide)).trans ((congrFun (congrFun e573 86) 37).trans ((hk543).trans rfl)); omega) (by have hw0 : σ590 86 39 = (σ590 86 39) := rfl; have hw1 : σ590 86 36 = (σ590 86 36) := rfl; have hw2 : σ590 86 37 = (σ 86 37) := (hG592.1 86 37 (by decide)).trans ((congrFun (congrFun e573 86) 37).trans ((hk543).trans rfl)); omega) (by have hw0 : σ590 86 39 = (σ590 86 39) := rfl; have hw1 : σ590 86 36 = (σ590 86 36) := rfl; have hw2 : σ590 86 37 = (σ 86 37) := (hG592.1 86 37 (by decide)).trans ((congrFun (congrFun e573 86) 37).trans ((hk543).trans rfl)); omega)
          · skip
            refine qr_iconst 40 rfl rfl ?_
            refine qr_goto 44 rfl rfl ?_
            refine qr_istore_n _ 45 rfl (by decide) rfl rfl ?_
            refine qr_aload_n 46 rfl (qm_gk g536 (by decide) (Or.inl (by decide))) rfl ?_
            refine qr_dup 47 rfl rfl rfl ?_
            refine qr_get 50 rfl rfl rfl (by decide) rfl ?_
            refine qr_iconst 51 rfl rfl ?_
            refine qr_iadd 52 rfl rfl ?_
            refine qr_put 55 rfl (by decide) rfl (Nat.le_of_ble_eq_true rfl) (Nat.le_of_ble_eq_true rfl) (Or.inl rfl) (qr_fitI rfl _) rfl ?_
            refine qy_wS (qw_s σ539 86 36 ((σ539 86 36) + 1)) rfl (fun σ599 e600 => ?_)
            have hI601 : qI σ599 α κ ρ := by rw [e600]; exact qI_s hI541 86 36 rfl (show 0 ≤ ((σ539 86 36) + 1) ∧ ((σ539 86 36) + 1) ≤ 120 by omega)
            have hF602 : qFr [(86, 36), (86, 38), (86, 39)] [] σ α σ599 α := by rw [e600]; exact qFr_s hF542 86 36 _ (by decide)
            refine qr_aload_n 56 rfl (qm_gk g536 (by decide) (Or.inl (by decide))) rfl ?_
            have hs603 : 0 ≤ σ599 86 36 ∧ σ599 86 36 ≤ 120 := hI601.1 86 36
            have hs604 : σ599 86 36 = ((σ539 86 36) + 1) := (congrFun (congrFun e600 86) 36).trans rfl
            have hs605 : 0 ≤ σ599 86 37 ∧ σ599 86 37 ≤ 120 := hI601.1 86 37
            have hs606 : σ599 86 37 = (σ 86 37) := (congrFun (congrFun e600 86) 37).trans ((hk543).trans rfl)
            have hs607 : 0 ≤ σ599 86 39 ∧ σ599 86 39 ≤ 6 := hI601.1 86 39
            have hs608 : σ599 86 39 = (σ539 86 39) := (congrFun (congrFun e600 86) 39).trans rfl
            refine qr_callN 59 rfl rfl rfl (sf_218_86o5 (d := d + 0) hI601 (by omega) (by omega)) ?_
            have hs611 : 0 ≤ σ599 86 36 ∧ σ599 86 36 ≤ 120 := hI601.1 86 36
            have hs612 : σ599 86 36 = ((σ539 86 36) + 1) := (congrFun (congrFun e600 86) 36).trans rfl
            have hs613 : 0 ≤ σ599 86 37 ∧ σ599 86 37 ≤ 120 := hI601.1 86 37
            have hs614 : σ599 86 37 = (σ 86 37) := (congrFun (congrFun e600 86) 37).trans ((hk543).trans rfl)
            have hs615 : 0 ≤ σ599 86 39 ∧ σ599 86 39 ≤ 6 := hI601.1 86 39
            have hs616 : σ599 86 39 = (σ539 86 39) := (congrFun (congrFun e600 86) 39).trans rfl
            rintro _ _ ⟨σ617, rfl, hI618, hG619, v609, rfl, hv609, hp610⟩
            have hF620 : qFr [(86, 36), (86, 38), (86, 39)] [] σ α σ617 α := qFr_t hF602 hG619 (by decide) (by decide)
            have hs621 : 0 ≤ σ617 86 36 ∧ σ617 86 36 ≤ 120 := hI618.1 86 36
            have hs622 : 0 ≤ σ617 86 37 ∧ σ617 86 37 ≤ 120 := hI618.1 86 37
            have hs623 : 0 ≤ σ617 86 39 ∧ σ617 86 39 ≤ 6 := hI618.1 86 39
            show qr_W (qe L xs vb) (d + 9) qx_e217 _ (59, _, [.int (qz v609)], qw σ617 α κ ρ, 0, 0)
            refine qr_istore_n _ 60 rfl (by decide) rfl rfl ?_
            refine qr_iload_n 61 rfl (qm_gk (qm_ge _ _ _) (by decide) (Or.inr rfl)) rfl ?_
            refine qr_if_eq 70 64 rfl rfl rfl (by decide) (fun h => False.elim (by omega)) (fun h624 => ?_)
            refine qr_iload_n 65 rfl (qm_gk (qm_gk g537 (by decide) (Or.inr rfl)) (by decide) (Or.inl (by decide))) rfl ?_
            refine qr_iload_n 66 rfl (qm_ge _ _ _) rfl ?_
            refine qr_iadd 67 rfl rfl ?_
            refine qy_can (fun v625 hv625 => ?_)
            refine qr_goto 73 rfl rfl ?_
            refine qr_istore_n _ 74 rfl (by decide) rfl rfl ?_
            refine qr_goto 5 rfl rfl ?_
            exact ih551 _ v625 σ617 (by omega) (qm_gk (qm_gk (qm_gk g536 (by decide) (Or.inl (by decide))) (by decide) (Or.inl (by decide))) (by decide) (Or.inr rfl)) (qm_ge _ _ _) hv625 hI618 hF620 ((hG619.1 86 37 (by decide)).trans ((congrFun (congrFun e600 86) 37).trans ((hk543).trans rfl))) (by have hw0 : σ617 86 39 = (σ617 86 39) := rfl; have hw1 : σ617 86 36 = (σ617 86 36) := rfl; have hw2 : σ617 86 37 = (σ 86 37) := (hG619.1 86 37 (by decide)).trans ((congrFun (congrFun e600 86) 37).trans ((hk543).trans rfl)); omega) (by have hw0 : σ617 86 39 = (σ617 86 39) := rfl; have hw1 : σ617 86 36 = (σ617 86 36) := rfl; have hw2 : σ617 86 37 = (σ 86 37) := (hG619.1 86 37 (by decide)).trans ((congrFun (congrFun e600 86) 37).trans ((hk543).trans rfl)); omega) (by have hw0 : σ617 86 39 = (σ617 86 39) := rfl; have hw1 : σ617 86 36 = (σ617 86 36) := rfl; have hw2 : σ617 86 37 = (σ 86 37) := (hG619.1 86 37 (by decide)).trans ((congrFun (congrFun e600 86) 37).trans ((hk543).trans rfl)); omega) (by have hw0 : σ617 86 39 = (σ617 86 39) := rfl; have hw1 : σ617 86 36 = (σ617 86 36) := rfl; have hw2 : σ617 86 37 = (σ 86 37) := (hG619.1 86 37 (by decide)).trans ((congrFun (congrFun e600 86) 37).trans ((hk543).trans rfl)); omega) (by have hw0 : σ617 86 39 = (σ617 86 39) := rfl; have hw1 : σ617 86 36 = (σ617 86 36) := rfl; have hw2 : σ617 86 37 = (σ 86 37) := (hG619.1 86 37 (by decide)).trans ((congrFun (congrFun e600 86) 37).trans ((hk543).trans rfl)); omega)
        · skip
          refine qr_aload_n 22 rfl g536 rfl ?_
          refine qr_callN 25 rfl rfl rfl (sf_220_86t (d := d + 8) hI541 ) ?_
          have hs628 : 0 ≤ σ539 86 36 ∧ σ539 86 36 ≤ 120 := hI541.1 86 36
          have hs629 : 0 ≤ σ539 86 37 ∧ σ539 86 37 ≤ 120 := hI541.1 86 37
          have hs630 : σ539 86 37 = (σ 86 37) := (hk543).trans rfl
          rintro _ _ ⟨rfl, v626, rfl, hv626, hp627⟩
          show qr_W (qe L xs vb) (d + 9) qx_e217 _ (25, _, [.int (qz v626)], qw σ539 α κ ρ, 0, 0)
          refine qr_bipush 27 rfl (by decide) rfl ?_
          refine qr_icmp_ne 77 30 rfl rfl rfl hv626 (by decide) (fun h631 => ?_) (fun h631 => ?_)
          · skip
            refine qr_iload_n 78 rfl g537 rfl ?_
            refine qr_retI rfl rfl (by decide) (by decide) ?_
            have hw632 : σ539 86 36 = (σ539 86 36) := rfl
            have hw633 : σ539 86 37 = (σ 86 37) := (hk543).trans rfl
            have hw634 : σ539 86 39 = (σ539 86 39) := rfl
            exact ⟨_, rfl, hI541, hF542, u538, rfl, hf544, by omega⟩
          · skip
            refine qr_aload_n 31 rfl g536 rfl ?_
            refine qr_callN 34 rfl rfl rfl (sf_220_86t (d := d + 8) hI541 ) ?_
            have hs637 : 0 ≤ σ539 86 36 ∧ σ539 86 36 ≤ 120 := hI541.1 86 36
            have hs638 : 0 ≤ σ539 86 37 ∧ σ539 86 37 ≤ 120 := hI541.1 86 37
            have hs639 : σ539 86 37 = (σ 86 37) := (hk543).trans rfl
            rintro _ _ ⟨rfl, v635, rfl, hv635, hp636⟩
            show qr_W (qe L xs vb) (d + 9) qx_e217 _ (34, _, [.int (qz v635)], qw σ539 α κ ρ, 0, 0)
            refine qr_bipush 36 rfl (by decide) rfl ?_
            refine qr_icmp_ne 43 39 rfl rfl rfl hv635 (by decide) (fun h640 => ?_) (fun h640 => ?_)
            · skip
              refine qr_iconst 44 rfl rfl ?_
              refine qr_istore_n _ 45 rfl (by decide) rfl rfl ?_
              refine qr_aload_n 46 rfl (qm_gk g536 (by decide) (Or.inl (by decide))) rfl ?_
              refine qr_dup 47 rfl rfl rfl ?_
              refine qr_get 50 rfl rfl rfl (by decide) rfl ?_
              refine qr_iconst 51 rfl rfl ?_
              refine qr_iadd 52 rfl rfl ?_
              refine qr_put 55 rfl (by decide) rfl (Nat.le_of_ble_eq_true rfl) (Nat.le_of_ble_eq_true rfl) (Or.inl rfl) (qr_fitI rfl _) rfl ?_
              refine qy_wS (qw_s σ539 86 36 ((σ539 86 36) + 1)) rfl (fun σ641 e642 => ?_)
              have hI643 : qI σ641 α κ ρ := by rw [e642]; exact qI_s hI541 86 36 rfl (show 0 ≤ ((σ539 86 36) + 1) ∧ ((σ539 86 36) + 1) ≤ 120 by omega)
              have hF644 : qFr [(86, 36), (86, 38), (86, 39)] [] σ α σ641 α := by rw [e642]; exact qFr_s hF542 86 36 _ (by decide)
              refine qr_aload_n 56 rfl (qm_gk g536 (by decide) (Or.inl (by decide))) rfl ?_
              have hs645 : 0 ≤ σ641 86 36 ∧ σ641 86 36 ≤ 120 := hI643.1 86 36
              have hs646 : σ641 86 36 = ((σ539 86 36) + 1) := (congrFun (congrFun e642 86) 36).trans rfl
              have hs647 : 0 ≤ σ641 86 37 ∧ σ641 86 37 ≤ 120 := hI643.1 86 37
              have hs648 : σ641 86 37 = (σ 86 37) := (congrFun (congrFun e642 86) 37).trans ((hk543).trans rfl)
              have hs649 : 0 ≤ σ641 86 39 ∧ σ641 86 39 ≤ 6 := hI643.1 86 39
              have hs650 : σ641 86 39 = (σ539 86 39) := (congrFun (congrFun e642 86) 39).trans rfl
              refine qr_callN 59 rfl rfl rfl (sf_218_86o5 (d := d + 0) hI643 (by omega) (by omega)) ?_
              have hs653 : 0 ≤ σ641 86 36 ∧ σ641 86 36 ≤ 120 := hI643.1 86 36
              have hs654 : σ641 86 36 = ((σ539 86 36) + 1) := (congrFun (congrFun e642 86) 36).trans rfl
              have hs655 : 0 ≤ σ641 86 37 ∧ σ641 86 37 ≤ 120 := hI643.1 86 37
              have hs656 : σ641 86 37 = (σ 86 37) := (congrFun (congrFun e642 86) 37).trans ((hk543).trans rfl)
              have hs657 : 0 ≤ σ641 86 39 ∧ σ641 86 39 ≤ 6 := hI643.1 86 39
              have hs658 : σ641 86 39 = (σ539 86 39) := (congrFun (congrFun e642 86) 39).trans rfl
              rintro _ _ ⟨σ659, rfl, hI660, hG661, v651, rfl, hv651, hp652⟩
              have hF662 : qFr [(86, 36), (86, 38), (86, 39)] [] σ α σ659 α := qFr_t hF644 hG661 (by decide) (by decide)
              have hs663 : 0 ≤ σ659 86 36 ∧ σ659 86 36 ≤ 120 := hI660.1 86 36
              have hs664 : 0 ≤ σ659 86 37 ∧ σ659 86 37 ≤ 120 := hI660.1 86 37
              have hs665 : 0 ≤ σ659 86 39 ∧ σ659 86 39 ≤ 6 := hI660.1 86 39
              show qr_W (qe L xs vb) (d + 9) qx_e217 _ (59, _, [.int (qz v651)], qw σ659 α κ ρ, 0, 0)
              refine qr_istore_n _ 60 rfl (by decide) rfl rfl ?_
              refine qr_iload_n 61 rfl (qm_gk (qm_ge _ _ _) (by decide) (Or.inr rfl)) rfl ?_
              refine qr_if_eq 70 64 rfl rfl rfl (by decide) (fun h666 => ?_) (fun h => False.elim (by omega))
              refine qr_iload_n 71 rfl (qm_gk (qm_gk g537 (by decide) (Or.inr rfl)) (by decide) (Or.inl (by decide))) rfl ?_
              refine qr_iload_n 72 rfl (qm_ge _ _ _) rfl ?_
              refine qr_isub 73 rfl rfl ?_
              refine qy_can (fun v667 hv667 => ?_)
              refine qr_istore_n _ 74 rfl (by decide) rfl rfl ?_
              refine qr_goto 5 rfl rfl ?_
              exact ih551 _ v667 σ659 (by omega) (qm_gk (qm_gk (qm_gk g536 (by decide) (Or.inl (by decide))) (by decide) (Or.inl (by decide))) (by decide) (Or.inr rfl)) (qm_ge _ _ _) hv667 hI660 hF662 ((hG661.1 86 37 (by decide)).trans ((congrFun (congrFun e642 86) 37).trans ((hk543).trans rfl))) (by have hw0 : σ659 86 39 = (σ659 86 39) := rfl; have hw1 : σ659 86 36 = (σ659 86 36) := rfl; have hw2 : σ659 86 37 = (σ 86 37) := (hG661.1 86 37 (by decide)).trans ((congrFun (congrFun e642 86) 37).trans ((hk543).trans rfl)); omega) (by have hw0 : σ659 86 39 = (σ659 86 39) := rfl; have hw1 : σ659 86 36 = (σ659 86 36) := rfl; have hw2 : σ659 86 37 = (σ 86 37) := (hG661.1 86 37 (by decide)).trans ((congrFun (congrFun e642 86) 37).trans ((hk543).trans rfl)); omega) (by have hw0 : σ659 86 39 = (σ659 86 39) := rfl; have hw1 : σ659 86 36 = (σ659 86 36) := rfl; have hw2 : σ659 86 37 = (σ 86 37) := (hG661.1 86 37 (by decide)).trans ((congrFun (congrFun e642 86) 37).trans ((hk543).trans rfl)); omega) (by have hw0 : σ659 86 39 = (σ659 86 39) := rfl; have hw1 : σ659 86 36 = (σ659 86 36) := rfl; have hw2 : σ659 86 37 = (σ 86 37) := (hG661.1 86 37 (by decide)).trans ((congrFun (congrFun e642 86) 37).trans ((hk543).trans rfl)); omega) (by have hw0 : σ659 86 39 = (σ659 86 39) := rfl; have hw1 : σ659 86 36 = (σ659 86 36) := rfl; have hw2 : σ659 86 37 = (σ 86 37) := (hG661.1 86 37 (by decide)).trans ((congrFun (congrFun e642 86) 37).trans ((hk543).trans rfl)); omega)
            · skip
              refine qr_iconst 40 rfl rfl ?_
              refine qr_goto 44 rfl rfl ?_
              refine qr_istore_n _ 45 rfl (by decide) rfl rfl ?_
              refine qr_aload_n 46 rfl (qm_gk g536 (by decide) (Or.inl (by decide))) rfl ?_
              refine qr_dup 47 rfl rfl rfl ?_
              refine qr_get 50 rfl rfl rfl (by decide) rfl ?_
              refine qr_iconst 51 rfl rfl ?_
              refine qr_iadd 52 rfl rfl ?_
              refine qr_put 55 rfl (by decide) rfl (Nat.le_of_ble_eq_true rfl) (Nat.le_of_ble_eq_true rfl) (Or.inl rfl) (qr_fitI rfl _) rfl ?_
              refine qy_wS (qw_s σ539 86 36 ((σ539 86 36) + 1)) rfl (fun σ668 e669 => ?_)
              have hI670 : qI σ668 α κ ρ := by rw [e669]; exact qI_s hI541 86 36 rfl (show 0 ≤ ((σ539 86 36) + 1) ∧ ((σ539 86 36) + 1) ≤ 120 by omega)
              have hF671 : qFr [(86, 36), (86, 38), (86, 39)] [] σ α σ668 α := by rw [e669]; exact qFr_s hF542 86 36 _ (by decide)
              refine qr_aload_n 56 rfl (qm_gk g536 (by decide) (Or.inl (by decide))) rfl ?_
              have hs672 : 0 ≤ σ668 86 36 ∧ σ668 86 36 ≤ 120 := hI670.1 86 36
              have hs673 : σ668 86 36 = ((σ539 86 36) + 1) := (congrFun (congrFun e669 86) 36).trans rfl
              have hs674 : 0 ≤ σ668 86 37 ∧ σ668 86 37 ≤ 120 := hI670.1 86 37
              have hs675 : σ668 86 37 = (σ 86 37) := (congrFun (congrFun e669 86) 37).trans ((hk543).trans rfl)
              have hs676 : 0 ≤ σ668 86 39 ∧ σ668 86 39 ≤ 6 := hI670.1 86 39
              have hs677 : σ668 86 39 = (σ539 86 39) := (congrFun (congrFun e669 86) 39).trans rfl
              refine qr_callN 59 rfl rfl rfl (sf_218_86o5 (d := d + 0) hI670 (by omega) (by omega)) ?_
              have hs680 : 0 ≤ σ668 86 36 ∧ σ668 86 36 ≤ 120 := hI670.1 86 36
              have hs681 : σ668 86 36 = ((σ539 86 36) + 1) := (congrFun (congrFun e669 86) 36).trans rfl
              have hs682 : 0 ≤ σ668 86 37 ∧ σ668 86 37 ≤ 120 := hI670.1 86 37
              have hs683 : σ668 86 37 = (σ 86 37) := (congrFun (congrFun e669 86) 37).trans ((hk543).trans rfl)
              have hs684 : 0 ≤ σ668 86 39 ∧ σ668 86 39 ≤ 6 := hI670.1 86 39
              have hs685 : σ668 86 39 = (σ539 86 39) := (congrFun (congrFun e669 86) 39).trans rfl
              rintro _ _ ⟨σ686, rfl, hI687, hG688, v678, rfl, hv678, hp679⟩
              have hF689 : qFr [(86, 36), (86, 38), (86, 39)] [] σ α σ686 α := qFr_t hF671 hG688 (by decide) (by decide)
              have hs690 : 0 ≤ σ686 86 36 ∧ σ686 86 36 ≤ 120 := hI687.1 86 36
              have hs691 : 0 ≤ σ686 86 37 ∧ σ686 86 37 ≤ 120 := hI687.1 86 37
              have hs692 : 0 ≤ σ686 86 39 ∧ σ686 86 39 ≤ 6 := hI687.1 86 39
              show qr_W (qe L xs vb) (d + 9) qx_e217 _ (59, _, [.int (qz v678)], qw σ686 α κ ρ, 0, 0)
              refine qr_istore_n _ 60 rfl (by decide) rfl rfl ?_
              refine qr_iload_n 61 rfl (qm_gk (qm_ge _ _ _) (by decide) (Or.inr rfl)) rfl ?_
              refine qr_if_eq 70 64 rfl rfl rfl (by decide) (fun h => False.elim (by omega)) (fun h693 => ?_)
              refine qr_iload_n 65 rfl (qm_gk (qm_gk g537 (by decide) (Or.inr rfl)) (by decide) (Or.inl (by decide))) rfl ?_
              refine qr_iload_n 66 rfl (qm_ge _ _ _) rfl ?_
              refine qr_iadd 67 rfl rfl ?_
              refine qy_can (fun v694 hv694 => ?_)
              refine qr_goto 73 rfl rfl ?_
              refine qr_istore_n _ 74 rfl (by decide) rfl rfl ?_
              refine qr_goto 5 rfl rfl ?_
              exact ih551 _ v694 σ686 (by omega) (qm_gk (qm_gk (qm_gk g536 (by decide) (Or.inl (by decide))) (by decide) (Or.inl (by decide))) (by decide) (Or.inr rfl)) (qm_ge _ _ _) hv694 hI687 hF689 ((hG688.1 86 37 (by decide)).trans ((congrFun (congrFun e669 86) 37).trans ((hk543).trans rfl))) (by have hw0 : σ686 86 39 = (σ686 86 39) := rfl; have hw1 : σ686 86 36 = (σ686 86 36) := rfl; have hw2 : σ686 86 37 = (σ 86 37) := (hG688.1 86 37 (by decide)).trans ((congrFun (congrFun e669 86) 37).trans ((hk543).trans rfl)); omega) (by have hw0 : σ686 86 39 = (σ686 86 39) := rfl; have hw1 : σ686 86 36 = (σ686 86 36) := rfl; have hw2 : σ686 86 37 = (σ 86 37) := (hG688.1 86 37 (by decide)).trans ((congrFun (congrFun e669 86) 37).trans ((hk543).trans rfl)); omega) (by have hw0 : σ686 86 39 = (σ686 86 39) := rfl; have hw1 : σ686 86 36 = (σ686 86 36) := rfl; have hw2 : σ686 86 37 = (σ 86 37) := (hG688.1 86 37 (by decide)).trans ((congrFun (congrFun e669 86) 37).trans ((hk543).trans rfl)); omega) (by have hw0 : σ686 86 39 = (σ686 86 39) := rfl; have hw1 : σ686 86 36 = (σ686 86 36) := rfl; have hw2 : σ686 86 37 = (σ 86 37) := (hG688.1 86 37 (by decide)).trans ((congrFun (congrFun e669 86) 37).trans ((hk543).trans rfl)); omega) (by have hw0 : σ686 86 39 = (σ686 86 39) := rfl; have hw1 : σ686 86 36 = (σ686 86 36) := rfl; have hw2 : σ686 86 37 = (σ 86 37) := (hG688.1 86 37 (by decide)).trans ((congrFun (congrFun e669 86) 37).trans ((hk543).trans rfl)); omega)
  exact hL550 ((((120 - σ9 86 36).toNat : Int) + 1 : Int)).toNat _ v4 σ9 (by omega) rfl rfl hv4 hI10 hF12 ((hG11.1 86 37 (by decide)).trans rfl) (by have hw0 : σ9 86 39 = (σ9 86 39) := rfl; have hw1 : σ9 86 36 = (σ9 86 36) := rfl; have hw2 : σ9 86 37 = (σ 86 37) := (hG11.1 86 37 (by decide)).trans rfl; omega) (by have hw0 : σ9 86 39 = (σ9 86 39) := rfl; have hw1 : σ9 86 36 = (σ9 86 36) := rfl; have hw2 : σ9 86 37 = (σ 86 37) := (hG11.1 86 37 (by decide)).trans rfl; omega) (by have hw0 : σ9 86 39 = (σ9 86 39) := rfl; have hw1 : σ9 86 36 = (σ9 86 36) := rfl; have hw2 : σ9 86 37 = (σ 86 37) := (hG11.1 86 37 (by decide)).trans rfl; omega) (by have hw0 : σ9 86 39 = (σ9 86 39) := rfl; have hw1 : σ9 86 36 = (σ9 86 36) := rfl; have hw2 : σ9 86 37 = (σ 86 37) := (hG11.1 86 37 (by decide)).trans rfl; omega) (by have hw0 : σ9 86 39 = (σ9 86 39) := rfl; have hw1 : σ9 86 36 = (σ9 86 36) := rfl; have hw2 : σ9 86 37 = (σ 86 37) := (hG11.1 86 37 (by decide)).trans rfl; omega)

set_option maxHeartbeats 4000000 in
set_option maxRecDepth 20000 in
/-- OneRoofModel.compared -/
theorem sf_216_86o5 {L : Nat} {xs : Nat → Int} {vb : Bool} {d : Nat} {σ α : Nat → Nat → Int} {κ : Nat → Option Nat} {ρ : Nat}  (hI : qI σ α κ ρ) (p0 : 5 ≤ σ 86 39) (p1 : σ 86 36 ≤ σ 86 37) : qm_T (qe L xs vb) (d + 11) 216 [.ref 86] (qw σ α κ ρ) (fun r w' => ∃ σ', w' = qw σ' α κ ρ ∧ qI σ' α κ ρ ∧ qFr [(86, 36), (86, 38), (86, 39)] [] σ α σ' α ∧ ∃ v : Int, r = some (.int (qz v)) ∧ ((-2147483648) ≤ v ∧ v ≤ 2147483647) ∧ σ 86 39 ≤ σ' 86 39 ∧ σ 86 36 ≤ σ' 86 36 ∧ σ' 86 36 ≤ σ' 86 37 ∧ σ' 86 37 = σ 86 37) := by
  refine qr_start (d := d + 10) qv_e216 (Nat.le_of_ble_eq_true rfl) ?_
  show qr_W (qe L xs vb) (d + 10) qx_e216 _ (0, [(0, .ref 86)], [], _, 0, 0)
  have hF0 := qFr_rf [(86, 36), (86, 38), (86, 39)] [] σ α
  have hz86_39 : 0 ≤ σ 86 39 ∧ σ 86 39 ≤ 6 := hI.1 86 39
  have hz86_36 : 0 ≤ σ 86 36 ∧ σ 86 36 ≤ 120 := hI.1 86 36
  have hz86_37 : 0 ≤ σ 86 37 ∧ σ 86 37 ≤ 120 := hI.1 86 37
  refine qr_aload_n 1 rfl rfl rfl ?_
  have hs1 : 0 ≤ σ 86 36 ∧ σ 86 36 ≤ 120 := hI.1 86 36
  have hs2 : 0 ≤ σ 86 37 ∧ σ 86 37 ≤ 120 := hI.1 86 37
  have hs3 : 0 ≤ σ 86 39 ∧ σ 86 39 ≤ 6 := hI.1 86 39
  refine qr_callN 4 rfl rfl rfl (sf_217_86o5 (d := d + 0) hI (by omega) (by omega)) ?_
  have hs6 : 0 ≤ σ 86 36 ∧ σ 86 36 ≤ 120 := hI.1 86 36
  have hs7 : 0 ≤ σ 86 37 ∧ σ 86 37 ≤ 120 := hI.1 86 37
  have hs8 : 0 ≤ σ 86 39 ∧ σ 86 39 ≤ 6 := hI.1 86 39
  rintro _ _ ⟨σ9, rfl, hI10, hG11, v4, rfl, hv4, hp5⟩
  have hF12 : qFr [(86, 36), (86, 38), (86, 39)] [] σ α σ9 α := qFr_t hF0 hG11 (by decide) (by decide)
  have hs13 : 0 ≤ σ9 86 36 ∧ σ9 86 36 ≤ 120 := hI10.1 86 36
  have hs14 : 0 ≤ σ9 86 37 ∧ σ9 86 37 ≤ 120 := hI10.1 86 37
  have hs15 : 0 ≤ σ9 86 39 ∧ σ9 86 39 ≤ 6 := hI10.1 86 39
  show qr_W (qe L xs vb) (d + 10) qx_e216 _ (4, _, [.int (qz v4)], qw σ9 α κ ρ, 0, 0)
  refine qr_istore_n _ 5 rfl (by decide) rfl rfl ?_
  refine qr_aload_n 6 rfl rfl rfl ?_
  refine qr_callN 9 rfl rfl rfl (sf_220_86t (d := d + 9) hI10 ) ?_
  have hs18 : 0 ≤ σ9 86 36 ∧ σ9 86 36 ≤ 120 := hI10.1 86 36
  have hs19 : 0 ≤ σ9 86 37 ∧ σ9 86 37 ≤ 120 := hI10.1 86 37
  have hs20 : σ9 86 37 = (σ 86 37) := (hG11.1 86 37 (by decide)).trans rfl
  rintro _ _ ⟨rfl, v16, rfl, hv16, hp17⟩
  show qr_W (qe L xs vb) (d + 10) qx_e216 _ (9, _, [.int (qz v16)], qw σ9 α κ ρ, 0, 0)
  refine qr_istore_n _ 10 rfl (by decide) rfl rfl ?_
  refine qr_aload_n 11 rfl rfl rfl ?_
  refine qr_get 14 rfl rfl rfl (by decide) rfl ?_
  have hs21 : (-1) ≤ σ9 86 38 ∧ σ9 86 38 ≤ 120 := hI10.1 86 38
  refine qr_if_ge 35 17 rfl rfl rfl (qrg hs21 (by decide) (by decide)) (fun h22 => ?_) (fun h22 => ?_)
  · skip
    refine qr_iload_n 36 rfl rfl rfl ?_
    refine qr_retI rfl rfl (by decide) (by decide) ?_
    have hw23 : σ9 86 36 = (σ9 86 36) := rfl
    have hw24 : σ9 86 37 = (σ 86 37) := (hG11.1 86 37 (by decide)).trans rfl
    have hw25 : σ9 86 39 = (σ9 86 39) := rfl
    exact ⟨_, rfl, hI10, hF12, v4, rfl, hv4, by omega⟩
  · skip
    refine qr_iload_n 18 rfl rfl rfl ?_
    refine qr_bipush 20 rfl (by decide) rfl ?_
    refine qr_icmp_eq 37 23 rfl rfl rfl hv16 (by decide) (fun h26 => ?_) (fun h26 => ?_)
    · skip
      refine qr_aload_n 38 rfl rfl rfl ?_
      refine qr_dup 39 rfl rfl rfl ?_
      refine qr_get 42 rfl rfl rfl (by decide) rfl ?_
      refine qr_iconst 43 rfl rfl ?_
      refine qr_iadd 44 rfl rfl ?_
      refine qr_put 47 rfl (by decide) rfl (Nat.le_of_ble_eq_true rfl) (Nat.le_of_ble_eq_true rfl) (Or.inl rfl) (qr_fitI rfl _) rfl ?_
      refine qy_wS (qw_s σ9 86 36 ((σ9 86 36) + 1)) rfl (fun σ27 e28 => ?_)
      have hI29 : qI σ27 α κ ρ := by rw [e28]; exact qI_s hI10 86 36 rfl (show 0 ≤ ((σ9 86 36) + 1) ∧ ((σ9 86 36) + 1) ≤ 120 by omega)
      have hF30 : qFr [(86, 36), (86, 38), (86, 39)] [] σ α σ27 α := by rw [e28]; exact qFr_s hF12 86 36 _ (by decide)
      refine qr_aload_n 48 rfl rfl rfl ?_
      have hs31 : 0 ≤ σ27 86 36 ∧ σ27 86 36 ≤ 120 := hI29.1 86 36
      have hs32 : σ27 86 36 = ((σ9 86 36) + 1) := (congrFun (congrFun e28 86) 36).trans rfl
      have hs33 : 0 ≤ σ27 86 37 ∧ σ27 86 37 ≤ 120 := hI29.1 86 37
      have hs34 : σ27 86 37 = (σ 86 37) := (congrFun (congrFun e28 86) 37).trans ((hG11.1 86 37 (by decide)).trans rfl)
      have hs35 : 0 ≤ σ27 86 39 ∧ σ27 86 39 ≤ 6 := hI29.1 86 39
      have hs36 : σ27 86 39 = (σ9 86 39) := (congrFun (congrFun e28 86) 39).trans rfl
      refine qr_callN 51 rfl rfl rfl (sf_217_86o5 (d := d + 0) hI29 (by omega) (by omega)) ?_
      have hs39 : 0 ≤ σ27 86 36 ∧ σ27 86 36 ≤ 120 := hI29.1 86 36
      have hs40 : σ27 86 36 = ((σ9 86 36) + 1) := (congrFun (congrFun e28 86) 36).trans rfl
      have hs41 : 0 ≤ σ27 86 37 ∧ σ27 86 37 ≤ 120 := hI29.1 86 37
      have hs42 : σ27 86 37 = (σ 86 37) := (congrFun (congrFun e28 86) 37).trans ((hG11.1 86 37 (by decide)).trans rfl)
      have hs43 : 0 ≤ σ27 86 39 ∧ σ27 86 39 ≤ 6 := hI29.1 86 39
      have hs44 : σ27 86 39 = (σ9 86 39) := (congrFun (congrFun e28 86) 39).trans rfl
      rintro _ _ ⟨σ45, rfl, hI46, hG47, v37, rfl, hv37, hp38⟩
      have hF48 : qFr [(86, 36), (86, 38), (86, 39)] [] σ α σ45 α := qFr_t hF30 hG47 (by decide) (by decide)
      have hs49 : 0 ≤ σ45 86 36 ∧ σ45 86 36 ≤ 120 := hI46.1 86 36
      have hs50 : 0 ≤ σ45 86 37 ∧ σ45 86 37 ≤ 120 := hI46.1 86 37
      have hs51 : 0 ≤ σ45 86 39 ∧ σ45 86 39 ≤ 6 := hI46.1 86 39
      show qr_W (qe L xs vb) (d + 10) qx_e216 _ (51, _, [.int (qz v37)], qw σ45 α κ ρ, 0, 0)
      refine qr_istore_n _ 52 rfl (by decide) rfl rfl ?_
      refine qr_iload_n 53 rfl rfl rfl ?_
      refine qr_bipush 55 rfl (by decide) rfl ?_
      refine qr_icmp_ne 66 58 rfl rfl rfl hv16 (by decide) (fun h => False.elim (by omega)) (fun h52 => ?_)
      refine qr_iload_n 59 rfl rfl rfl ?_
      refine qr_iload_n 60 rfl rfl rfl ?_
      refine qr_icmp_ge 89 63 rfl rfl rfl hv4 hv37 (fun h53 => ?_) (fun h53 => ?_)
      · skip
        refine qr_iconst 90 rfl rfl ?_
        refine qr_retI rfl rfl (by decide) (by decide) ?_
        have hw54 : σ45 86 36 = (σ45 86 36) := rfl
        have hw55 : σ45 86 37 = (σ 86 37) := (hG47.1 86 37 (by decide)).trans ((congrFun (congrFun e28 86) 37).trans ((hG11.1 86 37 (by decide)).trans rfl))
        have hw56 : σ45 86 39 = (σ45 86 39) := rfl
        exact ⟨_, rfl, hI46, hF48, 0, rfl, (by decide), by omega⟩
      · skip
        refine qr_goto 85 rfl rfl ?_
        refine qr_iconst 86 rfl rfl ?_
        refine qr_goto 90 rfl rfl ?_
        refine qr_retI rfl rfl (by decide) (by decide) ?_
        have hw57 : σ45 86 36 = (σ45 86 36) := rfl
        have hw58 : σ45 86 37 = (σ 86 37) := (hG47.1 86 37 (by decide)).trans ((congrFun (congrFun e28 86) 37).trans ((hG11.1 86 37 (by decide)).trans rfl))
        have hw59 : σ45 86 39 = (σ45 86 39) := rfl
        exact ⟨_, rfl, hI46, hF48, 1, rfl, (by decide), by omega⟩
    · skip
      refine qr_iload_n 24 rfl rfl rfl ?_
      refine qr_bipush 26 rfl (by decide) rfl ?_
      refine qr_icmp_eq 37 29 rfl rfl rfl hv16 (by decide) (fun h60 => ?_) (fun h60 => ?_)
      · skip
        refine qr_aload_n 38 rfl rfl rfl ?_
        refine qr_dup 39 rfl rfl rfl ?_
        refine qr_get 42 rfl rfl rfl (by decide) rfl ?_
        refine qr_iconst 43 rfl rfl ?_
        refine qr_iadd 44 rfl rfl ?_
        refine qr_put 47 rfl (by decide) rfl (Nat.le_of_ble_eq_true rfl) (Nat.le_of_ble_eq_true rfl) (Or.inl rfl) (qr_fitI rfl _) rfl ?_
        refine qy_wS (qw_s σ9 86 36 ((σ9 86 36) + 1)) rfl (fun σ61 e62 => ?_)
        have hI63 : qI σ61 α κ ρ := by rw [e62]; exact qI_s hI10 86 36 rfl (show 0 ≤ ((σ9 86 36) + 1) ∧ ((σ9 86 36) + 1) ≤ 120 by omega)
        have hF64 : qFr [(86, 36), (86, 38), (86, 39)] [] σ α σ61 α := by rw [e62]; exact qFr_s hF12 86 36 _ (by decide)
        refine qr_aload_n 48 rfl rfl rfl ?_
        have hs65 : 0 ≤ σ61 86 36 ∧ σ61 86 36 ≤ 120 := hI63.1 86 36
        have hs66 : σ61 86 36 = ((σ9 86 36) + 1) := (congrFun (congrFun e62 86) 36).trans rfl
        have hs67 : 0 ≤ σ61 86 37 ∧ σ61 86 37 ≤ 120 := hI63.1 86 37
        have hs68 : σ61 86 37 = (σ 86 37) := (congrFun (congrFun e62 86) 37).trans ((hG11.1 86 37 (by decide)).trans rfl)
        have hs69 : 0 ≤ σ61 86 39 ∧ σ61 86 39 ≤ 6 := hI63.1 86 39
        have hs70 : σ61 86 39 = (σ9 86 39) := (congrFun (congrFun e62 86) 39).trans rfl
        refine qr_callN 51 rfl rfl rfl (sf_217_86o5 (d := d + 0) hI63 (by omega) (by omega)) ?_
        have hs73 : 0 ≤ σ61 86 36 ∧ σ61 86 36 ≤ 120 := hI63.1 86 36
        have hs74 : σ61 86 36 = ((σ9 86 36) + 1) := (congrFun (congrFun e62 86) 36).trans rfl
        have hs75 : 0 ≤ σ61 86 37 ∧ σ61 86 37 ≤ 120 := hI63.1 86 37
        have hs76 : σ61 86 37 = (σ 86 37) := (congrFun (congrFun e62 86) 37).trans ((hG11.1 86 37 (by decide)).trans rfl)
        have hs77 : 0 ≤ σ61 86 39 ∧ σ61 86 39 ≤ 6 := hI63.1 86 39
        have hs78 : σ61 86 39 = (σ9 86 39) := (congrFun (congrFun e62 86) 39).trans rfl
        rintro _ _ ⟨σ79, rfl, hI80, hG81, v71, rfl, hv71, hp72⟩
        have hF82 : qFr [(86, 36), (86, 38), (86, 39)] [] σ α σ79 α := qFr_t hF64 hG81 (by decide) (by decide)
        have hs83 : 0 ≤ σ79 86 36 ∧ σ79 86 36 ≤ 120 := hI80.1 86 36
        have hs84 : 0 ≤ σ79 86 37 ∧ σ79 86 37 ≤ 120 := hI80.1 86 37
        have hs85 : 0 ≤ σ79 86 39 ∧ σ79 86 39 ≤ 6 := hI80.1 86 39
        show qr_W (qe L xs vb) (d + 10) qx_e216 _ (51, _, [.int (qz v71)], qw σ79 α κ ρ, 0, 0)
        refine qr_istore_n _ 52 rfl (by decide) rfl rfl ?_
        refine qr_iload_n 53 rfl rfl rfl ?_
        refine qr_bipush 55 rfl (by decide) rfl ?_
        refine qr_icmp_ne 66 58 rfl rfl rfl hv16 (by decide) (fun h86 => ?_) (fun h => False.elim (by omega))
        refine qr_iload_n 67 rfl rfl rfl ?_
        refine qr_bipush 69 rfl (by decide) rfl ?_
        refine qr_icmp_ne 80 72 rfl rfl rfl hv16 (by decide) (fun h => False.elim (by omega)) (fun h87 => ?_)
        refine qr_iload_n 73 rfl rfl rfl ?_
        refine qr_iload_n 74 rfl rfl rfl ?_
        refine qr_icmp_ne 89 77 rfl rfl rfl hv4 hv71 (fun h88 => ?_) (fun h88 => ?_)
        · skip
          refine qr_iconst 90 rfl rfl ?_
          refine qr_retI rfl rfl (by decide) (by decide) ?_
          have hw89 : σ79 86 36 = (σ79 86 36) := rfl
          have hw90 : σ79 86 37 = (σ 86 37) := (hG81.1 86 37 (by decide)).trans ((congrFun (congrFun e62 86) 37).trans ((hG11.1 86 37 (by decide)).trans rfl))
          have hw91 : σ79 86 39 = (σ79 86 39) := rfl
          exact ⟨_, rfl, hI80, hF82, 0, rfl, (by decide), by omega⟩
        · skip
          refine qr_goto 85 rfl rfl ?_
          refine qr_iconst 86 rfl rfl ?_
          refine qr_goto 90 rfl rfl ?_
          refine qr_retI rfl rfl (by decide) (by decide) ?_
          have hw92 : σ79 86 36 = (σ79 86 36) := rfl
          have hw93 : σ79 86 37 = (σ 86 37) := (hG81.1 86 37 (by decide)).trans ((congrFun (congrFun e62 86) 37).trans ((hG11.1 86 37 (by decide)).trans rfl))
          have hw94 : σ79 86 39 = (σ79 86 39) := rfl
          exact ⟨_, rfl, hI80, hF82, 1, rfl, (by decide), by omega⟩
      · skip
        refine qr_iload_n 30 rfl rfl rfl ?_
        refine qr_bipush 32 rfl (by decide) rfl ?_
        refine qr_icmp_eq 37 35 rfl rfl rfl hv16 (by decide) (fun h95 => ?_) (fun h95 => ?_)
        · skip
          refine qr_aload_n 38 rfl rfl rfl ?_
          refine qr_dup 39 rfl rfl rfl ?_
          refine qr_get 42 rfl rfl rfl (by decide) rfl ?_
          refine qr_iconst 43 rfl rfl ?_
          refine qr_iadd 44 rfl rfl ?_
          refine qr_put 47 rfl (by decide) rfl (Nat.le_of_ble_eq_true rfl) (Nat.le_of_ble_eq_true rfl) (Or.inl rfl) (qr_fitI rfl _) rfl ?_
          refine qy_wS (qw_s σ9 86 36 ((σ9 86 36) + 1)) rfl (fun σ96 e97 => ?_)
          have hI98 : qI σ96 α κ ρ := by rw [e97]; exact qI_s hI10 86 36 rfl (show 0 ≤ ((σ9 86 36) + 1) ∧ ((σ9 86 36) + 1) ≤ 120 by omega)
          have hF99 : qFr [(86, 36), (86, 38), (86, 39)] [] σ α σ96 α := by rw [e97]; exact qFr_s hF12 86 36 _ (by decide)
          refine qr_aload_n 48 rfl rfl rfl ?_
          have hs100 : 0 ≤ σ96 86 36 ∧ σ96 86 36 ≤ 120 := hI98.1 86 36
          have hs101 : σ96 86 36 = ((σ9 86 36) + 1) := (congrFun (congrFun e97 86) 36).trans rfl
          have hs102 : 0 ≤ σ96 86 37 ∧ σ96 86 37 ≤ 120 := hI98.1 86 37
          have hs103 : σ96 86 37 = (σ 86 37) := (congrFun (congrFun e97 86) 37).trans ((hG11.1 86 37 (by decide)).trans rfl)
          have hs104 : 0 ≤ σ96 86 39 ∧ σ96 86 39 ≤ 6 := hI98.1 86 39
          have hs105 : σ96 86 39 = (σ9 86 39) := (congrFun (congrFun e97 86) 39).trans rfl
          refine qr_callN 51 rfl rfl rfl (sf_217_86o5 (d := d + 0) hI98 (by omega) (by omega)) ?_
          have hs108 : 0 ≤ σ96 86 36 ∧ σ96 86 36 ≤ 120 := hI98.1 86 36
          have hs109 : σ96 86 36 = ((σ9 86 36) + 1) := (congrFun (congrFun e97 86) 36).trans rfl
          have hs110 : 0 ≤ σ96 86 37 ∧ σ96 86 37 ≤ 120 := hI98.1 86 37
          have hs111 : σ96 86 37 = (σ 86 37) := (congrFun (congrFun e97 86) 37).trans ((hG11.1 86 37 (by decide)).trans rfl)
          have hs112 : 0 ≤ σ96 86 39 ∧ σ96 86 39 ≤ 6 := hI98.1 86 39
          have hs113 : σ96 86 39 = (σ9 86 39) := (congrFun (congrFun e97 86) 39).trans rfl
          rintro _ _ ⟨σ114, rfl, hI115, hG116, v106, rfl, hv106, hp107⟩
          have hF117 : qFr [(86, 36), (86, 38), (86, 39)] [] σ α σ114 α := qFr_t hF99 hG116 (by decide) (by decide)
          have hs118 : 0 ≤ σ114 86 36 ∧ σ114 86 36 ≤ 120 := hI115.1 86 36
          have hs119 : 0 ≤ σ114 86 37 ∧ σ114 86 37 ≤ 120 := hI115.1 86 37
          have hs120 : 0 ≤ σ114 86 39 ∧ σ114 86 39 ≤ 6 := hI115.1 86 39
          show qr_W (qe L xs vb) (d + 10) qx_e216 _ (51, _, [.int (qz v106)], qw σ114 α κ ρ, 0, 0)
          refine qr_istore_n _ 52 rfl (by decide) rfl rfl ?_
          refine qr_iload_n 53 rfl rfl rfl ?_
          refine qr_bipush 55 rfl (by decide) rfl ?_
          refine qr_icmp_ne 66 58 rfl rfl rfl hv16 (by decide) (fun h121 => ?_) (fun h => False.elim (by omega))
          refine qr_iload_n 67 rfl rfl rfl ?_
          refine qr_bipush 69 rfl (by decide) rfl ?_
          refine qr_icmp_ne 80 72 rfl rfl rfl hv16 (by decide) (fun h122 => ?_) (fun h => False.elim (by omega))
          refine qr_iload_n 81 rfl rfl rfl ?_
          refine qr_iload_n 82 rfl rfl rfl ?_
          refine qr_icmp_le 89 85 rfl rfl rfl hv4 hv106 (fun h123 => ?_) (fun h123 => ?_)
          · skip
            refine qr_iconst 90 rfl rfl ?_
            refine qr_retI rfl rfl (by decide) (by decide) ?_
            have hw124 : σ114 86 36 = (σ114 86 36) := rfl
            have hw125 : σ114 86 37 = (σ 86 37) := (hG116.1 86 37 (by decide)).trans ((congrFun (congrFun e97 86) 37).trans ((hG11.1 86 37 (by decide)).trans rfl))
            have hw126 : σ114 86 39 = (σ114 86 39) := rfl
            exact ⟨_, rfl, hI115, hF117, 0, rfl, (by decide), by omega⟩
          · skip
            refine qr_iconst 86 rfl rfl ?_
            refine qr_goto 90 rfl rfl ?_
            refine qr_retI rfl rfl (by decide) (by decide) ?_
            have hw127 : σ114 86 36 = (σ114 86 36) := rfl
            have hw128 : σ114 86 37 = (σ 86 37) := (hG116.1 86 37 (by decide)).trans ((congrFun (congrFun e97 86) 37).trans ((hG11.1 86 37 (by decide)).trans rfl))
            have hw129 : σ114 86 39 = (σ114 86 39) := rfl
            exact ⟨_, rfl, hI115, hF117, 1, rfl, (by decide), by omega⟩
        · skip
          refine qr_iload_n 36 rfl rfl rfl ?_
          refine qr_retI rfl rfl (by decide) (by decide) ?_
          have hw130 : σ9 86 36 = (σ9 86 36) := rfl
          have hw131 : σ9 86 37 = (σ 86 37) := (hG11.1 86 37 (by decide)).trans rfl
          have hw132 : σ9 86 39 = (σ9 86 39) := rfl
          exact ⟨_, rfl, hI10, hF12, v4, rfl, hv4, by omega⟩
