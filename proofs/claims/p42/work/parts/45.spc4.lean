set_option maxHeartbeats 4000000 in
set_option maxRecDepth 20000 in
/-- OneRoof$Acts.forget -/
theorem sf_149_42z {L : Nat} {xs : Nat → Int} {vb : Bool} {d : Nat} {σ α : Nat → Nat → Int} {κ : Nat → Option Nat} {ρ : Nat}  (hI : qI σ α κ ρ)  : qm_T (qe L xs vb) (d + 1) 149 [.ref 42] (qw σ α κ ρ) (fun r w' => ∃ σ', w' = qw σ' α κ ρ ∧ qI σ' α κ ρ ∧ qFr [(42, 1)] [] σ α σ' α ∧ σ' 42 1 = 0 ∧ r = none) := by
  refine qr_start (d := d + 0) qv_e149 (Nat.le_of_ble_eq_true rfl) ?_
  show qr_W (qe L xs vb) (d + 0) qx_e149 _ (0, [(0, .ref 42)], [], _, 0, 0)
  have hF0 := qFr_rf [(42, 1)] [] σ α
  refine qr_aload_n 1 rfl rfl rfl ?_
  refine qr_iconst 2 rfl rfl ?_
  refine qr_put 5 rfl (by decide) rfl (Nat.le_of_ble_eq_true rfl) (Nat.le_of_ble_eq_true rfl) (Or.inl rfl) (qr_fitI rfl _) rfl ?_
  refine qy_wS (qw_s σ 42 1 0) rfl (fun σ1 e2 => ?_)
  have hI3 : qI σ1 α κ ρ := by rw [e2]; exact qI_s hI 42 1 rfl (show (-2147483648) ≤ 0 ∧ 0 ≤ 2147483647 by omega)
  have hF4 : qFr [(42, 1)] [] σ α σ1 α := by rw [e2]; exact qFr_s hF0 42 1 _ (by decide)
  refine qr_retV rfl rfl (by decide) (by decide) ?_
  exact ⟨_, rfl, hI3, hF4, (by have hw : σ1 42 1 = 0 := (congrFun (congrFun e2 42) 1).trans rfl; omega), rfl⟩
