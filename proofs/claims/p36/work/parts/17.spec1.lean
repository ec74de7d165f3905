set_option maxHeartbeats 2000000 in
set_option maxRecDepth 20000 in
/-- OneRoof.isHour -/
theorem sp_isHour {X : qm_X} {d : Nat} {w : qm_W} {h : Int} (rh : -2147483648 ≤ h ∧ h ≤ 2147483647) : qm_T X (d + 1) 62 [.int (qz h)] (w) (fun r w' => w' = w ∧ ∃ b : Int, r = some (.int (qz b)) ∧ ((b = 1 ∧ (0 ≤ h ∧ h ≤ 2399)) ∨ (b = 0 ∧ ¬ (0 ≤ h ∧ h ≤ 2399)))) := by
  refine qr_start (d := d + 0) qv_e62 (Nat.le_of_ble_eq_true rfl) ?_
  show qr_W X (d + 0) qx_e62 _ (0, [(0, .int (qz h))], [], w, 0, 0)
  refine qr_iload_n 1 rfl rfl rfl ?_
  refine qr_if_lt 15 4 rfl rfl rfl (by omega) (fun h1 => ?_) (fun h1 => ?_)
  · skip
    refine qr_iconst 16 rfl rfl ?_
    refine qr_retZ rfl rfl (by omega) (by decide) (by decide) ?_
    exact ⟨rfl, _, rfl, by omega⟩
  · skip
    refine qr_iload_n 5 rfl rfl rfl ?_
    refine qr_sipush 8 rfl (by decide) rfl ?_
    refine qr_icmp_gt 15 11 rfl rfl rfl (by omega) (by omega) (fun h2 => ?_) (fun h2 => ?_)
    · skip
      refine qr_iconst 16 rfl rfl ?_
      refine qr_retZ rfl rfl (by omega) (by decide) (by decide) ?_
      exact ⟨rfl, _, rfl, by omega⟩
    · skip
      refine qr_iconst 12 rfl rfl ?_
      refine qr_goto 16 rfl rfl ?_
      refine qr_retZ rfl rfl (by omega) (by decide) (by decide) ?_
      exact ⟨rfl, _, rfl, by omega⟩

set_option maxHeartbeats 2000000 in
set_option maxRecDepth 20000 in
/-- OneRoof.isBit -/
theorem sp_isBit {X : qm_X} {d : Nat} {w : qm_W} {v : Int} (rv : -2147483648 ≤ v ∧ v ≤ 2147483647) : qm_T X (d + 1) 41 [.int (qz v)] (w) (fun r w' => w' = w ∧ ∃ b : Int, r = some (.int (qz b)) ∧ ((b = 1 ∧ (v = 0 ∨ v = 1)) ∨ (b = 0 ∧ ¬ (v = 0 ∨ v = 1)))) := by
  refine qr_start (d := d + 0) qv_e41 (Nat.le_of_ble_eq_true rfl) ?_
  show qr_W X (d + 0) qx_e41 _ (0, [(0, .int (qz v))], [], w, 0, 0)
  refine qr_iload_n 1 rfl rfl rfl ?_
  refine qr_if_eq 9 4 rfl rfl rfl (by omega) (fun h1 => ?_) (fun h1 => ?_)
  · skip
    refine qr_iconst 10 rfl rfl ?_
    refine qr_goto 14 rfl rfl ?_
    refine qr_retZ rfl rfl (by omega) (by decide) (by decide) ?_
    exact ⟨rfl, _, rfl, by omega⟩
  · skip
    refine qr_iload_n 5 rfl rfl rfl ?_
    refine qr_iconst 6 rfl rfl ?_
    refine qr_icmp_ne 13 9 rfl rfl rfl (by omega) (by omega) (fun h2 => ?_) (fun h2 => ?_)
    · skip
      refine qr_iconst 14 rfl rfl ?_
      refine qr_retZ rfl rfl (by omega) (by decide) (by decide) ?_
      exact ⟨rfl, _, rfl, by omega⟩
    · skip
      refine qr_iconst 10 rfl rfl ?_
      refine qr_goto 14 rfl rfl ?_
      refine qr_retZ rfl rfl (by omega) (by decide) (by decide) ?_
      exact ⟨rfl, _, rfl, by omega⟩

set_option maxHeartbeats 2000000 in
set_option maxRecDepth 20000 in
/-- OneRoof.isSpan -/
theorem sp_isSpan {X : qm_X} {d : Nat} {w : qm_W} {f : Int} (rf : -2147483648 ≤ f ∧ f ≤ 2147483647) : qm_T X (d + 2) 70 [.int (qz f)] (w) (fun r w' => w' = w ∧ ∃ b : Int, r = some (.int (qz b)) ∧ ((b = 1 ∧ (0 ≤ f ∧ f / 10000 ≤ f % 10000 ∧ f % 10000 ≤ 2399)) ∨ (b = 0 ∧ ¬ (0 ≤ f ∧ f / 10000 ≤ f % 10000 ∧ f % 10000 ≤ 2399)))) := by
  refine qr_start (d := d + 1) qv_e70 (Nat.le_of_ble_eq_true rfl) ?_
  show qr_W X (d + 1) qx_e70 _ (0, [(0, .int (qz f))], [], w, 0, 0)
  refine qr_iload_n 1 rfl rfl rfl ?_
  refine qr_if_lt 32 4 rfl rfl rfl (by omega) (fun h1 => ?_) (fun h1 => ?_)
  · skip
    refine qr_iconst 33 rfl rfl ?_
    refine qr_retZ rfl rfl (by omega) (by decide) (by decide) ?_
    exact ⟨rfl, _, rfl, by omega⟩
  · skip
    refine qr_iload_n 5 rfl rfl rfl ?_
    refine qr_sipush 8 rfl (by decide) rfl ?_
    refine qr_idiv 9 rfl (by omega) (by omega) rfl ?_
    refine qr_iload_n 10 rfl rfl rfl ?_
    refine qr_sipush 13 rfl (by decide) rfl ?_
    refine qr_irem 14 rfl (by omega) (by omega) rfl ?_
    refine qr_icmp_gt 32 17 rfl rfl rfl (by omega) (by omega) (fun h2 => ?_) (fun h2 => ?_)
    · skip
      refine qr_iconst 33 rfl rfl ?_
      refine qr_retZ rfl rfl (by omega) (by decide) (by decide) ?_
      exact ⟨rfl, _, rfl, by omega⟩
    · skip
      refine qr_iload_n 18 rfl rfl rfl ?_
      refine qr_sipush 21 rfl (by decide) rfl ?_
      refine qr_irem 22 rfl (by omega) (by omega) rfl ?_
      refine qr_callN 25 rfl rfl rfl (sp_isHour (by omega)) ?_
      rintro _ _ ⟨rfl, b3, rfl, hb4⟩
      simp only [Option.toList, List.drop, List.cons_append, List.nil_append]
      refine qr_if_eq 32 28 rfl rfl rfl (by omega) (fun h5 => ?_) (fun h5 => ?_)
      · skip
        refine qr_iconst 33 rfl rfl ?_
        refine qr_retZ rfl rfl (by omega) (by decide) (by decide) ?_
        exact ⟨rfl, _, rfl, by omega⟩
      · skip
        refine qr_iconst 29 rfl rfl ?_
        refine qr_goto 33 rfl rfl ?_
        refine qr_retZ rfl rfl (by omega) (by decide) (by decide) ?_
        exact ⟨rfl, _, rfl, by omega⟩

set_option maxHeartbeats 2000000 in
set_option maxRecDepth 20000 in
/-- OneRoof.isWindow -/
theorem sp_isWindow {X : qm_X} {d : Nat} {w : qm_W} {f : Int} (rf : -2147483648 ≤ f ∧ f ≤ 2147483647) : qm_T X (d + 3) 100 [.int (qz f)] (w) (fun r w' => w' = w ∧ ∃ b : Int, r = some (.int (qz b)) ∧ ((b = 1 ∧ ((0 ≤ f ∧ f / 10000 ≤ f % 10000 ∧ f % 10000 ≤ 2399) ∧ f % 10000 - f / 10000 < 48)) ∨ (b = 0 ∧ ¬ ((0 ≤ f ∧ f / 10000 ≤ f % 10000 ∧ f % 10000 ≤ 2399) ∧ f % 10000 - f / 10000 < 48)))) := by
  refine qr_start (d := d + 2) qv_e100 (Nat.le_of_ble_eq_true rfl) ?_
  show qr_W X (d + 2) qx_e100 _ (0, [(0, .int (qz f))], [], w, 0, 0)
  refine qr_iload_n 1 rfl rfl rfl ?_
  refine qr_callN 4 rfl rfl rfl (sp_isSpan (by omega)) ?_
  rintro _ _ ⟨rfl, b1, rfl, hb2⟩
  simp only [Option.toList, List.drop, List.cons_append, List.nil_append]
  refine qr_if_eq 27 7 rfl rfl rfl (by omega) (fun h3 => ?_) (fun h3 => ?_)
  · skip
    refine qr_iconst 28 rfl rfl ?_
    refine qr_retZ rfl rfl (by omega) (by decide) (by decide) ?_
    exact ⟨rfl, _, rfl, by omega⟩
  · skip
    refine qr_iload_n 8 rfl rfl rfl ?_
    refine qr_sipush 11 rfl (by decide) rfl ?_
    refine qr_irem 12 rfl (by omega) (by omega) rfl ?_
    refine qr_iload_n 13 rfl rfl rfl ?_
    refine qr_sipush 16 rfl (by decide) rfl ?_
    refine qr_idiv 17 rfl (by omega) (by omega) rfl ?_
    refine qr_isub 18 rfl rfl ?_
    refine qr_bipush 20 rfl (by decide) rfl ?_
    refine qr_icmp_ge 27 23 rfl rfl rfl (by omega) (by omega) (fun h4 => ?_) (fun h4 => ?_)
    · skip
      refine qr_iconst 28 rfl rfl ?_
      refine qr_retZ rfl rfl (by omega) (by decide) (by decide) ?_
      exact ⟨rfl, _, rfl, by omega⟩
    · skip
      refine qr_iconst 24 rfl rfl ?_
      refine qr_goto 28 rfl rfl ?_
      refine qr_retZ rfl rfl (by omega) (by decide) (by decide) ?_
      exact ⟨rfl, _, rfl, by omega⟩

set_option maxHeartbeats 2000000 in
set_option maxRecDepth 20000 in
/-- OneRoof$Folk.has -/
theorem sp_fhas {X : qm_X} {d : Nat} {σ α : Nat → Nat → Int} {κ : Nat → Option Nat} {ρ : Nat} (hF : 0 ≤ σ 17 6 ∧ σ 17 6 ≤ 32) {p : Int} (rp : -2147483648 ≤ p ∧ p ≤ 2147483647) : qm_T X (d + 1) 40 [.ref 17, .int (qz p)] (qw σ α κ ρ) (fun r w' => w' = qw σ α κ ρ ∧ ∃ b : Int, r = some (.int (qz b)) ∧ ((b = 1 ∧ (0 ≤ p ∧ p < σ 17 6)) ∨ (b = 0 ∧ ¬ (0 ≤ p ∧ p < σ 17 6)))) := by
  refine qr_start (d := d + 0) qv_e40 (Nat.le_of_ble_eq_true rfl) ?_
  show qr_W X (d + 0) qx_e40 _ (0, [(0, .ref 17), (1, .int (qz p))], [], qw σ α κ ρ, 0, 0)
  refine qr_iload_n 1 rfl rfl rfl ?_
  refine qr_if_lt 16 4 rfl rfl rfl (by omega) (fun h1 => ?_) (fun h1 => ?_)
  · skip
    refine qr_iconst 17 rfl rfl ?_
    refine qr_retZ rfl rfl (by omega) (by decide) (by decide) ?_
    exact ⟨rfl, _, rfl, by omega⟩
  · skip
    refine qr_iload_n 5 rfl rfl rfl ?_
    refine qr_aload_n 6 rfl rfl rfl ?_
    refine qr_get 9 rfl rfl rfl (by decide) rfl ?_
    refine qr_icmp_ge 16 12 rfl rfl rfl (by omega) (by omega) (fun h2 => ?_) (fun h2 => ?_)
    · skip
      refine qr_iconst 17 rfl rfl ?_
      refine qr_retZ rfl rfl (by omega) (by decide) (by decide) ?_
      exact ⟨rfl, _, rfl, by omega⟩
    · skip
      refine qr_iconst 13 rfl rfl ?_
      refine qr_goto 17 rfl rfl ?_
      refine qr_retZ rfl rfl (by omega) (by decide) (by decide) ?_
      exact ⟨rfl, _, rfl, by omega⟩

set_option maxHeartbeats 2000000 in
set_option maxRecDepth 20000 in
/-- OneRoof$Folk.isPair -/
theorem sp_isPair {X : qm_X} {d : Nat} {σ α : Nat → Nat → Int} {κ : Nat → Option Nat} {ρ : Nat} (hF : 0 ≤ σ 17 6 ∧ σ 17 6 ≤ 32) {p : Int} (rp : -2147483648 ≤ p ∧ p ≤ 2147483647) : qm_T X (d + 2) 61 [.ref 17, .int (qz p)] (qw σ α κ ρ) (fun r w' => w' = qw σ α κ ρ ∧ ∃ b : Int, r = some (.int (qz b)) ∧ ((b = 1 ∧ (0 ≤ p ∧ p / 100 < σ 17 6 ∧ p % 100 < σ 17 6 ∧ ¬ p / 100 = p % 100)) ∨ (b = 0 ∧ ¬ (0 ≤ p ∧ p / 100 < σ 17 6 ∧ p % 100 < σ 17 6 ∧ ¬ p / 100 = p % 100)))) := by
  refine qr_start (d := d + 1) qv_e61 (Nat.le_of_ble_eq_true rfl) ?_
  show qr_W X (d + 1) qx_e61 _ (0, [(0, .ref 17), (1, .int (qz p))], [], qw σ α κ ρ, 0, 0)
  refine qr_iload_n 1 rfl rfl rfl ?_
  refine qr_if_lt 41 4 rfl rfl rfl (by omega) (fun h1 => ?_) (fun h1 => ?_)
  · skip
    refine qr_iconst 42 rfl rfl ?_
    refine qr_retZ rfl rfl (by omega) (by decide) (by decide) ?_
    exact ⟨rfl, _, rfl, by omega⟩
  · skip
    refine qr_aload_n 5 rfl rfl rfl ?_
    refine qr_iload_n 6 rfl rfl rfl ?_
    refine qr_bipush 8 rfl (by decide) rfl ?_
    refine qr_idiv 9 rfl (by omega) (by omega) rfl ?_
    refine qr_callN 12 rfl rfl rfl (sp_fhas hF (by omega)) ?_
    rintro _ _ ⟨rfl, b2, rfl, hb3⟩
    simp only [Option.toList, List.drop, List.cons_append, List.nil_append]
    refine qr_if_eq 41 15 rfl rfl rfl (by omega) (fun h4 => ?_) (fun h4 => ?_)
    · skip
      refine qr_iconst 42 rfl rfl ?_
      refine qr_retZ rfl rfl (by omega) (by decide) (by decide) ?_
      exact ⟨rfl, _, rfl, by omega⟩
    · skip
      refine qr_aload_n 16 rfl rfl rfl ?_
      refine qr_iload_n 17 rfl rfl rfl ?_
      refine qr_bipush 19 rfl (by decide) rfl ?_
      refine qr_irem 20 rfl (by omega) (by omega) rfl ?_
      refine qr_callN 23 rfl rfl rfl (sp_fhas hF (by omega)) ?_
      rintro _ _ ⟨rfl, b5, rfl, hb6⟩
      simp only [Option.toList, List.drop, List.cons_append, List.nil_append]
      refine qr_if_eq 41 26 rfl rfl rfl (by omega) (fun h7 => ?_) (fun h7 => ?_)
      · skip
        refine qr_iconst 42 rfl rfl ?_
        refine qr_retZ rfl rfl (by omega) (by decide) (by decide) ?_
        exact ⟨rfl, _, rfl, by omega⟩
      · skip
        refine qr_iload_n 27 rfl rfl rfl ?_
        refine qr_bipush 29 rfl (by decide) rfl ?_
        refine qr_idiv 30 rfl (by omega) (by omega) rfl ?_
        refine qr_iload_n 31 rfl rfl rfl ?_
        refine qr_bipush 33 rfl (by decide) rfl ?_
        refine qr_irem 34 rfl (by omega) (by omega) rfl ?_
        refine qr_icmp_eq 41 37 rfl rfl rfl (by omega) (by omega) (fun h8 => ?_) (fun h8 => ?_)
        · skip
          refine qr_iconst 42 rfl rfl ?_
          refine qr_retZ rfl rfl (by omega) (by decide) (by decide) ?_
          exact ⟨rfl, _, rfl, by omega⟩
        · skip
          refine qr_iconst 38 rfl rfl ?_
          refine qr_goto 42 rfl rfl ?_
          refine qr_retZ rfl rfl (by omega) (by decide) (by decide) ?_
          exact ⟨rfl, _, rfl, by omega⟩

set_option maxHeartbeats 2000000 in
set_option maxRecDepth 20000 in
/-- OneRoof$Folk.fits -/
theorem sp_fits {X : qm_X} {d : Nat} {σ α : Nat → Nat → Int} {κ : Nat → Option Nat} {ρ : Nat} (hF : 0 ≤ σ 17 6 ∧ σ 17 6 ≤ 32) {a b c : Int} (ra : -2147483648 ≤ a ∧ a ≤ 2147483647) (rb : -2147483648 ≤ b ∧ b ≤ 2147483647) (rc : -2147483648 ≤ c ∧ c ≤ 2147483647) : qm_T X (d + 2) 39 [.ref 17, .int (qz a), .int (qz b), .int (qz c)] (qw σ α κ ρ) (fun r w' => w' = qw σ α κ ρ ∧ ∃ b : Int, r = some (.int (qz b)) ∧ ((b = 1 ∧ (-1 ≤ a ∧ a < σ 17 6 ∧ 1 ≤ b ∧ b ≤ 99 ∧ (c = 0 ∨ c = 1))) ∨ (b = 0 ∧ ¬ (-1 ≤ a ∧ a < σ 17 6 ∧ 1 ≤ b ∧ b ≤ 99 ∧ (c = 0 ∨ c = 1))))) := by
  refine qr_start (d := d + 1) qv_e39 (Nat.le_of_ble_eq_true rfl) ?_
  show qr_W X (d + 1) qx_e39 _ (0, [(0, .ref 17), (1, .int (qz a)), (2, .int (qz b)), (3, .int (qz c))], [], qw σ α κ ρ, 0, 0)
  refine qr_iload_n 1 rfl rfl rfl ?_
  refine qr_iconst 2 rfl rfl ?_
  refine qr_icmp_eq 13 5 rfl rfl rfl (by omega) (by omega) (fun h1 => ?_) (fun h1 => ?_)
  · skip
    refine qr_iload_n 14 rfl rfl rfl ?_
    refine qr_iconst 15 rfl rfl ?_
    refine qr_icmp_lt 35 18 rfl rfl rfl (by omega) (by omega) (fun h2 => ?_) (fun h2 => ?_)
    · skip
      refine qr_iconst 36 rfl rfl ?_
      refine qr_retZ rfl rfl (by omega) (by decide) (by decide) ?_
      exact ⟨rfl, _, rfl, by omega⟩
    · skip
      refine qr_iload_n 19 rfl rfl rfl ?_
      refine qr_bipush 21 rfl (by decide) rfl ?_
      refine qr_icmp_gt 35 24 rfl rfl rfl (by omega) (by omega) (fun h3 => ?_) (fun h3 => ?_)
      · skip
        refine qr_iconst 36 rfl rfl ?_
        refine qr_retZ rfl rfl (by omega) (by decide) (by decide) ?_
        exact ⟨rfl, _, rfl, by omega⟩
      · skip
        refine qr_iload_n 25 rfl rfl rfl ?_
        refine qr_callN 28 rfl rfl rfl (sp_isBit (by omega)) ?_
        rintro _ _ ⟨rfl, b4, rfl, hb5⟩
        simp only [Option.toList, List.drop, List.cons_append, List.nil_append]
        refine qr_if_eq 35 31 rfl rfl rfl (by omega) (fun h6 => ?_) (fun h6 => ?_)
        · skip
          refine qr_iconst 36 rfl rfl ?_
          refine qr_retZ rfl rfl (by omega) (by decide) (by decide) ?_
          exact ⟨rfl, _, rfl, by omega⟩
        · skip
          refine qr_iconst 32 rfl rfl ?_
          refine qr_goto 36 rfl rfl ?_
          refine qr_retZ rfl rfl (by omega) (by decide) (by decide) ?_
          exact ⟨rfl, _, rfl, by omega⟩
  · skip
    refine qr_aload_n 6 rfl rfl rfl ?_
    refine qr_iload_n 7 rfl rfl rfl ?_
    refine qr_callN 10 rfl rfl rfl (sp_fhas hF (by omega)) ?_
    rintro _ _ ⟨rfl, b7, rfl, hb8⟩
    simp only [Option.toList, List.drop, List.cons_append, List.nil_append]
    refine qr_if_eq 35 13 rfl rfl rfl (by omega) (fun h9 => ?_) (fun h9 => ?_)
    · skip
      refine qr_iconst 36 rfl rfl ?_
      refine qr_retZ rfl rfl (by omega) (by decide) (by decide) ?_
      exact ⟨rfl, _, rfl, by omega⟩
    · skip
      refine qr_iload_n 14 rfl rfl rfl ?_
      refine qr_iconst 15 rfl rfl ?_
      refine qr_icmp_lt 35 18 rfl rfl rfl (by omega) (by omega) (fun h10 => ?_) (fun h10 => ?_)
      · skip
        refine qr_iconst 36 rfl rfl ?_
        refine qr_retZ rfl rfl (by omega) (by decide) (by decide) ?_
        exact ⟨rfl, _, rfl, by omega⟩
      · skip
        refine qr_iload_n 19 rfl rfl rfl ?_
        refine qr_bipush 21 rfl (by decide) rfl ?_
        refine qr_icmp_gt 35 24 rfl rfl rfl (by omega) (by omega) (fun h11 => ?_) (fun h11 => ?_)
        · skip
          refine qr_iconst 36 rfl rfl ?_
          refine qr_retZ rfl rfl (by omega) (by decide) (by decide) ?_
          exact ⟨rfl, _, rfl, by omega⟩
        · skip
          refine qr_iload_n 25 rfl rfl rfl ?_
          refine qr_callN 28 rfl rfl rfl (sp_isBit (by omega)) ?_
          rintro _ _ ⟨rfl, b12, rfl, hb13⟩
          simp only [Option.toList, List.drop, List.cons_append, List.nil_append]
          refine qr_if_eq 35 31 rfl rfl rfl (by omega) (fun h14 => ?_) (fun h14 => ?_)
          · skip
            refine qr_iconst 36 rfl rfl ?_
            refine qr_retZ rfl rfl (by omega) (by decide) (by decide) ?_
            exact ⟨rfl, _, rfl, by omega⟩
          · skip
            refine qr_iconst 32 rfl rfl ?_
            refine qr_goto 36 rfl rfl ?_
            refine qr_retZ rfl rfl (by omega) (by decide) (by decide) ?_
            exact ⟨rfl, _, rfl, by omega⟩

set_option maxHeartbeats 2000000 in
set_option maxRecDepth 20000 in
/-- OneRoof$Peaces.has -/
theorem sp_phas {X : qm_X} {d : Nat} {σ α : Nat → Nat → Int} {κ : Nat → Option Nat} {ρ : Nat} (hP : 0 ≤ σ 34 7 ∧ σ 34 7 ≤ 60) {p : Int} (rp : -2147483648 ≤ p ∧ p ≤ 2147483647) : qm_T X (d + 1) 73 [.ref 34, .int (qz p)] (qw σ α κ ρ) (fun r w' => w' = qw σ α κ ρ ∧ ∃ b : Int, r = some (.int (qz b)) ∧ ((b = 1 ∧ (0 ≤ p ∧ p < σ 34 7)) ∨ (b = 0 ∧ ¬ (0 ≤ p ∧ p < σ 34 7)))) := by
  refine qr_start (d := d + 0) qv_e73 (Nat.le_of_ble_eq_true rfl) ?_
  show qr_W X (d + 0) qx_e73 _ (0, [(0, .ref 34), (1, .int (qz p))], [], qw σ α κ ρ, 0, 0)
  refine qr_iload_n 1 rfl rfl rfl ?_
  refine qr_if_lt 16 4 rfl rfl rfl (by omega) (fun h1 => ?_) (fun h1 => ?_)
  · skip
    refine qr_iconst 17 rfl rfl ?_
    refine qr_retZ rfl rfl (by omega) (by decide) (by decide) ?_
    exact ⟨rfl, _, rfl, by omega⟩
  · skip
    refine qr_iload_n 5 rfl rfl rfl ?_
    refine qr_aload_n 6 rfl rfl rfl ?_
    refine qr_get 9 rfl rfl rfl (by decide) rfl ?_
    refine qr_icmp_ge 16 12 rfl rfl rfl (by omega) (by omega) (fun h2 => ?_) (fun h2 => ?_)
    · skip
      refine qr_iconst 17 rfl rfl ?_
      refine qr_retZ rfl rfl (by omega) (by decide) (by decide) ?_
      exact ⟨rfl, _, rfl, by omega⟩
    · skip
      refine qr_iconst 13 rfl rfl ?_
      refine qr_goto 17 rfl rfl ?_
      refine qr_retZ rfl rfl (by omega) (by decide) (by decide) ?_
      exact ⟨rfl, _, rfl, by omega⟩

set_option maxHeartbeats 2000000 in
set_option maxRecDepth 20000 in
/-- OneRoof$Pegs.has -/
theorem sp_ghas {X : qm_X} {d : Nat} {σ α : Nat → Nat → Int} {κ : Nat → Option Nat} {ρ : Nat} {p : Int} (rp : -2147483648 ≤ p ∧ p ≤ 2147483647) : qm_T X (d + 1) 44 [.ref 44, .int (qz p)] (qw σ α κ ρ) (fun r w' => w' = qw σ α κ ρ ∧ ∃ b : Int, r = some (.int (qz b)) ∧ ((b = 1 ∧ (0 ≤ p ∧ p < 6)) ∨ (b = 0 ∧ ¬ (0 ≤ p ∧ p < 6)))) := by
  refine qr_start (d := d + 0) qv_e44 (Nat.le_of_ble_eq_true rfl) ?_
  show qr_W X (d + 0) qx_e44 _ (0, [(0, .ref 44), (1, .int (qz p))], [], qw σ α κ ρ, 0, 0)
  refine qr_iload_n 1 rfl rfl rfl ?_
  refine qr_if_lt 14 4 rfl rfl rfl (by omega) (fun h1 => ?_) (fun h1 => ?_)
  · skip
    refine qr_iconst 15 rfl rfl ?_
    refine qr_retZ rfl rfl (by omega) (by decide) (by decide) ?_
    exact ⟨rfl, _, rfl, by omega⟩
  · skip
    refine qr_iload_n 5 rfl rfl rfl ?_
    refine qr_bipush 7 rfl (by decide) rfl ?_
    refine qr_icmp_ge 14 10 rfl rfl rfl (by omega) (by omega) (fun h2 => ?_) (fun h2 => ?_)
    · skip
      refine qr_iconst 15 rfl rfl ?_
      refine qr_retZ rfl rfl (by omega) (by decide) (by decide) ?_
      exact ⟨rfl, _, rfl, by omega⟩
    · skip
      refine qr_iconst 11 rfl rfl ?_
      refine qr_goto 15 rfl rfl ?_
      refine qr_retZ rfl rfl (by omega) (by decide) (by decide) ?_
      exact ⟨rfl, _, rfl, by omega⟩
