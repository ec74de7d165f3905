set_option maxHeartbeats 2000000 in
set_option maxRecDepth 20000 in
/-- Custom.readNumber -/
theorem sp_readNumber {X : qm_X} {d : Nat} {w : qm_W} {a : Nat} {ln at_ sz nm sk : Int} {t cd : Nat → Int} (hi : qc_in w a) (ht : ∀ j, -2147483648 ≤ t j ∧ t j ≤ 2147483647) (hl : 0 ≤ ln ∧ ln ≤ 120) (h0 : 0 ≤ at_ ∧ at_ ≤ ln ∧ 0 ≤ sz ∧ sz ≤ 122 ∧ -2147483648 ≤ nm ∧ nm ≤ 2147483647 ∧ (sk = 0 ∨ sk = 1))  : qm_T X (d + 2) 24 [.ref a] (qc w a ln at_ sz nm sk t cd) (fun r w' => r = none ∧ ∃ (at2 sz2 nm2 sk2 : Int) (cd2 : Nat → Int), w' = qc w a ln at2 sz2 nm2 sk2 t cd2 ∧ (0 ≤ at2 ∧ at2 ≤ ln ∧ 0 ≤ sz2 ∧ sz2 ≤ 122 ∧ -2147483648 ≤ nm2 ∧ nm2 ≤ 2147483647 ∧ (sk2 = 0 ∨ sk2 = 1) ∧ (sk = 1 → sk2 = 1))) := by
  refine qr_start (d := d + 1) qv_e24 (Nat.le_of_ble_eq_true rfl) ?_
  show qr_W X (d + 1) qx_e24 _ (0, [(0, .ref a)], [], qc w a ln at_ sz nm sk t cd, 0, 0)
  have loop : ∀ (n : Nat) (i u at1 : Int), (0 ≤ i ∧ i ≤ 4 ∧ 4 - i < n) → (0 ≤ at1 ∧ at1 ≤ ln) → qr_W X (d + 1) qx_e24 (fun r w' => r = none ∧ ∃ (at2 sz2 nm2 sk2 : Int) (cd2 : Nat → Int), w' = qc w a ln at2 sz2 nm2 sk2 t cd2 ∧ (0 ≤ at2 ∧ at2 ≤ ln ∧ 0 ≤ sz2 ∧ sz2 ≤ 122 ∧ -2147483648 ≤ nm2 ∧ nm2 ≤ 2147483647 ∧ (sk2 = 0 ∨ sk2 = 1) ∧ (sk = 1 → sk2 = 1))) (4, [(2, .int (qz i)), (1, .int (qz u)), (0, .ref a)], [], qc w a ln at1 sz nm sk t cd, 0, 0) := by
    intro n
    induction n with
    | zero => intro i u at1 h1 h2; exact absurd h1 (by omega)
    | succ n ih =>
      intro i u at1 h1 h2
      refine qr_iload_n 5 rfl rfl rfl ?_
      refine qr_iconst 6 rfl rfl ?_
      refine qr_icmp_ge 48 9 rfl rfl rfl (by omega) (by omega) (fun h1 => ?_) (fun h1 => ?_)
      · skip
        refine qr_aload_n 49 rfl rfl rfl ?_
        refine qr_bipush 51 rfl (by decide) rfl ?_
        refine qr_iload_n 52 rfl rfl rfl ?_
        refine qr_ccall (as := [.int (qz 48), .int (qz u)]) (rest := []) hi 55 rfl rfl (Nat.le_of_ble_eq_true rfl) rfl rfl (sp_emit hi ht hl (by omega)) ?_
        rintro _ _ ⟨b2, sz3, cd4, rfl, rfl, hb5⟩
        simp only [Option.toList, List.cons_append, List.nil_append]
        refine qr_pop 56 rfl rfl rfl ?_
        refine qr_retV rfl rfl (Nat.zero_le _) (Nat.zero_le _) ?_
        exact ⟨rfl, _, _, _, _, _, rfl, by omega⟩
      · skip
        refine qr_aload_n 10 rfl rfl rfl ?_
        refine qr_ccall (as := []) (rest := []) hi 13 rfl rfl (Nat.le_of_ble_eq_true rfl) rfl rfl (sp_next hi ht hl (by omega)) ?_
        rintro _ _ ⟨rfl, b6, rfl, hb7⟩
        simp only [Option.toList, List.cons_append, List.nil_append]
        refine qr_callN 16 rfl rfl rfl (sp_isDigit (by omega)) ?_
        rintro _ _ ⟨rfl, b8, rfl, hb9⟩
        simp only [Option.toList, List.drop, List.cons_append, List.nil_append]
        refine qr_if_eq 48 19 rfl rfl rfl (by omega) (fun h10 => ?_) (fun h10 => ?_)
        · skip
          refine qr_aload_n 49 rfl rfl rfl ?_
          refine qr_bipush 51 rfl (by decide) rfl ?_
          refine qr_iload_n 52 rfl rfl rfl ?_
          refine qr_ccall (as := [.int (qz 48), .int (qz u)]) (rest := []) hi 55 rfl rfl (Nat.le_of_ble_eq_true rfl) rfl rfl (sp_emit hi ht hl (by omega)) ?_
          rintro _ _ ⟨b11, sz12, cd13, rfl, rfl, hb14⟩
          simp only [Option.toList, List.cons_append, List.nil_append]
          refine qr_pop 56 rfl rfl rfl ?_
          refine qr_retV rfl rfl (Nat.zero_le _) (Nat.zero_le _) ?_
          exact ⟨rfl, _, _, _, _, _, rfl, by omega⟩
        · skip
          refine qr_iload_n 20 rfl rfl rfl ?_
          refine qr_bipush 22 rfl (by decide) rfl ?_
          refine qr_imul 23 rfl rfl ?_
          refine qr_topI (fun v15 hv15 => ?_)
          refine qr_aload_n 24 rfl rfl rfl ?_
          refine qr_ccall (as := []) (rest := [.int (qz v15)]) hi 27 rfl rfl (Nat.le_of_ble_eq_true rfl) rfl rfl (sp_next hi ht hl (by omega)) ?_
          rintro _ _ ⟨rfl, b16, rfl, hb17⟩
          simp only [Option.toList, List.cons_append, List.nil_append]
          refine qr_iadd 28 rfl rfl ?_
          refine qr_topI (fun v18 hv18 => ?_)
          refine qr_bipush 30 rfl (by decide) rfl ?_
          refine qr_isub 31 rfl rfl ?_
          refine qr_topI (fun v19 hv19 => ?_)
          refine qr_istore_n [(1, .int (qz v19)), (2, .int (qz i)), (0, .ref a)] 32 rfl (by decide) rfl rfl ?_
          refine qr_aload_n 33 rfl rfl rfl ?_
          refine qr_dup 34 rfl rfl rfl ?_
          refine qr_cget4 hi 37 rfl rfl ?_
          refine qr_iconst 38 rfl rfl ?_
          refine qr_iadd 39 rfl rfl ?_
          refine qr_topI (fun v20 hv20 => ?_)
          refine qr_cput4 hi 42 rfl rfl ?_
          refine qr_iincG (fun v21 => [(2, .int (qz v21)), (1, .int (qz v19)), (0, .ref a)]) 45 rfl rfl (by decide) (fun _ => rfl) rfl (fun v21 hv21 => ?_)
          refine qr_goto 4 rfl rfl ?_
          exact ih v21 v19 v20 (by omega) (by omega)
  refine qr_iconst 1 rfl rfl ?_
  refine qr_istore_n [(1, .int (qz 0)), (0, .ref a)] 2 rfl (by decide) rfl rfl ?_
  refine qr_iconst 3 rfl rfl ?_
  refine qr_istore_n [(2, .int (qz 0)), (1, .int (qz 0)), (0, .ref a)] 4 rfl (by decide) rfl rfl ?_
  exact loop 5 0 0 at_ (by omega) (by omega)
