set_option maxHeartbeats 2000000 in
set_option maxRecDepth 20000 in
/-- Custom.readNumber -/
theorem sp_readNumber {X : qm_X} {d : Nat} {w : qm_W} {a : Nat} {ln at_ sz nm sk : Int} {t cd : Nat → Int} (hi : qc_in w a) (ht : ∀ j, -2147483648 ≤ t j ∧ t j ≤ 2147483647) (hl : 0 ≤ ln ∧ ln ≤ 120) (h0 : 0 ≤ at_ ∧ at_ ≤ ln ∧ 0 ≤ sz ∧ sz ≤ 122 ∧ -2147483648 ≤ nm ∧ nm ≤ 2147483647 ∧ (sk = 0 ∨ sk = 1))  : qm_T X (d + 2) 24 [.ref a] (qc w a ln at_ sz nm sk t cd) (fun r w' => r = none ∧ ∃ (at2 sz2 nm2 sk2 : Int) (cd2 : Nat → Int), w' = qc w a ln at2 sz2 nm2 sk2 t cd2 ∧ (0 ≤ at2 ∧ at2 ≤ ln ∧ 0 ≤ sz2 ∧ sz2 ≤ 122 ∧ -2147483648 ≤ nm2 ∧ nm2 ≤ 2147483647 ∧ (sk2 = 0 ∨ sk2 = 1) ∧ (sk = 1 → sk2 = 1))) := by
  refine qr_start (d := d + 1) qv_e24 (Nat.le_of_ble_eq_true rfl) ?_
  show qr_W X (d + 1) qx_e24 _ (0, [(0, .ref a)], [], qc w a ln at_ sz nm sk t cd, 0, 0)
  have loop : ∀ (n : Nat) (i u at1 : Int), (0 ≤ i ∧ i ≤ 4 ∧ 4 - i < n) → (0 ≤ at1 ∧ at1 ≤ ln) → qr_W X (d + 1) qx_e24 (fun r w' => r = none ∧ ∃ (at2 sz2 nm2 sk2 : Int) (cd2 : Nat → Int), w' = qc w a ln at2 sz2 nm2 sk2 t cd2 ∧ (0 ≤ at2 ∧ at2 ≤ ln ∧ 0 ≤ sz2 ∧ sz2 ≤ 122 ∧ -2147483648 ≤ nm2 ∧ nm2 ≤ 2147483647 ∧ (sk2 = 0 ∨ sk2 = 1) ∧ (sk = 1 → sk2 = 1))) (4, [(2, .int (qz i)), (1, .int (qz u)), (0, .ref a)], [], qc w a ln at1 sz nm sk t cd, 0, 0) := by
    intro n
    induction n with
    | zero => intro i u at1 h1 h2; exact absurd h1 (by omega)
    | succ n ih =>
      intro i u at1 h1 h2
      refine qr_iload_n 5 rfl rfl rfl ?_
      refine qr_iconst 6 rfl rfl ?_
      refine qr_icmp_ge 48 9 rfl rfl rfl (by omega) (by omega) (fun h1 => ?_) (fun h1 => ?_)
      · skip
        refine qr_aload_n 49 rfl rfl rfl ?_
        refine qr_bipush 51 rfl (by decide) rfl ?_
        refine qr_iload_n 52 rfl rfl rfl ?_
        refine qr_ccall (as := [.int (qz 48), .int (qz u)]) (rest := []) hi 55 rfl rfl (Nat.le_of_ble_eq_true rfl) rfl rfl (sp_emit hi ht hl (by omega)) ?_
        rintro _ _ ⟨b2, sz3, cd4, rfl, rfl, hb5⟩
        simp only [Option.toList, List.cons_append, List.nil_append]
        refine qr_pop 56 rfl rfl rfl ?_
        refine qr_retV rfl rfl (Nat.zero_le _) (Nat.zero_le _) ?_
        exact ⟨rfl, _, _, _, _, _, rfl, by omega⟩
      · skip
        refine qr_aload_n 10 rfl rfl rfl ?_
        refine qr_ccall (as := []) (rest := []) hi 13 rfl rfl (Nat.le_of_ble_eq_true rfl) rfl rfl (sp_next hi ht hl (by omega)) ?_
        rintro _ _ ⟨rfl, b6, rfl, hb7⟩
        simp only [Option.toList, List.cons_append, List.nil_append]
        refine qr_callN 16 rfl rfl rfl (sp_isDigit (by omega)) ?_
        rintro _ _ ⟨rfl, b8, rfl, hb9⟩
        simp only [Option.toList, List.drop, List.cons_append, List.nil_append]
        refine qr_if_eq 48 19 rfl rfl rfl (by omega) (fun h10 => ?_) (fun h10 => ?_)
        · skip
          refine qr_aload_n 49 rfl rfl rfl ?_
          refine qr_bipush 51 rfl (by decide) rfl ?_
          refine qr_iload_n 52 rfl rfl rfl ?_
          refine qr_ccall (as := [.int (qz 48), .int (qz u)]) (rest := []) hi 55 rfl rfl (Nat.le_of_ble_eq_true rfl) rfl rfl (sp_emit hi ht hl (by omega)) ?_
          rintro _ _ ⟨b11, sz12, cd13, rfl, rfl, hb14⟩
          simp only [Option.toList, List.cons_append, List.nil_append]
          refine qr_pop 56 rfl rfl rfl ?_
          refine qr_retV rfl rfl (Nat.zero_le _) (Nat.zero_le _) ?_
          exact ⟨rfl, _, _, _, _, _, rfl, by omega⟩
        · skip
          refine qr_iload_n 20 rfl rfl rfl ?_
          refine qr_bipush 22 rfl (by decide) rfl ?_
          refine qr_imul 23 rfl rfl ?_
          refine qr_topI (fun v15 hv15 => ?_)
          refine qr_aload_n 24 rfl rfl rfl ?_
          refine qr_ccall (as := []) (rest := [.int (qz v15)]) hi 27 rfl rfl (Nat.le_of_ble_eq_true rfl) rfl rfl (sp_next hi ht hl (by omega)) ?_
          rintro _ _ ⟨rfl, b16, rfl, hb17⟩
          simp only [Option.toList, List.cons_append, List.nil_append]
          refine qr_iadd 28 rfl rfl ?_
          refine qr_topI (fun v18 hv18 => ?_)
          refine qr_bipush 30 rfl (by decide) rfl ?_
          refine qr_isub 31 rfl rfl ?_
          refine qr_topI (fun v19 hv19 => ?_)
          refine qr_istore_n [(1, .int (qz v19)), (2, .int (qz i)), (0, .ref a)] 32 rfl (by decide) rfl rfl ?_
          refine qr_aload_n 33 rfl rfl rfl ?_
          refine qr_dup 34 rfl rfl rfl ?_
          refine qr_cget4 hi 37 rfl rfl ?_
          refine qr_iconst 38 rfl rfl ?_
          refine qr_iadd 39 rfl rfl ?_
          refine qr_topI (fun v20 hv20 => ?_)
          refine qr_cput4 hi 42 rfl rfl ?_
          refine qr_iincG (fun v21 => [(2, .int (qz v21)), (1, .int (qz v19)), (0, .ref a)]) 45 rfl rfl (by decide) (fun _ => rfl) rfl (fun v21 hv21 => ?_)
          refine qr_goto 4 rfl rfl ?_
          exact ih v21 v19 v20 (by omega) (by omega)
  refine qr_iconst 1 rfl rfl ?_
  refine qr_istore_n [(1, .int (qz 0)), (0, .ref a)] 2 rfl (by decide) rfl rfl ?_
  refine qr_iconst 3 rfl rfl ?_
  refine qr_istore_n [(2, .int (qz 0)), (1, .int (qz 0)), (0, .ref a)] 4 rfl (by decide) rfl rfl ?_
  exact loop 5 0 0 at_ (by omega) (by omega)

/-- what a reader leaves behind -/
abbrev qp_O (w : qm_W) (a : Nat) (ln at_ sk : Int) (t : Nat → Int) : Option Value → qm_W → Prop := fun r w' => r = none ∧ ∃ (at2 sz2 nm2 sk2 : Int) (cd2 : Nat → Int), w' = qc w a ln at2 sz2 nm2 sk2 t cd2 ∧ (0 ≤ at2 ∧ at2 ≤ ln ∧ 0 ≤ sz2 ∧ sz2 ≤ 122 ∧ -2147483648 ≤ nm2 ∧ nm2 ≤ 2147483647 ∧ (sk2 = 0 ∨ sk2 = 1) ∧ (sk = 1 → sk2 = 1) ∧ (ln ≤ at_ → sk2 = 1))

set_option maxHeartbeats 2000000 in
set_option maxRecDepth 20000 in
/-- Custom.readOperand, a step -/
theorem sp_opS {L : Nat} {xs : Nat → Int} {vb : Bool} {d : Nat} {w : qm_W} {a : Nat} {ln at_ sz nm sk : Int} {t cd : Nat → Int} (hi : qc_in w a) (ht : ∀ j, -2147483648 ≤ t j ∧ t j ≤ 2147483647) (hl : 0 ≤ ln ∧ ln ≤ 120) (h0 : 0 ≤ at_ ∧ at_ ≤ ln ∧ 0 ≤ sz ∧ sz ≤ 122 ∧ -2147483648 ≤ nm ∧ nm ≤ 2147483647 ∧ (sk = 0 ∨ sk = 1)) {op : Int} (ho : 0 ≤ op ∧ op ≤ 6) (iho : op < 6 → ∀ v : Int, v = op + 1 → ∀ (at1 sz1 nm1 sk1 : Int) (cd1 : Nat → Int), (0 ≤ at1 ∧ at1 ≤ ln ∧ 0 ≤ sz1 ∧ sz1 ≤ 122 ∧ -2147483648 ≤ nm1 ∧ nm1 ≤ 2147483647 ∧ (sk1 = 0 ∨ sk1 = 1)) → qm_T (qe L xs vb) (d + 5) 21 [.ref a, .int (qz v)] (qc w a ln at1 sz1 nm1 sk1 t cd1) (qp_O w a ln at1 sk1 t)) (ihp : op < 6 → ∀ v : Int, v = op + 1 → ∀ (at1 sz1 nm1 sk1 : Int) (cd1 : Nat → Int), (0 ≤ at1 ∧ at1 ≤ ln ∧ 0 ≤ sz1 ∧ sz1 ≤ 122 ∧ -2147483648 ≤ nm1 ∧ nm1 ≤ 2147483647 ∧ (sk1 = 0 ∨ sk1 = 1)) → qm_T (qe L xs vb) (d + 5) 20 [.ref a, .int (qz 0), .int (qz v)] (qc w a ln at1 sz1 nm1 sk1 t cd1) (qp_O w a ln at1 sk1 t))  : qm_T (qe L xs vb) (d + 6) 21 [.ref a, .int (qz op)] (qc w a ln at_ sz nm sk t cd) (qp_O w a ln at_ sk t) := by
  refine qr_start (d := d + 5) qv_e21 (Nat.le_of_ble_eq_true rfl) ?_
  show qr_W (qe L xs vb) (d + 5) qx_e21 _ (0, [(0, .ref a), (1, .int (qz op))], [], qc w a ln at_ sz nm sk t cd, 0, 0)
  refine qr_aload_n 1 rfl rfl rfl ?_
  refine qr_ccall (as := []) (rest := []) hi 4 rfl rfl (Nat.le_of_ble_eq_true rfl) rfl rfl (sp_next hi ht hl (by omega)) ?_
  rintro _ _ ⟨rfl, b1, rfl, hb2⟩
  simp only [Option.toList, List.cons_append, List.nil_append]
  refine qr_istore_n [(2, .int (qz b1)), (0, .ref a), (1, .int (qz op))] 5 rfl (by decide) rfl rfl ?_
  refine qr_aload_n 6 rfl rfl rfl ?_
  refine qr_cget7 hi 9 rfl rfl ?_
  refine qr_if_eq 13 12 rfl rfl rfl (by omega) (fun h3 => ?_) (fun h3 => ?_)
  · skip
    refine qr_iload_n 14 rfl rfl rfl ?_
    refine qr_callN 17 rfl rfl rfl (sp_isDigit (by omega)) ?_
    rintro _ _ ⟨rfl, b4, rfl, hb5⟩
    simp only [Option.toList, List.drop, List.cons_append, List.nil_append]
    refine qr_if_eq 27 20 rfl rfl rfl (by omega) (fun h6 => ?_) (fun h6 => ?_)
    · skip
      refine qr_iload_n 28 rfl rfl rfl ?_
      refine qr_if_lt 82 31 rfl rfl rfl (by omega) (fun h7 => ?_) (fun h7 => ?_)
      · skip
        refine qr_iload_n 83 rfl rfl rfl ?_
        refine qr_bipush 85 rfl (by decide) rfl ?_
        refine qr_icmp_ge 121 88 rfl rfl rfl (by omega) (by omega) (fun h8 => ?_) (fun h8 => ?_)
        · skip
          refine qr_iload_n 122 rfl rfl rfl ?_
          refine qr_bipush 124 rfl (by decide) rfl ?_
          refine qr_icmp_ge 178 127 rfl rfl rfl (by omega) (by omega) (fun h9 => ?_) (fun h9 => ?_)
          · skip
            refine qr_aload_n 179 rfl rfl rfl ?_
            refine qr_iconst 180 rfl rfl ?_
            refine qr_cput7 hi (by omega) 183 rfl rfl ?_
            refine qr_retV rfl rfl (Nat.zero_le _) (Nat.zero_le _) ?_
            exact ⟨rfl, _, _, _, _, _, rfl, by omega⟩
          · skip
            refine qr_iload_n 128 rfl rfl rfl ?_
            refine qr_bipush 130 rfl (by decide) rfl ?_
            refine qr_icmp_eq 139 133 rfl rfl rfl (by omega) (by omega) (fun h10 => ?_) (fun h10 => ?_)
            · skip
              refine qr_aload_n 140 rfl rfl rfl ?_
              refine qr_dup 141 rfl rfl rfl ?_
              refine qr_cget4 hi 144 rfl rfl ?_
              refine qr_iconst 145 rfl rfl ?_
              refine qr_iadd 146 rfl rfl ?_
              refine qr_topI (fun v11 hv11 => ?_)
              refine qr_cput4 hi 149 rfl rfl ?_
              refine qr_aload_n 150 rfl rfl rfl ?_
              refine qr_iload_n 151 rfl rfl rfl ?_
              refine qr_iconst 152 rfl rfl ?_
              refine qr_iadd 153 rfl rfl ?_
              refine qr_topI (fun v12 hv12 => ?_)
              refine qr_ccall (as := [.int (qz v12)]) (rest := []) hi 156 rfl rfl (Nat.le_of_ble_eq_true rfl) rfl rfl (iho (by omega) v12 (by omega) _ _ _ _ _ (by omega)) ?_
              rintro _ _ ⟨rfl, at13, sz14, nm15, sk16, cd17, rfl, hb18⟩
              simp only [Option.toList, List.cons_append, List.nil_append]
              refine qr_aload_n 157 rfl rfl rfl ?_
              refine qr_iload_n 158 rfl rfl rfl ?_
              refine qr_bipush 160 rfl (by decide) rfl ?_
              refine qr_icmp_ne 168 163 rfl rfl rfl (by omega) (by omega) (fun h19 => ?_) (fun h19 => ?_)
              · skip
                refine qr_bipush 170 rfl (by decide) rfl ?_
                refine qr_iconst 171 rfl rfl ?_
                refine qr_ccall (as := [.int (qz 126), .int (qz 0)]) (rest := []) hi 174 rfl rfl (Nat.le_of_ble_eq_true rfl) rfl rfl (sp_emit hi ht hl (by omega)) ?_
                rintro _ _ ⟨b20, sz21, cd22, rfl, rfl, hb23⟩
                simp only [Option.toList, List.cons_append, List.nil_append]
                refine qr_pop 175 rfl rfl rfl ?_
                refine qr_goto 183 rfl rfl ?_
                refine qr_retV rfl rfl (Nat.zero_le _) (Nat.zero_le _) ?_
                exact ⟨rfl, _, _, _, _, _, rfl, by omega⟩
              · skip
                refine qr_bipush 165 rfl (by decide) rfl ?_
                refine qr_goto 170 rfl rfl ?_
                refine qr_iconst 171 rfl rfl ?_
                refine qr_ccall (as := [.int (qz 33), .int (qz 0)]) (rest := []) hi 174 rfl rfl (Nat.le_of_ble_eq_true rfl) rfl rfl (sp_emit hi ht hl (by omega)) ?_
                rintro _ _ ⟨b24, sz25, cd26, rfl, rfl, hb27⟩
                simp only [Option.toList, List.cons_append, List.nil_append]
                refine qr_pop 175 rfl rfl rfl ?_
                refine qr_goto 183 rfl rfl ?_
                refine qr_retV rfl rfl (Nat.zero_le _) (Nat.zero_le _) ?_
                exact ⟨rfl, _, _, _, _, _, rfl, by omega⟩
            · skip
              refine qr_iload_n 134 rfl rfl rfl ?_
              refine qr_bipush 136 rfl (by decide) rfl ?_
              refine qr_icmp_ne 178 139 rfl rfl rfl (by omega) (by omega) (fun h28 => ?_) (fun h28 => ?_)
              · skip
                refine qr_aload_n 179 rfl rfl rfl ?_
                refine qr_iconst 180 rfl rfl ?_
                refine qr_cput7 hi (by omega) 183 rfl rfl ?_
                refine qr_retV rfl rfl (Nat.zero_le _) (Nat.zero_le _) ?_
                exact ⟨rfl, _, _, _, _, _, rfl, by omega⟩
              · skip
                refine qr_aload_n 140 rfl rfl rfl ?_
                refine qr_dup 141 rfl rfl rfl ?_
                refine qr_cget4 hi 144 rfl rfl ?_
                refine qr_iconst 145 rfl rfl ?_
                refine qr_iadd 146 rfl rfl ?_
                refine qr_topI (fun v29 hv29 => ?_)
                refine qr_cput4 hi 149 rfl rfl ?_
                refine qr_aload_n 150 rfl rfl rfl ?_
                refine qr_iload_n 151 rfl rfl rfl ?_
                refine qr_iconst 152 rfl rfl ?_
                refine qr_iadd 153 rfl rfl ?_
                refine qr_topI (fun v30 hv30 => ?_)
                refine qr_ccall (as := [.int (qz v30)]) (rest := []) hi 156 rfl rfl (Nat.le_of_ble_eq_true rfl) rfl rfl (iho (by omega) v30 (by omega) _ _ _ _ _ (by omega)) ?_
                rintro _ _ ⟨rfl, at31, sz32, nm33, sk34, cd35, rfl, hb36⟩
                simp only [Option.toList, List.cons_append, List.nil_append]
                refine qr_aload_n 157 rfl rfl rfl ?_
                refine qr_iload_n 158 rfl rfl rfl ?_
                refine qr_bipush 160 rfl (by decide) rfl ?_
                refine qr_icmp_ne 168 163 rfl rfl rfl (by omega) (by omega) (fun h37 => ?_) (fun h37 => ?_)
                · skip
                  refine qr_bipush 170 rfl (by decide) rfl ?_
                  refine qr_iconst 171 rfl rfl ?_
                  refine qr_ccall (as := [.int (qz 126), .int (qz 0)]) (rest := []) hi 174 rfl rfl (Nat.le_of_ble_eq_true rfl) rfl rfl (sp_emit hi ht hl (by omega)) ?_
                  rintro _ _ ⟨b38, sz39, cd40, rfl, rfl, hb41⟩
                  simp only [Option.toList, List.cons_append, List.nil_append]
                  refine qr_pop 175 rfl rfl rfl ?_
                  refine qr_goto 183 rfl rfl ?_
                  refine qr_retV rfl rfl (Nat.zero_le _) (Nat.zero_le _) ?_
                  exact ⟨rfl, _, _, _, _, _, rfl, by omega⟩
                · skip
                  refine qr_bipush 165 rfl (by decide) rfl ?_
                  refine qr_goto 170 rfl rfl ?_
                  refine qr_iconst 171 rfl rfl ?_
                  refine qr_ccall (as := [.int (qz 33), .int (qz 0)]) (rest := []) hi 174 rfl rfl (Nat.le_of_ble_eq_true rfl) rfl rfl (sp_emit hi ht hl (by omega)) ?_
                  rintro _ _ ⟨b42, sz43, cd44, rfl, rfl, hb45⟩
                  simp only [Option.toList, List.cons_append, List.nil_append]
                  refine qr_pop 175 rfl rfl rfl ?_
                  refine qr_goto 183 rfl rfl ?_
                  refine qr_retV rfl rfl (Nat.zero_le _) (Nat.zero_le _) ?_
                  exact ⟨rfl, _, _, _, _, _, rfl, by omega⟩
        · skip
          refine qr_iload_n 89 rfl rfl rfl ?_
          refine qr_bipush 91 rfl (by decide) rfl ?_
          refine qr_icmp_ne 121 94 rfl rfl rfl (by omega) (by omega) (fun h46 => ?_) (fun h46 => ?_)
          · skip
            refine qr_iload_n 122 rfl rfl rfl ?_
            refine qr_bipush 124 rfl (by decide) rfl ?_
            refine qr_icmp_ge 178 127 rfl rfl rfl (by omega) (by omega) (fun h47 => ?_) (fun h47 => ?_)
            · skip
              refine qr_aload_n 179 rfl rfl rfl ?_
              refine qr_iconst 180 rfl rfl ?_
              refine qr_cput7 hi (by omega) 183 rfl rfl ?_
              refine qr_retV rfl rfl (Nat.zero_le _) (Nat.zero_le _) ?_
              exact ⟨rfl, _, _, _, _, _, rfl, by omega⟩
            · skip
              refine qr_iload_n 128 rfl rfl rfl ?_
              refine qr_bipush 130 rfl (by decide) rfl ?_
              refine qr_icmp_eq 139 133 rfl rfl rfl (by omega) (by omega) (fun h48 => ?_) (fun h48 => ?_)
              · skip
                refine qr_aload_n 140 rfl rfl rfl ?_
                refine qr_dup 141 rfl rfl rfl ?_
                refine qr_cget4 hi 144 rfl rfl ?_
                refine qr_iconst 145 rfl rfl ?_
                refine qr_iadd 146 rfl rfl ?_
                refine qr_topI (fun v49 hv49 => ?_)
                refine qr_cput4 hi 149 rfl rfl ?_
                refine qr_aload_n 150 rfl rfl rfl ?_
                refine qr_iload_n 151 rfl rfl rfl ?_
                refine qr_iconst 152 rfl rfl ?_
                refine qr_iadd 153 rfl rfl ?_
                refine qr_topI (fun v50 hv50 => ?_)
                refine qr_ccall (as := [.int (qz v50)]) (rest := []) hi 156 rfl rfl (Nat.le_of_ble_eq_true rfl) rfl rfl (iho (by omega) v50 (by omega) _ _ _ _ _ (by omega)) ?_
                rintro _ _ ⟨rfl, at51, sz52, nm53, sk54, cd55, rfl, hb56⟩
                simp only [Option.toList, List.cons_append, List.nil_append]
                refine qr_aload_n 157 rfl rfl rfl ?_
                refine qr_iload_n 158 rfl rfl rfl ?_
                refine qr_bipush 160 rfl (by decide) rfl ?_
                refine qr_icmp_ne 168 163 rfl rfl rfl (by omega) (by omega) (fun h57 => ?_) (fun h57 => ?_)
                · skip
                  refine qr_bipush 170 rfl (by decide) rfl ?_
                  refine qr_iconst 171 rfl rfl ?_
                  refine qr_ccall (as := [.int (qz 126), .int (qz 0)]) (rest := []) hi 174 rfl rfl (Nat.le_of_ble_eq_true rfl) rfl rfl (sp_emit hi ht hl (by omega)) ?_
                  rintro _ _ ⟨b58, sz59, cd60, rfl, rfl, hb61⟩
                  simp only [Option.toList, List.cons_append, List.nil_append]
                  refine qr_pop 175 rfl rfl rfl ?_
                  refine qr_goto 183 rfl rfl ?_
                  refine qr_retV rfl rfl (Nat.zero_le _) (Nat.zero_le _) ?_
                  exact ⟨rfl, _, _, _, _, _, rfl, by omega⟩
                · skip
                  refine qr_bipush 165 rfl (by decide) rfl ?_
                  refine qr_goto 170 rfl rfl ?_
                  refine qr_iconst 171 rfl rfl ?_
                  refine qr_ccall (as := [.int (qz 33), .int (qz 0)]) (rest := []) hi 174 rfl rfl (Nat.le_of_ble_eq_true rfl) rfl rfl (sp_emit hi ht hl (by omega)) ?_
                  rintro _ _ ⟨b62, sz63, cd64, rfl, rfl, hb65⟩
                  simp only [Option.toList, List.cons_append, List.nil_append]
                  refine qr_pop 175 rfl rfl rfl ?_
                  refine qr_goto 183 rfl rfl ?_
                  refine qr_retV rfl rfl (Nat.zero_le _) (Nat.zero_le _) ?_
                  exact ⟨rfl, _, _, _, _, _, rfl, by omega⟩
              · skip
                refine qr_iload_n 134 rfl rfl rfl ?_
                refine qr_bipush 136 rfl (by decide) rfl ?_
                refine qr_icmp_ne 178 139 rfl rfl rfl (by omega) (by omega) (fun h66 => ?_) (fun h66 => ?_)
                · skip
                  refine qr_aload_n 179 rfl rfl rfl ?_
                  refine qr_iconst 180 rfl rfl ?_
                  refine qr_cput7 hi (by omega) 183 rfl rfl ?_
                  refine qr_retV rfl rfl (Nat.zero_le _) (Nat.zero_le _) ?_
                  exact ⟨rfl, _, _, _, _, _, rfl, by omega⟩
                · skip
                  refine qr_aload_n 140 rfl rfl rfl ?_
                  refine qr_dup 141 rfl rfl rfl ?_
                  refine qr_cget4 hi 144 rfl rfl ?_
                  refine qr_iconst 145 rfl rfl ?_
                  refine qr_iadd 146 rfl rfl ?_
                  refine qr_topI (fun v67 hv67 => ?_)
                  refine qr_cput4 hi 149 rfl rfl ?_
                  refine qr_aload_n 150 rfl rfl rfl ?_
                  refine qr_iload_n 151 rfl rfl rfl ?_
                  refine qr_iconst 152 rfl rfl ?_
                  refine qr_iadd 153 rfl rfl ?_
                  refine qr_topI (fun v68 hv68 => ?_)
                  refine qr_ccall (as := [.int (qz v68)]) (rest := []) hi 156 rfl rfl (Nat.le_of_ble_eq_true rfl) rfl rfl (iho (by omega) v68 (by omega) _ _ _ _ _ (by omega)) ?_
                  rintro _ _ ⟨rfl, at69, sz70, nm71, sk72, cd73, rfl, hb74⟩
                  simp only [Option.toList, List.cons_append, List.nil_append]
                  refine qr_aload_n 157 rfl rfl rfl ?_
                  refine qr_iload_n 158 rfl rfl rfl ?_
                  refine qr_bipush 160 rfl (by decide) rfl ?_
                  refine qr_icmp_ne 168 163 rfl rfl rfl (by omega) (by omega) (fun h75 => ?_) (fun h75 => ?_)
                  · skip
                    refine qr_bipush 170 rfl (by decide) rfl ?_
                    refine qr_iconst 171 rfl rfl ?_
                    refine qr_ccall (as := [.int (qz 126), .int (qz 0)]) (rest := []) hi 174 rfl rfl (Nat.le_of_ble_eq_true rfl) rfl rfl (sp_emit hi ht hl (by omega)) ?_
                    rintro _ _ ⟨b76, sz77, cd78, rfl, rfl, hb79⟩
                    simp only [Option.toList, List.cons_append, List.nil_append]
                    refine qr_pop 175 rfl rfl rfl ?_
                    refine qr_goto 183 rfl rfl ?_
                    refine qr_retV rfl rfl (Nat.zero_le _) (Nat.zero_le _) ?_
                    exact ⟨rfl, _, _, _, _, _, rfl, by omega⟩
                  · skip
                    refine qr_bipush 165 rfl (by decide) rfl ?_
                    refine qr_goto 170 rfl rfl ?_
                    refine qr_iconst 171 rfl rfl ?_
                    refine qr_ccall (as := [.int (qz 33), .int (qz 0)]) (rest := []) hi 174 rfl rfl (Nat.le_of_ble_eq_true rfl) rfl rfl (sp_emit hi ht hl (by omega)) ?_
                    rintro _ _ ⟨b80, sz81, cd82, rfl, rfl, hb83⟩
                    simp only [Option.toList, List.cons_append, List.nil_append]
                    refine qr_pop 175 rfl rfl rfl ?_
                    refine qr_goto 183 rfl rfl ?_
                    refine qr_retV rfl rfl (Nat.zero_le _) (Nat.zero_le _) ?_
                    exact ⟨rfl, _, _, _, _, _, rfl, by omega⟩
          · skip
            refine qr_aload_n 95 rfl rfl rfl ?_
            refine qr_dup 96 rfl rfl rfl ?_
            refine qr_cget4 hi 99 rfl rfl ?_
            refine qr_iconst 100 rfl rfl ?_
            refine qr_iadd 101 rfl rfl ?_
            refine qr_topI (fun v84 hv84 => ?_)
            refine qr_cput4 hi 104 rfl rfl ?_
            refine qr_aload_n 105 rfl rfl rfl ?_
            refine qr_iconst 106 rfl rfl ?_
            refine qr_iload_n 107 rfl rfl rfl ?_
            refine qr_iconst 108 rfl rfl ?_
            refine qr_iadd 109 rfl rfl ?_
            refine qr_topI (fun v85 hv85 => ?_)
            refine qr_ccall (as := [.int (qz 0), .int (qz v85)]) (rest := []) hi 112 rfl rfl (Nat.le_of_ble_eq_true rfl) rfl rfl (ihp (by omega) v85 (by omega) _ _ _ _ _ (by omega)) ?_
            rintro _ _ ⟨rfl, at86, sz87, nm88, sk89, cd90, rfl, hb91⟩
            simp only [Option.toList, List.cons_append, List.nil_append]
            refine qr_aload_n 113 rfl rfl rfl ?_
            refine qr_bipush 115 rfl (by decide) rfl ?_
            refine qr_ccall (as := [.int (qz 41)]) (rest := []) hi 118 rfl rfl (Nat.le_of_ble_eq_true rfl) rfl rfl (sp_pass hi ht hl (by omega) (by omega)) ?_
            rintro _ _ ⟨rfl, at92, sz93, nm94, sk95, cd96, rfl, hb97⟩
            simp only [Option.toList, List.cons_append, List.nil_append]
            refine qr_goto 183 rfl rfl ?_
            refine qr_retV rfl rfl (Nat.zero_le _) (Nat.zero_le _) ?_
            exact ⟨rfl, _, _, _, _, _, rfl, by omega⟩
      · skip
        refine qr_ldcs 33 rfl rfl ?_
        refine qr_iload_n 34 rfl rfl rfl ?_
        refine qr_i2c 35 rfl rfl ?_
        refine qr_topI (fun v98 hv98 => ?_)
        have rv98 : -2147483648 ≤ v98 ∧ v98 ≤ 2147483647 := by rw [hv98]; exact qz_i2c_r _
        refine qr_callN 38 rfl rfl rfl (sp_ix (by omega)) ?_
        rintro _ _ ⟨rfl, b99, rfl, hb100⟩
        simp only [Option.toList, List.drop, List.cons_append, List.nil_append]
        refine qr_if_lt 82 41 rfl rfl rfl (by omega) (fun h101 => ?_) (fun h101 => ?_)
        · skip
          refine qr_iload_n 83 rfl rfl rfl ?_
          refine qr_bipush 85 rfl (by decide) rfl ?_
          refine qr_icmp_ge 121 88 rfl rfl rfl (by omega) (by omega) (fun h102 => ?_) (fun h102 => ?_)
          · skip
            refine qr_iload_n 122 rfl rfl rfl ?_
            refine qr_bipush 124 rfl (by decide) rfl ?_
            refine qr_icmp_ge 178 127 rfl rfl rfl (by omega) (by omega) (fun h103 => ?_) (fun h103 => ?_)
            · skip
              refine qr_aload_n 179 rfl rfl rfl ?_
              refine qr_iconst 180 rfl rfl ?_
              refine qr_cput7 hi (by omega) 183 rfl rfl ?_
              refine qr_retV rfl rfl (Nat.zero_le _) (Nat.zero_le _) ?_
              exact ⟨rfl, _, _, _, _, _, rfl, by omega⟩
            · skip
              refine qr_iload_n 128 rfl rfl rfl ?_
              refine qr_bipush 130 rfl (by decide) rfl ?_
              refine qr_icmp_eq 139 133 rfl rfl rfl (by omega) (by omega) (fun h104 => ?_) (fun h104 => ?_)
              · skip
                refine qr_aload_n 140 rfl rfl rfl ?_
                refine qr_dup 141 rfl rfl rfl ?_
                refine qr_cget4 hi 144 rfl rfl ?_
                refine qr_iconst 145 rfl rfl ?_
                refine qr_iadd 146 rfl rfl ?_
                refine qr_topI (fun v105 hv105 => ?_)
                refine qr_cput4 hi 149 rfl rfl ?_
                refine qr_aload_n 150 rfl rfl rfl ?_
                refine qr_iload_n 151 rfl rfl rfl ?_
                refine qr_iconst 152 rfl rfl ?_
                refine qr_iadd 153 rfl rfl ?_
                refine qr_topI (fun v106 hv106 => ?_)
                refine qr_ccall (as := [.int (qz v106)]) (rest := []) hi 156 rfl rfl (Nat.le_of_ble_eq_true rfl) rfl rfl (iho (by omega) v106 (by omega) _ _ _ _ _ (by omega)) ?_
                rintro _ _ ⟨rfl, at107, sz108, nm109, sk110, cd111, rfl, hb112⟩
                simp only [Option.toList, List.cons_append, List.nil_append]
                refine qr_aload_n 157 rfl rfl rfl ?_
                refine qr_iload_n 158 rfl rfl rfl ?_
                refine qr_bipush 160 rfl (by decide) rfl ?_
                refine qr_icmp_ne 168 163 rfl rfl rfl (by omega) (by omega) (fun h113 => ?_) (fun h113 => ?_)
                · skip
                  refine qr_bipush 170 rfl (by decide) rfl ?_
                  refine qr_iconst 171 rfl rfl ?_
                  refine qr_ccall (as := [.int (qz 126), .int (qz 0)]) (rest := []) hi 174 rfl rfl (Nat.le_of_ble_eq_true rfl) rfl rfl (sp_emit hi ht hl (by omega)) ?_
                  rintro _ _ ⟨b114, sz115, cd116, rfl, rfl, hb117⟩
                  simp only [Option.toList, List.cons_append, List.nil_append]
                  refine qr_pop 175 rfl rfl rfl ?_
                  refine qr_goto 183 rfl rfl ?_
                  refine qr_retV rfl rfl (Nat.zero_le _) (Nat.zero_le _) ?_
                  exact ⟨rfl, _, _, _, _, _, rfl, by omega⟩
                · skip
                  refine qr_bipush 165 rfl (by decide) rfl ?_
                  refine qr_goto 170 rfl rfl ?_
                  refine qr_iconst 171 rfl rfl ?_
                  refine qr_ccall (as := [.int (qz 33), .int (qz 0)]) (rest := []) hi 174 rfl rfl (Nat.le_of_ble_eq_true rfl) rfl rfl (sp_emit hi ht hl (by omega)) ?_
                  rintro _ _ ⟨b118, sz119, cd120, rfl, rfl, hb121⟩
                  simp only [Option.toList, List.cons_append, List.nil_append]
                  refine qr_pop 175 rfl rfl rfl ?_
                  refine qr_goto 183 rfl rfl ?_
                  refine qr_retV rfl rfl (Nat.zero_le _) (Nat.zero_le _) ?_
                  exact ⟨rfl, _, _, _, _, _, rfl, by omega⟩
              · skip
                refine qr_iload_n 134 rfl rfl rfl ?_
                refine qr_bipush 136 rfl (by decide) rfl ?_
                refine qr_icmp_ne 178 139 rfl rfl rfl (by omega) (by omega) (fun h122 => ?_) (fun h122 => ?_)
                · skip
                  refine qr_aload_n 179 rfl rfl rfl ?_
                  refine qr_iconst 180 rfl rfl ?_
                  refine qr_cput7 hi (by omega) 183 rfl rfl ?_
                  refine qr_retV rfl rfl (Nat.zero_le _) (Nat.zero_le _) ?_
                  exact ⟨rfl, _, _, _, _, _, rfl, by omega⟩
                · skip
                  refine qr_aload_n 140 rfl rfl rfl ?_
                  refine qr_dup 141 rfl rfl rfl ?_
                  refine qr_cget4 hi 144 rfl rfl ?_
                  refine qr_iconst 145 rfl rfl ?_
                  refine qr_iadd 146 rfl rfl ?_
                  refine qr_topI (fun v123 hv123 => ?_)
                  refine qr_cput4 hi 149 rfl rfl ?_
                  refine qr_aload_n 150 rfl rfl rfl ?_
                  refine qr_iload_n 151 rfl rfl rfl ?_
                  refine qr_iconst 152 rfl rfl ?_
                  refine qr_iadd 153 rfl rfl ?_
                  refine qr_topI (fun v124 hv124 => ?_)
                  refine qr_ccall (as := [.int (qz v124)]) (rest := []) hi 156 rfl rfl (Nat.le_of_ble_eq_true rfl) rfl rfl (iho (by omega) v124 (by omega) _ _ _ _ _ (by omega)) ?_
                  rintro _ _ ⟨rfl, at125, sz126, nm127, sk128, cd129, rfl, hb130⟩
                  simp only [Option.toList, List.cons_append, List.nil_append]
                  refine qr_aload_n 157 rfl rfl rfl ?_
                  refine qr_iload_n 158 rfl rfl rfl ?_
                  refine qr_bipush 160 rfl (by decide) rfl ?_
                  refine qr_icmp_ne 168 163 rfl rfl rfl (by omega) (by omega) (fun h131 => ?_) (fun h131 => ?_)
                  · skip
                    refine qr_bipush 170 rfl (by decide) rfl ?_
                    refine qr_iconst 171 rfl rfl ?_
                    refine qr_ccall (as := [.int (qz 126), .int (qz 0)]) (rest := []) hi 174 rfl rfl (Nat.le_of_ble_eq_true rfl) rfl rfl (sp_emit hi ht hl (by omega)) ?_
                    rintro _ _ ⟨b132, sz133, cd134, rfl, rfl, hb135⟩
                    simp only [Option.toList, List.cons_append, List.nil_append]
                    refine qr_pop 175 rfl rfl rfl ?_
                    refine qr_goto 183 rfl rfl ?_
                    refine qr_retV rfl rfl (Nat.zero_le _) (Nat.zero_le _) ?_
                    exact ⟨rfl, _, _, _, _, _, rfl, by omega⟩
                  · skip
                    refine qr_bipush 165 rfl (by decide) rfl ?_
                    refine qr_goto 170 rfl rfl ?_
                    refine qr_iconst 171 rfl rfl ?_
                    refine qr_ccall (as := [.int (qz 33), .int (qz 0)]) (rest := []) hi 174 rfl rfl (Nat.le_of_ble_eq_true rfl) rfl rfl (sp_emit hi ht hl (by omega)) ?_
                    rintro _ _ ⟨b136, sz137, cd138, rfl, rfl, hb139⟩
                    simp only [Option.toList, List.cons_append, List.nil_append]
                    refine qr_pop 175 rfl rfl rfl ?_
                    refine qr_goto 183 rfl rfl ?_
                    refine qr_retV rfl rfl (Nat.zero_le _) (Nat.zero_le _) ?_
                    exact ⟨rfl, _, _, _, _, _, rfl, by omega⟩
          · skip
            refine qr_iload_n 89 rfl rfl rfl ?_
            refine qr_bipush 91 rfl (by decide) rfl ?_
            refine qr_icmp_ne 121 94 rfl rfl rfl (by omega) (by omega) (fun h140 => ?_) (fun h140 => ?_)
            · skip
              refine qr_iload_n 122 rfl rfl rfl ?_
              refine qr_bipush 124 rfl (by decide) rfl ?_
              refine qr_icmp_ge 178 127 rfl rfl rfl (by omega) (by omega) (fun h141 => ?_) (fun h141 => ?_)
              · skip
                refine qr_aload_n 179 rfl rfl rfl ?_
                refine qr_iconst 180 rfl rfl ?_
                refine qr_cput7 hi (by omega) 183 rfl rfl ?_
                refine qr_retV rfl rfl (Nat.zero_le _) (Nat.zero_le _) ?_
                exact ⟨rfl, _, _, _, _, _, rfl, by omega⟩
              · skip
                refine qr_iload_n 128 rfl rfl rfl ?_
                refine qr_bipush 130 rfl (by decide) rfl ?_
                refine qr_icmp_eq 139 133 rfl rfl rfl (by omega) (by omega) (fun h142 => ?_) (fun h142 => ?_)
                · skip
                  refine qr_aload_n 140 rfl rfl rfl ?_
                  refine qr_dup 141 rfl rfl rfl ?_
                  refine qr_cget4 hi 144 rfl rfl ?_
                  refine qr_iconst 145 rfl rfl ?_
                  refine qr_iadd 146 rfl rfl ?_
                  refine qr_topI (fun v143 hv143 => ?_)
                  refine qr_cput4 hi 149 rfl rfl ?_
                  refine qr_aload_n 150 rfl rfl rfl ?_
                  refine qr_iload_n 151 rfl rfl rfl ?_
                  refine qr_iconst 152 rfl rfl ?_
                  refine qr_iadd 153 rfl rfl ?_
                  refine qr_topI (fun v144 hv144 => ?_)
                  refine qr_ccall (as := [.int (qz v144)]) (rest := []) hi 156 rfl rfl (Nat.le_of_ble_eq_true rfl) rfl rfl (iho (by omega) v144 (by omega) _ _ _ _ _ (by omega)) ?_
                  rintro _ _ ⟨rfl, at145, sz146, nm147, sk148, cd149, rfl, hb150⟩
                  simp only [Option.toList, List.cons_append, List.nil_append]
                  refine qr_aload_n 157 rfl rfl rfl ?_
                  refine qr_iload_n 158 rfl rfl rfl ?_
                  refine qr_bipush 160 rfl (by decide) rfl ?_
                  refine qr_icmp_ne 168 163 rfl rfl rfl (by omega) (by omega) (fun h151 => ?_) (fun h151 => ?_)
                  · skip
                    refine qr_bipush 170 rfl (by decide) rfl ?_
                    refine qr_iconst 171 rfl rfl ?_
                    refine qr_ccall (as := [.int (qz 126), .int (qz 0)]) (rest := []) hi 174 rfl rfl (Nat.le_of_ble_eq_true rfl) rfl rfl (sp_emit hi ht hl (by omega)) ?_
                    rintro _ _ ⟨b152, sz153, cd154, rfl, rfl, hb155⟩
                    simp only [Option.toList, List.cons_append, List.nil_append]
                    refine qr_pop 175 rfl rfl rfl ?_
                    refine qr_goto 183 rfl rfl ?_
                    refine qr_retV rfl rfl (Nat.zero_le _) (Nat.zero_le _) ?_
                    exact ⟨rfl, _, _, _, _, _, rfl, by omega⟩
                  · skip
                    refine qr_bipush 165 rfl (by decide) rfl ?_
                    refine qr_goto 170 rfl rfl ?_
                    refine qr_iconst 171 rfl rfl ?_
                    refine qr_ccall (as := [.int (qz 33), .int (qz 0)]) (rest := []) hi 174 rfl rfl (Nat.le_of_ble_eq_true rfl) rfl rfl (sp_emit hi ht hl (by omega)) ?_
                    rintro _ _ ⟨b156, sz157, cd158, rfl, rfl, hb159⟩
                    simp only [Option.toList, List.cons_append, List.nil_append]
                    refine qr_pop 175 rfl rfl rfl ?_
                    refine qr_goto 183 rfl rfl ?_
                    refine qr_retV rfl rfl (Nat.zero_le _) (Nat.zero_le _) ?_
                    exact ⟨rfl, _, _, _, _, _, rfl, by omega⟩
                · skip
                  refine qr_iload_n 134 rfl rfl rfl ?_
                  refine qr_bipush 136 rfl (by decide) rfl ?_
                  refine qr_icmp_ne 178 139 rfl rfl rfl (by omega) (by omega) (fun h160 => ?_) (fun h160 => ?_)
                  · skip
                    refine qr_aload_n 179 rfl rfl rfl ?_
                    refine qr_iconst 180 rfl rfl ?_
                    refine qr_cput7 hi (by omega) 183 rfl rfl ?_
                    refine qr_retV rfl rfl (Nat.zero_le _) (Nat.zero_le _) ?_
                    exact ⟨rfl, _, _, _, _, _, rfl, by omega⟩
                  · skip
                    refine qr_aload_n 140 rfl rfl rfl ?_
                    refine qr_dup 141 rfl rfl rfl ?_
                    refine qr_cget4 hi 144 rfl rfl ?_
                    refine qr_iconst 145 rfl rfl ?_
                    refine qr_iadd 146 rfl rfl ?_
                    refine qr_topI (fun v161 hv161 => ?_)
                    refine qr_cput4 hi 149 rfl rfl ?_
                    refine qr_aload_n 150 rfl rfl rfl ?_
                    refine qr_iload_n 151 rfl rfl rfl ?_
                    refine qr_iconst 152 rfl rfl ?_
                    refine qr_iadd 153 rfl rfl ?_
                    refine qr_topI (fun v162 hv162 => ?_)
                    refine qr_ccall (as := [.int (qz v162)]) (rest := []) hi 156 rfl rfl (Nat.le_of_ble_eq_true rfl) rfl rfl (iho (by omega) v162 (by omega) _ _ _ _ _ (by omega)) ?_
                    rintro _ _ ⟨rfl, at163, sz164, nm165, sk166, cd167, rfl, hb168⟩
                    simp only [Option.toList, List.cons_append, List.nil_append]
                    refine qr_aload_n 157 rfl rfl rfl ?_
                    refine qr_iload_n 158 rfl rfl rfl ?_
                    refine qr_bipush 160 rfl (by decide) rfl ?_
                    refine qr_icmp_ne 168 163 rfl rfl rfl (by omega) (by omega) (fun h169 => ?_) (fun h169 => ?_)
                    · skip
                      refine qr_bipush 170 rfl (by decide) rfl ?_
                      refine qr_iconst 171 rfl rfl ?_
                      refine qr_ccall (as := [.int (qz 126), .int (qz 0)]) (rest := []) hi 174 rfl rfl (Nat.le_of_ble_eq_true rfl) rfl rfl (sp_emit hi ht hl (by omega)) ?_
                      rintro _ _ ⟨b170, sz171, cd172, rfl, rfl, hb173⟩
                      simp only [Option.toList, List.cons_append, List.nil_append]
                      refine qr_pop 175 rfl rfl rfl ?_
                      refine qr_goto 183 rfl rfl ?_
                      refine qr_retV rfl rfl (Nat.zero_le _) (Nat.zero_le _) ?_
                      exact ⟨rfl, _, _, _, _, _, rfl, by omega⟩
                    · skip
                      refine qr_bipush 165 rfl (by decide) rfl ?_
                      refine qr_goto 170 rfl rfl ?_
                      refine qr_iconst 171 rfl rfl ?_
                      refine qr_ccall (as := [.int (qz 33), .int (qz 0)]) (rest := []) hi 174 rfl rfl (Nat.le_of_ble_eq_true rfl) rfl rfl (sp_emit hi ht hl (by omega)) ?_
                      rintro _ _ ⟨b174, sz175, cd176, rfl, rfl, hb177⟩
                      simp only [Option.toList, List.cons_append, List.nil_append]
                      refine qr_pop 175 rfl rfl rfl ?_
                      refine qr_goto 183 rfl rfl ?_
                      refine qr_retV rfl rfl (Nat.zero_le _) (Nat.zero_le _) ?_
                      exact ⟨rfl, _, _, _, _, _, rfl, by omega⟩
            · skip
              refine qr_aload_n 95 rfl rfl rfl ?_
              refine qr_dup 96 rfl rfl rfl ?_
              refine qr_cget4 hi 99 rfl rfl ?_
              refine qr_iconst 100 rfl rfl ?_
              refine qr_iadd 101 rfl rfl ?_
              refine qr_topI (fun v178 hv178 => ?_)
              refine qr_cput4 hi 104 rfl rfl ?_
              refine qr_aload_n 105 rfl rfl rfl ?_
              refine qr_iconst 106 rfl rfl ?_
              refine qr_iload_n 107 rfl rfl rfl ?_
              refine qr_iconst 108 rfl rfl ?_
              refine qr_iadd 109 rfl rfl ?_
              refine qr_topI (fun v179 hv179 => ?_)
              refine qr_ccall (as := [.int (qz 0), .int (qz v179)]) (rest := []) hi 112 rfl rfl (Nat.le_of_ble_eq_true rfl) rfl rfl (ihp (by omega) v179 (by omega) _ _ _ _ _ (by omega)) ?_
              rintro _ _ ⟨rfl, at180, sz181, nm182, sk183, cd184, rfl, hb185⟩
              simp only [Option.toList, List.cons_append, List.nil_append]
              refine qr_aload_n 113 rfl rfl rfl ?_
              refine qr_bipush 115 rfl (by decide) rfl ?_
              refine qr_ccall (as := [.int (qz 41)]) (rest := []) hi 118 rfl rfl (Nat.le_of_ble_eq_true rfl) rfl rfl (sp_pass hi ht hl (by omega) (by omega)) ?_
              rintro _ _ ⟨rfl, at186, sz187, nm188, sk189, cd190, rfl, hb191⟩
              simp only [Option.toList, List.cons_append, List.nil_append]
              refine qr_goto 183 rfl rfl ?_
              refine qr_retV rfl rfl (Nat.zero_le _) (Nat.zero_le _) ?_
              exact ⟨rfl, _, _, _, _, _, rfl, by omega⟩
        · skip
          refine qr_aload_n 42 rfl rfl rfl ?_
          refine qr_dup 43 rfl rfl rfl ?_
          refine qr_cget4 hi 46 rfl rfl ?_
          refine qr_iconst 47 rfl rfl ?_
          refine qr_iadd 48 rfl rfl ?_
          refine qr_topI (fun v192 hv192 => ?_)
          refine qr_cput4 hi 51 rfl rfl ?_
          refine qr_ldcs 53 rfl rfl ?_
          refine qr_iload_n 54 rfl rfl rfl ?_
          refine qr_i2c 55 rfl rfl ?_
          refine qr_topI (fun v193 hv193 => ?_)
          have rv193 : -2147483648 ≤ v193 ∧ v193 ≤ 2147483647 := by rw [hv193]; exact qz_i2c_r _
          refine qr_callN 58 rfl rfl rfl (sp_ix (by omega)) ?_
          rintro _ _ ⟨rfl, b194, rfl, hb195⟩
          simp only [Option.toList, List.drop, List.cons_append, List.nil_append]
          refine qr_istore_n [(3, .int (qz b194)), (2, .int (qz b1)), (0, .ref a), (1, .int (qz op))] 59 rfl (by decide) rfl rfl ?_
          refine qr_aload_n 60 rfl rfl rfl ?_
          refine qr_dup 61 rfl rfl rfl ?_
          refine qr_cget6 hi 64 rfl rfl ?_
          refine qr_iconst 65 rfl rfl ?_
          refine qr_iload_n 66 rfl rfl rfl ?_
          refine qr_ishl 67 rfl rfl ?_
          refine qr_topI (fun v196 hv196 => ?_)
          have rv196 : -2147483648 ≤ v196 ∧ v196 ≤ 2147483647 := by rw [hv196]; exact qz_shl_r _ _
          refine qr_ior 68 rfl rfl ?_
          refine qr_topI (fun v197 hv197 => ?_)
          have rv197 : -2147483648 ≤ v197 ∧ v197 ≤ 2147483647 := by rw [hv197]; exact qz_or_r _ _
          refine qr_cput6 hi 71 rfl rfl ?_
          refine qr_aload_n 72 rfl rfl rfl ?_
          refine qr_bipush 74 rfl (by decide) rfl ?_
          refine qr_iload_n 75 rfl rfl rfl ?_
          refine qr_ccall (as := [.int (qz 97), .int (qz b194)]) (rest := []) hi 78 rfl rfl (Nat.le_of_ble_eq_true rfl) rfl rfl (sp_emit hi ht hl (by omega)) ?_
          rintro _ _ ⟨b198, sz199, cd200, rfl, rfl, hb201⟩
          simp only [Option.toList, List.cons_append, List.nil_append]
          refine qr_pop 79 rfl rfl rfl ?_
          refine qr_goto 183 rfl rfl ?_
          refine qr_retV rfl rfl (Nat.zero_le _) (Nat.zero_le _) ?_
          exact ⟨rfl, _, _, _, _, _, rfl, by omega⟩
    · skip
      refine qr_aload_n 21 rfl rfl rfl ?_
      refine qr_ccall (as := []) (rest := []) hi 24 rfl rfl (Nat.le_of_ble_eq_true rfl) rfl rfl (sp_readNumber hi ht hl (by omega)) ?_
      rintro _ _ ⟨rfl, at202, sz203, nm204, sk205, cd206, rfl, hb207⟩
      simp only [Option.toList, List.cons_append, List.nil_append]
      refine qr_goto 183 rfl rfl ?_
      refine qr_retV rfl rfl (Nat.zero_le _) (Nat.zero_le _) ?_
      exact ⟨rfl, _, _, _, _, _, rfl, by omega⟩
  · skip
    refine qr_retV rfl rfl (Nat.zero_le _) (Nat.zero_le _) ?_
    exact ⟨rfl, _, _, _, _, _, rfl, by omega⟩

set_option maxHeartbeats 2000000 in
set_option maxRecDepth 20000 in
/-- Custom.readPart, a step -/
theorem sp_partS {L : Nat} {xs : Nat → Int} {vb : Bool} {d : Nat} {w : qm_W} {a : Nat} {ln at_ sz nm sk : Int} {t cd : Nat → Int} (hi : qc_in w a) (ht : ∀ j, -2147483648 ≤ t j ∧ t j ≤ 2147483647) (hl : 0 ≤ ln ∧ ln ≤ 120) (h0 : 0 ≤ at_ ∧ at_ ≤ ln ∧ 0 ≤ sz ∧ sz ≤ 122 ∧ -2147483648 ≤ nm ∧ nm ≤ 2147483647 ∧ (sk = 0 ∨ sk = 1)) {lv op : Int} (ho : 0 ≤ op ∧ op ≤ 6) (hv : 0 ≤ lv ∧ lv ≤ 5) (iho : lv = 5 → ∀ (at1 sz1 nm1 sk1 : Int) (cd1 : Nat → Int), (0 ≤ at1 ∧ at1 ≤ ln ∧ 0 ≤ sz1 ∧ sz1 ≤ 122 ∧ -2147483648 ≤ nm1 ∧ nm1 ≤ 2147483647 ∧ (sk1 = 0 ∨ sk1 = 1)) → qm_T (qe L xs vb) (d + 5) 21 [.ref a, .int (qz op)] (qc w a ln at1 sz1 nm1 sk1 t cd1) (qp_O w a ln at1 sk1 t)) (ihp : lv < 5 → ∀ v : Int, v = lv + 1 → ∀ (at1 sz1 nm1 sk1 : Int) (cd1 : Nat → Int), (0 ≤ at1 ∧ at1 ≤ ln ∧ 0 ≤ sz1 ∧ sz1 ≤ 122 ∧ -2147483648 ≤ nm1 ∧ nm1 ≤ 2147483647 ∧ (sk1 = 0 ∨ sk1 = 1)) → qm_T (qe L xs vb) (d + 5) 20 [.ref a, .int (qz v), .int (qz op)] (qc w a ln at1 sz1 nm1 sk1 t cd1) (qp_O w a ln at1 sk1 t))  : qm_T (qe L xs vb) (d + 6) 20 [.ref a, .int (qz lv), .int (qz op)] (qc w a ln at_ sz nm sk t cd) (qp_O w a ln at_ sk t) := by
  refine qr_start (d := d + 5) qv_e20 (Nat.le_of_ble_eq_true rfl) ?_
  show qr_W (qe L xs vb) (d + 5) qx_e20 _ (0, [(0, .ref a), (1, .int (qz lv)), (2, .int (qz op))], [], qc w a ln at_ sz nm sk t cd, 0, 0)
  have loop : ∀ (n : Nat) (i u at1 sz1 nm1 sk1 : Int) (cd1 : Nat → Int), (0 ≤ i ∧ i ≤ 120 ∧ 120 - i < n) → (0 ≤ at1 ∧ at1 ≤ ln ∧ 0 ≤ sz1 ∧ sz1 ≤ 122 ∧ -2147483648 ≤ nm1 ∧ nm1 ≤ 2147483647 ∧ (sk1 = 0 ∨ sk1 = 1)) → ((sk = 1 → sk1 = 1) ∧ (ln ≤ at_ → sk1 = 1)) → qr_W (qe L xs vb) (d + 5) qx_e20 (qp_O w a ln at_ sk t) (21, [(3, .int (qz i)), (4, .int (qz u)), (0, .ref a), (1, .int (qz lv)), (2, .int (qz op))], [], qc w a ln at1 sz1 nm1 sk1 t cd1, 0, 0) := by
    intro n
    induction n with
    | zero => intro i u at1 sz1 nm1 sk1 cd1 h1 h2 h3; exact absurd h1 (by omega)
    | succ n ih =>
      intro i u at1 sz1 nm1 sk1 cd1 h1 h2 h3
      refine qr_iload_n 22 rfl rfl rfl ?_
      refine qr_bipush 24 rfl (by decide) rfl ?_
      refine qr_icmp_ge 91 27 rfl rfl rfl (by omega) (by omega) (fun h1 => ?_) (fun h1 => ?_)
      · skip
        refine qr_retV rfl rfl (Nat.zero_le _) (Nat.zero_le _) ?_
        exact ⟨rfl, _, _, _, _, _, rfl, by omega⟩
      · skip
        refine qr_aload_n 28 rfl rfl rfl ?_
        refine qr_cget7 hi 31 rfl rfl ?_
        refine qr_if_ne 91 34 rfl rfl rfl (by omega) (fun h2 => ?_) (fun h2 => ?_)
        · skip
          refine qr_retV rfl rfl (Nat.zero_le _) (Nat.zero_le _) ?_
          exact ⟨rfl, _, _, _, _, _, rfl, by omega⟩
        · skip
          refine qr_aload_n 35 rfl rfl rfl ?_
          refine qr_ccall (as := []) (rest := []) hi 38 rfl rfl (Nat.le_of_ble_eq_true rfl) rfl rfl (sp_next hi ht hl (by omega)) ?_
          rintro _ _ ⟨rfl, b3, rfl, hb4⟩
          simp only [Option.toList, List.cons_append, List.nil_append]
          refine qr_callN 41 rfl rfl rfl (sp_levelOf (by omega)) ?_
          rintro _ _ ⟨rfl, b5, rfl, hb6⟩
          simp only [Option.toList, List.drop, List.cons_append, List.nil_append]
          refine qr_iload_n 42 rfl rfl rfl ?_
          refine qr_icmp_ne 91 45 rfl rfl rfl (by omega) (by omega) (fun h7 => ?_) (fun h7 => ?_)
          · skip
            refine qr_retV rfl rfl (Nat.zero_le _) (Nat.zero_le _) ?_
            exact ⟨rfl, _, _, _, _, _, rfl, by omega⟩
          · skip
            refine qr_aload_n 46 rfl rfl rfl ?_
            refine qr_ccall (as := []) (rest := []) hi 49 rfl rfl (Nat.le_of_ble_eq_true rfl) rfl rfl (sp_next hi ht hl (by omega)) ?_
            rintro _ _ ⟨rfl, b8, rfl, hb9⟩
            simp only [Option.toList, List.cons_append, List.nil_append]
            refine qr_istore [(4, .int (qz b8)), (3, .int (qz i)), (0, .ref a), (1, .int (qz lv)), (2, .int (qz op))] 51 rfl (by decide) rfl rfl ?_
            refine qr_aload_n 52 rfl rfl rfl ?_
            refine qr_dup 53 rfl rfl rfl ?_
            refine qr_cget4 hi 56 rfl rfl ?_
            refine qr_iconst 57 rfl rfl ?_
            refine qr_iadd 58 rfl rfl ?_
            refine qr_topI (fun v10 hv10 => ?_)
            refine qr_cput4 hi 61 rfl rfl ?_
            refine qr_aload_n 62 rfl rfl rfl ?_
            refine qr_iload_n 63 rfl rfl rfl ?_
            refine qr_iconst 64 rfl rfl ?_
            refine qr_iadd 65 rfl rfl ?_
            refine qr_topI (fun v11 hv11 => ?_)
            refine qr_iload_n 66 rfl rfl rfl ?_
            refine qr_ccall (as := [.int (qz v11), .int (qz op)]) (rest := []) hi 69 rfl rfl (Nat.le_of_ble_eq_true rfl) rfl rfl (ihp (by omega) v11 (by omega) _ _ _ _ _ (by omega)) ?_
            rintro _ _ ⟨rfl, at12, sz13, nm14, sk15, cd16, rfl, hb17⟩
            simp only [Option.toList, List.cons_append, List.nil_append]
            refine qr_aload_n 70 rfl rfl rfl ?_
            refine qr_iload 72 rfl rfl rfl ?_
            refine qr_iconst 73 rfl rfl ?_
            refine qr_ccall (as := [.int (qz b8), .int (qz 0)]) (rest := []) hi 76 rfl rfl (Nat.le_of_ble_eq_true rfl) rfl rfl (sp_emit hi ht hl (by omega)) ?_
            rintro _ _ ⟨b18, sz19, cd20, rfl, rfl, hb21⟩
            simp only [Option.toList, List.cons_append, List.nil_append]
            refine qr_pop 77 rfl rfl rfl ?_
            refine qr_iload_n 78 rfl rfl rfl ?_
            refine qr_iconst 79 rfl rfl ?_
            refine qr_icmp_ne 85 82 rfl rfl rfl (by omega) (by omega) (fun h22 => ?_) (fun h22 => ?_)
            · skip
              refine qr_iincG (fun v23 => [(3, .int (qz v23)), (4, .int (qz b8)), (0, .ref a), (1, .int (qz lv)), (2, .int (qz op))]) 88 rfl rfl (by decide) (fun _ => rfl) rfl (fun v23 hv23 => ?_)
              refine qr_goto 21 rfl rfl ?_
              exact ih v23 b8 at12 sz19 nm14 sk15 cd20 (by omega) (by omega) (by omega)
            · skip
              refine qr_goto 91 rfl rfl ?_
              refine qr_retV rfl rfl (Nat.zero_le _) (Nat.zero_le _) ?_
              exact ⟨rfl, _, _, _, _, _, rfl, by omega⟩
  refine qr_iload_n 1 rfl rfl rfl ?_
  refine qr_iconst 2 rfl rfl ?_
  refine qr_icmp_lt 11 5 rfl rfl rfl (by omega) (by omega) (fun h1 => ?_) (fun h1 => ?_)
  · skip
    refine qr_aload_n 12 rfl rfl rfl ?_
    refine qr_iload_n 13 rfl rfl rfl ?_
    refine qr_iconst 14 rfl rfl ?_
    refine qr_iadd 15 rfl rfl ?_
    refine qr_topI (fun v2 hv2 => ?_)
    refine qr_iload_n 16 rfl rfl rfl ?_
    refine qr_ccall (as := [.int (qz v2), .int (qz op)]) (rest := []) hi 19 rfl rfl (Nat.le_of_ble_eq_true rfl) rfl rfl (ihp (by omega) v2 (by omega) _ _ _ _ _ (by omega)) ?_
    rintro _ _ ⟨rfl, at3, sz4, nm5, sk6, cd7, rfl, hb8⟩
    simp only [Option.toList, List.cons_append, List.nil_append]
    refine qr_iconst 20 rfl rfl ?_
    refine qr_istore_n [(3, .int (qz 0)), (0, .ref a), (1, .int (qz lv)), (2, .int (qz op))] 21 rfl (by decide) rfl rfl ?_
    refine qr_iload_n 22 rfl rfl rfl ?_
    refine qr_bipush 24 rfl (by decide) rfl ?_
    refine qr_icmp_ge 91 27 rfl rfl rfl (by omega) (by omega) (fun h9 => ?_) (fun h9 => ?_)
    · skip
      refine qr_retV rfl rfl (Nat.zero_le _) (Nat.zero_le _) ?_
      exact ⟨rfl, _, _, _, _, _, rfl, by omega⟩
    · skip
      refine qr_aload_n 28 rfl rfl rfl ?_
      refine qr_cget7 hi 31 rfl rfl ?_
      refine qr_if_ne 91 34 rfl rfl rfl (by omega) (fun h10 => ?_) (fun h10 => ?_)
      · skip
        refine qr_retV rfl rfl (Nat.zero_le _) (Nat.zero_le _) ?_
        exact ⟨rfl, _, _, _, _, _, rfl, by omega⟩
      · skip
        refine qr_aload_n 35 rfl rfl rfl ?_
        refine qr_ccall (as := []) (rest := []) hi 38 rfl rfl (Nat.le_of_ble_eq_true rfl) rfl rfl (sp_next hi ht hl (by omega)) ?_
        rintro _ _ ⟨rfl, b11, rfl, hb12⟩
        simp only [Option.toList, List.cons_append, List.nil_append]
        refine qr_callN 41 rfl rfl rfl (sp_levelOf (by omega)) ?_
        rintro _ _ ⟨rfl, b13, rfl, hb14⟩
        simp only [Option.toList, List.drop, List.cons_append, List.nil_append]
        refine qr_iload_n 42 rfl rfl rfl ?_
        refine qr_icmp_ne 91 45 rfl rfl rfl (by omega) (by omega) (fun h15 => ?_) (fun h15 => ?_)
        · skip
          refine qr_retV rfl rfl (Nat.zero_le _) (Nat.zero_le _) ?_
          exact ⟨rfl, _, _, _, _, _, rfl, by omega⟩
        · skip
          refine qr_aload_n 46 rfl rfl rfl ?_
          refine qr_ccall (as := []) (rest := []) hi 49 rfl rfl (Nat.le_of_ble_eq_true rfl) rfl rfl (sp_next hi ht hl (by omega)) ?_
          rintro _ _ ⟨rfl, b16, rfl, hb17⟩
          simp only [Option.toList, List.cons_append, List.nil_append]
          refine qr_istore [(4, .int (qz b16)), (3, .int (qz 0)), (0, .ref a), (1, .int (qz lv)), (2, .int (qz op))] 51 rfl (by decide) rfl rfl ?_
          refine qr_aload_n 52 rfl rfl rfl ?_
          refine qr_dup 53 rfl rfl rfl ?_
          refine qr_cget4 hi 56 rfl rfl ?_
          refine qr_iconst 57 rfl rfl ?_
          refine qr_iadd 58 rfl rfl ?_
          refine qr_topI (fun v18 hv18 => ?_)
          refine qr_cput4 hi 61 rfl rfl ?_
          refine qr_aload_n 62 rfl rfl rfl ?_
          refine qr_iload_n 63 rfl rfl rfl ?_
          refine qr_iconst 64 rfl rfl ?_
          refine qr_iadd 65 rfl rfl ?_
          refine qr_topI (fun v19 hv19 => ?_)
          refine qr_iload_n 66 rfl rfl rfl ?_
          refine qr_ccall (as := [.int (qz v19), .int (qz op)]) (rest := []) hi 69 rfl rfl (Nat.le_of_ble_eq_true rfl) rfl rfl (ihp (by omega) v19 (by omega) _ _ _ _ _ (by omega)) ?_
          rintro _ _ ⟨rfl, at20, sz21, nm22, sk23, cd24, rfl, hb25⟩
          simp only [Option.toList, List.cons_append, List.nil_append]
          refine qr_aload_n 70 rfl rfl rfl ?_
          refine qr_iload 72 rfl rfl rfl ?_
          refine qr_iconst 73 rfl rfl ?_
          refine qr_ccall (as := [.int (qz b16), .int (qz 0)]) (rest := []) hi 76 rfl rfl (Nat.le_of_ble_eq_true rfl) rfl rfl (sp_emit hi ht hl (by omega)) ?_
          rintro _ _ ⟨b26, sz27, cd28, rfl, rfl, hb29⟩
          simp only [Option.toList, List.cons_append, List.nil_append]
          refine qr_pop 77 rfl rfl rfl ?_
          refine qr_iload_n 78 rfl rfl rfl ?_
          refine qr_iconst 79 rfl rfl ?_
          refine qr_icmp_ne 85 82 rfl rfl rfl (by omega) (by omega) (fun h30 => ?_) (fun h30 => ?_)
          · skip
            refine qr_iincG (fun v31 => [(3, .int (qz v31)), (4, .int (qz b16)), (0, .ref a), (1, .int (qz lv)), (2, .int (qz op))]) 88 rfl rfl (by decide) (fun _ => rfl) rfl (fun v31 hv31 => ?_)
            refine qr_goto 21 rfl rfl ?_
            exact loop 121 v31 b16 at20 sz27 nm22 sk23 cd28 (by omega) (by omega) (by omega)
          · skip
            refine qr_goto 91 rfl rfl ?_
            refine qr_retV rfl rfl (Nat.zero_le _) (Nat.zero_le _) ?_
            exact ⟨rfl, _, _, _, _, _, rfl, by omega⟩
  · skip
    refine qr_aload_n 6 rfl rfl rfl ?_
    refine qr_iload_n 7 rfl rfl rfl ?_
    refine qr_ccall (as := [.int (qz op)]) (rest := []) hi 10 rfl rfl (Nat.le_of_ble_eq_true rfl) rfl rfl (iho (by omega) _ _ _ _ _ (by omega)) ?_
    rintro _ _ ⟨rfl, at32, sz33, nm34, sk35, cd36, rfl, hb37⟩
    simp only [Option.toList, List.cons_append, List.nil_append]
    refine qr_retV rfl rfl (Nat.zero_le _) (Nat.zero_le _) ?_
    exact ⟨rfl, _, _, _, _, _, rfl, by omega⟩

/-- operands and parts, by their measure -/
theorem sp_both {L : Nat} {xs : Nat → Int} {vb : Bool} {d : Nat} (m : Nat) :
    (∀ (w : qm_W) (a : Nat) (ln at_ sz nm sk : Int) (t cd : Nat → Int) (op : Int), qc_in w a → (∀ j, -2147483648 ≤ t j ∧ t j ≤ 2147483647) → (0 ≤ ln ∧ ln ≤ 120) → (0 ≤ at_ ∧ at_ ≤ ln ∧ 0 ≤ sz ∧ sz ≤ 122 ∧ -2147483648 ≤ nm ∧ nm ≤ 2147483647 ∧ (sk = 0 ∨ sk = 1)) → (0 ≤ op ∧ op ≤ 6 ∧ (6 - op) * 7 < m) → qm_T (qe L xs vb) (d + m + 5) 21 [.ref a, .int (qz op)] (qc w a ln at_ sz nm sk t cd) (qp_O w a ln at_ sk t)) ∧
    (∀ (w : qm_W) (a : Nat) (ln at_ sz nm sk : Int) (t cd : Nat → Int) (lv op : Int), qc_in w a → (∀ j, -2147483648 ≤ t j ∧ t j ≤ 2147483647) → (0 ≤ ln ∧ ln ≤ 120) → (0 ≤ at_ ∧ at_ ≤ ln ∧ 0 ≤ sz ∧ sz ≤ 122 ∧ -2147483648 ≤ nm ∧ nm ≤ 2147483647 ∧ (sk = 0 ∨ sk = 1)) → (0 ≤ op ∧ op ≤ 6 ∧ 0 ≤ lv ∧ lv ≤ 5 ∧ (6 - op) * 7 + 6 - lv < m) → qm_T (qe L xs vb) (d + m + 5) 20 [.ref a, .int (qz lv), .int (qz op)] (qc w a ln at_ sz nm sk t cd) (qp_O w a ln at_ sk t)) := by
  induction m with
  | zero => exact ⟨fun w a ln at_ sz nm sk t cd op _ _ _ _ h => absurd h (by omega), fun w a ln at_ sz nm sk t cd lv op _ _ _ _ h => absurd h (by omega)⟩
  | succ m ih =>
    obtain ⟨ihO, ihP⟩ := ih
    have e : d + (m + 1) + 5 = d + m + 6 := by omega
    rw [e]
    constructor
    · intro w a ln at_ sz nm sk t cd op hi ht hl h0 hm
      refine sp_opS (d := d + m) hi ht hl h0 ⟨hm.1, hm.2.1⟩ ?_ ?_
      · intro h v hv at1 sz1 nm1 sk1 cd1 hb
        exact ihO w a ln at1 sz1 nm1 sk1 t cd1 v hi ht hl hb (by omega)
      · intro h v hv at1 sz1 nm1 sk1 cd1 hb
        exact ihP w a ln at1 sz1 nm1 sk1 t cd1 0 v hi ht hl hb (by omega)
    · intro w a ln at_ sz nm sk t cd lv op hi ht hl h0 hm
      refine sp_partS (d := d + m) hi ht hl h0 ⟨by omega, by omega⟩ ⟨by omega, by omega⟩ ?_ ?_
      · intro h at1 sz1 nm1 sk1 cd1 hb
        exact ihO w a ln at1 sz1 nm1 sk1 t cd1 op hi ht hl hb (by omega)
      · intro h v hv at1 sz1 nm1 sk1 cd1 hb
        exact ihP w a ln at1 sz1 nm1 sk1 t cd1 v op hi ht hl hb (by omega)

theorem sp_part0 {L : Nat} {xs : Nat → Int} {vb : Bool} {d : Nat} {w : qm_W} {a : Nat} {ln at_ sz nm sk : Int} {t cd : Nat → Int} (hi : qc_in w a) (ht : ∀ j, -2147483648 ≤ t j ∧ t j ≤ 2147483647) (hl : 0 ≤ ln ∧ ln ≤ 120) (h0 : 0 ≤ at_ ∧ at_ ≤ ln ∧ 0 ≤ sz ∧ sz ≤ 122 ∧ -2147483648 ≤ nm ∧ nm ≤ 2147483647 ∧ (sk = 0 ∨ sk = 1)) : qm_T (qe L xs vb) (d + 54) 20 [.ref a, .int (qz 0), .int (qz 0)] (qc w a ln at_ sz nm sk t cd) (qp_O w a ln at_ sk t) :=
  (sp_both (d := d) 49).2 w a ln at_ sz nm sk t cd 0 0 hi ht hl h0 (by omega)

set_option maxHeartbeats 2000000 in
set_option maxRecDepth 20000 in
/-- Custom.readLine -/
theorem sp_line {L : Nat} {xs : Nat → Int} {vb : Bool} {d : Nat} {w : qm_W} {a : Nat} {ln at_ sz nm sk : Int} {t cd : Nat → Int} (hi : qc_in w a) (ht : ∀ j, -2147483648 ≤ t j ∧ t j ≤ 2147483647) (hl : 0 ≤ ln ∧ ln ≤ 120) (h0 : 0 ≤ at_ ∧ at_ ≤ ln ∧ 0 ≤ sz ∧ sz ≤ 122 ∧ -2147483648 ≤ nm ∧ nm ≤ 2147483647 ∧ (sk = 0 ∨ sk = 1))  : qm_T (qe L xs vb) (d + 55) 19 [.ref a] (qc w a ln at_ sz nm sk t cd) (qp_O w a ln at_ sk t) := by
  refine qr_start (d := d + 54) qv_e19 (Nat.le_of_ble_eq_true rfl) ?_
  show qr_W (qe L xs vb) (d + 54) qx_e19 _ (0, [(0, .ref a)], [], qc w a ln at_ sz nm sk t cd, 0, 0)
  refine qr_aload_n 1 rfl rfl rfl ?_
  refine qr_iconst 2 rfl rfl ?_
  refine qr_iconst 3 rfl rfl ?_
  refine qr_ccall (as := [.int (qz 0), .int (qz 0)]) (rest := []) hi 6 rfl rfl (Nat.le_of_ble_eq_true rfl) rfl rfl (sp_part0 hi ht hl (by omega)) ?_
  rintro _ _ ⟨rfl, at1, sz2, nm3, sk4, cd5, rfl, hb6⟩
  simp only [Option.toList, List.cons_append, List.nil_append]
  refine qr_aload_n 7 rfl rfl rfl ?_
  refine qr_cget7 hi 10 rfl rfl ?_
  refine qr_if_ne 22 13 rfl rfl rfl (by omega) (fun h7 => ?_) (fun h7 => ?_)
  · skip
    refine qr_aload_n 23 rfl rfl rfl ?_
    refine qr_bipush 25 rfl (by decide) rfl ?_
    refine qr_iconst 26 rfl rfl ?_
    refine qr_ccall (as := [.int (qz 59), .int (qz 0)]) (rest := []) hi 29 rfl rfl (Nat.le_of_ble_eq_true rfl) rfl rfl (sp_emit hi ht hl (by omega)) ?_
    rintro _ _ ⟨b8, sz9, cd10, rfl, rfl, hb11⟩
    simp only [Option.toList, List.cons_append, List.nil_append]
    refine qr_pop 30 rfl rfl rfl ?_
    refine qr_retV rfl rfl (Nat.zero_le _) (Nat.zero_le _) ?_
    exact ⟨rfl, _, _, _, _, _, rfl, by omega⟩
  · skip
    refine qr_aload_n 14 rfl rfl rfl ?_
    refine qr_ccall (as := []) (rest := []) hi 17 rfl rfl (Nat.le_of_ble_eq_true rfl) rfl rfl (sp_next hi ht hl (by omega)) ?_
    rintro _ _ ⟨rfl, b12, rfl, hb13⟩
    simp only [Option.toList, List.cons_append, List.nil_append]
    refine qr_bipush 19 rfl (by decide) rfl ?_
    refine qr_icmp_eq 31 22 rfl rfl rfl (by omega) (by omega) (fun h14 => ?_) (fun h14 => ?_)
    · skip
      refine qr_aload_n 32 rfl rfl rfl ?_
      refine qr_dup 33 rfl rfl rfl ?_
      refine qr_cget4 hi 36 rfl rfl ?_
      refine qr_iconst 37 rfl rfl ?_
      refine qr_iadd 38 rfl rfl ?_
      refine qr_topI (fun v15 hv15 => ?_)
      refine qr_cput4 hi 41 rfl rfl ?_
      refine qr_aload_n 42 rfl rfl rfl ?_
      refine qr_bipush 44 rfl (by decide) rfl ?_
      refine qr_iconst 45 rfl rfl ?_
      refine qr_ccall (as := [.int (qz 63), .int (qz 0)]) (rest := []) hi 48 rfl rfl (Nat.le_of_ble_eq_true rfl) rfl rfl (sp_emit hi ht hl (by omega)) ?_
      rintro _ _ ⟨b16, sz17, cd18, rfl, rfl, hb19⟩
      simp only [Option.toList, List.cons_append, List.nil_append]
      refine qr_istore_n [(1, .int (qz b16)), (0, .ref a)] 49 rfl (by decide) rfl rfl ?_
      refine qr_aload_n 50 rfl rfl rfl ?_
      refine qr_iconst 51 rfl rfl ?_
      refine qr_iconst 52 rfl rfl ?_
      refine qr_ccall (as := [.int (qz 0), .int (qz 0)]) (rest := []) hi 55 rfl rfl (Nat.le_of_ble_eq_true rfl) rfl rfl (sp_part0 hi ht hl (by omega)) ?_
      rintro _ _ ⟨rfl, at20, sz21, nm22, sk23, cd24, rfl, hb25⟩
      simp only [Option.toList, List.cons_append, List.nil_append]
      refine qr_aload_n 56 rfl rfl rfl ?_
      refine qr_bipush 58 rfl (by decide) rfl ?_
      refine qr_iconst 59 rfl rfl ?_
      refine qr_ccall (as := [.int (qz 59), .int (qz 0)]) (rest := []) hi 62 rfl rfl (Nat.le_of_ble_eq_true rfl) rfl rfl (sp_emit hi ht hl (by omega)) ?_
      rintro _ _ ⟨b26, sz27, cd28, rfl, rfl, hb29⟩
      simp only [Option.toList, List.cons_append, List.nil_append]
      refine qr_pop 63 rfl rfl rfl ?_
      refine qr_aload_n 64 rfl rfl rfl ?_
      refine qr_cget1 hi 67 rfl rfl ?_
      refine qr_iload_n 68 rfl rfl rfl ?_
      refine qr_ldc 4128768 70 rfl (by decide) rfl ?_
      refine qr_aload_n 71 rfl rfl rfl ?_
      refine qr_cget5 hi 74 rfl rfl ?_
      refine qr_ior 75 rfl rfl ?_
      refine qr_topI (fun v30 hv30 => ?_)
      have rv30 : -2147483648 ≤ v30 ∧ v30 ≤ 2147483647 := by rw [hv30]; exact qz_or_r _ _
      refine qr_ccstore hi 76 rfl (by omega) rfl ?_
      refine qr_retV rfl rfl (Nat.zero_le _) (Nat.zero_le _) ?_
      exact ⟨rfl, _, _, _, _, _, rfl, by omega⟩
    · skip
      refine qr_aload_n 23 rfl rfl rfl ?_
      refine qr_bipush 25 rfl (by decide) rfl ?_
      refine qr_iconst 26 rfl rfl ?_
      refine qr_ccall (as := [.int (qz 59), .int (qz 0)]) (rest := []) hi 29 rfl rfl (Nat.le_of_ble_eq_true rfl) rfl rfl (sp_emit hi ht hl (by omega)) ?_
      rintro _ _ ⟨b31, sz32, cd33, rfl, rfl, hb34⟩
      simp only [Option.toList, List.cons_append, List.nil_append]
      refine qr_pop 30 rfl rfl rfl ?_
      refine qr_retV rfl rfl (Nat.zero_le _) (Nat.zero_le _) ?_
      exact ⟨rfl, _, _, _, _, _, rfl, by omega⟩

set_option maxHeartbeats 2000000 in
set_option maxRecDepth 20000 in
/-- Custom.readLines -/
theorem sp_lines {L : Nat} {xs : Nat → Int} {vb : Bool} {d : Nat} {w : qm_W} {a : Nat} {ln at_ sz nm sk : Int} {t cd : Nat → Int} (hi : qc_in w a) (ht : ∀ j, -2147483648 ≤ t j ∧ t j ≤ 2147483647) (hl : 0 ≤ ln ∧ ln ≤ 120) (h0 : 0 ≤ at_ ∧ at_ ≤ ln ∧ 0 ≤ sz ∧ sz ≤ 122 ∧ -2147483648 ≤ nm ∧ nm ≤ 2147483647 ∧ (sk = 0 ∨ sk = 1))  : qm_T (qe L xs vb) (d + 56) 18 [.ref a] (qc w a ln at_ sz nm sk t cd) (fun r w' => ∃ (v at2 sz2 nm2 sk2 : Int) (cd2 : Nat → Int), r = some (.int (qz v)) ∧ w' = qc w a ln at2 sz2 nm2 sk2 t cd2 ∧ (0 ≤ at2 ∧ at2 ≤ ln ∧ 0 ≤ sz2 ∧ sz2 ≤ 122 ∧ -2147483648 ≤ nm2 ∧ nm2 ≤ 2147483647 ∧ (sk2 = 0 ∨ sk2 = 1) ∧ -1 ≤ v ∧ v ≤ 120 ∧ (sk2 = 0 → v = -1) ∧ (ln = 0 → sk2 = 1 ∧ v = 0))) := by
  refine qr_start (d := d + 55) qv_e18 (Nat.le_of_ble_eq_true rfl) ?_
  show qr_W (qe L xs vb) (d + 55) qx_e18 _ (0, [(0, .ref a)], [], qc w a ln at_ sz nm sk t cd, 0, 0)
  have loop : ∀ (n : Nat) (i at1 sz1 nm1 sk1 : Int) (cd1 : Nat → Int), (0 ≤ i ∧ i ≤ 121 ∧ 121 - i < n) → (0 ≤ at1 ∧ at1 ≤ ln ∧ 0 ≤ sz1 ∧ sz1 ≤ 122 ∧ -2147483648 ≤ nm1 ∧ nm1 ≤ 2147483647 ∧ (sk1 = 0 ∨ sk1 = 1)) → (ln = 0 → (i = 0 ∧ at1 = 0) ∨ sk1 = 1) → qr_W (qe L xs vb) (d + 55) qx_e18 (fun r w' => ∃ (v at2 sz2 nm2 sk2 : Int) (cd2 : Nat → Int), r = some (.int (qz v)) ∧ w' = qc w a ln at2 sz2 nm2 sk2 t cd2 ∧ (0 ≤ at2 ∧ at2 ≤ ln ∧ 0 ≤ sz2 ∧ sz2 ≤ 122 ∧ -2147483648 ≤ nm2 ∧ nm2 ≤ 2147483647 ∧ (sk2 = 0 ∨ sk2 = 1) ∧ -1 ≤ v ∧ v ≤ 120 ∧ (sk2 = 0 → v = -1) ∧ (ln = 0 → sk2 = 1 ∧ v = 0))) (22, [(1, .int (qz i)), (0, .ref a)], [], qc w a ln at1 sz1 nm1 sk1 t cd1, 0, 0) := by
    intro n
    induction n with
    | zero => intro i at1 sz1 nm1 sk1 cd1 h1 h2 h3; exact absurd h1 (by omega)
    | succ n ih =>
      intro i at1 sz1 nm1 sk1 cd1 h1 h2 h3
      refine qr_iload_n 23 rfl rfl rfl ?_
      refine qr_bipush 25 rfl (by decide) rfl ?_
      refine qr_icmp_gt 72 28 rfl rfl rfl (by omega) (by omega) (fun h1 => ?_) (fun h1 => ?_)
      · skip
        refine qr_aload_n 73 rfl rfl rfl ?_
        refine qr_cget7 hi 76 rfl rfl ?_
        refine qr_if_eq 86 79 rfl rfl rfl (by omega) (fun h2 => ?_) (fun h2 => ?_)
        · skip
          refine qr_iconst 87 rfl rfl ?_
          refine qr_retI rfl rfl (Nat.zero_le _) (Nat.zero_le _) ?_
          exact ⟨_, _, _, _, _, _, rfl, rfl, by omega⟩
        · skip
          refine qr_aload_n 80 rfl rfl rfl ?_
          refine qr_cget4 hi 83 rfl rfl ?_
          refine qr_goto 87 rfl rfl ?_
          refine qr_retI rfl rfl (Nat.zero_le _) (Nat.zero_le _) ?_
          exact ⟨_, _, _, _, _, _, rfl, rfl, by omega⟩
      · skip
        refine qr_aload_n 29 rfl rfl rfl ?_
        refine qr_cget7 hi 32 rfl rfl ?_
        refine qr_if_ne 72 35 rfl rfl rfl (by omega) (fun h3 => ?_) (fun h3 => ?_)
        · skip
          refine qr_aload_n 73 rfl rfl rfl ?_
          refine qr_cget7 hi 76 rfl rfl ?_
          refine qr_if_eq 86 79 rfl rfl rfl (by omega) (fun h4 => ?_) (fun h4 => ?_)
          · skip
            refine qr_iconst 87 rfl rfl ?_
            refine qr_retI rfl rfl (Nat.zero_le _) (Nat.zero_le _) ?_
            exact ⟨_, _, _, _, _, _, rfl, rfl, by omega⟩
          · skip
            refine qr_aload_n 80 rfl rfl rfl ?_
            refine qr_cget4 hi 83 rfl rfl ?_
            refine qr_goto 87 rfl rfl ?_
            refine qr_retI rfl rfl (Nat.zero_le _) (Nat.zero_le _) ?_
            exact ⟨_, _, _, _, _, _, rfl, rfl, by omega⟩
        · skip
          refine qr_aload_n 36 rfl rfl rfl ?_
          refine qr_ccall (as := []) (rest := []) hi 39 rfl rfl (Nat.le_of_ble_eq_true rfl) rfl rfl (sp_line hi ht hl (by omega)) ?_
          rintro _ _ ⟨rfl, at5, sz6, nm7, sk8, cd9, rfl, hb10⟩
          simp only [Option.toList, List.cons_append, List.nil_append]
          refine qr_aload_n 40 rfl rfl rfl ?_
          refine qr_cget7 hi 43 rfl rfl ?_
          refine qr_if_ne 72 46 rfl rfl rfl (by omega) (fun h11 => ?_) (fun h11 => ?_)
          · skip
            refine qr_aload_n 73 rfl rfl rfl ?_
            refine qr_cget7 hi 76 rfl rfl ?_
            refine qr_if_eq 86 79 rfl rfl rfl (by omega) (fun h12 => ?_) (fun h12 => ?_)
            · skip
              refine qr_iconst 87 rfl rfl ?_
              refine qr_retI rfl rfl (Nat.zero_le _) (Nat.zero_le _) ?_
              exact ⟨_, _, _, _, _, _, rfl, rfl, by omega⟩
            · skip
              refine qr_aload_n 80 rfl rfl rfl ?_
              refine qr_cget4 hi 83 rfl rfl ?_
              refine qr_goto 87 rfl rfl ?_
              refine qr_retI rfl rfl (Nat.zero_le _) (Nat.zero_le _) ?_
              exact ⟨_, _, _, _, _, _, rfl, rfl, by omega⟩
          · skip
            refine qr_aload_n 47 rfl rfl rfl ?_
            refine qr_cget4 hi 50 rfl rfl ?_
            refine qr_aload_n 51 rfl rfl rfl ?_
            refine qr_cget3 hi 54 rfl rfl ?_
            refine qr_icmp_lt 60 57 rfl rfl rfl (by omega) (by omega) (fun h13 => ?_) (fun h13 => ?_)
            · skip
              refine qr_aload_n 61 rfl rfl rfl ?_
              refine qr_bipush 63 rfl (by decide) rfl ?_
              refine qr_ccall (as := [.int (qz 59)]) (rest := []) hi 66 rfl rfl (Nat.le_of_ble_eq_true rfl) rfl rfl (sp_pass hi ht hl (by omega) (by omega)) ?_
              rintro _ _ ⟨rfl, at14, sz15, nm16, sk17, cd18, rfl, hb19⟩
              simp only [Option.toList, List.cons_append, List.nil_append]
              refine qr_iincG (fun v20 => [(1, .int (qz v20)), (0, .ref a)]) 69 rfl rfl (by decide) (fun _ => rfl) rfl (fun v20 hv20 => ?_)
              refine qr_goto 22 rfl rfl ?_
              exact ih v20 at14 sz15 nm16 sk17 cd18 (by omega) (by omega) (by omega)
            · skip
              refine qr_goto 72 rfl rfl ?_
              refine qr_aload_n 73 rfl rfl rfl ?_
              refine qr_cget7 hi 76 rfl rfl ?_
              refine qr_if_eq 86 79 rfl rfl rfl (by omega) (fun h21 => ?_) (fun h21 => ?_)
              · skip
                refine qr_iconst 87 rfl rfl ?_
                refine qr_retI rfl rfl (Nat.zero_le _) (Nat.zero_le _) ?_
                exact ⟨_, _, _, _, _, _, rfl, rfl, by omega⟩
              · skip
                refine qr_aload_n 80 rfl rfl rfl ?_
                refine qr_cget4 hi 83 rfl rfl ?_
                refine qr_goto 87 rfl rfl ?_
                refine qr_retI rfl rfl (Nat.zero_le _) (Nat.zero_le _) ?_
                exact ⟨_, _, _, _, _, _, rfl, rfl, by omega⟩
  refine qr_aload_n 1 rfl rfl rfl ?_
  refine qr_iconst 2 rfl rfl ?_
  refine qr_cput4 hi 5 rfl rfl ?_
  refine qr_aload_n 6 rfl rfl rfl ?_
  refine qr_iconst 7 rfl rfl ?_
  refine qr_cput5 hi 10 rfl rfl ?_
  refine qr_aload_n 11 rfl rfl rfl ?_
  refine qr_iconst 12 rfl rfl ?_
  refine qr_cput6 hi 15 rfl rfl ?_
  refine qr_aload_n 16 rfl rfl rfl ?_
  refine qr_iconst 17 rfl rfl ?_
  refine qr_cput7 hi (by omega) 20 rfl rfl ?_
  refine qr_iconst 21 rfl rfl ?_
  refine qr_istore_n [(1, .int (qz 0)), (0, .ref a)] 22 rfl (by decide) rfl rfl ?_
  exact loop 123 0 0 0 0 0 cd (by omega) (by omega) (by omega)
