section
set_option maxHeartbeats 2000000 in
set_option maxRecDepth 20000 in
/-- Custom.readNumber -/
theorem sp_readNumber {X : qm_X} {d : Nat} {w : qm_W} {a : Nat} {ln at_ sz nm sk : Int} {t cd : Nat → Int} (hi : qc_in w a) (ht : ∀ j, -2147483648 ≤ t j ∧ t j ≤ 2147483647) (hl : 0 ≤ ln ∧ ln ≤ 120) (h0 : 0 ≤ at_ ∧ at_ ≤ ln ∧ 0 ≤ sz ∧ sz ≤ 122 ∧ -2147483648 ≤ nm ∧ nm ≤ 2147483647 ∧ (sk = 0 ∨ sk = 1))  : qm_T X (d + 2) 24 [.ref a] (qc w a ln at_ sz nm sk t cd) (fun r w' => r = none ∧ ∃ (at2 sz2 nm2 sk2 : Int) (cd2 : Nat → Int), w' = qc w a ln at2 sz2 nm2 sk2 t cd2 ∧ (0 ≤ at2 ∧ at2 ≤ ln ∧ 0 ≤ sz2 ∧ sz2 ≤ 122 ∧ -2147483648 ≤ nm2 ∧ nm2 ≤ 2147483647 ∧ (sk2 = 0 ∨ sk2 = 1) ∧ (sk = 1 → sk2 = 1))) := by
  refine qr_start (d := d + 1) qv_e24 (Nat.le_of_ble_eq_true rfl) ?_
  show qr_W X (d + 1) qx_e24 _ (0, [(0, .ref a)], [], qc w a ln at_ sz nm sk t cd, 0, 0)
  have loop : ∀ (n : Nat) (i u at1 : Int), (0 ≤ i ∧ i ≤ 4 ∧ 4 - i < n) → (0 ≤ at1 ∧ at1 ≤ ln) → qr_W X (d + 1) qx_e24 (fun r w' => r = none ∧ ∃ (at2 sz2 nm2 sk2 : Int) (cd2 : Nat → Int), w' = qc w a ln at2 sz2 nm2 sk2 t cd2 ∧ (0 ≤ at2 ∧ at2 ≤ ln ∧ 0 ≤ sz2 ∧ sz2 ≤ 122 ∧ -2147483648 ≤ nm2 ∧ nm2 ≤ 2147483647 ∧ (sk2 = 0 ∨ sk2 = 1) ∧ (sk = 1 → sk2 = 1))) (4, [(2, .int (qz i)), (1, .int (qz u)), (0, .ref a)], [], qc w a ln at1 sz nm sk t cd, 0, 0) := by
    intro n
    induction n with
    | zero => intro i u at1 h1 h2; exact absurd h1 (by omega)
    | succ n ih =>
      intro i u at1 h1 h2
      refine qr_iload_n 5 rfl rfl rfl ?_
      refine qr_iconst 6 rfl rfl ?_
      refine qr_icmp_ge 48 9 rfl rfl rfl (by omega) (by omega) (fun h1 => ?_) (fun h1 => ?_)
      · skip
        refine qr_aload_n 49 rfl rfl rfl ?_
        refine qr_bipush 51 rfl (by decide) rfl ?_
        refine qr_iload_n 52 rfl rfl rfl ?_
        refine qr_ccall (as := [.int (qz 48), .int (qz u)]) (rest := []) hi 55 rfl rfl (Nat.le_of_ble_eq_true rfl) rfl rfl (sp_emit hi ht hl (by omega)) ?_
        rintro _ _ ⟨b2, sz3, cd4, rfl, rfl, hb5⟩
        simp only [Option.toList, List.cons_append, List.nil_append]
        refine qr_pop 56 rfl rfl rfl ?_
        refine qr_retV rfl rfl (Nat.zero_le _) (Nat.zero_le _) ?_
        exact ⟨rfl, _, _, _, _, _, rfl, by omega⟩
      · skip
        refine qr_aload_n 10 rfl rfl rfl ?_
        refine qr_ccall (as := []) (rest := []) hi 13 rfl rfl (Nat.le_of_ble_eq_true rfl) rfl rfl (sp_next hi ht hl (by omega)) ?_
        rintro _ _ ⟨rfl, b6, rfl, hb7⟩
        simp only [Option.toList, List.cons_append, List.nil_append]
        refine qr_callN 16 rfl rfl rfl (sp_isDigit (by omega)) ?_
        rintro _ _ ⟨rfl, b8, rfl, hb9⟩
        simp only [Option.toList, List.drop, List.cons_append, List.nil_append]
        refine qr_if_eq 48 19 rfl rfl rfl (by omega) (fun h10 => ?_) (fun h10 => ?_)
        · skip
          refine qr_aload_n 49 rfl rfl rfl ?_
          refine qr_bipush 51 rfl (by decide) rfl ?_
          refine qr_iload_n 52 rfl rfl rfl ?_
          refine qr_ccall (as := [.int (qz 48), .int (qz u)]) (rest := []) hi 55 rfl rfl (Nat.le_of_ble_eq_true rfl) rfl rfl (sp_emit hi ht hl (by omega)) ?_
          rintro _ _ ⟨b11, sz12, cd13, rfl, rfl, hb14⟩
          simp only [Option.toList, List.cons_append, List.nil_append]
          refine qr_pop 56 rfl rfl rfl ?_
          refine qr_retV rfl rfl (Nat.zero_le _) (Nat.zero_le _) ?_
          exact ⟨rfl, _, _, _, _, _, rfl, by omega⟩
        · skip
          refine qr_iload_n 20 rfl rfl rfl ?_
          refine qr_bipush 22 rfl (by decide) rfl ?_
          refine qr_imul 23 rfl rfl ?_
          refine qr_topI (fun v15 hv15 => ?_)
          refine qr_aload_n 24 rfl rfl rfl ?_
          refine qr_ccall (as := []) (rest := [.int (qz v15)]) hi 27 rfl rfl (Nat.le_of_ble_eq_true rfl) rfl rfl (sp_next hi ht hl (by omega)) ?_
          rintro _ _ ⟨rfl, b16, rfl, hb17⟩
          simp only [Option.toList, List.cons_append, List.nil_append]
          refine qr_iadd 28 rfl rfl ?_
          refine qr_topI (fun v18 hv18 => ?_)
          refine qr_bipush 30 rfl (by decide) rfl ?_
          refine qr_isub 31 rfl rfl ?_
          refine qr_topI (fun v19 hv19 => ?_)
          refine qr_istore_n [(1, .int (qz v19)), (2, .int (qz i)), (0, .ref a)] 32 rfl (by decide) rfl rfl ?_
          refine qr_aload_n 33 rfl rfl rfl ?_
          refine qr_dup 34 rfl rfl rfl ?_
          refine qr_cget4 hi 37 rfl rfl ?_
          refine qr_iconst 38 rfl rfl ?_
          refine qr_iadd 39 rfl rfl ?_
          refine qr_topI (fun v20 hv20 => ?_)
          refine qr_cput4 hi 42 rfl rfl ?_
          refine qr_iincG (fun v21 => [(2, .int (qz v21)), (1, .int (qz v19)), (0, .ref a)]) 45 rfl rfl (by decide) (fun _ => rfl) rfl (fun v21 hv21 => ?_)
          refine qr_goto 4 rfl rfl ?_
          exact ih v21 v19 v20 (by omega) (by omega)
  refine qr_iconst 1 rfl rfl ?_
  refine qr_istore_n [(1, .int (qz 0)), (0, .ref a)] 2 rfl (by decide) rfl rfl ?_
  refine qr_iconst 3 rfl rfl ?_
  refine qr_istore_n [(2, .int (qz 0)), (1, .int (qz 0)), (0, .ref a)] 4 rfl (by decide) rfl rfl ?_
  exact loop 5 0 0 at_ (by omega) (by omega)

/-- what a reader leaves behind -/
abbrev qp_O (w : qm_W) (a : Nat) (ln at_ sk : Int) (t : Nat → Int) : Option Value → qm_W → Prop := fun r w' => r = none ∧ ∃ (at2 sz2 nm2 sk2 : Int) (cd2 : Nat → Int), w' = qc w a ln at2 sz2 nm2 sk2 t cd2 ∧ (0 ≤ at2 ∧ at2 ≤ ln ∧ 0 ≤ sz2 ∧ sz2 ≤ 122 ∧ -2147483648 ≤ nm2 ∧ nm2 ≤ 2147483647 ∧ (sk2 = 0 ∨ sk2 = 1) ∧ (sk = 1 → sk2 = 1) ∧ (ln ≤ at_ → sk2 = 1))

set_option maxHeartbeats 2000000 in
set_option maxRecDepth 20000 in
/-- Custom.readOperand, a step -/
theorem sp_opS {L : Nat} {xs : Nat → Int} {vb : Bool} {d : Nat} {w : qm_W} {a : Nat} {ln at_ sz nm sk : Int} {t cd : Nat → Int} (hi : qc_in w a) (ht : ∀ j, -2147483648 ≤ t j ∧ t j ≤ 2147483647) (hl : 0 ≤ ln ∧ ln ≤ 120) (h0 : 0 ≤ at_ ∧ at_ ≤ ln ∧ 0 ≤ sz ∧ sz ≤ 122 ∧ -2147483648 ≤ nm ∧ nm ≤ 2147483647 ∧ (sk = 0 ∨ sk = 1)) {op : Int} (ho : 0 ≤ op ∧ op ≤ 6) (iho : op < 6 → ∀ v : Int, v = op + 1 → ∀ (at1 sz1 nm1 sk1 : Int) (cd1 : Nat → Int), (0 ≤ at1 ∧ at1 ≤ ln ∧ 0 ≤ sz1 ∧ sz1 ≤ 122 ∧ -2147483648 ≤ nm1 ∧ nm1 ≤ 2147483647 ∧ (sk1 = 0 ∨ sk1 = 1)) → qm_T (qe L xs vb) (d + 5) 21 [.ref a, .int (qz v)] (qc w a ln at1 sz1 nm1 sk1 t cd1) (qp_O w a ln at1 sk1 t)) (ihp : op < 6 → ∀ v : Int, v = op + 1 → ∀ (at1 sz1 nm1 sk1 : Int) (cd1 : Nat → Int), (0 ≤ at1 ∧ at1 ≤ ln ∧ 0 ≤ sz1 ∧ sz1 ≤ 122 ∧ -2147483648 ≤ nm1 ∧ nm1 ≤ 2147483647 ∧ (sk1 = 0 ∨ sk1 = 1)) → qm_T (qe L xs vb) (d + 5) 20 [.ref a, .int (qz 0), .int (qz v)] (qc w a ln at1 sz1 nm1 sk1 t cd1) (qp_O w a ln at1 sk1 t))  : qm_T (qe L xs vb) (d + 6) 21 [.ref a, .int (qz op)] (qc w a ln at_ sz nm sk t cd) (qp_O w a ln at_ sk t) := by
  refine qr_start (d := d + 5) qv_e21 (Nat.le_of_ble_eq_true rfl) ?_
  show qr_W (qe L xs vb) (d + 5) qx_e21 _ (0, [(0, .ref a), (1, .int (qz op))], [], qc w a ln at_ sz nm sk t cd, 0, 0)
  refine qr_aload_n 1 rfl rfl rfl ?_
  refine qr_ccall (as := []) (rest := []) hi 4 rfl rfl (Nat.le_of_ble_eq_true rfl) rfl rfl (sp_next hi ht hl (by omega)) ?_
  rintro _ _ ⟨rfl, b1, rfl, hb2⟩
  simp only [Option.toList, List.cons_append, List.nil_append]
  refine qr_istore_n [(2, .int (qz b1)), (0, .ref a), (1, .int (qz op))] 5 rfl (by decide) rfl rfl ?_
  refine qr_aload_n 6 rfl rfl rfl ?_
  refine qr_cget7 hi 9 rfl rfl ?_
  refine qr_if_eq 13 12 rfl rfl rfl (by omega) (fun h3 => ?_) (fun h3 => ?_)
  · skip
    refine qr_iload_n 14 rfl rfl rfl ?_
    refine qr_callN 17 rfl rfl rfl (sp_isDigit (by omega)) ?_
    rintro _ _ ⟨rfl, b4, rfl, hb5⟩
    simp only [Option.toList, List.drop, List.cons_append, List.nil_append]
    refine qr_if_eq 27 20 rfl rfl rfl (by omega) (fun h6 => ?_) (fun h6 => ?_)
    · skip
      refine qr_iload_n 28 rfl rfl rfl ?_
      refine qr_if_lt 82 31 rfl rfl rfl (by omega) (fun h7 => ?_) (fun h7 => ?_)
      · skip
        refine qr_iload_n 83 rfl rfl rfl ?_
        refine qr_bipush 85 rfl (by decide) rfl ?_
        refine qr_icmp_ge 121 88 rfl rfl rfl (by omega) (by omega) (fun h8 => ?_) (fun h8 => ?_)
        · skip
          refine qr_iload_n 122 rfl rfl rfl ?_
          refine qr_bipush 124 rfl (by decide) rfl ?_
          refine qr_icmp_ge 178 127 rfl rfl rfl (by omega) (by omega) (fun h9 => ?_) (fun h9 => ?_)
          · skip
            refine qr_aload_n 179 rfl rfl rfl ?_
            refine qr_iconst 180 rfl rfl ?_
            refine qr_cput7 hi (by omega) 183 rfl rfl ?_
            refine qr_retV rfl rfl (Nat.zero_le _) (Nat.zero_le _) ?_
            exact ⟨rfl, _, _, _, _, _, rfl, by omega⟩
          · skip
            refine qr_iload_n 128 rfl rfl rfl ?_
            refine qr_bipush 130 rfl (by decide) rfl ?_
            refine qr_icmp_eq 139 133 rfl rfl rfl (by omega) (by omega) (fun h10 => ?_) (fun h10 => ?_)
            · skip
              refine qr_aload_n 140 rfl rfl rfl ?_
              refine qr_dup 141 rfl rfl rfl ?_
              refine qr_cget4 hi 144 rfl rfl ?_
              refine qr_iconst 145 rfl rfl ?_
              refine qr_iadd 146 rfl rfl ?_
              refine qr_topI (fun v11 hv11 => ?_)
              refine qr_cput4 hi 149 rfl rfl ?_
              refine qr_aload_n 150 rfl rfl rfl ?_
              refine qr_iload_n 151 rfl rfl rfl ?_
              refine qr_iconst 152 rfl rfl ?_
              refine qr_iadd 153 rfl rfl ?_
              refine qr_topI (fun v12 hv12 => ?_)
              refine qr_ccall (as := [.int (qz v12)]) (rest := []) hi 156 rfl rfl (Nat.le_of_ble_eq_true rfl) rfl rfl (iho (by omega) v12 (by omega) _ _ _ _ _ (by omega)) ?_
              rintro _ _ ⟨rfl, at13, sz14, nm15, sk16, cd17, rfl, hb18⟩
              simp only [Option.toList, List.cons_append, List.nil_append]
              refine qr_aload_n 157 rfl rfl rfl ?_
              refine qr_iload_n 158 rfl rfl rfl ?_
              refine qr_bipush 160 rfl (by decide) rfl ?_
              refine qr_icmp_ne 168 163 rfl rfl rfl (by omega) (by omega) (fun h19 => ?_) (fun h19 => ?_)
              · skip
                refine qr_bipush 170 rfl (by decide) rfl ?_
                refine qr_iconst 171 rfl rfl ?_
                refine qr_ccall (as := [.int (qz 126), .int (qz 0)]) (rest := []) hi 174 rfl rfl (Nat.le_of_ble_eq_true rfl) rfl rfl (sp_emit hi ht hl (by omega)) ?_
                rintro _ _ ⟨b20, sz21, cd22, rfl, rfl, hb23⟩
                simp only [Option.toList, List.cons_append, List.nil_append]
                refine qr_pop 175 rfl rfl rfl ?_
                refine qr_goto 183 rfl rfl ?_
                refine qr_retV rfl rfl (Nat.zero_le _) (Nat.zero_le _) ?_
                exact ⟨rfl, _, _, _, _, _, rfl, by omega⟩
              · skip
                refine qr_bipush 165 rfl (by decide) rfl ?_
                refine qr_goto 170 rfl rfl ?_
                refine qr_iconst 171 rfl rfl ?_
                refine qr_ccall (as := [.int (qz 33), .int (qz 0)]) (rest := []) hi 174 rfl rfl (Nat.le_of_ble_eq_true rfl) rfl rfl (sp_emit hi ht hl (by omega)) ?_
                rintro _ _ ⟨b24, sz25, cd26, rfl, rfl, hb27⟩
                simp only [Option.toList, List.cons_append, List.nil_append]
                refine qr_pop 175 rfl rfl rfl ?_
                refine qr_goto 183 rfl rfl ?_
                refine qr_retV rfl rfl (Nat.zero_le _) (Nat.zero_le _) ?_
                exact ⟨rfl, _, _, _, _, _, rfl, by omega⟩
            · skip
              refine qr_iload_n 134 rfl rfl rfl ?_
              refine qr_bipush 136 rfl (by decide) rfl ?_
              refine qr_icmp_ne 178 139 rfl rfl rfl (by omega) (by omega) (fun h28 => ?_) (fun h28 => ?_)
              · skip
                refine qr_aload_n 179 rfl rfl rfl ?_
                refine qr_iconst 180 rfl rfl ?_
                refine qr_cput7 hi (by omega) 183 rfl rfl ?_
                refine qr_retV rfl rfl (Nat.zero_le _) (Nat.zero_le _) ?_
                exact ⟨rfl, _, _, _, _, _, rfl, by omega⟩
              · skip
                refine qr_aload_n 140 rfl rfl rfl ?_
                refine qr_dup 141 rfl rfl rfl ?_
                refine qr_cget4 hi 144 rfl rfl ?_
                refine qr_iconst 145 rfl rfl ?_
                refine qr_iadd 146 rfl rfl ?_
                refine qr_topI (fun v29 hv29 => ?_)
                refine qr_cput4 hi 149 rfl rfl ?_
                refine qr_aload_n 150 rfl rfl rfl ?_
                refine qr_iload_n 151 rfl rfl rfl ?_
                refine qr_iconst 152 rfl rfl ?_
                refine qr_iadd 153 rfl rfl ?_
                refine qr_topI (fun v30 hv30 => ?_)
                refine qr_ccall (as := [.int (qz v30)]) (rest := []) hi 156 rfl rfl (Nat.le_of_ble_eq_true rfl) rfl rfl (iho (by omega) v30 (by omega) _ _ _ _ _ (by omega)) ?_
                rintro _ _ ⟨rfl, at31, sz32, nm33, sk34, cd35, rfl, hb36⟩
                simp only [Option.toList, List.cons_append, List.nil_append]
                refine qr_aload_n 157 rfl rfl rfl ?_
                refine qr_iload_n 158 rfl rfl rfl ?_
                refine qr_bipush 160 rfl (by decide) rfl ?_
                refine qr_icmp_ne 168 163 rfl rfl rfl (by omega) (by omega) (fun h37 => ?_) (fun h37 => ?_)
                · skip
                  refine qr_bipush 170 rfl (by decide) rfl ?_
                  refine qr_iconst 171 rfl rfl ?_
                  refine qr_ccall (as := [.int (qz 126), .int (qz 0)]) (rest := []) hi 174 rfl rfl (Nat.le_of_ble_eq_true rfl) rfl rfl (sp_emit hi ht hl (by omega)) ?_
                  rintro _ _ ⟨b38, sz39, cd40, rfl, rfl, hb41⟩
                  simp only [Option.toList, List.cons_append, List.nil_append]
                  refine qr_pop 175 rfl rfl rfl ?_
                  refine qr_goto 183 rfl rfl ?_
                  refine qr_retV rfl rfl (Nat.zero_le _) (Nat.zero_le _) ?_
                  exact ⟨rfl, _, _, _, _, _, rfl, by omega⟩
                · skip
                  refine qr_bipush 165 rfl (by decide) rfl ?_
                  refine qr_goto 170 rfl rfl ?_
                  refine qr_iconst 171 rfl rfl ?_
                  refine qr_ccall (as := [.int (qz 33), .int (qz 0)]) (rest := []) hi 174 rfl rfl (Nat.le_of_ble_eq_true rfl) rfl rfl (sp_emit hi ht hl (by omega)) ?_
                  rintro _ _ ⟨b42, sz43, cd44, rfl, rfl, hb45⟩
                  simp only [Option.toList, List.cons_append, List.nil_append]
                  refine qr_pop 175 rfl rfl rfl ?_
                  refine qr_goto 183 rfl rfl ?_
                  refine qr_retV rfl rfl (Nat.zero_le _) (Nat.zero_le _) ?_
                  exact ⟨rfl, _, _, _, _, _, rfl, by omega⟩
        · skip
          refine qr_iload_n 89 rfl rfl rfl ?_
          refine qr_bipush 91 rfl (by decide) rfl ?_
          refine qr_icmp_ne 121 94 rfl rfl rfl (by omega) (by omega) (fun h46 => ?_) (fun h46 => ?_)
          · skip
            refine qr_iload_n 122 rfl rfl rfl ?_
            refine qr_bipush 124 rfl (by decide) rfl ?_
            refine qr_icmp_ge 178 127 rfl rfl rfl (by omega) (by omega) (fun h47 => ?_) (fun h47 => ?_)
            · skip
              refine qr_aload_n 179 rfl rfl rfl ?_
              refine qr_iconst 180 rfl rfl ?_
              refine qr_cput7 hi (by omega) 183 rfl rfl ?_
              refine qr_retV rfl rfl (Nat.zero_le _) (Nat.zero_le _) ?_
              exact ⟨rfl, _, _, _, _, _, rfl, by omega⟩
            · skip
              refine qr_iload_n 128 rfl rfl rfl ?_
              refine qr_bipush 130 rfl (by decide) rfl ?_
              refine qr_icmp_eq 139 133 rfl rfl rfl (by omega) (by omega) (fun h48 => ?_) (fun h48 => ?_)
              · skip
                refine qr_aload_n 140 rfl rfl rfl ?_
                refine qr_dup 141 rfl rfl rfl ?_
                refine qr_cget4 hi 144 rfl rfl ?_
                refine qr_iconst 145 rfl rfl ?_
                refine qr_iadd 146 rfl rfl ?_
                refine qr_topI (fun v49 hv49 => ?_)
                refine qr_cput4 hi 149 rfl rfl ?_
                refine qr_aload_n 150 rfl rfl rfl ?_
                refine qr_iload_n 151 rfl rfl rfl ?_
                refine qr_iconst 152 rfl rfl ?_
                refine qr_iadd 153 rfl rfl ?_
                refine qr_topI (fun v50 hv50 => ?_)
                refine qr_ccall (as := [.int (qz v50)]) (rest := []) hi 156 rfl rfl (Nat.le_of_ble_eq_true rfl) rfl rfl (iho (by omega) v50 (by omega) _ _ _ _ _ (by omega)) ?_
                rintro _ _ ⟨rfl, at51, sz52, nm53, sk54, cd55, rfl, hb56⟩
                simp only [Option.toList, List.cons_append, List.nil_append]
                refine qr_aload_n 157 rfl rfl rfl ?_
                refine qr_iload_n 158 rfl rfl rfl ?_
                refine qr_bipush 160 rfl (by decide) rfl ?_
                refine qr_icmp_ne 168 163 rfl rfl rfl (by omega) (by omega) (fun h57 => ?_) (fun h57 => ?_)
                · skip
                  refine qr_bipush 170 rfl (by decide) rfl ?_
                  refine qr_iconst 171 rfl rfl ?_
                  refine qr_ccall (as := [.int (qz 126), .int (qz 0)]) (rest := []) hi 174 rfl rfl (Nat.le_of_ble_eq_true rfl) rfl rfl (sp_emit hi ht hl (by omega)) ?_
                  rintro _ _ ⟨b58, sz59, cd60, rfl, rfl, hb61⟩
                  simp only [Option.toList, List.cons_append, List.nil_append]
                  refine qr_pop 175 rfl rfl rfl ?_
                  refine qr_goto 183 rfl rfl ?_
                  refine qr_retV rfl rfl (Nat.zero_le _) (Nat.zero_le _) ?_
                  exact ⟨rfl, _, _, _, _, _, rfl, by omega⟩
                · skip
                  refine qr_bipush 165 rfl (by decide) rfl ?_
                  refine qr_goto 170 rfl rfl ?_
                  refine qr_iconst 171 rfl rfl ?_
                  refine qr_ccall (as := [.int (qz 33), .int (qz 0)]) (rest := []) hi 174 rfl rfl (Nat.le_of_ble_eq_true rfl) rfl rfl (sp_emit hi ht hl (by omega)) ?_
                  rintro _ _ ⟨b62, sz63, cd64, rfl, rfl, hb65⟩
                  simp only [Option.toList, List.cons_append, List.nil_append]
                  refine qr_pop 175 rfl rfl rfl ?_
                  refine qr_goto 183 rfl rfl ?_
                  refine qr_retV rfl rfl (Nat.zero_le _) (Nat.zero_le _) ?_
                  exact ⟨rfl, _, _, _, _, _, rfl, by omega⟩
              · skip
                refine qr_iload_n 134 rfl rfl rfl ?_
                refine qr_bipush 136 rfl (by decide) rfl ?_
                refine qr_icmp_ne 178 139 rfl rfl rfl (by omega) (by omega) (fun h66 => ?_) (fun h66 => ?_)
                · skip
                  refine qr_aload_n 179 rfl rfl rfl ?_
                  refine qr_iconst 180 rfl rfl ?_
                  refine qr_cput7 hi (by omega) 183 rfl rfl ?_
                  refine qr_retV rfl rfl (Nat.zero_le _) (Nat.zero_le _) ?_
                  exact ⟨rfl, _, _, _, _, _, rfl, by omega⟩
                · skip
                  refine qr_aload_n 140 rfl rfl rfl ?_
                  refine qr_dup 141 rfl rfl rfl ?_
                  refine qr_cget4 hi 144 rfl rfl ?_
                  refine qr_iconst 145 rfl rfl ?_
                  refine qr_iadd 146 rfl rfl ?_
                  refine qr_topI (fun v67 hv67 => ?_)
                  refine qr_cput4 hi 149 rfl rfl ?_
                  refine qr_aload_n 150 rfl rfl rfl ?_
                  refine qr_iload_n 151 rfl rfl rfl ?_
                  refine qr_iconst 152 rfl rfl ?_
                  refine qr_iadd 153 rfl rfl ?_
                  refine qr_topI (fun v68 hv68 => ?_)
                  refine qr_ccall (as := [.int (qz v68)]) (rest := []) hi 156 rfl rfl (Nat.le_of_ble_eq_true rfl) rfl rfl (iho (by omega) v68 (by omega) _ _ _ _ _ (by omega)) ?_
                  rintro _ _ ⟨rfl, at69, sz70, nm71, sk72, cd73, rfl, hb74⟩
                  simp only [Option.toList, List.cons_append, List.nil_append]
                  refine qr_aload_n 157 rfl rfl rfl ?_
                  refine qr_iload_n 158 rfl rfl rfl ?_
                  refine qr_bipush 160 rfl (by decide) rfl ?_
                  refine qr_icmp_ne 168 163 rfl rfl rfl (by omega) (by omega) (fun h75 => ?_) (fun h75 => ?_)
                  · skip
                    refine qr_bipush 170 rfl (by decide) rfl ?_
                    refine qr_iconst 171 rfl rfl ?_
                    refine qr_ccall (as := [.int (qz 126), .int (qz 0)]) (rest := []) hi 174 rfl rfl (Nat.le_of_ble_eq_true rfl) rfl rfl (sp_emit hi ht hl (by omega)) ?_
                    rintro _ _ ⟨b76, sz77, cd78, rfl, rfl, hb79⟩
                    simp only [Option.toList, List.cons_append, List.nil_append]
                    refine qr_pop 175 rfl rfl rfl ?_
                    refine qr_goto 183 rfl rfl ?_
                    refine qr_retV rfl rfl (Nat.zero_le _) (Nat.zero_le _) ?_
                    exact ⟨rfl, _, _, _, _, _, rfl, by omega⟩
                  · skip
                    refine qr_bipush 165 rfl (by decide) rfl ?_
                    refine qr_goto 170 rfl rfl ?_
                    refine qr_iconst 171 rfl rfl ?_
                    refine qr_ccall (as := [.int (qz 33), .int (qz 0)]) (rest := []) hi 174 rfl rfl (Nat.le_of_ble_eq_true rfl) rfl rfl (sp_emit hi ht hl (by omega)) ?_
                    rintro _ _ ⟨b80, sz81, cd82, rfl, rfl, hb83⟩
                    simp only [Option.toList, List.cons_append, List.nil_append]
                    refine qr_pop 175 rfl rfl rfl ?_
                    refine qr_goto 183 rfl rfl ?_
                    refine qr_retV rfl rfl (Nat.zero_le _) (Nat.zero_le _) ?_
                    exact ⟨rfl, _, _, _, _, _, rfl, by omega⟩
          · skip
            refine qr_aload_n 95 rfl rfl rfl ?_
            refine qr_dup 96 rfl rfl rfl ?_
            refine qr_cget4 hi 99 rfl rfl ?_
            refine qr_iconst 100 rfl rfl ?_
            refine qr_iadd 101 rfl rfl ?_
            refine qr_topI (fun v84 hv84 => ?_)
            refine qr_cput4 hi 104 rfl rfl ?_
            refine qr_aload_n 105 rfl rfl rfl ?_
            refine qr_iconst 106 rfl rfl ?_
            refine qr_iload_n 107 rfl rfl rfl ?_
            refine qr_iconst 108 rfl rfl ?_
            refine qr_iadd 109 rfl rfl ?_
            refine qr_topI (fun v85 hv85 => ?_)
            refine qr_ccall (as := [.int (qz 0), .int (qz v85)]) (rest := []) hi 112 rfl rfl (Nat.le_of_ble_eq_true rfl) rfl rfl (ihp (by omega) v85 (by omega) _ _ _ _ _ (by omega)) ?_
            rintro _ _ ⟨rfl, at86, sz87, nm88, sk89, cd90, rfl, hb91⟩
            simp only [Option.toList, List.cons_append, List.nil_append]
            refine qr_aload_n 113 rfl rfl rfl ?_
            refine qr_bipush 115 rfl (by decide) rfl ?_
            refine qr_ccall (as := [.int (qz 41)]) (rest := []) hi 118 rfl rfl (Nat.le_of_ble_eq_true rfl) rfl rfl (sp_pass hi ht hl (by omega) (by omega)) ?_
            rintro _ _ ⟨rfl, at92, sz93, nm94, sk95, cd96, rfl, hb97⟩
            simp only [Option.toList, List.cons_append, List.nil_append]
            refine qr_goto 183 rfl rfl ?_
            refine qr_retV rfl rfl (Nat.zero_le _) (Nat.zero_le _) ?_
            exact ⟨rfl, _, _, _, _, _, rfl, by omega⟩
      · skip
        refine qr_ldcs 33 rfl rfl ?_
        refine qr_iload_n 34 rfl rfl rfl ?_
        refine qr_i2c 35 rfl rfl ?_
        refine qr_topI (fun v98 hv98 => ?_)
        have rv98 : -2147483648 ≤ v98 ∧ v98 ≤ 2147483647 := by rw [hv98]; exact qz_i2c_r _
        refine qr_callN 38 rfl rfl rfl (sp_ix (by omega)) ?_
        rintro _ _ ⟨rfl, b99, rfl, hb100⟩
        simp only [Option.toList, List.drop, List.cons_append, List.nil_append]
        refine qr_if_lt 82 41 rfl rfl rfl (by omega) (fun h101 => ?_) (fun h101 => ?_)
        · skip
          refine qr_iload_n 83 rfl rfl rfl ?_
          refine qr_bipush 85 rfl (by decide) rfl ?_
          refine qr_icmp_ge 121 88 rfl rfl rfl (by omega) (by omega) (fun h102 => ?_) (fun h102 => ?_)
          · skip
            refine qr_iload_n 122 rfl rfl rfl ?_
            refine qr_bipush 124 rfl (by decide) rfl ?_
            refine qr_icmp_ge 178 127 rfl rfl rfl (by omega) (by omega) (fun h103 => ?_) (fun h103 => ?_)
            · skip
              refine qr_aload_n 179 rfl rfl rfl ?_
              refine qr_iconst 180 rfl rfl ?_
              refine qr_cput7 hi (by omega) 183 rfl rfl ?_
              refine qr_retV rfl rfl (Nat.zero_le _) (Nat.zero_le _) ?_
              exact ⟨rfl, _, _, _, _, _, rfl, by omega⟩
            · skip
              refine qr_iload_n 128 rfl rfl rfl ?_
              refine qr_bipush 130 rfl (by decide) rfl ?_
              refine qr_icmp_eq 139 133 rfl rfl rfl (by omega) (by omega) (fun h104 => ?_) (fun h104 => ?_)
              · skip
                refine qr_aload_n 140 rfl rfl rfl ?_
                refine qr_dup 141 rfl rfl rfl ?_
                refine qr_cget4 hi 144 rfl rfl ?_
                refine qr_iconst 145 rfl rfl ?_
                refine qr_iadd 146 rfl rfl ?_
                refine qr_topI (fun v105 hv105 => ?_)
                refine qr_cput4 hi 149 rfl rfl ?_
                refine qr_aload_n 150 rfl rfl rfl ?_
                refine qr_iload_n 151 rfl rfl rfl ?_
                refine qr_iconst 152 rfl rfl ?_
                refine qr_iadd 153 rfl rfl ?_
                refine qr_topI (fun v106 hv106 => ?_)
                refine qr_ccall (as := [.int (qz v106)]) (rest := []) hi 156 rfl rfl (Nat.le_of_ble_eq_true rfl) rfl rfl (iho (by omega) v106 (by omega) _ _ _ _ _ (by omega)) ?_
                rintro _ _ ⟨rfl, at107, sz108, nm109, sk110, cd111, rfl, hb112⟩
                simp only [Option.toList, List.cons_append, List.nil_append]
                refine qr_aload_n 157 rfl rfl rfl ?_
                refine qr_iload_n 158 rfl rfl rfl ?_
                refine qr_bipush 160 rfl (by decide) rfl ?_
                refine qr_icmp_ne 168 163 rfl rfl rfl (by omega) (by omega) (fun h113 => ?_) (fun h113 => ?_)
                · skip
                  refine qr_bipush 170 rfl (by decide) rfl ?_
                  refine qr_iconst 171 rfl rfl ?_
                  refine qr_ccall (as := [.int (qz 126), .int (qz 0)]) (rest := []) hi 174 rfl rfl (Nat.le_of_ble_eq_true rfl) rfl rfl (sp_emit hi ht hl (by omega)) ?_
                  rintro _ _ ⟨b114, sz115, cd116, rfl, rfl, hb117⟩
                  simp only [Option.toList, List.cons_append, List.nil_append]
                  refine qr_pop 175 rfl rfl rfl ?_
                  refine qr_goto 183 rfl rfl ?_
                  refine qr_retV rfl rfl (Nat.zero_le _) (Nat.zero_le _) ?_
                  exact ⟨rfl, _, _, _, _, _, rfl, by omega⟩
                · skip
                  refine qr_bipush 165 rfl (by decide) rfl ?_
                  refine qr_goto 170 rfl rfl ?_
                  refine qr_iconst 171 rfl rfl ?_
                  refine qr_ccall (as := [.int (qz 33), .int (qz 0)]) (rest := []) hi 174 rfl rfl (Nat.le_of_ble_eq_true rfl) rfl rfl (sp_emit hi ht hl (by omega)) ?_
                  rintro _ _ ⟨b118, sz119, cd120, rfl, rfl, hb121⟩
                  simp only [Option.toList, List.cons_append, List.nil_append]
                  refine qr_pop 175 rfl rfl rfl ?_
                  refine qr_goto 183 rfl rfl ?_
                  refine qr_retV rfl rfl (Nat.zero_le _) (Nat.zero_le _) ?_
                  exact ⟨rfl, _, _, _, _, _, rfl, by omega⟩
              · skip
                refine qr_iload_n 134 rfl rfl rfl ?_
                refine qr_bipush 136 rfl (by decide) rfl ?_
                refine qr_icmp_ne 178 139 rfl rfl rfl (by omega) (by omega) (fun h122 => ?_) (fun h122 => ?_)
                · skip
                  refine qr_aload_n 179 rfl rfl rfl ?_
                  refine qr_iconst 180 rfl rfl ?_
                  refine qr_cput7 hi (by omega) 183 rfl rfl ?_
                  refine qr_retV rfl rfl (Nat.zero_le _) (Nat.zero_le _) ?_
                  exact ⟨rfl, _, _, _, _, _, rfl, by omega⟩
                · skip
                  refine qr_aload_n 140 rfl rfl rfl ?_
                  refine qr_dup 141 rfl rfl rfl ?_
                  refine qr_cget4 hi 144 rfl rfl ?_
                  refine qr_iconst 145 rfl rfl ?_
                  refine qr_iadd 146 rfl rfl ?_
                  refine qr_topI (fun v123 hv123 => ?_)
                  refine qr_cput4 hi 149 rfl rfl ?_
                  refine qr_aload_n 150 rfl rfl rfl ?_
                  refine qr_iload_n 151 rfl rfl rfl ?_
                  refine qr_iconst 152 rfl rfl ?_
                  refine qr_iadd 153 rfl rfl ?_
                  refine qr_topI (fun v124 hv124 => ?_)
                  refine qr_ccall (as := [.int (qz v124)]) (rest := []) hi 156 rfl rfl (Nat.le_of_ble_eq_true rfl) rfl rfl (iho (by omega) v124 (by omega) _ _ _ _ _ (by omega)) ?_
                  rintro _ _ ⟨rfl, at125, sz126, nm127, sk128, cd129, rfl, hb130⟩
                  simp only [Option.toList, List.cons_append, List.nil_append]
                  refine qr_aload_n 157 rfl rfl rfl ?_
                  refine qr_iload_n 158 rfl rfl rfl ?_
                  refine qr_bipush 160 rfl (by decide) rfl ?_
                  refine qr_icmp_ne 168 163 rfl rfl rfl (by omega) (by omega) (fun h131 => ?_) (fun h131 => ?_)
                  · skip
                    refine qr_bipush 170 rfl (by decide) rfl ?_
                    refine qr_iconst 171 rfl rfl ?_
                    refine qr_ccall (as := [.int (qz 126), .int (qz 0)]) (rest := []) hi 174 rfl rfl (Nat.le_of_ble_eq_true rfl) rfl rfl (sp_emit hi ht hl (by omega)) ?_
                    rintro _ _ ⟨b132, sz133, cd134, rfl, rfl, hb135⟩
                    simp only [Option.toList, List.cons_append, List.nil_append]
                    refine qr_pop 175 rfl rfl rfl ?_
                    refine qr_goto 183 rfl rfl ?_
                    refine qr_retV rfl rfl (Nat.zero_le _) (Nat.zero_le _) ?_
                    exact ⟨rfl, _, _, _, _, _, rfl, by omega⟩
                  · skip
                    refine qr_bipush 165 rfl (by decide) rfl ?_
                    refine qr_goto 170 rfl rfl ?_
                    refine qr_iconst 171 rfl rfl ?_
                    refine qr_ccall (as := [.int (qz 33), .int (qz 0)]) (rest := []) hi 174 rfl rfl (Nat.le_of_ble_eq_true rfl) rfl rfl (sp_emit hi ht hl (by omega)) ?_
                    rintro _ _ ⟨b136, sz137, cd138, rfl, rfl, hb139⟩
                    simp only [Option.toList, List.cons_append, List.nil_append]
                    refine qr_pop 175 rfl rfl rfl ?_
                    refine qr_goto 183 rfl rfl ?_
                    refine qr_retV rfl rfl (Nat.zero_le _) (Nat.zero_le _) ?_
                    exact ⟨rfl, _, _, _, _, _, rfl, by omega⟩
          · skip
            refine qr_iload_n 89 rfl rfl rfl ?_
            refine qr_bipush 91 rfl (by decide) rfl ?_
            refine qr_icmp_ne 121 94 rfl rfl rfl (by omega) (by omega) (fun h140 => ?_) (fun h140 => ?_)
            · skip
              refine qr_iload_n 122 rfl rfl rfl ?_
              refine qr_bipush 124 rfl (by decide) rfl ?_
              refine qr_icmp_ge 178 127 rfl rfl rfl (by omega) (by omega) (fun h141 => ?_) (fun h141 => ?_)
              · skip
                refine qr_aload_n 179 rfl rfl rfl ?_
                refine qr_iconst 180 rfl rfl ?_
                refine qr_cput7 hi (by omega) 183 rfl rfl ?_
                refine qr_retV rfl rfl (Nat.zero_le _) (Nat.zero_le _) ?_
                exact ⟨rfl, _, _, _, _, _, rfl, by omega⟩
              · skip
                refine qr_iload_n 128 rfl rfl rfl ?_
                refine qr_bipush 130 rfl (by decide) rfl ?_
                refine qr_icmp_eq 139 133 rfl rfl rfl (by omega) (by omega) (fun h142 => ?_) (fun h142 => ?_)
                · skip
                  refine qr_aload_n 140 rfl rfl rfl ?_
                  refine qr_dup 141 rfl rfl rfl ?_
                  refine qr_cget4 hi 144 rfl rfl ?_
                  refine qr_iconst 145 rfl rfl ?_
                  refine qr_iadd 146 rfl rfl ?_
                  refine qr_topI (fun v143 hv143 => ?_)
                  refine qr_cput4 hi 149 rfl rfl ?_
                  refine qr_aload_n 150 rfl rfl rfl ?_
                  refine qr_iload_n 151 rfl rfl rfl ?_
                  refine qr_iconst 152 rfl rfl ?_
                  refine qr_iadd 153 rfl rfl ?_
                  refine qr_topI (fun v144 hv144 => ?_)
                  refine qr_ccall (as := [.int (qz v144)]) (rest := []) hi 156 rfl rfl (Nat.le_of_ble_eq_true rfl) rfl rfl (iho (by omega) v144 (by omega) _ _ _ _ _ (by omega)) ?_
                  rintro _ _ ⟨rfl, at145, sz146, nm147, sk148, cd149, rfl, hb150⟩
                  simp only [Option.toList, List.cons_append, List.nil_append]
                  refine qr_aload_n 157 rfl rfl rfl ?_
                  refine qr_iload_n 158 rfl rfl rfl ?_
                  refine qr_bipush 160 rfl (by decide) rfl ?_
                  refine qr_icmp_ne 168 163 rfl rfl rfl (by omega) (by omega) (fun h151 => ?_) (fun h151 => ?_)
                  · skip
                    refine qr_bipush 170 rfl (by decide) rfl ?_
                    refine qr_iconst 171 rfl rfl ?_
                    refine qr_ccall (as := [.int (qz 126), .int (qz 0)]) (rest := []) hi 174 rfl rfl (Nat.le_of_ble_eq_true rfl) rfl rfl (sp_emit hi ht hl (by omega)) ?_
                    rintro _ _ ⟨b152, sz153, cd154, rfl, rfl, hb155⟩
                    simp only [Option.toList, List.cons_append, List.nil_append]
                    refine qr_pop 175 rfl rfl rfl ?_
                    refine qr_goto 183 rfl rfl ?_
                    refine qr_retV rfl rfl (Nat.zero_le _) (Nat.zero_le _) ?_
                    exact ⟨rfl, _, _, _, _, _, rfl, by omega⟩
                  · skip
                    refine qr_bipush 165 rfl (by decide) rfl ?_
                    refine qr_goto 170 rfl rfl ?_
                    refine qr_iconst 171 rfl rfl ?_
                    refine qr_ccall (as := [.int (qz 33), .int (qz 0)]) (rest := []) hi 174 rfl rfl (Nat.le_of_ble_eq_true rfl) rfl rfl (sp_emit hi ht hl (by omega)) ?_
                    rintro _ _ ⟨b156, sz157, cd158, rfl, rfl, hb159⟩
                    simp only [Option.toList, List.cons_append, List.nil_append]
                    refine qr_pop 175 rfl rfl rfl ?_
                    refine qr_goto 183 rfl rfl ?_
                    refine qr_retV rfl rfl (Nat.zero_le _) (Nat.zero_le _) ?_
                    exact ⟨rfl, _, _, _, _, _, rfl, by omega⟩
                · skip
                  refine qr_iload_n 134 rfl rfl rfl ?_
                  refine qr_bipush 136 rfl (by decide) rfl ?_
                  refine qr_icmp_ne 178 139 rfl rfl rfl (by omega) (by omega) (fun h160 => ?_) (fun h160 => ?_)
                  · skip
                    refine qr_aload_n 179 rfl rfl rfl ?_
                    refine qr_iconst 180 rfl rfl ?_
                    refine qr_cput7 hi (by omega) 183 rfl rfl ?_
                    refine qr_retV rfl rfl (Nat.zero_le _) (Nat.zero_le _) ?_
                    exact ⟨rfl, _, _, _, _, _, rfl, by omega⟩
                  · skip
                    refine qr_aload_n 140 rfl rfl rfl ?_
                    refine qr_dup 141 rfl rfl rfl ?_
                    refine qr_cget4 hi 144 rfl rfl ?_
                    refine qr_iconst 145 rfl rfl ?_
                    refine qr_iadd 146 rfl rfl ?_
                    refine qr_topI (fun v161 hv161 => ?_)
                    refine qr_cput4 hi 149 rfl rfl ?_
                    refine qr_aload_n 150 rfl rfl rfl ?_
                    refine qr_iload_n 151 rfl rfl rfl ?_
                    refine qr_iconst 152 rfl rfl ?_
                    refine qr_iadd 153 rfl rfl ?_
                    refine qr_topI (fun v162 hv162 => ?_)
                    refine qr_ccall (as := [.int (qz v162)]) (rest := []) hi 156 rfl rfl (Nat.le_of_ble_eq_true rfl) rfl rfl (iho (by omega) v162 (by omega) _ _ _ _ _ (by omega)) ?_
                    rintro _ _ ⟨rfl, at163, sz164, nm165, sk166, cd167, rfl, hb168⟩
                    simp only [Option.toList, List.cons_append, List.nil_append]
                    refine qr_aload_n 157 rfl rfl rfl ?_
                    refine qr_iload_n 158 rfl rfl rfl ?_
                    refine qr_bipush 160 rfl (by decide) rfl ?_
                    refine qr_icmp_ne 168 163 rfl rfl rfl (by omega) (by omega) (fun h169 => ?_) (fun h169 => ?_)
                    · skip
                      refine qr_bipush 170 rfl (by decide) rfl ?_
                      refine qr_iconst 171 rfl rfl ?_
                      refine qr_ccall (as := [.int (qz 126), .int (qz 0)]) (rest := []) hi 174 rfl rfl (Nat.le_of_ble_eq_true rfl) rfl rfl (sp_emit hi ht hl (by omega)) ?_
                      rintro _ _ ⟨b170, sz171, cd172, rfl, rfl, hb173⟩
                      simp only [Option.toList, List.cons_append, List.nil_append]
                      refine qr_pop 175 rfl rfl rfl ?_
                      refine qr_goto 183 rfl rfl ?_
                      refine qr_retV rfl rfl (Nat.zero_le _) (Nat.zero_le _) ?_
                      exact ⟨rfl, _, _, _, _, _, rfl, by omega⟩
                    · skip
                      refine qr_bipush 165 rfl (by decide) rfl ?_
                      refine qr_goto 170 rfl rfl ?_
                      refine qr_iconst 171 rfl rfl ?_
                      refine qr_ccall (as := [.int (qz 33), .int (qz 0)]) (rest := []) hi 174 rfl rfl (Nat.le_of_ble_eq_true rfl) rfl rfl (sp_emit hi ht hl (by omega)) ?_
                      rintro _ _ ⟨b174, sz175, cd176, rfl, rfl, hb177⟩
                      simp only [Option.toList, List.cons_append, List.nil_append]
                      refine qr_pop 175 rfl rfl rfl ?_
                      refine qr_goto 183 rfl rfl ?_
                      refine qr_retV rfl rfl (Nat.zero_le _) (Nat.zero_le _) ?_
                      exact ⟨rfl, _, _, _, _, _, rfl, by omega⟩
            · skip
              refine qr_aload_n 95 rfl rfl rfl ?_
              refine qr_dup 96 rfl rfl rfl ?_
              refine qr_cget4 hi 99 rfl rfl ?_
              refine qr_iconst 100 rfl rfl ?_
              refine qr_iadd 101 rfl rfl ?_
              refine qr_topI (fun v178 hv178 => ?_)
              refine qr_cput4 hi 104 rfl rfl ?_
              refine qr_aload_n 105 rfl rfl rfl ?_
              refine qr_iconst 106 rfl rfl ?_
              refine qr_iload_n 107 rfl rfl rfl ?_
              refine qr_iconst 108 rfl rfl ?_
              refine qr_iadd 109 rfl rfl ?_
              refine qr_topI (fun v179 hv179 => ?_)
              refine qr_ccall (as := [.int (qz 0), .int (qz v179)]) (rest := []) hi 112 rfl rfl (Nat.le_of_ble_eq_true rfl) rfl rfl (ihp (by omega) v179 (by omega) _ _ _ _ _ (by omega)) ?_
              rintro _ _ ⟨rfl, at180, sz181, nm182, sk183, cd184, rfl, hb185⟩
              simp only [Option.toList, List.cons_append, List.nil_append]
              refine qr_aload_n 113 rfl rfl rfl ?_
              refine qr_bipush 115 rfl (by decide) rfl ?_
              refine qr_ccall (as := [.int (qz 41)]) (rest := []) hi 118 rfl rfl (Nat.le_of_ble_eq_true rfl) rfl rfl (sp_pass hi ht hl (by omega) (by omega)) ?_
              rintro _ _ ⟨rfl, at186, sz187, nm188, sk189, cd190, rfl, hb191⟩
              simp only [Option.toList, List.cons_append, List.nil_append]
              refine qr_goto 183 rfl rfl ?_
              refine qr_retV rfl rfl (Nat.zero_le _) (Nat.zero_le _) ?_
              exact ⟨rfl, _, _, _, _, _, rfl, by omega⟩
        · skip
          refine qr_aload_n 42 rfl rfl rfl ?_
          refine qr_dup 43 rfl rfl rfl ?_
          refine qr_cget4 hi 46 rfl rfl ?_
          refine qr_iconst 47 rfl rfl ?_
          refine qr_iadd 48 rfl rfl ?_
          refine qr_topI (fun v192 hv192 => ?_)
          refine qr_cput4 hi 51 rfl rfl ?_
          refine qr_ldcs 53 rfl rfl ?_
          refine qr_iload_n 54 rfl rfl rfl ?_
          refine qr_i2c 55 rfl rfl ?_
          refine qr_topI (fun v193 hv193 => ?_)
          have rv193 : -2147483648 ≤ v193 ∧ v193 ≤ 2147483647 := by rw [hv193]; exact qz_i2c_r _
          refine qr_callN 58 rfl rfl rfl (sp_ix (by omega)) ?_
          rintro _ _ ⟨rfl, b194, rfl, hb195⟩
          simp only [Option.toList, List.drop, List.cons_append, List.nil_append]
          refine qr_istore_n [(3, .int (qz b194)), (2, .int (qz b1)), (0, .ref a), (1, .int (qz op))] 59 rfl (by decide) rfl rfl ?_
          refine qr_aload_n 60 rfl rfl rfl ?_
          refine qr_dup 61 rfl rfl rfl ?_
          refine qr_cget6 hi 64 rfl rfl ?_
          refine qr_iconst 65 rfl rfl ?_
          refine qr_iload_n 66 rfl rfl rfl ?_
          refine qr_ishl 67 rfl rfl ?_
          refine qr_topI (fun v196 hv196 => ?_)
          have rv196 : -2147483648 ≤ v196 ∧ v196 ≤ 2147483647 := by rw [hv196]; exact qz_shl_r _ _
          refine qr_ior 68 rfl rfl ?_
          refine qr_topI (fun v197 hv197 => ?_)
          have rv197 : -2147483648 ≤ v197 ∧ v197 ≤ 2147483647 := by rw [hv197]; exact qz_or_r _ _
          refine qr_cput6 hi 71 rfl rfl ?_
          refine qr_aload_n 72 rfl rfl rfl ?_
          refine qr_bipush 74 rfl (by decide) rfl ?_
          refine qr_iload_n 75 rfl rfl rfl ?_
          refine qr_ccall (as := [.int (qz 97), .int (qz b194)]) (rest := []) hi 78 rfl rfl (Nat.le_of_ble_eq_true rfl) rfl rfl (sp_emit hi ht hl (by omega)) ?_
          rintro _ _ ⟨b198, sz199, cd200, rfl, rfl, hb201⟩
          simp only [Option.toList, List.cons_append, List.nil_append]
          refine qr_pop 79 rfl rfl rfl ?_
          refine qr_goto 183 rfl rfl ?_
          refine qr_retV rfl rfl (Nat.zero_le _) (Nat.zero_le _) ?_
          exact ⟨rfl, _, _, _, _, _, rfl, by omega⟩
    · skip
      refine qr_aload_n 21 rfl rfl rfl ?_
      refine qr_ccall (as := []) (rest := []) hi 24 rfl rfl (Nat.le_of_ble_eq_true rfl) rfl rfl (sp_readNumber hi ht hl (by omega)) ?_
      rintro _ _ ⟨rfl, at202, sz203, nm204, sk205, cd206, rfl, hb207⟩
      simp only [Option.toList, List.cons_append, List.nil_append]
      refine qr_goto 183 rfl rfl ?_
      refine qr_retV rfl rfl (Nat.zero_le _) (Nat.zero_le _) ?_
      exact ⟨rfl, _, _, _, _, _, rfl, by omega⟩
  · skip
    refine qr_retV rfl rfl (Nat.zero_le _) (Nat.zero_le _) ?_
    exact ⟨rfl, _, _, _, _, _, rfl, by omega⟩

set_option maxHeartbeats 2000000 in
set_option maxRecDepth 20000 in
/-- Custom.readPart, a step -/
theorem sp_partS {L : Nat} {xs : Nat → Int} {vb : Bool} {d : Nat} {w : qm_W} {a : Nat} {ln at_ sz nm sk : Int} {t cd : Nat → Int} (hi : qc_in w a) (ht : ∀ j, -2147483648 ≤ t j ∧ t j ≤ 2147483647) (hl : 0 ≤ ln ∧ ln ≤ 120) (h0 : 0 ≤ at_ ∧ at_ ≤ ln ∧ 0 ≤ sz ∧ sz ≤ 122 ∧ -2147483648 ≤ nm ∧ nm ≤ 2147483647 ∧ (sk = 0 ∨ sk = 1)) {lv op : Int} (ho : 0 ≤ op ∧ op ≤ 6) (hv : 0 ≤ lv ∧ lv ≤ 5) (iho : lv = 5 → ∀ (at1 sz1 nm1 sk1 : Int) (cd1 : Nat → Int), (0 ≤ at1 ∧ at1 ≤ ln ∧ 0 ≤ sz1 ∧ sz1 ≤ 122 ∧ -2147483648 ≤ nm1 ∧ nm1 ≤ 2147483647 ∧ (sk1 = 0 ∨ sk1 = 1)) → qm_T (qe L xs vb) (d + 5) 21 [.ref a, .int (qz op)] (qc w a ln at1 sz1 nm1 sk1 t cd1) (qp_O w a ln at1 sk1 t)) (ihp : lv < 5 → ∀ v : Int, v = lv + 1 → ∀ (at1 sz1 nm1 sk1 : Int) (cd1 : Nat → Int), (0 ≤ at1 ∧ at1 ≤ ln ∧ 0 ≤ sz1 ∧ sz1 ≤ 122 ∧ -2147483648 ≤ nm1 ∧ nm1 ≤ 2147483647 ∧ (sk1 = 0 ∨ sk1 = 1)) → qm_T (qe L xs vb) (d + 5) 20 [.ref a, .int (qz v), .int (qz op)] (qc w a ln at1 sz1 nm1 sk1 t cd1) (qp_O w a ln at1 sk1 t))  : qm_T (qe L xs vb) (d + 6) 20 [.ref a, .int (qz lv), .int (qz op)] (qc w a ln at_ sz nm sk t cd) (qp_O w a ln at_ sk t) := by
  refine qr_start (d := d + 5) qv_e20 (Nat.le_of_ble_eq_true rfl) ?_
  show qr_W (qe L xs vb) (d + 5) qx_e20 _ (0, [(0, .ref a), (1, .int (qz lv)), (2, .int (qz op))], [], qc w a ln at_ sz nm sk t cd, 0, 0)
  have loop : ∀ (n : Nat) (i u at1 sz1 nm1 sk1 : Int) (cd1 : Nat → Int), (0 ≤ i ∧ i ≤ 120 ∧ 120 - i < n) → (0 ≤ at1 ∧ at1 ≤ ln ∧ 0 ≤ sz1 ∧ sz1 ≤ 122 ∧ -2147483648 ≤ nm1 ∧ nm1 ≤ 2147483647 ∧ (sk1 = 0 ∨ sk1 = 1)) → ((sk = 1 → sk1 = 1) ∧ (ln ≤ at_ → sk1 = 1)) → qr_W (qe L xs vb) (d + 5) qx_e20 (qp_O w a ln at_ sk t) (21, [(3, .int (qz i)), (4, .int (qz u)), (0, .ref a), (1, .int (qz lv)), (2, .int (qz op))], [], qc w a ln at1 sz1 nm1 sk1 t cd1, 0, 0) := by
    intro n
    induction n with
    | zero => intro i u at1 sz1 nm1 sk1 cd1 h1 h2 h3; exact absurd h1 (by omega)
    | succ n ih =>
      intro i u at1 sz1 nm1 sk1 cd1 h1 h2 h3
      refine qr_iload_n 22 rfl rfl rfl ?_
      refine qr_bipush 24 rfl (by decide) rfl ?_
      refine qr_icmp_ge 91 27 rfl rfl rfl (by omega) (by omega) (fun h1 => ?_) (fun h1 => ?_)
      · skip
        refine qr_retV rfl rfl (Nat.zero_le _) (Nat.zero_le _) ?_
        exact ⟨rfl, _, _, _, _, _, rfl, by omega⟩
      · skip
        refine qr_aload_n 28 rfl rfl rfl ?_
        refine qr_cget7 hi 31 rfl rfl ?_
        refine qr_if_ne 91 34 rfl rfl rfl (by omega) (fun h2 => ?_) (fun h2 => ?_)
        · skip
          refine qr_retV rfl rfl (Nat.zero_le _) (Nat.zero_le _) ?_
          exact ⟨rfl, _, _, _, _, _, rfl, by omega⟩
        · skip
          refine qr_aload_n 35 rfl rfl rfl ?_
          refine qr_ccall (as := []) (rest := []) hi 38 rfl rfl (Nat.le_of_ble_eq_true rfl) rfl rfl (sp_next hi ht hl (by omega)) ?_
          rintro _ _ ⟨rfl, b3, rfl, hb4⟩
          simp only [Option.toList, List.cons_append, List.nil_append]
          refine qr_callN 41 rfl rfl rfl (sp_levelOf (by omega)) ?_
          rintro _ _ ⟨rfl, b5, rfl, hb6⟩
          simp only [Option.toList, List.drop, List.cons_append, List.nil_append]
          refine qr_iload_n 42 rfl rfl rfl ?_
          refine qr_icmp_ne 91 45 rfl rfl rfl (by omega) (by omega) (fun h7 => ?_) (fun h7 => ?_)
          · skip
            refine qr_retV rfl rfl (Nat.zero_le _) (Nat.zero_le _) ?_
            exact ⟨rfl, _, _, _, _, _, rfl, by omega⟩
          · skip
            refine qr_aload_n 46 rfl rfl rfl ?_
            refine qr_ccall (as := []) (rest := []) hi 49 rfl rfl (Nat.le_of_ble_eq_true rfl) rfl rfl (sp_next hi ht hl (by omega)) ?_
            rintro _ _ ⟨rfl, b8, rfl, hb9⟩
            simp only [Option.toList, List.cons_append, List.nil_append]
            refine qr_istore [(4, .int (qz b8)), (3, .int (qz i)), (0, .ref a), (1, .int (qz lv)), (2, .int (qz op))] 51 rfl (by decide) rfl rfl ?_
            refine qr_aload_n 52 rfl rfl rfl ?_
            refine qr_dup 53 rfl rfl rfl ?_
            refine qr_cget4 hi 56 rfl rfl ?_
            refine qr_iconst 57 rfl rfl ?_
            refine qr_iadd 58 rfl rfl ?_
            refine qr_topI (fun v10 hv10 => ?_)
            refine qr_cput4 hi 61 rfl rfl ?_
            refine qr_aload_n 62 rfl rfl rfl ?_
            refine qr_iload_n 63 rfl rfl rfl ?_
            refine qr_iconst 64 rfl rfl ?_
            refine qr_iadd 65 rfl rfl ?_
            refine qr_topI (fun v11 hv11 => ?_)
            refine qr_iload_n 66 rfl rfl rfl ?_
            refine qr_ccall (as := [.int (qz v11), .int (qz op)]) (rest := []) hi 69 rfl rfl (Nat.le_of_ble_eq_true rfl) rfl rfl (ihp (by omega) v11 (by omega) _ _ _ _ _ (by omega)) ?_
            rintro _ _ ⟨rfl, at12, sz13, nm14, sk15, cd16, rfl, hb17⟩
            simp only [Option.toList, List.cons_append, List.nil_append]
            refine qr_aload_n 70 rfl rfl rfl ?_
            refine qr_iload 72 rfl rfl rfl ?_
            refine qr_iconst 73 rfl rfl ?_
            refine qr_ccall (as := [.int (qz b8), .int (qz 0)]) (rest := []) hi 76 rfl rfl (Nat.le_of_ble_eq_true rfl) rfl rfl (sp_emit hi ht hl (by omega)) ?_
            rintro _ _ ⟨b18, sz19, cd20, rfl, rfl, hb21⟩
            simp only [Option.toList, List.cons_append, List.nil_append]
            refine qr_pop 77 rfl rfl rfl ?_
            refine qr_iload_n 78 rfl rfl rfl ?_
            refine qr_iconst 79 rfl rfl ?_
            refine qr_icmp_ne 85 82 rfl rfl rfl (by omega) (by omega) (fun h22 => ?_) (fun h22 => ?_)
            · skip
              refine qr_iincG (fun v23 => [(3, .int (qz v23)), (4, .int (qz b8)), (0, .ref a), (1, .int (qz lv)), (2, .int (qz op))]) 88 rfl rfl (by decide) (fun _ => rfl) rfl (fun v23 hv23 => ?_)
              refine qr_goto 21 rfl rfl ?_
              exact ih v23 b8 at12 sz19 nm14 sk15 cd20 (by omega) (by omega) (by omega)
            · skip
              refine qr_goto 91 rfl rfl ?_
              refine qr_retV rfl rfl (Nat.zero_le _) (Nat.zero_le _) ?_
              exact ⟨rfl, _, _, _, _, _, rfl, by omega⟩
  refine qr_iload_n 1 rfl rfl rfl ?_
  refine qr_iconst 2 rfl rfl ?_
  refine qr_icmp_lt 11 5 rfl rfl rfl (by omega) (by omega) (fun h1 => ?_) (fun h1 => ?_)
  · skip
    refine qr_aload_n 12 rfl rfl rfl ?_
    refine qr_iload_n 13 rfl rfl rfl ?_
    refine qr_iconst 14 rfl rfl ?_
    refine qr_iadd 15 rfl rfl ?_
    refine qr_topI (fun v2 hv2 => ?_)
    refine qr_iload_n 16 rfl rfl rfl ?_
    refine qr_ccall (as := [.int (qz v2), .int (qz op)]) (rest := []) hi 19 rfl rfl (Nat.le_of_ble_eq_true rfl) rfl rfl (ihp (by omega) v2 (by omega) _ _ _ _ _ (by omega)) ?_
    rintro _ _ ⟨rfl, at3, sz4, nm5, sk6, cd7, rfl, hb8⟩
    simp only [Option.toList, List.cons_append, List.nil_append]
    refine qr_iconst 20 rfl rfl ?_
    refine qr_istore_n [(3, .int (qz 0)), (0, .ref a), (1, .int (qz lv)), (2, .int (qz op))] 21 rfl (by decide) rfl rfl ?_
    refine qr_iload_n 22 rfl rfl rfl ?_
    refine qr_bipush 24 rfl (by decide) rfl ?_
    refine qr_icmp_ge 91 27 rfl rfl rfl (by omega) (by omega) (fun h9 => ?_) (fun h9 => ?_)
    · skip
      refine qr_retV rfl rfl (Nat.zero_le _) (Nat.zero_le _) ?_
      exact ⟨rfl, _, _, _, _, _, rfl, by omega⟩
    · skip
      refine qr_aload_n 28 rfl rfl rfl ?_
      refine qr_cget7 hi 31 rfl rfl ?_
      refine qr_if_ne 91 34 rfl rfl rfl (by omega) (fun h10 => ?_) (fun h10 => ?_)
      · skip
        refine qr_retV rfl rfl (Nat.zero_le _) (Nat.zero_le _) ?_
        exact ⟨rfl, _, _, _, _, _, rfl, by omega⟩
      · skip
        refine qr_aload_n 35 rfl rfl rfl ?_
        refine qr_ccall (as := []) (rest := []) hi 38 rfl rfl (Nat.le_of_ble_eq_true rfl) rfl rfl (sp_next hi ht hl (by omega)) ?_
        rintro _ _ ⟨rfl, b11, rfl, hb12⟩
        simp only [Option.toList, List.cons_append, List.nil_append]
        refine qr_callN 41 rfl rfl rfl (sp_levelOf (by omega)) ?_
        rintro _ _ ⟨rfl, b13, rfl, hb14⟩
        simp only [Option.toList, List.drop, List.cons_append, List.nil_append]
        refine qr_iload_n 42 rfl rfl rfl ?_
        refine qr_icmp_ne 91 45 rfl rfl rfl (by omega) (by omega) (fun h15 => ?_) (fun h15 => ?_)
        · skip
          refine qr_retV rfl rfl (Nat.zero_le _) (Nat.zero_le _) ?_
          exact ⟨rfl, _, _, _, _, _, rfl, by omega⟩
        · skip
          refine qr_aload_n 46 rfl rfl rfl ?_
          refine qr_ccall (as := []) (rest := []) hi 49 rfl rfl (Nat.le_of_ble_eq_true rfl) rfl rfl (sp_next hi ht hl (by omega)) ?_
          rintro _ _ ⟨rfl, b16, rfl, hb17⟩
          simp only [Option.toList, List.cons_append, List.nil_append]
          refine qr_istore [(4, .int (qz b16)), (3, .int (qz 0)), (0, .ref a), (1, .int (qz lv)), (2, .int (qz op))] 51 rfl (by decide) rfl rfl ?_
          refine qr_aload_n 52 rfl rfl rfl ?_
          refine qr_dup 53 rfl rfl rfl ?_
          refine qr_cget4 hi 56 rfl rfl ?_
          refine qr_iconst 57 rfl rfl ?_
          refine qr_iadd 58 rfl rfl ?_
          refine qr_topI (fun v18 hv18 => ?_)
          refine qr_cput4 hi 61 rfl rfl ?_
          refine qr_aload_n 62 rfl rfl rfl ?_
          refine qr_iload_n 63 rfl rfl rfl ?_
          refine qr_iconst 64 rfl rfl ?_
          refine qr_iadd 65 rfl rfl ?_
          refine qr_topI (fun v19 hv19 => ?_)
          refine qr_iload_n 66 rfl rfl rfl ?_
          refine qr_ccall (as := [.int (qz v19), .int (qz op)]) (rest := []) hi 69 rfl rfl (Nat.le_of_ble_eq_true rfl) rfl rfl (ihp (by omega) v19 (by omega) _ _ _ _ _ (by omega)) ?_
          rintro _ _ ⟨rfl, at20, sz21, nm22, sk23, cd24, rfl, hb25⟩
          simp only [Option.toList, List.cons_append, List.nil_append]
          refine qr_aload_n 70 rfl rfl rfl ?_
          refine qr_iload 72 rfl rfl rfl ?_
          refine qr_iconst 73 rfl rfl ?_
          refine qr_ccall (as := [.int (qz b16), .int (qz 0)]) (rest := []) hi 76 rfl rfl (Nat.le_of_ble_eq_true rfl) rfl rfl (sp_emit hi ht hl (by omega)) ?_
          rintro _ _ ⟨b26, sz27, cd28, rfl, rfl, hb29⟩
          simp only [Option.toList, List.cons_append, List.nil_append]
          refine qr_pop 77 rfl rfl rfl ?_
          refine qr_iload_n 78 rfl rfl rfl ?_
          refine qr_iconst 79 rfl rfl ?_
          refine qr_icmp_ne 85 82 rfl rfl rfl (by omega) (by omega) (fun h30 => ?_) (fun h30 => ?_)
          · skip
            refine qr_iincG (fun v31 => [(3, .int (qz v31)), (4, .int (qz b16)), (0, .ref a), (1, .int (qz lv)), (2, .int (qz op))]) 88 rfl rfl (by decide) (fun _ => rfl) rfl (fun v31 hv31 => ?_)
            refine qr_goto 21 rfl rfl ?_
            exact loop 121 v31 b16 at20 sz27 nm22 sk23 cd28 (by omega) (by omega) (by omega)
          · skip
            refine qr_goto 91 rfl rfl ?_
            refine qr_retV rfl rfl (Nat.zero_le _) (Nat.zero_le _) ?_
            exact ⟨rfl, _, _, _, _, _, rfl, by omega⟩
  · skip
    refine qr_aload_n 6 rfl rfl rfl ?_
    refine qr_iload_n 7 rfl rfl rfl ?_
    refine qr_ccall (as := [.int (qz op)]) (rest := []) hi 10 rfl rfl (Nat.le_of_ble_eq_true rfl) rfl rfl (iho (by omega) _ _ _ _ _ (by omega)) ?_
    rintro _ _ ⟨rfl, at32, sz33, nm34, sk35, cd36, rfl, hb37⟩
    simp only [Option.toList, List.cons_append, List.nil_append]
    refine qr_retV rfl rfl (Nat.zero_le _) (Nat.zero_le _) ?_
    exact ⟨rfl, _, _, _, _, _, rfl, by omega⟩

/-- operands and parts, by their measure -/
theorem sp_both {L : Nat} {xs : Nat → Int} {vb : Bool} {d : Nat} (m : Nat) :
    (∀ (w : qm_W) (a : Nat) (ln at_ sz nm sk : Int) (t cd : Nat → Int) (op : Int), qc_in w a → (∀ j, -2147483648 ≤ t j ∧ t j ≤ 2147483647) → (0 ≤ ln ∧ ln ≤ 120) → (0 ≤ at_ ∧ at_ ≤ ln ∧ 0 ≤ sz ∧ sz ≤ 122 ∧ -2147483648 ≤ nm ∧ nm ≤ 2147483647 ∧ (sk = 0 ∨ sk = 1)) → (0 ≤ op ∧ op ≤ 6 ∧ (6 - op) * 7 < m) → qm_T (qe L xs vb) (d + m + 5) 21 [.ref a, .int (qz op)] (qc w a ln at_ sz nm sk t cd) (qp_O w a ln at_ sk t)) ∧
    (∀ (w : qm_W) (a : Nat) (ln at_ sz nm sk : Int) (t cd : Nat → Int) (lv op : Int), qc_in w a → (∀ j, -2147483648 ≤ t j ∧ t j ≤ 2147483647) → (0 ≤ ln ∧ ln ≤ 120) → (0 ≤ at_ ∧ at_ ≤ ln ∧ 0 ≤ sz ∧ sz ≤ 122 ∧ -2147483648 ≤ nm ∧ nm ≤ 2147483647 ∧ (sk = 0 ∨ sk = 1)) → (0 ≤ op ∧ op ≤ 6 ∧ 0 ≤ lv ∧ lv ≤ 5 ∧ (6 - op) * 7 + 6 - lv < m) → qm_T (qe L xs vb) (d + m + 5) 20 [.ref a, .int (qz lv), .int (qz op)] (qc w a ln at_ sz nm sk t cd) (qp_O w a ln at_ sk t)) := by
  induction m with
  | zero => exact ⟨fun w a ln at_ sz nm sk t cd op _ _ _ _ h => absurd h (by omega), fun w a ln at_ sz nm sk t cd lv op _ _ _ _ h => absurd h (by omega)⟩
  | succ m ih =>
    obtain ⟨ihO, ihP⟩ := ih
    have e : d + (m + 1) + 5 = d + m + 6 := by omega
    rw [e]
    constructor
    · intro w a ln at_ sz nm sk t cd op hi ht hl h0 hm
      refine sp_opS (d := d + m) hi ht hl h0 ⟨hm.1, hm.2.1⟩ ?_ ?_
      · intro h v hv at1 sz1 nm1 sk1 cd1 hb
        exact ihO w a ln at1 sz1 nm1 sk1 t cd1 v hi ht hl hb (by omega)
      · intro h v hv at1 sz1 nm1 sk1 cd1 hb
        exact ihP w a ln at1 sz1 nm1 sk1 t cd1 0 v hi ht hl hb (by omega)
    · intro w a ln at_ sz nm sk t cd lv op hi ht hl h0 hm
      refine sp_partS (d := d + m) hi ht hl h0 ⟨by omega, by omega⟩ ⟨by omega, by omega⟩ ?_ ?_
      · intro h at1 sz1 nm1 sk1 cd1 hb
        exact ihO w a ln at1 sz1 nm1 sk1 t cd1 op hi ht hl hb (by omega)
      · intro h v hv at1 sz1 nm1 sk1 cd1 hb
        exact ihP w a ln at1 sz1 nm1 sk1 t cd1 v op hi ht hl hb (by omega)

theorem sp_part0 {L : Nat} {xs : Nat → Int} {vb : Bool} {d : Nat} {w : qm_W} {a : Nat} {ln at_ sz nm sk : Int} {t cd : Nat → Int} (hi : qc_in w a) (ht : ∀ j, -2147483648 ≤ t j ∧ t j ≤ 2147483647) (hl : 0 ≤ ln ∧ ln ≤ 120) (h0 : 0 ≤ at_ ∧ at_ ≤ ln ∧ 0 ≤ sz ∧ sz ≤ 122 ∧ -2147483648 ≤ nm ∧ nm ≤ 2147483647 ∧ (sk = 0 ∨ sk = 1)) : qm_T (qe L xs vb) (d + 54) 20 [.ref a, .int (qz 0), .int (qz 0)] (qc w a ln at_ sz nm sk t cd) (qp_O w a ln at_ sk t) :=
  (sp_both (d := d) 49).2 w a ln at_ sz nm sk t cd 0 0 hi ht hl h0 (by omega)

set_option maxHeartbeats 2000000 in
set_option maxRecDepth 20000 in
/-- Custom.readLine -/
theorem sp_line {L : Nat} {xs : Nat → Int} {vb : Bool} {d : Nat} {w : qm_W} {a : Nat} {ln at_ sz nm sk : Int} {t cd : Nat → Int} (hi : qc_in w a) (ht : ∀ j, -2147483648 ≤ t j ∧ t j ≤ 2147483647) (hl : 0 ≤ ln ∧ ln ≤ 120) (h0 : 0 ≤ at_ ∧ at_ ≤ ln ∧ 0 ≤ sz ∧ sz ≤ 122 ∧ -2147483648 ≤ nm ∧ nm ≤ 2147483647 ∧ (sk = 0 ∨ sk = 1))  : qm_T (qe L xs vb) (d + 55) 19 [.ref a] (qc w a ln at_ sz nm sk t cd) (qp_O w a ln at_ sk t) := by
  refine qr_start (d := d + 54) qv_e19 (Nat.le_of_ble_eq_true rfl) ?_
  show qr_W (qe L xs vb) (d + 54) qx_e19 _ (0, [(0, .ref a)], [], qc w a ln at_ sz nm sk t cd, 0, 0)
  refine qr_aload_n 1 rfl rfl rfl ?_
  refine qr_iconst 2 rfl rfl ?_
  refine qr_iconst 3 rfl rfl ?_
  refine qr_ccall (as := [.int (qz 0), .int (qz 0)]) (rest := []) hi 6 rfl rfl (Nat.le_of_ble_eq_true rfl) rfl rfl (sp_part0 hi ht hl (by omega)) ?_
  rintro _ _ ⟨rfl, at1, sz2, nm3, sk4, cd5, rfl, hb6⟩
  simp only [Option.toList, List.cons_append, List.nil_append]
  refine qr_aload_n 7 rfl rfl rfl ?_
  refine qr_cget7 hi 10 rfl rfl ?_
  refine qr_if_ne 22 13 rfl rfl rfl (by omega) (fun h7 => ?_) (fun h7 => ?_)
  · skip
    refine qr_aload_n 23 rfl rfl rfl ?_
    refine qr_bipush 25 rfl (by decide) rfl ?_
    refine qr_iconst 26 rfl rfl ?_
    refine qr_ccall (as := [.int (qz 59), .int (qz 0)]) (rest := []) hi 29 rfl rfl (Nat.le_of_ble_eq_true rfl) rfl rfl (sp_emit hi ht hl (by omega)) ?_
    rintro _ _ ⟨b8, sz9, cd10, rfl, rfl, hb11⟩
    simp only [Option.toList, List.cons_append, List.nil_append]
    refine qr_pop 30 rfl rfl rfl ?_
    refine qr_retV rfl rfl (Nat.zero_le _) (Nat.zero_le _) ?_
    exact ⟨rfl, _, _, _, _, _, rfl, by omega⟩
  · skip
    refine qr_aload_n 14 rfl rfl rfl ?_
    refine qr_ccall (as := []) (rest := []) hi 17 rfl rfl (Nat.le_of_ble_eq_true rfl) rfl rfl (sp_next hi ht hl (by omega)) ?_
    rintro _ _ ⟨rfl, b12, rfl, hb13⟩
    simp only [Option.toList, List.cons_append, List.nil_append]
    refine qr_bipush 19 rfl (by decide) rfl ?_
    refine qr_icmp_eq 31 22 rfl rfl rfl (by omega) (by omega) (fun h14 => ?_) (fun h14 => ?_)
    · skip
      refine qr_aload_n 32 rfl rfl rfl ?_
      refine qr_dup 33 rfl rfl rfl ?_
      refine qr_cget4 hi 36 rfl rfl ?_
      refine qr_iconst 37 rfl rfl ?_
      refine qr_iadd 38 rfl rfl ?_
      refine qr_topI (fun v15 hv15 => ?_)
      refine qr_cput4 hi 41 rfl rfl ?_
      refine qr_aload_n 42 rfl rfl rfl ?_
      refine qr_bipush 44 rfl (by decide) rfl ?_
      refine qr_iconst 45 rfl rfl ?_
      refine qr_ccall (as := [.int (qz 63), .int (qz 0)]) (rest := []) hi 48 rfl rfl (Nat.le_of_ble_eq_true rfl) rfl rfl (sp_emit hi ht hl (by omega)) ?_
      rintro _ _ ⟨b16, sz17, cd18, rfl, rfl, hb19⟩
      simp only [Option.toList, List.cons_append, List.nil_append]
      refine qr_istore_n [(1, .int (qz b16)), (0, .ref a)] 49 rfl (by decide) rfl rfl ?_
      refine qr_aload_n 50 rfl rfl rfl ?_
      refine qr_iconst 51 rfl rfl ?_
      refine qr_iconst 52 rfl rfl ?_
      refine qr_ccall (as := [.int (qz 0), .int (qz 0)]) (rest := []) hi 55 rfl rfl (Nat.le_of_ble_eq_true rfl) rfl rfl (sp_part0 hi ht hl (by omega)) ?_
      rintro _ _ ⟨rfl, at20, sz21, nm22, sk23, cd24, rfl, hb25⟩
      simp only [Option.toList, List.cons_append, List.nil_append]
      refine qr_aload_n 56 rfl rfl rfl ?_
      refine qr_bipush 58 rfl (by decide) rfl ?_
      refine qr_iconst 59 rfl rfl ?_
      refine qr_ccall (as := [.int (qz 59), .int (qz 0)]) (rest := []) hi 62 rfl rfl (Nat.le_of_ble_eq_true rfl) rfl rfl (sp_emit hi ht hl (by omega)) ?_
      rintro _ _ ⟨b26, sz27, cd28, rfl, rfl, hb29⟩
      simp only [Option.toList, List.cons_append, List.nil_append]
      refine qr_pop 63 rfl rfl rfl ?_
      refine qr_aload_n 64 rfl rfl rfl ?_
      refine qr_cget1 hi 67 rfl rfl ?_
      refine qr_iload_n 68 rfl rfl rfl ?_
      refine qr_ldc 4128768 70 rfl (by decide) rfl ?_
      refine qr_aload_n 71 rfl rfl rfl ?_
      refine qr_cget5 hi 74 rfl rfl ?_
      refine qr_ior 75 rfl rfl ?_
      refine qr_topI (fun v30 hv30 => ?_)
      have rv30 : -2147483648 ≤ v30 ∧ v30 ≤ 2147483647 := by rw [hv30]; exact qz_or_r _ _
      refine qr_ccstore hi 76 rfl (by omega) rfl ?_
      refine qr_retV rfl rfl (Nat.zero_le _) (Nat.zero_le _) ?_
      exact ⟨rfl, _, _, _, _, _, rfl, by omega⟩
    · skip
      refine qr_aload_n 23 rfl rfl rfl ?_
      refine qr_bipush 25 rfl (by decide) rfl ?_
      refine qr_iconst 26 rfl rfl ?_
      refine qr_ccall (as := [.int (qz 59), .int (qz 0)]) (rest := []) hi 29 rfl rfl (Nat.le_of_ble_eq_true rfl) rfl rfl (sp_emit hi ht hl (by omega)) ?_
      rintro _ _ ⟨b31, sz32, cd33, rfl, rfl, hb34⟩
      simp only [Option.toList, List.cons_append, List.nil_append]
      refine qr_pop 30 rfl rfl rfl ?_
      refine qr_retV rfl rfl (Nat.zero_le _) (Nat.zero_le _) ?_
      exact ⟨rfl, _, _, _, _, _, rfl, by omega⟩

set_option maxHeartbeats 2000000 in
set_option maxRecDepth 20000 in
/-- Custom.readLines -/
theorem sp_lines {L : Nat} {xs : Nat → Int} {vb : Bool} {d : Nat} {w : qm_W} {a : Nat} {ln at_ sz nm sk : Int} {t cd : Nat → Int} (hi : qc_in w a) (ht : ∀ j, -2147483648 ≤ t j ∧ t j ≤ 2147483647) (hl : 0 ≤ ln ∧ ln ≤ 120) (h0 : 0 ≤ at_ ∧ at_ ≤ ln ∧ 0 ≤ sz ∧ sz ≤ 122 ∧ -2147483648 ≤ nm ∧ nm ≤ 2147483647 ∧ (sk = 0 ∨ sk = 1))  : qm_T (qe L xs vb) (d + 56) 18 [.ref a] (qc w a ln at_ sz nm sk t cd) (fun r w' => ∃ (v at2 sz2 nm2 sk2 : Int) (cd2 : Nat → Int), r = some (.int (qz v)) ∧ w' = qc w a ln at2 sz2 nm2 sk2 t cd2 ∧ (0 ≤ at2 ∧ at2 ≤ ln ∧ 0 ≤ sz2 ∧ sz2 ≤ 122 ∧ -2147483648 ≤ nm2 ∧ nm2 ≤ 2147483647 ∧ (sk2 = 0 ∨ sk2 = 1) ∧ -1 ≤ v ∧ v ≤ 120 ∧ (sk2 = 0 → v = -1) ∧ (ln = 0 → sk2 = 1 ∧ v = 0))) := by
  refine qr_start (d := d + 55) qv_e18 (Nat.le_of_ble_eq_true rfl) ?_
  show qr_W (qe L xs vb) (d + 55) qx_e18 _ (0, [(0, .ref a)], [], qc w a ln at_ sz nm sk t cd, 0, 0)
  have loop : ∀ (n : Nat) (i at1 sz1 nm1 sk1 : Int) (cd1 : Nat → Int), (0 ≤ i ∧ i ≤ 121 ∧ 121 - i < n) → (0 ≤ at1 ∧ at1 ≤ ln ∧ 0 ≤ sz1 ∧ sz1 ≤ 122 ∧ -2147483648 ≤ nm1 ∧ nm1 ≤ 2147483647 ∧ (sk1 = 0 ∨ sk1 = 1)) → (ln = 0 → (i = 0 ∧ at1 = 0) ∨ sk1 = 1) → qr_W (qe L xs vb) (d + 55) qx_e18 (fun r w' => ∃ (v at2 sz2 nm2 sk2 : Int) (cd2 : Nat → Int), r = some (.int (qz v)) ∧ w' = qc w a ln at2 sz2 nm2 sk2 t cd2 ∧ (0 ≤ at2 ∧ at2 ≤ ln ∧ 0 ≤ sz2 ∧ sz2 ≤ 122 ∧ -2147483648 ≤ nm2 ∧ nm2 ≤ 2147483647 ∧ (sk2 = 0 ∨ sk2 = 1) ∧ -1 ≤ v ∧ v ≤ 120 ∧ (sk2 = 0 → v = -1) ∧ (ln = 0 → sk2 = 1 ∧ v = 0))) (22, [(1, .int (qz i)), (0, .ref a)], [], qc w a ln at1 sz1 nm1 sk1 t cd1, 0, 0) := by
    intro n
    induction n with
    | zero => intro i at1 sz1 nm1 sk1 cd1 h1 h2 h3; exact absurd h1 (by omega)
    | succ n ih =>
      intro i at1 sz1 nm1 sk1 cd1 h1 h2 h3
      refine qr_iload_n 23 rfl rfl rfl ?_
      refine qr_bipush 25 rfl (by decide) rfl ?_
      refine qr_icmp_gt 72 28 rfl rfl rfl (by omega) (by omega) (fun h1 => ?_) (fun h1 => ?_)
      · skip
        refine qr_aload_n 73 rfl rfl rfl ?_
        refine qr_cget7 hi 76 rfl rfl ?_
        refine qr_if_eq 86 79 rfl rfl rfl (by omega) (fun h2 => ?_) (fun h2 => ?_)
        · skip
          refine qr_iconst 87 rfl rfl ?_
          refine qr_retI rfl rfl (Nat.zero_le _) (Nat.zero_le _) ?_
          exact ⟨_, _, _, _, _, _, rfl, rfl, by omega⟩
        · skip
          refine qr_aload_n 80 rfl rfl rfl ?_
          refine qr_cget4 hi 83 rfl rfl ?_
          refine qr_goto 87 rfl rfl ?_
          refine qr_retI rfl rfl (Nat.zero_le _) (Nat.zero_le _) ?_
          exact ⟨_, _, _, _, _, _, rfl, rfl, by omega⟩
      · skip
        refine qr_aload_n 29 rfl rfl rfl ?_
        refine qr_cget7 hi 32 rfl rfl ?_
        refine qr_if_ne 72 35 rfl rfl rfl (by omega) (fun h3 => ?_) (fun h3 => ?_)
        · skip
          refine qr_aload_n 73 rfl rfl rfl ?_
          refine qr_cget7 hi 76 rfl rfl ?_
          refine qr_if_eq 86 79 rfl rfl rfl (by omega) (fun h4 => ?_) (fun h4 => ?_)
          · skip
            refine qr_iconst 87 rfl rfl ?_
            refine qr_retI rfl rfl (Nat.zero_le _) (Nat.zero_le _) ?_
            exact ⟨_, _, _, _, _, _, rfl, rfl, by omega⟩
          · skip
            refine qr_aload_n 80 rfl rfl rfl ?_
            refine qr_cget4 hi 83 rfl rfl ?_
            refine qr_goto 87 rfl rfl ?_
            refine qr_retI rfl rfl (Nat.zero_le _) (Nat.zero_le _) ?_
            exact ⟨_, _, _, _, _, _, rfl, rfl, by omega⟩
        · skip
          refine qr_aload_n 36 rfl rfl rfl ?_
          refine qr_ccall (as := []) (rest := []) hi 39 rfl rfl (Nat.le_of_ble_eq_true rfl) rfl rfl (sp_line hi ht hl (by omega)) ?_
          rintro _ _ ⟨rfl, at5, sz6, nm7, sk8, cd9, rfl, hb10⟩
          simp only [Option.toList, List.cons_append, List.nil_append]
          refine qr_aload_n 40 rfl rfl rfl ?_
          refine qr_cget7 hi 43 rfl rfl ?_
          refine qr_if_ne 72 46 rfl rfl rfl (by omega) (fun h11 => ?_) (fun h11 => ?_)
          · skip
            refine qr_aload_n 73 rfl rfl rfl ?_
            refine qr_cget7 hi 76 rfl rfl ?_
            refine qr_if_eq 86 79 rfl rfl rfl (by omega) (fun h12 => ?_) (fun h12 => ?_)
            · skip
              refine qr_iconst 87 rfl rfl ?_
              refine qr_retI rfl rfl (Nat.zero_le _) (Nat.zero_le _) ?_
              exact ⟨_, _, _, _, _, _, rfl, rfl, by omega⟩
            · skip
              refine qr_aload_n 80 rfl rfl rfl ?_
              refine qr_cget4 hi 83 rfl rfl ?_
              refine qr_goto 87 rfl rfl ?_
              refine qr_retI rfl rfl (Nat.zero_le _) (Nat.zero_le _) ?_
              exact ⟨_, _, _, _, _, _, rfl, rfl, by omega⟩
          · skip
            refine qr_aload_n 47 rfl rfl rfl ?_
            refine qr_cget4 hi 50 rfl rfl ?_
            refine qr_aload_n 51 rfl rfl rfl ?_
            refine qr_cget3 hi 54 rfl rfl ?_
            refine qr_icmp_lt 60 57 rfl rfl rfl (by omega) (by omega) (fun h13 => ?_) (fun h13 => ?_)
            · skip
              refine qr_aload_n 61 rfl rfl rfl ?_
              refine qr_bipush 63 rfl (by decide) rfl ?_
              refine qr_ccall (as := [.int (qz 59)]) (rest := []) hi 66 rfl rfl (Nat.le_of_ble_eq_true rfl) rfl rfl (sp_pass hi ht hl (by omega) (by omega)) ?_
              rintro _ _ ⟨rfl, at14, sz15, nm16, sk17, cd18, rfl, hb19⟩
              simp only [Option.toList, List.cons_append, List.nil_append]
              refine qr_iincG (fun v20 => [(1, .int (qz v20)), (0, .ref a)]) 69 rfl rfl (by decide) (fun _ => rfl) rfl (fun v20 hv20 => ?_)
              refine qr_goto 22 rfl rfl ?_
              exact ih v20 at14 sz15 nm16 sk17 cd18 (by omega) (by omega) (by omega)
            · skip
              refine qr_goto 72 rfl rfl ?_
              refine qr_aload_n 73 rfl rfl rfl ?_
              refine qr_cget7 hi 76 rfl rfl ?_
              refine qr_if_eq 86 79 rfl rfl rfl (by omega) (fun h21 => ?_) (fun h21 => ?_)
              · skip
                refine qr_iconst 87 rfl rfl ?_
                refine qr_retI rfl rfl (Nat.zero_le _) (Nat.zero_le _) ?_
                exact ⟨_, _, _, _, _, _, rfl, rfl, by omega⟩
              · skip
                refine qr_aload_n 80 rfl rfl rfl ?_
                refine qr_cget4 hi 83 rfl rfl ?_
                refine qr_goto 87 rfl rfl ?_
                refine qr_retI rfl rfl (Nat.zero_le _) (Nat.zero_le _) ?_
                exact ⟨_, _, _, _, _, _, rfl, rfl, by omega⟩
  refine qr_aload_n 1 rfl rfl rfl ?_
  refine qr_iconst 2 rfl rfl ?_
  refine qr_cput4 hi 5 rfl rfl ?_
  refine qr_aload_n 6 rfl rfl rfl ?_
  refine qr_iconst 7 rfl rfl ?_
  refine qr_cput5 hi 10 rfl rfl ?_
  refine qr_aload_n 11 rfl rfl rfl ?_
  refine qr_iconst 12 rfl rfl ?_
  refine qr_cput6 hi 15 rfl rfl ?_
  refine qr_aload_n 16 rfl rfl rfl ?_
  refine qr_iconst 17 rfl rfl ?_
  refine qr_cput7 hi (by omega) 20 rfl rfl ?_
  refine qr_iconst 21 rfl rfl ?_
  refine qr_istore_n [(1, .int (qz 0)), (0, .ref a)] 22 rfl (by decide) rfl rfl ?_
  exact loop 123 0 0 0 0 0 cd (by omega) (by omega) (by omega)
end
section
section QI
variable {X : qm_X} {d : Nat} {x : qs_Ent} {Q : Option Value → qm_W → Prop} {pc : Nat} {ls : qm_L} {st : List Value} {u w : qm_W} {c n r1 r2 r3 : Nat} {rv : Value} {a : Nat}
theorem qi_g (u : qm_W) {a : Nat} (ha : a = 16 + u.length) (e : qm_E) (r : qm_W) : (u ++ e :: r)[a - 16]? = some e := by
  subst ha
  rw [Nat.add_sub_cancel_left, List.getElem?_append_right (Nat.le_refl _), Nat.sub_self]
  rfl
theorem qi_s (u : qm_W) {a : Nat} (ha : a = 16 + u.length) (e e' : qm_E) (r : qm_W) : (u ++ e :: r).set (a - 16) e' = u ++ e' :: r := by
  subst ha
  rw [Nat.add_sub_cancel_left, List.set_append_right _ _ (Nat.le_refl _), Nat.sub_self]
  rfl
theorem qi_s1 (u : qm_W) {a : Nat} (ha : a = 16 + u.length) (e e1 e' : qm_E) (r : qm_W) : (u ++ e :: e1 :: r).set (a - 16 + 1) e' = u ++ e :: e' :: r := by
  subst ha
  rw [Nat.add_sub_cancel_left, List.set_append_right _ _ (Nat.le_add_right _ _), Nat.add_sub_cancel_left]
  rfl
theorem qi_s2 (u : qm_W) {a : Nat} (ha : a = 16 + u.length) (e e1 e2 e' : qm_E) (r : qm_W) : (u ++ e :: e1 :: e2 :: r).set (a - 16 + 2) e' = u ++ e :: e1 :: e' :: r := by
  subst ha
  rw [Nat.add_sub_cancel_left, List.set_append_right _ _ (Nat.le_add_right _ _), Nat.add_sub_cancel_left]
  rfl
theorem qi_qc (u : qm_W) {a : Nat} (ha : a = 16 + u.length) (o e1 e2 e3 : qm_E) (ln at_ sz nm sk : Int) (t cd : Nat → Int) : qc (u ++ [o, e1, e2, e3]) a ln at_ sz nm sk t cd = u ++ [qc_o a ln at_ sz nm sk, .inl (.int, 120, .inl (qzf t)), .inl (.int, 122, .inl (qzf cd)), e3] := by
  unfold qc
  rw [qi_s u ha, qi_s1 u ha, qi_s2 u ha]
theorem qi_in (u : qm_W) {a : Nat} (ha : a = 16 + u.length) (o e1 e2 e3 : qm_E) : qc_in (u ++ [o, e1, e2, e3]) a := by
  unfold qc_in
  rw [List.length_append]
  show 16 ≤ a ∧ a - 16 + 3 < u.length + 4
  omega
theorem qr_iput {z : Nat} {fs : List Value} {r : qm_W} {v : Value} (ha : a = 16 + u.length) (fs' : List Value) (p : Nat) (hq : qm_fetch x.2.2.2.2.2.2.2 pc = some (pc, .putfield z, 3, r1, r2, 0, rv)) (hl : r2 < fs.length) (hN : r2 < qr_N r1) (hfin : (qx_T r1 r2).2.2.2 = false ∨ ((qm_M1 x).2.2.1 = true ∧ (qm_M1 x).2.2.2.1 = r1)) (hfit : qm_fitb (qx_ty r1 r2) v = true) (hs : fs.set r2 v = fs') (hp : pc + 3 = p) (k : qr_W X d x Q (p, ls, st, u ++ .inr (r1, fs') :: r, c, n)) : qr_W X d x Q (pc, ls, v :: .ref a :: st, u ++ .inr (r1, fs) :: r, c, n) := by
  subst hs
  refine qr_put p hq (by omega) (qi_g u ha _ _) hl hN hfin hfit hp ?_
  rw [qi_s u ha]
  exact k
theorem qr_inewI {y : Int} {r : qm_W} (ha : a = 16 + u.length) (r' : qm_W) (p c' n' b : Nat) (hq : qm_fetch x.2.2.2.2.2.2.2 pc = some (pc, .newarray .int, 2, r1, r2, r3, rv)) (hy : 0 ≤ y ∧ y ≤ 1000000) (hc : c + 1 ≤ (qm_M1 x).2.2.2.2.1) (hn : n + y.toNat ≤ (qm_M1 x).2.2.2.2.2) (hr : r ++ [.inl (.int, y.toNat, .inl (qzf (fun _ => 0)))] = r') (hb : r.length = b) (hc2 : c + 1 = c') (hn2 : n + y.toNat = n') (hp : pc + 2 = p) (k : qr_W X d x Q (p, ls, .ref (a + b) :: st, u ++ r', c', n')) : qr_W X d x Q (pc, ls, .int (qz y) :: st, u ++ r, c, n) := by
  subst hr
  subst hb
  refine qr_newI (u ++ (r ++ [.inl (.int, y.toNat, .inl (qzf (fun _ => 0)))])) p c' n' hq hy hc hn (List.append_assoc _ _ _) hc2 hn2 (a + r.length) (by rw [List.length_append]; omega) hp k
theorem qr_callC {q : qm_I} {k : Nat} {as rest : List Value} {Q' : Option Value → qm_W → Prop} (p : Nat) (hq : qm_fetch x.2.2.2.2.2.2.2 pc = some q) (hcall : qm_call X q st w = some (k, as, p, rest)) (hb : qm_bud k = (0, 0)) (hc : c ≤ (qm_M1 x).2.2.2.2.1) (hn : n ≤ (qm_M1 x).2.2.2.2.2) (hT : qm_T X d k as w Q') (kk : ∀ r w', Q' r w' → qr_W X d x Q (p, ls, r.toList ++ rest, w', c, n)) : qr_W X d x Q (pc, ls, st, w, c, n) :=
  qr_call p c n hq hcall (by rw [hb]; exact hc) (by rw [hb]; exact hn) (by rw [hb]; rfl) (by rw [hb]; rfl) hT kk
end QI

section QI2
variable {X : qm_X} {d : Nat} {x : qs_Ent} {Q : Option Value → qm_W → Prop} {pc : Nat} {ls : qm_L} {st : List Value} {u w : qm_W} {c n r1 r2 r3 : Nat} {rv : Value} {a : Nat} {ln at_ sz nm sk : Int} {t cd : Nat → Int}
theorem qr_ccallC {z k : Nat} {as rest : List Value} {Q' : Option Value → qm_W → Prop} (hi : qc_in w a) (p : Nat) (hq : qm_fetch x.2.2.2.2.2.2.2 pc = some (pc, .invokevirtual z, 3, k, as.length, 0, .ref 7)) (hb : qm_bud k = (0, 0)) (hc : c ≤ (qm_M1 x).2.2.2.2.1) (hn : n ≤ (qm_M1 x).2.2.2.2.2) (hs : qm_sum rest ≤ 8) (hp : pc + 3 = p) (hst : st = as.reverse ++ Value.ref a :: rest) (hT : qm_T X d k (Value.ref a :: as) (qc w a ln at_ sz nm sk t cd) Q') (kk : ∀ r w', Q' r w' → qr_W X d x Q (p, ls, r.toList ++ rest, w', c, n)) : qr_W X d x Q (pc, ls, st, qc w a ln at_ sz nm sk t cd, c, n) := by
  subst hst
  subst hp
  refine qr_callC (k := k) (as := Value.ref a :: as) (rest := rest) (pc + 3) hq ?_ hb hc hn hT kk
  have e1 : (as.reverse ++ Value.ref a :: rest)[as.length]? = some (Value.ref a) := by
    rw [List.getElem?_append_right (by rw [List.length_reverse]; exact Nat.le_refl _), List.length_reverse, Nat.sub_self]
    rfl
  have e2 : (as.reverse ++ Value.ref a :: rest).drop (as.length + 1) = rest := by
    rw [← List.length_reverse, List.drop_append]
    simp
  have e3 : (as.reverse ++ Value.ref a :: rest).take as.length = as.reverse := by
    rw [← List.length_reverse, List.take_left]
  have e4 := qc_c (X := X) hi.1 (qc_g0 (ln := ln) (at_ := at_) (sz := sz) (nm := nm) (sk := sk) (t := t) (cd := cd) hi)
  unfold qc_o at e4
  simp only [qm_call, e1, e2, e3, e4, List.reverse_reverse]
  exact if_pos ⟨by first | rfl | trivial, Or.inl (by first | rfl | trivial), by first | rfl | trivial, hs⟩
theorem qi_go (ha : a = 16 + u.length) (o e1 e2 e3 : qm_E) (k : qr_W X d x Q (pc, ls, st, qc (u ++ [o, e1, e2, e3]) a ln at_ sz nm sk t cd, c, n)) : qr_W X d x Q (pc, ls, st, u ++ [qc_o a ln at_ sz nm sk, .inl (.int, 120, .inl (qzf t)), .inl (.int, 122, .inl (qzf cd)), e3], c, n) := by
  rw [← qi_qc u ha o e1 e2 e3]
  exact k
end QI2
set_option maxHeartbeats 2000000 in
set_option maxRecDepth 20000 in
/-- Custom.<init> -/
theorem sp_cinit6 {L : Nat} {xs : Nat → Int} {vb : Bool} {d : Nat} {u : qm_W} {a : Nat} (ha : a = 16 + u.length)  : qm_T (qe L xs vb) (d + 57) 9 [.ref a, .ref 6] (u ++ [.inr (7, [.null, .null, .null, .int (qz 0), .int (qz 0), .int (qz 0), .int (qz 0), .int (qz 0)])]) (fun r w' => r = none ∧ ∃ (at2 sz2 nm2 sk2 : Int) (t cd : Nat → Int), w' = u ++ [qc_o a 1 at2 sz2 nm2 sk2, .inl (.int, 120, .inl (qzf t)), .inl (.int, 122, .inl (qzf cd)), .inl (.int, 120, .inl (qzf (fun _ => 0)))] ∧ (0 ≤ at2 ∧ at2 ≤ 1 ∧ 0 ≤ sz2 ∧ sz2 ≤ 122 ∧ -2147483648 ≤ nm2 ∧ nm2 ≤ 2147483647 ∧ (sk2 = 0 ∨ sk2 = 1)) ∧ ∀ j, -2147483648 ≤ t j ∧ t j ≤ 2147483647) := by
  refine qr_start (d := d + 56) qv_e9 (Nat.le_of_ble_eq_true rfl) ?_
  show qr_W (qe L xs vb) (d + 56) qx_e9 _ (0, [(0, .ref a), (1, .ref 6)], [], u ++ [.inr (7, [.null, .null, .null, .int (qz 0), .int (qz 0), .int (qz 0), .int (qz 0), .int (qz 0)])], 0, 0)
  have loop : ∀ (n : Nat) (i : Int) (t : Nat → Int), (0 ≤ i ∧ i ≤ 1 ∧ 1 - i < n) → (∀ j, -2147483648 ≤ t j ∧ t j ≤ 2147483647) → qr_W (qe L xs vb) (d + 56) qx_e9 (fun r w' => r = none ∧ ∃ (at2 sz2 nm2 sk2 : Int) (t cd : Nat → Int), w' = u ++ [qc_o a 1 at2 sz2 nm2 sk2, .inl (.int, 120, .inl (qzf t)), .inl (.int, 122, .inl (qzf cd)), .inl (.int, 120, .inl (qzf (fun _ => 0)))] ∧ (0 ≤ at2 ∧ at2 ≤ 1 ∧ 0 ≤ sz2 ∧ sz2 ≤ 122 ∧ -2147483648 ≤ nm2 ∧ nm2 ≤ 2147483647 ∧ (sk2 = 0 ∨ sk2 = 1)) ∧ ∀ j, -2147483648 ≤ t j ∧ t j ≤ 2147483647) (71, [(2, .int (qz i)), (0, .ref a), (1, .ref 6)], [], qc (u ++ [(qc_o a 0 0 0 0 0), (.inl (.int, 120, .inl (qzf (fun _ => 0)))), (.inl (.int, 122, .inl (qzf (fun _ => 0)))), (.inl (.int, 120, .inl (qzf (fun _ => 0))))]) a 1 0 0 0 0 t (fun _ => 0), 3, 362) := by
    intro n
    induction n with
    | zero => intro i t h1 h2; exact absurd h1 (by omega)
    | succ n ih =>
      intro i t h1 ht
      have hi := qi_in u ha (qc_o a 0 0 0 0 0) (.inl (.int, 120, .inl (qzf (fun _ => 0)))) (.inl (.int, 122, .inl (qzf (fun _ => 0)))) (.inl (.int, 120, .inl (qzf (fun _ => 0))))
      refine qr_iload_n 72 rfl rfl rfl ?_
      refine qr_aload_n 73 rfl rfl rfl ?_
      refine qr_cget3 hi 76 rfl rfl ?_
      refine qr_icmp_ge 96 79 rfl rfl rfl (by omega) (by omega) (fun h => ?_) (fun h => ?_)
      · refine qr_aload_n 97 rfl rfl rfl ?_
        refine qr_ccallC (as := []) (rest := []) hi 100 rfl rfl (Nat.le_of_ble_eq_true rfl) (Nat.le_of_ble_eq_true rfl) (Nat.le_of_ble_eq_true rfl) rfl rfl (sp_lines hi ht (by omega) (by omega)) ?_
        rintro _ _ ⟨v, at2, sz2, nm2, sk2, cd2, rfl, rfl, hb⟩
        simp only [Option.toList, List.cons_append, List.nil_append]
        refine qr_pop 101 rfl rfl rfl ?_
        refine qr_retV rfl rfl (Nat.le_of_ble_eq_true rfl) (Nat.le_of_ble_eq_true rfl) ?_
        exact ⟨rfl, at2, sz2, nm2, sk2, t, cd2, qi_qc u ha _ _ _ _ _ _ _ _ _ _ _, by omega, ht⟩
      · refine qr_aload_n 80 rfl rfl rfl ?_
        refine qr_cget0 hi 83 rfl rfl ?_
        refine qr_iload_n 84 rfl rfl rfl ?_
        refine qr_aload_n 85 rfl rfl rfl ?_
        refine qr_iload_n 86 rfl rfl rfl ?_
        refine qr_callC 89 rfl rfl rfl (Nat.le_of_ble_eq_true rfl) (Nat.le_of_ble_eq_true rfl) (sp_cha6 ⟨by omega, by omega⟩) ?_
        rintro _ _ ⟨rfl, y, rfl⟩
        simp only [Option.toList, List.drop, List.cons_append, List.nil_append]
        refine qr_ctstore hi 90 rfl (by omega) rfl ?_
        refine qr_iincG (fun v => [(2, .int (qz v)), (0, .ref a), (1, .ref 6)]) 93 rfl rfl (by decide) (fun _ => rfl) rfl (fun v hv => ?_)
        refine qr_goto 71 rfl rfl ?_
        refine ih v _ (by omega) ?_
        intro j
        unfold qzu
        split
        · exact qz_i2c_r y
        · exact ht j
  refine qr_aload_n 1 rfl rfl rfl ?_
  refine qr_objinit 4 rfl (by decide) rfl ?_
  refine qr_aload_n 5 rfl rfl rfl ?_
  refine qr_bipush 7 rfl (by decide) rfl ?_
  refine qr_inewI ha [.inr (7, [.null, .null, .null, .int (qz 0), .int (qz 0), .int (qz 0), .int (qz 0), .int (qz 0)]), .inl (.int, 120, .inl (qzf (fun _ => 0)))] 9 1 120 1 rfl (by decide) (Nat.le_of_ble_eq_true rfl) (Nat.le_of_ble_eq_true rfl) rfl rfl rfl rfl rfl ?_
  refine qr_iput ha [.ref (a + 1), .null, .null, .int (qz 0), .int (qz 0), .int (qz 0), .int (qz 0), .int (qz 0)] 12 rfl (Nat.le_of_ble_eq_true rfl) (Nat.le_of_ble_eq_true rfl) (Or.inr ⟨by decide, rfl⟩) (qr_fitR (Or.inr ⟨_, rfl⟩) _) rfl rfl ?_
  refine qr_aload_n 13 rfl rfl rfl ?_
  refine qr_bipush 15 rfl (by decide) rfl ?_
  refine qr_inewI ha [.inr (7, [.ref (a + 1), .null, .null, .int (qz 0), .int (qz 0), .int (qz 0), .int (qz 0), .int (qz 0)]), .inl (.int, 120, .inl (qzf (fun _ => 0))), .inl (.int, 122, .inl (qzf (fun _ => 0)))] 17 2 242 2 rfl (by decide) (Nat.le_of_ble_eq_true rfl) (Nat.le_of_ble_eq_true rfl) rfl rfl rfl rfl rfl ?_
  refine qr_iput ha [.ref (a + 1), .ref (a + 2), .null, .int (qz 0), .int (qz 0), .int (qz 0), .int (qz 0), .int (qz 0)] 20 rfl (Nat.le_of_ble_eq_true rfl) (Nat.le_of_ble_eq_true rfl) (Or.inr ⟨by decide, rfl⟩) (qr_fitR (Or.inr ⟨_, rfl⟩) _) rfl rfl ?_
  refine qr_aload_n 21 rfl rfl rfl ?_
  refine qr_bipush 23 rfl (by decide) rfl ?_
  refine qr_inewI ha [.inr (7, [.ref (a + 1), .ref (a + 2), .null, .int (qz 0), .int (qz 0), .int (qz 0), .int (qz 0), .int (qz 0)]), .inl (.int, 120, .inl (qzf (fun _ => 0))), .inl (.int, 122, .inl (qzf (fun _ => 0))), .inl (.int, 120, .inl (qzf (fun _ => 0)))] 25 3 362 3 rfl (by decide) (Nat.le_of_ble_eq_true rfl) (Nat.le_of_ble_eq_true rfl) rfl rfl rfl rfl rfl ?_
  refine qr_iput ha [.ref (a + 1), .ref (a + 2), .ref (a + 3), .int (qz 0), .int (qz 0), .int (qz 0), .int (qz 0), .int (qz 0)] 28 rfl (Nat.le_of_ble_eq_true rfl) (Nat.le_of_ble_eq_true rfl) (Or.inr ⟨by decide, rfl⟩) (qr_fitR (Or.inr ⟨_, rfl⟩) _) rfl rfl ?_
  refine qr_aload_n 29 rfl rfl rfl ?_
  refine qr_iconst 30 rfl rfl ?_
  refine qr_iput ha [.ref (a + 1), .ref (a + 2), .ref (a + 3), .int (qz 0), .int (qz 0), .int (qz 0), .int (qz 0), .int (qz 0)] 33 rfl (Nat.le_of_ble_eq_true rfl) (Nat.le_of_ble_eq_true rfl) (Or.inl rfl) (qr_fitI rfl _) rfl rfl ?_
  refine qr_aload_n 34 rfl rfl rfl ?_
  refine qr_iconst 35 rfl rfl ?_
  refine qr_iput ha [.ref (a + 1), .ref (a + 2), .ref (a + 3), .int (qz 0), .int (qz 0), .int (qz 0), .int (qz 0), .int (qz 0)] 38 rfl (Nat.le_of_ble_eq_true rfl) (Nat.le_of_ble_eq_true rfl) (Or.inl rfl) (qr_fitI rfl _) rfl rfl ?_
  refine qr_aload_n 39 rfl rfl rfl ?_
  refine qr_iconst 40 rfl rfl ?_
  refine qr_iput ha [.ref (a + 1), .ref (a + 2), .ref (a + 3), .int (qz 0), .int (qz 0), .int (qz 0), .int (qz 0), .int (qz 0)] 43 rfl (Nat.le_of_ble_eq_true rfl) (Nat.le_of_ble_eq_true rfl) (Or.inl rfl) (qr_fitI rfl _) rfl rfl ?_
  refine qr_aload_n 44 rfl rfl rfl ?_
  refine qr_iconst 45 rfl rfl ?_
  refine qr_iput ha [.ref (a + 1), .ref (a + 2), .ref (a + 3), .int (qz 0), .int (qz 0), .int (qz 0), .int (qz 0), .int (qz 0)] 48 rfl (Nat.le_of_ble_eq_true rfl) (Nat.le_of_ble_eq_true rfl) (Or.inl rfl) (qr_fitI rfl _) rfl rfl ?_
  refine qr_aload_n 49 rfl rfl rfl ?_
  refine qr_iconst 50 rfl rfl ?_
  refine qr_iput ha [.ref (a + 1), .ref (a + 2), .ref (a + 3), .int (qz 0), .int (qz 0), .int (qz 0), .int (qz 0), .int (qz 0)] 53 rfl (Nat.le_of_ble_eq_true rfl) (Nat.le_of_ble_eq_true rfl) (Or.inl rfl) (qr_fitZ rfl (by omega)) rfl rfl ?_
  have hi := qi_in u ha (qc_o a 0 0 0 0 0) (.inl (.int, 120, .inl (qzf (fun _ => 0)))) (.inl (.int, 122, .inl (qzf (fun _ => 0)))) (.inl (.int, 120, .inl (qzf (fun _ => 0))))
  refine qi_go (ln := 0) (at_ := 0) (sz := 0) (nm := 0) (sk := 0) (t := fun _ => 0) (cd := fun _ => 0) ha (qc_o a 0 0 0 0 0) (.inl (.int, 120, .inl (qzf (fun _ => 0)))) (.inl (.int, 122, .inl (qzf (fun _ => 0)))) (.inl (.int, 120, .inl (qzf (fun _ => 0)))) ?_
  refine qr_aload_n 54 rfl rfl rfl ?_
  refine qr_aload_n 55 rfl rfl rfl ?_
  refine qr_callC 58 rfl rfl rfl (Nat.le_of_ble_eq_true rfl) (Nat.le_of_ble_eq_true rfl) sp_len6 ?_
  rintro _ _ ⟨rfl, rfl⟩
  simp only [Option.toList, List.drop, List.cons_append, List.nil_append]
  refine qr_aload_n 59 rfl rfl rfl ?_
  refine qr_cget0 hi 62 rfl rfl ?_
  refine qr_ctlen hi 63 rfl rfl ?_
  refine qr_callC 66 rfl rfl rfl (Nat.le_of_ble_eq_true rfl) (Nat.le_of_ble_eq_true rfl) (sp_mmin (by omega) (by omega)) ?_
  rintro _ _ ⟨rfl, b, rfl, hb⟩
  simp only [Option.toList, List.drop, List.cons_append, List.nil_append]
  have eb : b = 1 := by omega
  subst eb
  refine qr_cput3 hi 69 rfl rfl ?_
  refine qr_iconst 70 rfl rfl ?_
  refine qr_istore_n [(2, .int (qz 0)), (0, .ref a), (1, .ref 6)] 71 rfl (by decide) rfl rfl ?_
  exact loop 2 0 (fun _ => 0) (by omega) (fun _ => by omega)
end
section
section QJ
variable {X : qm_X} {d : Nat} {x : qs_Ent} {Q : Option Value → qm_W → Prop} {pc : Nat} {ls : qm_L} {st : List Value} {u w : qm_W} {c n r1 r2 r3 : Nat} {rv : Value} {a : Nat}
theorem qr_inewL {y : Int} {r : qm_W} (ha : a = 16 + u.length) (r' : qm_W) (p c' n' b : Nat) (hq : qm_fetch x.2.2.2.2.2.2.2 pc = some (pc, .newarray .long, 2, r1, r2, r3, rv)) (hy : 0 ≤ y ∧ y ≤ 1000000) (hc : c + 1 ≤ (qm_M1 x).2.2.2.2.1) (hn : n + y.toNat ≤ (qm_M1 x).2.2.2.2.2) (hr : r ++ [.inl (.long, y.toNat, .inr (.inl (qlf (fun _ => 0))))] = r') (hb : r.length = b) (hc2 : c + 1 = c') (hn2 : n + y.toNat = n') (hp : pc + 2 = p) (k : qr_W X d x Q (p, ls, .ref (a + b) :: st, u ++ r', c', n')) : qr_W X d x Q (pc, ls, .int (qz y) :: st, u ++ r, c, n) := by
  subst hr
  subst hb
  refine qr_newL (u ++ (r ++ [.inl (.long, y.toNat, .inr (.inl (qlf (fun _ => 0))))])) p c' n' hq hy hc hn (List.append_assoc _ _ _) hc2 hn2 (a + r.length) (by rw [List.length_append]; omega) hp k
theorem qi_g1 (u : qm_W) {a : Nat} (ha : a = 16 + u.length) (e e1 : qm_E) (r : qm_W) : (u ++ e :: e1 :: r)[a + 1 - 16]? = some e1 := by
  subst ha
  rw [show 16 + u.length + 1 - 16 = u.length + 1 by omega, List.getElem?_append_right (Nat.le_add_right _ _), Nat.add_sub_cancel_left]
  rfl
theorem qr_iist1 {e : qm_E} {r : qm_W} {N : Nat} {y v : Int} {f : Nat → Int} (ha : a = 16 + u.length) (p : Nat) (hq : qm_fetch x.2.2.2.2.2.2.2 pc = some (pc, .iastore, 1, r1, r2, r3, rv)) (hz : 0 ≤ y ∧ y < (N : Int)) (hN : N ≤ 1000000) (hp : pc + 1 = p) (k : qr_W X d x Q (p, ls, st, u ++ e :: .inl (.int, N, .inl (qzf (qzu f y.toNat v))) :: r, c, n)) : qr_W X d x Q (pc, ls, .int (qz v) :: .int (qz y) :: .ref (a + 1) :: st, u ++ e :: .inl (.int, N, .inl (qzf f)) :: r, c, n) := by
  refine qr_iastore p hq (by omega) (qi_g1 u ha _ _ _) hz hN hp ?_
  rw [show a + 1 - 16 = a - 16 + 1 by omega, qi_s1 u ha]
  exact k
end QJ

set_option maxHeartbeats 2000000 in
set_option maxRecDepth 20000 in
/-- Folk.<init> -/
theorem si_Folk {X : qm_X} {d : Nat} {u : qm_W} {a : Nat} (ha : a = 16 + u.length)  : qm_T X (d + 1) 2 [.ref a] (u ++ [.inr (1, [.null, .null, .null, .null, .null, .long (ql 0), .int (qz 0)])]) (fun r w' => r = none ∧ w' = u ++ [.inr (1, [.ref (a + 1), .ref (a + 2), .ref (a + 3), .ref (a + 4), .ref (a + 5), .long (ql 0), .int (qz 0)]), .inl (.int, 32, .inl (qzf (fun _ => 0))), .inl (.int, 32, .inl (qzf (fun _ => 0))), .inl (.int, 32, .inl (qzf (fun _ => 0))), .inl (.int, 32, .inl (qzf (fun _ => 0))), .inl (.long, 32, .inr (.inl (qlf (fun _ => 0))))]) := by
  refine qr_start (d := d + 0) qv_e2 (Nat.le_of_ble_eq_true rfl) ?_
  show qr_W X (d + 0) qx_e2 _ (0, [(0, .ref a)], [], u ++ [.inr (1, [.null, .null, .null, .null, .null, .long (ql 0), .int (qz 0)])], 0, 0)
  refine qr_aload_n 1 rfl rfl rfl ?_
  refine qr_objinit 4 rfl (by decide) rfl ?_
  refine qr_aload_n 5 rfl rfl rfl ?_
  refine qr_bipush 7 rfl (by decide) rfl ?_
  refine qr_inewI ha [.inr (1, [.null, .null, .null, .null, .null, .long (ql 0), .int (qz 0)]), .inl (.int, 32, .inl (qzf (fun _ => 0)))] 9 1 32 1 rfl (by decide) (Nat.le_of_ble_eq_true rfl) (Nat.le_of_ble_eq_true rfl) rfl rfl rfl rfl rfl ?_
  refine qr_iput ha [.ref (a + 1), .null, .null, .null, .null, .long (ql 0), .int (qz 0)] 12 rfl (Nat.le_of_ble_eq_true rfl) (Nat.le_of_ble_eq_true rfl) (Or.inr ⟨by decide, rfl⟩) (qr_fitR (Or.inr ⟨_, rfl⟩) _) rfl rfl ?_
  refine qr_aload_n 13 rfl rfl rfl ?_
  refine qr_bipush 15 rfl (by decide) rfl ?_
  refine qr_inewI ha [.inr (1, [.ref (a + 1), .null, .null, .null, .null, .long (ql 0), .int (qz 0)]), .inl (.int, 32, .inl (qzf (fun _ => 0))), .inl (.int, 32, .inl (qzf (fun _ => 0)))] 17 2 64 2 rfl (by decide) (Nat.le_of_ble_eq_true rfl) (Nat.le_of_ble_eq_true rfl) rfl rfl rfl rfl rfl ?_
  refine qr_iput ha [.ref (a + 1), .ref (a + 2), .null, .null, .null, .long (ql 0), .int (qz 0)] 20 rfl (Nat.le_of_ble_eq_true rfl) (Nat.le_of_ble_eq_true rfl) (Or.inr ⟨by decide, rfl⟩) (qr_fitR (Or.inr ⟨_, rfl⟩) _) rfl rfl ?_
  refine qr_aload_n 21 rfl rfl rfl ?_
  refine qr_bipush 23 rfl (by decide) rfl ?_
  refine qr_inewI ha [.inr (1, [.ref (a + 1), .ref (a + 2), .null, .null, .null, .long (ql 0), .int (qz 0)]), .inl (.int, 32, .inl (qzf (fun _ => 0))), .inl (.int, 32, .inl (qzf (fun _ => 0))), .inl (.int, 32, .inl (qzf (fun _ => 0)))] 25 3 96 3 rfl (by decide) (Nat.le_of_ble_eq_true rfl) (Nat.le_of_ble_eq_true rfl) rfl rfl rfl rfl rfl ?_
  refine qr_iput ha [.ref (a + 1), .ref (a + 2), .ref (a + 3), .null, .null, .long (ql 0), .int (qz 0)] 28 rfl (Nat.le_of_ble_eq_true rfl) (Nat.le_of_ble_eq_true rfl) (Or.inr ⟨by decide, rfl⟩) (qr_fitR (Or.inr ⟨_, rfl⟩) _) rfl rfl ?_
  refine qr_aload_n 29 rfl rfl rfl ?_
  refine qr_bipush 31 rfl (by decide) rfl ?_
  refine qr_inewI ha [.inr (1, [.ref (a + 1), .ref (a + 2), .ref (a + 3), .null, .null, .long (ql 0), .int (qz 0)]), .inl (.int, 32, .inl (qzf (fun _ => 0))), .inl (.int, 32, .inl (qzf (fun _ => 0))), .inl (.int, 32, .inl (qzf (fun _ => 0))), .inl (.int, 32, .inl (qzf (fun _ => 0)))] 33 4 128 4 rfl (by decide) (Nat.le_of_ble_eq_true rfl) (Nat.le_of_ble_eq_true rfl) rfl rfl rfl rfl rfl ?_
  refine qr_iput ha [.ref (a + 1), .ref (a + 2), .ref (a + 3), .ref (a + 4), .null, .long (ql 0), .int (qz 0)] 36 rfl (Nat.le_of_ble_eq_true rfl) (Nat.le_of_ble_eq_true rfl) (Or.inr ⟨by decide, rfl⟩) (qr_fitR (Or.inr ⟨_, rfl⟩) _) rfl rfl ?_
  refine qr_aload_n 37 rfl rfl rfl ?_
  refine qr_bipush 39 rfl (by decide) rfl ?_
  refine qr_inewL ha [.inr (1, [.ref (a + 1), .ref (a + 2), .ref (a + 3), .ref (a + 4), .null, .long (ql 0), .int (qz 0)]), .inl (.int, 32, .inl (qzf (fun _ => 0))), .inl (.int, 32, .inl (qzf (fun _ => 0))), .inl (.int, 32, .inl (qzf (fun _ => 0))), .inl (.int, 32, .inl (qzf (fun _ => 0))), .inl (.long, 32, .inr (.inl (qlf (fun _ => 0))))] 41 5 160 5 rfl (by decide) (Nat.le_of_ble_eq_true rfl) (Nat.le_of_ble_eq_true rfl) rfl rfl rfl rfl rfl ?_
  refine qr_iput ha [.ref (a + 1), .ref (a + 2), .ref (a + 3), .ref (a + 4), .ref (a + 5), .long (ql 0), .int (qz 0)] 44 rfl (Nat.le_of_ble_eq_true rfl) (Nat.le_of_ble_eq_true rfl) (Or.inr ⟨by decide, rfl⟩) (qr_fitR (Or.inr ⟨_, rfl⟩) _) rfl rfl ?_
  refine qr_aload_n 45 rfl rfl rfl ?_
  refine qr_lconst 46 rfl rfl ?_
  refine qr_iput ha [.ref (a + 1), .ref (a + 2), .ref (a + 3), .ref (a + 4), .ref (a + 5), .long (ql 0), .int (qz 0)] 49 rfl (Nat.le_of_ble_eq_true rfl) (Nat.le_of_ble_eq_true rfl) (Or.inl rfl) (qr_fitL rfl _) rfl rfl ?_
  refine qr_aload_n 50 rfl rfl rfl ?_
  refine qr_iconst 51 rfl rfl ?_
  refine qr_iput ha [.ref (a + 1), .ref (a + 2), .ref (a + 3), .ref (a + 4), .ref (a + 5), .long (ql 0), .int (qz 0)] 54 rfl (Nat.le_of_ble_eq_true rfl) (Nat.le_of_ble_eq_true rfl) (Or.inl rfl) (qr_fitI rfl _) rfl rfl ?_
  refine qr_retV rfl rfl (Nat.le_of_ble_eq_true rfl) (Nat.le_of_ble_eq_true rfl) ?_
  exact ⟨rfl, rfl⟩

set_option maxHeartbeats 2000000 in
set_option maxRecDepth 20000 in
/-- Feuds.<init> -/
theorem si_Feuds {X : qm_X} {d : Nat} {u : qm_W} {a : Nat} (ha : a = 16 + u.length)  : qm_T X (d + 1) 5 [.ref a] (u ++ [.inr (3, [.null, .null, .null, .null, .null, .null, .long (ql 0), .int (qz 0)])]) (fun r w' => r = none ∧ w' = u ++ [.inr (3, [.ref (a + 1), .ref (a + 2), .ref (a + 3), .ref (a + 4), .ref (a + 5), .ref (a + 6), .long (ql 0), .int (qz 0)]), .inl (.int, 40, .inl (qzf (fun _ => 0))), .inl (.int, 40, .inl (qzf (fun _ => 0))), .inl (.int, 40, .inl (qzf (fun _ => 0))), .inl (.int, 40, .inl (qzf (fun _ => 0))), .inl (.int, 40, .inl (qzf (fun _ => 0))), .inl (.int, 40, .inl (qzf (fun _ => 0)))]) := by
  refine qr_start (d := d + 0) qv_e5 (Nat.le_of_ble_eq_true rfl) ?_
  show qr_W X (d + 0) qx_e5 _ (0, [(0, .ref a)], [], u ++ [.inr (3, [.null, .null, .null, .null, .null, .null, .long (ql 0), .int (qz 0)])], 0, 0)
  refine qr_aload_n 1 rfl rfl rfl ?_
  refine qr_objinit 4 rfl (by decide) rfl ?_
  refine qr_aload_n 5 rfl rfl rfl ?_
  refine qr_bipush 7 rfl (by decide) rfl ?_
  refine qr_inewI ha [.inr (3, [.null, .null, .null, .null, .null, .null, .long (ql 0), .int (qz 0)]), .inl (.int, 40, .inl (qzf (fun _ => 0)))] 9 1 40 1 rfl (by decide) (Nat.le_of_ble_eq_true rfl) (Nat.le_of_ble_eq_true rfl) rfl rfl rfl rfl rfl ?_
  refine qr_iput ha [.ref (a + 1), .null, .null, .null, .null, .null, .long (ql 0), .int (qz 0)] 12 rfl (Nat.le_of_ble_eq_true rfl) (Nat.le_of_ble_eq_true rfl) (Or.inr ⟨by decide, rfl⟩) (qr_fitR (Or.inr ⟨_, rfl⟩) _) rfl rfl ?_
  refine qr_aload_n 13 rfl rfl rfl ?_
  refine qr_bipush 15 rfl (by decide) rfl ?_
  refine qr_inewI ha [.inr (3, [.ref (a + 1), .null, .null, .null, .null, .null, .long (ql 0), .int (qz 0)]), .inl (.int, 40, .inl (qzf (fun _ => 0))), .inl (.int, 40, .inl (qzf (fun _ => 0)))] 17 2 80 2 rfl (by decide) (Nat.le_of_ble_eq_true rfl) (Nat.le_of_ble_eq_true rfl) rfl rfl rfl rfl rfl ?_
  refine qr_iput ha [.ref (a + 1), .ref (a + 2), .null, .null, .null, .null, .long (ql 0), .int (qz 0)] 20 rfl (Nat.le_of_ble_eq_true rfl) (Nat.le_of_ble_eq_true rfl) (Or.inr ⟨by decide, rfl⟩) (qr_fitR (Or.inr ⟨_, rfl⟩) _) rfl rfl ?_
  refine qr_aload_n 21 rfl rfl rfl ?_
  refine qr_bipush 23 rfl (by decide) rfl ?_
  refine qr_inewI ha [.inr (3, [.ref (a + 1), .ref (a + 2), .null, .null, .null, .null, .long (ql 0), .int (qz 0)]), .inl (.int, 40, .inl (qzf (fun _ => 0))), .inl (.int, 40, .inl (qzf (fun _ => 0))), .inl (.int, 40, .inl (qzf (fun _ => 0)))] 25 3 120 3 rfl (by decide) (Nat.le_of_ble_eq_true rfl) (Nat.le_of_ble_eq_true rfl) rfl rfl rfl rfl rfl ?_
  refine qr_iput ha [.ref (a + 1), .ref (a + 2), .ref (a + 3), .null, .null, .null, .long (ql 0), .int (qz 0)] 28 rfl (Nat.le_of_ble_eq_true rfl) (Nat.le_of_ble_eq_true rfl) (Or.inr ⟨by decide, rfl⟩) (qr_fitR (Or.inr ⟨_, rfl⟩) _) rfl rfl ?_
  refine qr_aload_n 29 rfl rfl rfl ?_
  refine qr_bipush 31 rfl (by decide) rfl ?_
  refine qr_inewI ha [.inr (3, [.ref (a + 1), .ref (a + 2), .ref (a + 3), .null, .null, .null, .long (ql 0), .int (qz 0)]), .inl (.int, 40, .inl (qzf (fun _ => 0))), .inl (.int, 40, .inl (qzf (fun _ => 0))), .inl (.int, 40, .inl (qzf (fun _ => 0))), .inl (.int, 40, .inl (qzf (fun _ => 0)))] 33 4 160 4 rfl (by decide) (Nat.le_of_ble_eq_true rfl) (Nat.le_of_ble_eq_true rfl) rfl rfl rfl rfl rfl ?_
  refine qr_iput ha [.ref (a + 1), .ref (a + 2), .ref (a + 3), .ref (a + 4), .null, .null, .long (ql 0), .int (qz 0)] 36 rfl (Nat.le_of_ble_eq_true rfl) (Nat.le_of_ble_eq_true rfl) (Or.inr ⟨by decide, rfl⟩) (qr_fitR (Or.inr ⟨_, rfl⟩) _) rfl rfl ?_
  refine qr_aload_n 37 rfl rfl rfl ?_
  refine qr_bipush 39 rfl (by decide) rfl ?_
  refine qr_inewI ha [.inr (3, [.ref (a + 1), .ref (a + 2), .ref (a + 3), .ref (a + 4), .null, .null, .long (ql 0), .int (qz 0)]), .inl (.int, 40, .inl (qzf (fun _ => 0))), .inl (.int, 40, .inl (qzf (fun _ => 0))), .inl (.int, 40, .inl (qzf (fun _ => 0))), .inl (.int, 40, .inl (qzf (fun _ => 0))), .inl (.int, 40, .inl (qzf (fun _ => 0)))] 41 5 200 5 rfl (by decide) (Nat.le_of_ble_eq_true rfl) (Nat.le_of_ble_eq_true rfl) rfl rfl rfl rfl rfl ?_
  refine qr_iput ha [.ref (a + 1), .ref (a + 2), .ref (a + 3), .ref (a + 4), .ref (a + 5), .null, .long (ql 0), .int (qz 0)] 44 rfl (Nat.le_of_ble_eq_true rfl) (Nat.le_of_ble_eq_true rfl) (Or.inr ⟨by decide, rfl⟩) (qr_fitR (Or.inr ⟨_, rfl⟩) _) rfl rfl ?_
  refine qr_aload_n 45 rfl rfl rfl ?_
  refine qr_bipush 47 rfl (by decide) rfl ?_
  refine qr_inewI ha [.inr (3, [.ref (a + 1), .ref (a + 2), .ref (a + 3), .ref (a + 4), .ref (a + 5), .null, .long (ql 0), .int (qz 0)]), .inl (.int, 40, .inl (qzf (fun _ => 0))), .inl (.int, 40, .inl (qzf (fun _ => 0))), .inl (.int, 40, .inl (qzf (fun _ => 0))), .inl (.int, 40, .inl (qzf (fun _ => 0))), .inl (.int, 40, .inl (qzf (fun _ => 0))), .inl (.int, 40, .inl (qzf (fun _ => 0)))] 49 6 240 6 rfl (by decide) (Nat.le_of_ble_eq_true rfl) (Nat.le_of_ble_eq_true rfl) rfl rfl rfl rfl rfl ?_
  refine qr_iput ha [.ref (a + 1), .ref (a + 2), .ref (a + 3), .ref (a + 4), .ref (a + 5), .ref (a + 6), .long (ql 0), .int (qz 0)] 52 rfl (Nat.le_of_ble_eq_true rfl) (Nat.le_of_ble_eq_true rfl) (Or.inr ⟨by decide, rfl⟩) (qr_fitR (Or.inr ⟨_, rfl⟩) _) rfl rfl ?_
  refine qr_aload_n 53 rfl rfl rfl ?_
  refine qr_lconst 54 rfl rfl ?_
  refine qr_iput ha [.ref (a + 1), .ref (a + 2), .ref (a + 3), .ref (a + 4), .ref (a + 5), .ref (a + 6), .long (ql 0), .int (qz 0)] 57 rfl (Nat.le_of_ble_eq_true rfl) (Nat.le_of_ble_eq_true rfl) (Or.inl rfl) (qr_fitL rfl _) rfl rfl ?_
  refine qr_aload_n 58 rfl rfl rfl ?_
  refine qr_iconst 59 rfl rfl ?_
  refine qr_iput ha [.ref (a + 1), .ref (a + 2), .ref (a + 3), .ref (a + 4), .ref (a + 5), .ref (a + 6), .long (ql 0), .int (qz 0)] 62 rfl (Nat.le_of_ble_eq_true rfl) (Nat.le_of_ble_eq_true rfl) (Or.inl rfl) (qr_fitI rfl _) rfl rfl ?_
  refine qr_retV rfl rfl (Nat.le_of_ble_eq_true rfl) (Nat.le_of_ble_eq_true rfl) ?_
  exact ⟨rfl, rfl⟩

set_option maxHeartbeats 2000000 in
set_option maxRecDepth 20000 in
/-- Peaces.<init> -/
theorem si_Peaces {X : qm_X} {d : Nat} {u : qm_W} {a : Nat} (ha : a = 16 + u.length)  : qm_T X (d + 1) 6 [.ref a] (u ++ [.inr (4, [.null, .null, .null, .null, .null, .null, .null, .int (qz 0)])]) (fun r w' => r = none ∧ w' = u ++ [.inr (4, [.ref (a + 1), .ref (a + 2), .ref (a + 3), .ref (a + 4), .ref (a + 5), .ref (a + 6), .ref (a + 7), .int (qz 0)]), .inl (.int, 60, .inl (qzf (fun _ => 0))), .inl (.int, 60, .inl (qzf (fun _ => 0))), .inl (.int, 60, .inl (qzf (fun _ => 0))), .inl (.int, 60, .inl (qzf (fun _ => 0))), .inl (.int, 60, .inl (qzf (fun _ => 0))), .inl (.int, 60, .inl (qzf (fun _ => 0))), .inl (.long, 60, .inr (.inl (qlf (fun _ => 0))))]) := by
  refine qr_start (d := d + 0) qv_e6 (Nat.le_of_ble_eq_true rfl) ?_
  show qr_W X (d + 0) qx_e6 _ (0, [(0, .ref a)], [], u ++ [.inr (4, [.null, .null, .null, .null, .null, .null, .null, .int (qz 0)])], 0, 0)
  refine qr_aload_n 1 rfl rfl rfl ?_
  refine qr_objinit 4 rfl (by decide) rfl ?_
  refine qr_aload_n 5 rfl rfl rfl ?_
  refine qr_bipush 7 rfl (by decide) rfl ?_
  refine qr_inewI ha [.inr (4, [.null, .null, .null, .null, .null, .null, .null, .int (qz 0)]), .inl (.int, 60, .inl (qzf (fun _ => 0)))] 9 1 60 1 rfl (by decide) (Nat.le_of_ble_eq_true rfl) (Nat.le_of_ble_eq_true rfl) rfl rfl rfl rfl rfl ?_
  refine qr_iput ha [.ref (a + 1), .null, .null, .null, .null, .null, .null, .int (qz 0)] 12 rfl (Nat.le_of_ble_eq_true rfl) (Nat.le_of_ble_eq_true rfl) (Or.inr ⟨by decide, rfl⟩) (qr_fitR (Or.inr ⟨_, rfl⟩) _) rfl rfl ?_
  refine qr_aload_n 13 rfl rfl rfl ?_
  refine qr_bipush 15 rfl (by decide) rfl ?_
  refine qr_inewI ha [.inr (4, [.ref (a + 1), .null, .null, .null, .null, .null, .null, .int (qz 0)]), .inl (.int, 60, .inl (qzf (fun _ => 0))), .inl (.int, 60, .inl (qzf (fun _ => 0)))] 17 2 120 2 rfl (by decide) (Nat.le_of_ble_eq_true rfl) (Nat.le_of_ble_eq_true rfl) rfl rfl rfl rfl rfl ?_
  refine qr_iput ha [.ref (a + 1), .ref (a + 2), .null, .null, .null, .null, .null, .int (qz 0)] 20 rfl (Nat.le_of_ble_eq_true rfl) (Nat.le_of_ble_eq_true rfl) (Or.inr ⟨by decide, rfl⟩) (qr_fitR (Or.inr ⟨_, rfl⟩) _) rfl rfl ?_
  refine qr_aload_n 21 rfl rfl rfl ?_
  refine qr_bipush 23 rfl (by decide) rfl ?_
  refine qr_inewI ha [.inr (4, [.ref (a + 1), .ref (a + 2), .null, .null, .null, .null, .null, .int (qz 0)]), .inl (.int, 60, .inl (qzf (fun _ => 0))), .inl (.int, 60, .inl (qzf (fun _ => 0))), .inl (.int, 60, .inl (qzf (fun _ => 0)))] 25 3 180 3 rfl (by decide) (Nat.le_of_ble_eq_true rfl) (Nat.le_of_ble_eq_true rfl) rfl rfl rfl rfl rfl ?_
  refine qr_iput ha [.ref (a + 1), .ref (a + 2), .ref (a + 3), .null, .null, .null, .null, .int (qz 0)] 28 rfl (Nat.le_of_ble_eq_true rfl) (Nat.le_of_ble_eq_true rfl) (Or.inr ⟨by decide, rfl⟩) (qr_fitR (Or.inr ⟨_, rfl⟩) _) rfl rfl ?_
  refine qr_aload_n 29 rfl rfl rfl ?_
  refine qr_bipush 31 rfl (by decide) rfl ?_
  refine qr_inewI ha [.inr (4, [.ref (a + 1), .ref (a + 2), .ref (a + 3), .null, .null, .null, .null, .int (qz 0)]), .inl (.int, 60, .inl (qzf (fun _ => 0))), .inl (.int, 60, .inl (qzf (fun _ => 0))), .inl (.int, 60, .inl (qzf (fun _ => 0))), .inl (.int, 60, .inl (qzf (fun _ => 0)))] 33 4 240 4 rfl (by decide) (Nat.le_of_ble_eq_true rfl) (Nat.le_of_ble_eq_true rfl) rfl rfl rfl rfl rfl ?_
  refine qr_iput ha [.ref (a + 1), .ref (a + 2), .ref (a + 3), .ref (a + 4), .null, .null, .null, .int (qz 0)] 36 rfl (Nat.le_of_ble_eq_true rfl) (Nat.le_of_ble_eq_true rfl) (Or.inr ⟨by decide, rfl⟩) (qr_fitR (Or.inr ⟨_, rfl⟩) _) rfl rfl ?_
  refine qr_aload_n 37 rfl rfl rfl ?_
  refine qr_bipush 39 rfl (by decide) rfl ?_
  refine qr_inewI ha [.inr (4, [.ref (a + 1), .ref (a + 2), .ref (a + 3), .ref (a + 4), .null, .null, .null, .int (qz 0)]), .inl (.int, 60, .inl (qzf (fun _ => 0))), .inl (.int, 60, .inl (qzf (fun _ => 0))), .inl (.int, 60, .inl (qzf (fun _ => 0))), .inl (.int, 60, .inl (qzf (fun _ => 0))), .inl (.int, 60, .inl (qzf (fun _ => 0)))] 41 5 300 5 rfl (by decide) (Nat.le_of_ble_eq_true rfl) (Nat.le_of_ble_eq_true rfl) rfl rfl rfl rfl rfl ?_
  refine qr_iput ha [.ref (a + 1), .ref (a + 2), .ref (a + 3), .ref (a + 4), .ref (a + 5), .null, .null, .int (qz 0)] 44 rfl (Nat.le_of_ble_eq_true rfl) (Nat.le_of_ble_eq_true rfl) (Or.inr ⟨by decide, rfl⟩) (qr_fitR (Or.inr ⟨_, rfl⟩) _) rfl rfl ?_
  refine qr_aload_n 45 rfl rfl rfl ?_
  refine qr_bipush 47 rfl (by decide) rfl ?_
  refine qr_inewI ha [.inr (4, [.ref (a + 1), .ref (a + 2), .ref (a + 3), .ref (a + 4), .ref (a + 5), .null, .null, .int (qz 0)]), .inl (.int, 60, .inl (qzf (fun _ => 0))), .inl (.int, 60, .inl (qzf (fun _ => 0))), .inl (.int, 60, .inl (qzf (fun _ => 0))), .inl (.int, 60, .inl (qzf (fun _ => 0))), .inl (.int, 60, .inl (qzf (fun _ => 0))), .inl (.int, 60, .inl (qzf (fun _ => 0)))] 49 6 360 6 rfl (by decide) (Nat.le_of_ble_eq_true rfl) (Nat.le_of_ble_eq_true rfl) rfl rfl rfl rfl rfl ?_
  refine qr_iput ha [.ref (a + 1), .ref (a + 2), .ref (a + 3), .ref (a + 4), .ref (a + 5), .ref (a + 6), .null, .int (qz 0)] 52 rfl (Nat.le_of_ble_eq_true rfl) (Nat.le_of_ble_eq_true rfl) (Or.inr ⟨by decide, rfl⟩) (qr_fitR (Or.inr ⟨_, rfl⟩) _) rfl rfl ?_
  refine qr_aload_n 53 rfl rfl rfl ?_
  refine qr_bipush 55 rfl (by decide) rfl ?_
  refine qr_inewL ha [.inr (4, [.ref (a + 1), .ref (a + 2), .ref (a + 3), .ref (a + 4), .ref (a + 5), .ref (a + 6), .null, .int (qz 0)]), .inl (.int, 60, .inl (qzf (fun _ => 0))), .inl (.int, 60, .inl (qzf (fun _ => 0))), .inl (.int, 60, .inl (qzf (fun _ => 0))), .inl (.int, 60, .inl (qzf (fun _ => 0))), .inl (.int, 60, .inl (qzf (fun _ => 0))), .inl (.int, 60, .inl (qzf (fun _ => 0))), .inl (.long, 60, .inr (.inl (qlf (fun _ => 0))))] 57 7 420 7 rfl (by decide) (Nat.le_of_ble_eq_true rfl) (Nat.le_of_ble_eq_true rfl) rfl rfl rfl rfl rfl ?_
  refine qr_iput ha [.ref (a + 1), .ref (a + 2), .ref (a + 3), .ref (a + 4), .ref (a + 5), .ref (a + 6), .ref (a + 7), .int (qz 0)] 60 rfl (Nat.le_of_ble_eq_true rfl) (Nat.le_of_ble_eq_true rfl) (Or.inr ⟨by decide, rfl⟩) (qr_fitR (Or.inr ⟨_, rfl⟩) _) rfl rfl ?_
  refine qr_aload_n 61 rfl rfl rfl ?_
  refine qr_iconst 62 rfl rfl ?_
  refine qr_iput ha [.ref (a + 1), .ref (a + 2), .ref (a + 3), .ref (a + 4), .ref (a + 5), .ref (a + 6), .ref (a + 7), .int (qz 0)] 65 rfl (Nat.le_of_ble_eq_true rfl) (Nat.le_of_ble_eq_true rfl) (Or.inl rfl) (qr_fitI rfl _) rfl rfl ?_
  refine qr_retV rfl rfl (Nat.le_of_ble_eq_true rfl) (Nat.le_of_ble_eq_true rfl) ?_
  exact ⟨rfl, rfl⟩

set_option maxHeartbeats 2000000 in
set_option maxRecDepth 20000 in
/-- Acts.<init> -/
theorem si_Acts {X : qm_X} {d : Nat} {u : qm_W} {a : Nat} (ha : a = 16 + u.length)  : qm_T X (d + 1) 7 [.ref a] (u ++ [.inr (5, [.null, .int (qz 0)])]) (fun r w' => r = none ∧ w' = u ++ [.inr (5, [.ref (a + 1), .int (qz 0)]), .inl (.int, 24, .inl (qzf (fun _ => 0)))]) := by
  refine qr_start (d := d + 0) qv_e7 (Nat.le_of_ble_eq_true rfl) ?_
  show qr_W X (d + 0) qx_e7 _ (0, [(0, .ref a)], [], u ++ [.inr (5, [.null, .int (qz 0)])], 0, 0)
  refine qr_aload_n 1 rfl rfl rfl ?_
  refine qr_objinit 4 rfl (by decide) rfl ?_
  refine qr_aload_n 5 rfl rfl rfl ?_
  refine qr_bipush 7 rfl (by decide) rfl ?_
  refine qr_inewI ha [.inr (5, [.null, .int (qz 0)]), .inl (.int, 24, .inl (qzf (fun _ => 0)))] 9 1 24 1 rfl (by decide) (Nat.le_of_ble_eq_true rfl) (Nat.le_of_ble_eq_true rfl) rfl rfl rfl rfl rfl ?_
  refine qr_iput ha [.ref (a + 1), .int (qz 0)] 12 rfl (Nat.le_of_ble_eq_true rfl) (Nat.le_of_ble_eq_true rfl) (Or.inr ⟨by decide, rfl⟩) (qr_fitR (Or.inr ⟨_, rfl⟩) _) rfl rfl ?_
  refine qr_aload_n 13 rfl rfl rfl ?_
  refine qr_iconst 14 rfl rfl ?_
  refine qr_iput ha [.ref (a + 1), .int (qz 0)] 17 rfl (Nat.le_of_ble_eq_true rfl) (Nat.le_of_ble_eq_true rfl) (Or.inl rfl) (qr_fitI rfl _) rfl rfl ?_
  refine qr_retV rfl rfl (Nat.le_of_ble_eq_true rfl) (Nat.le_of_ble_eq_true rfl) ?_
  exact ⟨rfl, rfl⟩

set_option maxHeartbeats 2000000 in
set_option maxRecDepth 20000 in
/-- Pegs.<init> -/
theorem si_Pegs {X : qm_X} {d : Nat} {u : qm_W} {a : Nat} (ha : a = 16 + u.length)  : qm_T X (d + 1) 8 [.ref a] (u ++ [.inr (6, [.null, .null, .null, .null])]) (fun r w' => r = none ∧ w' = u ++ [.inr (6, [.ref (a + 1), .ref (a + 2), .ref (a + 3), .ref (a + 4)]), .inl (.int, 6, .inl (qzf (qzu (qzu (qzu (qzu (qzu (qzu (fun _ => 0) (0 : Int).toNat 6) (1 : Int).toNat 6) (2 : Int).toNat 6) (3 : Int).toNat 6) (4 : Int).toNat 6) (5 : Int).toNat 6))), .inl (.int, 6, .inl (qzf (fun _ => 0))), .inl (.int, 6, .inl (qzf (fun _ => 0))), .inl (.long, 360, .inr (.inl (qlf (fun _ => 0))))]) := by
  refine qr_start (d := d + 0) qv_e8 (Nat.le_of_ble_eq_true rfl) ?_
  show qr_W X (d + 0) qx_e8 _ (0, [(0, .ref a)], [], u ++ [.inr (6, [.null, .null, .null, .null])], 0, 0)
  refine qr_aload_n 1 rfl rfl rfl ?_
  refine qr_objinit 4 rfl (by decide) rfl ?_
  refine qr_aload_n 5 rfl rfl rfl ?_
  refine qr_bipush 7 rfl (by decide) rfl ?_
  refine qr_inewI ha [.inr (6, [.null, .null, .null, .null]), .inl (.int, 6, .inl (qzf (fun _ => 0)))] 9 1 6 1 rfl (by decide) (Nat.le_of_ble_eq_true rfl) (Nat.le_of_ble_eq_true rfl) rfl rfl rfl rfl rfl ?_
  refine qr_dup 10 rfl rfl rfl ?_
  refine qr_iconst 11 rfl rfl ?_
  refine qr_bipush 13 rfl (by decide) rfl ?_
  refine qr_iist1 ha 14 rfl (by omega) (by omega) rfl ?_
  refine qr_dup 15 rfl rfl rfl ?_
  refine qr_iconst 16 rfl rfl ?_
  refine qr_bipush 18 rfl (by decide) rfl ?_
  refine qr_iist1 ha 19 rfl (by omega) (by omega) rfl ?_
  refine qr_dup 20 rfl rfl rfl ?_
  refine qr_iconst 21 rfl rfl ?_
  refine qr_bipush 23 rfl (by decide) rfl ?_
  refine qr_iist1 ha 24 rfl (by omega) (by omega) rfl ?_
  refine qr_dup 25 rfl rfl rfl ?_
  refine qr_iconst 26 rfl rfl ?_
  refine qr_bipush 28 rfl (by decide) rfl ?_
  refine qr_iist1 ha 29 rfl (by omega) (by omega) rfl ?_
  refine qr_dup 30 rfl rfl rfl ?_
  refine qr_iconst 31 rfl rfl ?_
  refine qr_bipush 33 rfl (by decide) rfl ?_
  refine qr_iist1 ha 34 rfl (by omega) (by omega) rfl ?_
  refine qr_dup 35 rfl rfl rfl ?_
  refine qr_iconst 36 rfl rfl ?_
  refine qr_bipush 38 rfl (by decide) rfl ?_
  refine qr_iist1 ha 39 rfl (by omega) (by omega) rfl ?_
  refine qr_iput ha [.ref (a + 1), .null, .null, .null] 42 rfl (Nat.le_of_ble_eq_true rfl) (Nat.le_of_ble_eq_true rfl) (Or.inr ⟨by decide, rfl⟩) (qr_fitR (Or.inr ⟨_, rfl⟩) _) rfl rfl ?_
  refine qr_aload_n 43 rfl rfl rfl ?_
  refine qr_bipush 45 rfl (by decide) rfl ?_
  refine qr_inewI ha [.inr (6, [.ref (a + 1), .null, .null, .null]), .inl (.int, 6, .inl (qzf (qzu (qzu (qzu (qzu (qzu (qzu (fun _ => 0) (0 : Int).toNat 6) (1 : Int).toNat 6) (2 : Int).toNat 6) (3 : Int).toNat 6) (4 : Int).toNat 6) (5 : Int).toNat 6))), .inl (.int, 6, .inl (qzf (fun _ => 0)))] 47 2 12 2 rfl (by decide) (Nat.le_of_ble_eq_true rfl) (Nat.le_of_ble_eq_true rfl) rfl rfl rfl rfl rfl ?_
  refine qr_iput ha [.ref (a + 1), .ref (a + 2), .null, .null] 50 rfl (Nat.le_of_ble_eq_true rfl) (Nat.le_of_ble_eq_true rfl) (Or.inr ⟨by decide, rfl⟩) (qr_fitR (Or.inr ⟨_, rfl⟩) _) rfl rfl ?_
  refine qr_aload_n 51 rfl rfl rfl ?_
  refine qr_bipush 53 rfl (by decide) rfl ?_
  refine qr_inewI ha [.inr (6, [.ref (a + 1), .ref (a + 2), .null, .null]), .inl (.int, 6, .inl (qzf (qzu (qzu (qzu (qzu (qzu (qzu (fun _ => 0) (0 : Int).toNat 6) (1 : Int).toNat 6) (2 : Int).toNat 6) (3 : Int).toNat 6) (4 : Int).toNat 6) (5 : Int).toNat 6))), .inl (.int, 6, .inl (qzf (fun _ => 0))), .inl (.int, 6, .inl (qzf (fun _ => 0)))] 55 3 18 3 rfl (by decide) (Nat.le_of_ble_eq_true rfl) (Nat.le_of_ble_eq_true rfl) rfl rfl rfl rfl rfl ?_
  refine qr_iput ha [.ref (a + 1), .ref (a + 2), .ref (a + 3), .null] 58 rfl (Nat.le_of_ble_eq_true rfl) (Nat.le_of_ble_eq_true rfl) (Or.inr ⟨by decide, rfl⟩) (qr_fitR (Or.inr ⟨_, rfl⟩) _) rfl rfl ?_
  refine qr_aload_n 59 rfl rfl rfl ?_
  refine qr_sipush 62 rfl (by decide) rfl ?_
  refine qr_inewL ha [.inr (6, [.ref (a + 1), .ref (a + 2), .ref (a + 3), .null]), .inl (.int, 6, .inl (qzf (qzu (qzu (qzu (qzu (qzu (qzu (fun _ => 0) (0 : Int).toNat 6) (1 : Int).toNat 6) (2 : Int).toNat 6) (3 : Int).toNat 6) (4 : Int).toNat 6) (5 : Int).toNat 6))), .inl (.int, 6, .inl (qzf (fun _ => 0))), .inl (.int, 6, .inl (qzf (fun _ => 0))), .inl (.long, 360, .inr (.inl (qlf (fun _ => 0))))] 64 4 378 4 rfl (by decide) (Nat.le_of_ble_eq_true rfl) (Nat.le_of_ble_eq_true rfl) rfl rfl rfl rfl rfl ?_
  refine qr_iput ha [.ref (a + 1), .ref (a + 2), .ref (a + 3), .ref (a + 4)] 67 rfl (Nat.le_of_ble_eq_true rfl) (Nat.le_of_ble_eq_true rfl) (Or.inr ⟨by decide, rfl⟩) (qr_fitR (Or.inr ⟨_, rfl⟩) _) rfl rfl ?_
  refine qr_retV rfl rfl (Nat.le_of_ble_eq_true rfl) (Nat.le_of_ble_eq_true rfl) ?_
  exact ⟨rfl, rfl⟩

set_option maxHeartbeats 2000000 in
set_option maxRecDepth 20000 in
/-- Moment.<init> -/
theorem si_Moment {X : qm_X} {d : Nat} {u : qm_W} {a : Nat} {b1 b2 b3 b4 b5 : Nat} (ha : a = 16 + u.length)  : qm_T X (d + 1) 34 [.ref a, .ref b1, .ref b2, .ref b3, .ref b4, .ref b5] (u ++ [.inr (8, [.null, .null, .null, .null, .null, .null, .null, .null, .null, .null, .long (ql 0), .int (qz 0), .int (qz 0)])]) (fun r w' => r = none ∧ w' = u ++ [.inr (8, [.ref b1, .ref b2, .ref b3, .ref b4, .ref b5, .ref (a + 1), .ref (a + 2), .ref (a + 3), .ref (a + 4), .ref (a + 5), .long (ql 0), .int (qz 0), .int (qz 0)]), .inl (.int, 9, .inl (qzf (fun _ => 0))), .inl (.int, 496, .inl (qzf (fun _ => 0))), .inl (.int, 496, .inl (qzf (fun _ => 0))), .inl (.long, 496, .inr (.inl (qlf (fun _ => 0)))), .inl (.int, 496, .inl (qzf (fun _ => 0)))]) := by
  refine qr_start (d := d + 0) qv_e34 (Nat.le_of_ble_eq_true rfl) ?_
  show qr_W X (d + 0) qx_e34 _ (0, [(0, .ref a), (1, .ref b1), (2, .ref b2), (3, .ref b3), (4, .ref b4), (5, .ref b5)], [], u ++ [.inr (8, [.null, .null, .null, .null, .null, .null, .null, .null, .null, .null, .long (ql 0), .int (qz 0), .int (qz 0)])], 0, 0)
  refine qr_aload_n 1 rfl rfl rfl ?_
  refine qr_objinit 4 rfl (by decide) rfl ?_
  refine qr_aload_n 5 rfl rfl rfl ?_
  refine qr_bipush 7 rfl (by decide) rfl ?_
  refine qr_inewI ha [.inr (8, [.null, .null, .null, .null, .null, .null, .null, .null, .null, .null, .long (ql 0), .int (qz 0), .int (qz 0)]), .inl (.int, 9, .inl (qzf (fun _ => 0)))] 9 1 9 1 rfl (by decide) (Nat.le_of_ble_eq_true rfl) (Nat.le_of_ble_eq_true rfl) rfl rfl rfl rfl rfl ?_
  refine qr_iput ha [.null, .null, .null, .null, .null, .ref (a + 1), .null, .null, .null, .null, .long (ql 0), .int (qz 0), .int (qz 0)] 12 rfl (Nat.le_of_ble_eq_true rfl) (Nat.le_of_ble_eq_true rfl) (Or.inr ⟨by decide, rfl⟩) (qr_fitR (Or.inr ⟨_, rfl⟩) _) rfl rfl ?_
  refine qr_aload_n 13 rfl rfl rfl ?_
  refine qr_sipush 16 rfl (by decide) rfl ?_
  refine qr_inewI ha [.inr (8, [.null, .null, .null, .null, .null, .ref (a + 1), .null, .null, .null, .null, .long (ql 0), .int (qz 0), .int (qz 0)]), .inl (.int, 9, .inl (qzf (fun _ => 0))), .inl (.int, 496, .inl (qzf (fun _ => 0)))] 18 2 505 2 rfl (by decide) (Nat.le_of_ble_eq_true rfl) (Nat.le_of_ble_eq_true rfl) rfl rfl rfl rfl rfl ?_
  refine qr_iput ha [.null, .null, .null, .null, .null, .ref (a + 1), .ref (a + 2), .null, .null, .null, .long (ql 0), .int (qz 0), .int (qz 0)] 21 rfl (Nat.le_of_ble_eq_true rfl) (Nat.le_of_ble_eq_true rfl) (Or.inr ⟨by decide, rfl⟩) (qr_fitR (Or.inr ⟨_, rfl⟩) _) rfl rfl ?_
  refine qr_aload_n 22 rfl rfl rfl ?_
  refine qr_sipush 25 rfl (by decide) rfl ?_
  refine qr_inewI ha [.inr (8, [.null, .null, .null, .null, .null, .ref (a + 1), .ref (a + 2), .null, .null, .null, .long (ql 0), .int (qz 0), .int (qz 0)]), .inl (.int, 9, .inl (qzf (fun _ => 0))), .inl (.int, 496, .inl (qzf (fun _ => 0))), .inl (.int, 496, .inl (qzf (fun _ => 0)))] 27 3 1001 3 rfl (by decide) (Nat.le_of_ble_eq_true rfl) (Nat.le_of_ble_eq_true rfl) rfl rfl rfl rfl rfl ?_
  refine qr_iput ha [.null, .null, .null, .null, .null, .ref (a + 1), .ref (a + 2), .ref (a + 3), .null, .null, .long (ql 0), .int (qz 0), .int (qz 0)] 30 rfl (Nat.le_of_ble_eq_true rfl) (Nat.le_of_ble_eq_true rfl) (Or.inr ⟨by decide, rfl⟩) (qr_fitR (Or.inr ⟨_, rfl⟩) _) rfl rfl ?_
  refine qr_aload_n 31 rfl rfl rfl ?_
  refine qr_sipush 34 rfl (by decide) rfl ?_
  refine qr_inewL ha [.inr (8, [.null, .null, .null, .null, .null, .ref (a + 1), .ref (a + 2), .ref (a + 3), .null, .null, .long (ql 0), .int (qz 0), .int (qz 0)]), .inl (.int, 9, .inl (qzf (fun _ => 0))), .inl (.int, 496, .inl (qzf (fun _ => 0))), .inl (.int, 496, .inl (qzf (fun _ => 0))), .inl (.long, 496, .inr (.inl (qlf (fun _ => 0))))] 36 4 1497 4 rfl (by decide) (Nat.le_of_ble_eq_true rfl) (Nat.le_of_ble_eq_true rfl) rfl rfl rfl rfl rfl ?_
  refine qr_iput ha [.null, .null, .null, .null, .null, .ref (a + 1), .ref (a + 2), .ref (a + 3), .ref (a + 4), .null, .long (ql 0), .int (qz 0), .int (qz 0)] 39 rfl (Nat.le_of_ble_eq_true rfl) (Nat.le_of_ble_eq_true rfl) (Or.inr ⟨by decide, rfl⟩) (qr_fitR (Or.inr ⟨_, rfl⟩) _) rfl rfl ?_
  refine qr_aload_n 40 rfl rfl rfl ?_
  refine qr_sipush 43 rfl (by decide) rfl ?_
  refine qr_inewI ha [.inr (8, [.null, .null, .null, .null, .null, .ref (a + 1), .ref (a + 2), .ref (a + 3), .ref (a + 4), .null, .long (ql 0), .int (qz 0), .int (qz 0)]), .inl (.int, 9, .inl (qzf (fun _ => 0))), .inl (.int, 496, .inl (qzf (fun _ => 0))), .inl (.int, 496, .inl (qzf (fun _ => 0))), .inl (.long, 496, .inr (.inl (qlf (fun _ => 0)))), .inl (.int, 496, .inl (qzf (fun _ => 0)))] 45 5 1993 5 rfl (by decide) (Nat.le_of_ble_eq_true rfl) (Nat.le_of_ble_eq_true rfl) rfl rfl rfl rfl rfl ?_
  refine qr_iput ha [.null, .null, .null, .null, .null, .ref (a + 1), .ref (a + 2), .ref (a + 3), .ref (a + 4), .ref (a + 5), .long (ql 0), .int (qz 0), .int (qz 0)] 48 rfl (Nat.le_of_ble_eq_true rfl) (Nat.le_of_ble_eq_true rfl) (Or.inr ⟨by decide, rfl⟩) (qr_fitR (Or.inr ⟨_, rfl⟩) _) rfl rfl ?_
  refine qr_aload_n 49 rfl rfl rfl ?_
  refine qr_lconst 50 rfl rfl ?_
  refine qr_iput ha [.null, .null, .null, .null, .null, .ref (a + 1), .ref (a + 2), .ref (a + 3), .ref (a + 4), .ref (a + 5), .long (ql 0), .int (qz 0), .int (qz 0)] 53 rfl (Nat.le_of_ble_eq_true rfl) (Nat.le_of_ble_eq_true rfl) (Or.inl rfl) (qr_fitL rfl _) rfl rfl ?_
  refine qr_aload_n 54 rfl rfl rfl ?_
  refine qr_iconst 55 rfl rfl ?_
  refine qr_iput ha [.null, .null, .null, .null, .null, .ref (a + 1), .ref (a + 2), .ref (a + 3), .ref (a + 4), .ref (a + 5), .long (ql 0), .int (qz 0), .int (qz 0)] 58 rfl (Nat.le_of_ble_eq_true rfl) (Nat.le_of_ble_eq_true rfl) (Or.inl rfl) (qr_fitI rfl _) rfl rfl ?_
  refine qr_aload_n 59 rfl rfl rfl ?_
  refine qr_iconst 60 rfl rfl ?_
  refine qr_iput ha [.null, .null, .null, .null, .null, .ref (a + 1), .ref (a + 2), .ref (a + 3), .ref (a + 4), .ref (a + 5), .long (ql 0), .int (qz 0), .int (qz 0)] 63 rfl (Nat.le_of_ble_eq_true rfl) (Nat.le_of_ble_eq_true rfl) (Or.inl rfl) (qr_fitI rfl _) rfl rfl ?_
  refine qr_aload_n 64 rfl rfl rfl ?_
  refine qr_aload_n 65 rfl rfl rfl ?_
  refine qr_iput ha [.ref b1, .null, .null, .null, .null, .ref (a + 1), .ref (a + 2), .ref (a + 3), .ref (a + 4), .ref (a + 5), .long (ql 0), .int (qz 0), .int (qz 0)] 68 rfl (Nat.le_of_ble_eq_true rfl) (Nat.le_of_ble_eq_true rfl) (Or.inr ⟨by decide, rfl⟩) (qr_fitR (Or.inl ⟨_, rfl⟩) _) rfl rfl ?_
  refine qr_aload_n 69 rfl rfl rfl ?_
  refine qr_aload_n 70 rfl rfl rfl ?_
  refine qr_iput ha [.ref b1, .ref b2, .null, .null, .null, .ref (a + 1), .ref (a + 2), .ref (a + 3), .ref (a + 4), .ref (a + 5), .long (ql 0), .int (qz 0), .int (qz 0)] 73 rfl (Nat.le_of_ble_eq_true rfl) (Nat.le_of_ble_eq_true rfl) (Or.inr ⟨by decide, rfl⟩) (qr_fitR (Or.inl ⟨_, rfl⟩) _) rfl rfl ?_
  refine qr_aload_n 74 rfl rfl rfl ?_
  refine qr_aload_n 75 rfl rfl rfl ?_
  refine qr_iput ha [.ref b1, .ref b2, .ref b3, .null, .null, .ref (a + 1), .ref (a + 2), .ref (a + 3), .ref (a + 4), .ref (a + 5), .long (ql 0), .int (qz 0), .int (qz 0)] 78 rfl (Nat.le_of_ble_eq_true rfl) (Nat.le_of_ble_eq_true rfl) (Or.inr ⟨by decide, rfl⟩) (qr_fitR (Or.inl ⟨_, rfl⟩) _) rfl rfl ?_
  refine qr_aload_n 79 rfl rfl rfl ?_
  refine qr_aload 81 rfl rfl rfl ?_
  refine qr_iput ha [.ref b1, .ref b2, .ref b3, .ref b4, .null, .ref (a + 1), .ref (a + 2), .ref (a + 3), .ref (a + 4), .ref (a + 5), .long (ql 0), .int (qz 0), .int (qz 0)] 84 rfl (Nat.le_of_ble_eq_true rfl) (Nat.le_of_ble_eq_true rfl) (Or.inr ⟨by decide, rfl⟩) (qr_fitR (Or.inl ⟨_, rfl⟩) _) rfl rfl ?_
  refine qr_aload_n 85 rfl rfl rfl ?_
  refine qr_aload 87 rfl rfl rfl ?_
  refine qr_iput ha [.ref b1, .ref b2, .ref b3, .ref b4, .ref b5, .ref (a + 1), .ref (a + 2), .ref (a + 3), .ref (a + 4), .ref (a + 5), .long (ql 0), .int (qz 0), .int (qz 0)] 90 rfl (Nat.le_of_ble_eq_true rfl) (Nat.le_of_ble_eq_true rfl) (Or.inr ⟨by decide, rfl⟩) (qr_fitR (Or.inr ⟨_, rfl⟩) _) rfl rfl ?_
  refine qr_retV rfl rfl (Nat.le_of_ble_eq_true rfl) (Nat.le_of_ble_eq_true rfl) ?_
  exact ⟨rfl, rfl⟩

set_option maxHeartbeats 2000000 in
set_option maxRecDepth 20000 in
/-- Guests.<init> -/
theorem si_Guests {X : qm_X} {d : Nat} {u : qm_W} {a : Nat} {b1 : Nat} (ha : a = 16 + u.length)  : qm_T X (d + 1) 35 [.ref a, .ref b1] (u ++ [.inr (9, [.null, .null, .int (qz 0), .null, .null, .null, .null, .int (qz 0)])]) (fun r w' => r = none ∧ w' = u ++ [.inr (9, [.ref b1, .ref (a + 1), .int (qz 0), .ref (a + 2), .ref (a + 3), .ref (a + 4), .ref (a + 5), .int (qz 0)]), .inl (.int, 12, .inl (qzf (fun _ => 0))), .inl (.int, 12, .inl (qzf (fun _ => 0))), .inl (.int, 4096, .inl (qzf (fun _ => 0))), .inl (.int, 36, .inl (qzf (fun _ => 0))), .inl (.int, 6, .inl (qzf (fun _ => 0)))]) := by
  refine qr_start (d := d + 0) qv_e35 (Nat.le_of_ble_eq_true rfl) ?_
  show qr_W X (d + 0) qx_e35 _ (0, [(0, .ref a), (1, .ref b1)], [], u ++ [.inr (9, [.null, .null, .int (qz 0), .null, .null, .null, .null, .int (qz 0)])], 0, 0)
  refine qr_aload_n 1 rfl rfl rfl ?_
  refine qr_objinit 4 rfl (by decide) rfl ?_
  refine qr_aload_n 5 rfl rfl rfl ?_
  refine qr_bipush 7 rfl (by decide) rfl ?_
  refine qr_inewI ha [.inr (9, [.null, .null, .int (qz 0), .null, .null, .null, .null, .int (qz 0)]), .inl (.int, 12, .inl (qzf (fun _ => 0)))] 9 1 12 1 rfl (by decide) (Nat.le_of_ble_eq_true rfl) (Nat.le_of_ble_eq_true rfl) rfl rfl rfl rfl rfl ?_
  refine qr_iput ha [.null, .ref (a + 1), .int (qz 0), .null, .null, .null, .null, .int (qz 0)] 12 rfl (Nat.le_of_ble_eq_true rfl) (Nat.le_of_ble_eq_true rfl) (Or.inr ⟨by decide, rfl⟩) (qr_fitR (Or.inr ⟨_, rfl⟩) _) rfl rfl ?_
  refine qr_aload_n 13 rfl rfl rfl ?_
  refine qr_iconst 14 rfl rfl ?_
  refine qr_iput ha [.null, .ref (a + 1), .int (qz 0), .null, .null, .null, .null, .int (qz 0)] 17 rfl (Nat.le_of_ble_eq_true rfl) (Nat.le_of_ble_eq_true rfl) (Or.inl rfl) (qr_fitI rfl _) rfl rfl ?_
  refine qr_aload_n 18 rfl rfl rfl ?_
  refine qr_bipush 20 rfl (by decide) rfl ?_
  refine qr_inewI ha [.inr (9, [.null, .ref (a + 1), .int (qz 0), .null, .null, .null, .null, .int (qz 0)]), .inl (.int, 12, .inl (qzf (fun _ => 0))), .inl (.int, 12, .inl (qzf (fun _ => 0)))] 22 2 24 2 rfl (by decide) (Nat.le_of_ble_eq_true rfl) (Nat.le_of_ble_eq_true rfl) rfl rfl rfl rfl rfl ?_
  refine qr_iput ha [.null, .ref (a + 1), .int (qz 0), .ref (a + 2), .null, .null, .null, .int (qz 0)] 25 rfl (Nat.le_of_ble_eq_true rfl) (Nat.le_of_ble_eq_true rfl) (Or.inr ⟨by decide, rfl⟩) (qr_fitR (Or.inr ⟨_, rfl⟩) _) rfl rfl ?_
  refine qr_aload_n 26 rfl rfl rfl ?_
  refine qr_sipush 29 rfl (by decide) rfl ?_
  refine qr_inewI ha [.inr (9, [.null, .ref (a + 1), .int (qz 0), .ref (a + 2), .null, .null, .null, .int (qz 0)]), .inl (.int, 12, .inl (qzf (fun _ => 0))), .inl (.int, 12, .inl (qzf (fun _ => 0))), .inl (.int, 4096, .inl (qzf (fun _ => 0)))] 31 3 4120 3 rfl (by decide) (Nat.le_of_ble_eq_true rfl) (Nat.le_of_ble_eq_true rfl) rfl rfl rfl rfl rfl ?_
  refine qr_iput ha [.null, .ref (a + 1), .int (qz 0), .ref (a + 2), .ref (a + 3), .null, .null, .int (qz 0)] 34 rfl (Nat.le_of_ble_eq_true rfl) (Nat.le_of_ble_eq_true rfl) (Or.inr ⟨by decide, rfl⟩) (qr_fitR (Or.inr ⟨_, rfl⟩) _) rfl rfl ?_
  refine qr_aload_n 35 rfl rfl rfl ?_
  refine qr_bipush 37 rfl (by decide) rfl ?_
  refine qr_inewI ha [.inr (9, [.null, .ref (a + 1), .int (qz 0), .ref (a + 2), .ref (a + 3), .null, .null, .int (qz 0)]), .inl (.int, 12, .inl (qzf (fun _ => 0))), .inl (.int, 12, .inl (qzf (fun _ => 0))), .inl (.int, 4096, .inl (qzf (fun _ => 0))), .inl (.int, 36, .inl (qzf (fun _ => 0)))] 39 4 4156 4 rfl (by decide) (Nat.le_of_ble_eq_true rfl) (Nat.le_of_ble_eq_true rfl) rfl rfl rfl rfl rfl ?_
  refine qr_iput ha [.null, .ref (a + 1), .int (qz 0), .ref (a + 2), .ref (a + 3), .ref (a + 4), .null, .int (qz 0)] 42 rfl (Nat.le_of_ble_eq_true rfl) (Nat.le_of_ble_eq_true rfl) (Or.inr ⟨by decide, rfl⟩) (qr_fitR (Or.inr ⟨_, rfl⟩) _) rfl rfl ?_
  refine qr_aload_n 43 rfl rfl rfl ?_
  refine qr_bipush 45 rfl (by decide) rfl ?_
  refine qr_inewI ha [.inr (9, [.null, .ref (a + 1), .int (qz 0), .ref (a + 2), .ref (a + 3), .ref (a + 4), .null, .int (qz 0)]), .inl (.int, 12, .inl (qzf (fun _ => 0))), .inl (.int, 12, .inl (qzf (fun _ => 0))), .inl (.int, 4096, .inl (qzf (fun _ => 0))), .inl (.int, 36, .inl (qzf (fun _ => 0))), .inl (.int, 6, .inl (qzf (fun _ => 0)))] 47 5 4162 5 rfl (by decide) (Nat.le_of_ble_eq_true rfl) (Nat.le_of_ble_eq_true rfl) rfl rfl rfl rfl rfl ?_
  refine qr_iput ha [.null, .ref (a + 1), .int (qz 0), .ref (a + 2), .ref (a + 3), .ref (a + 4), .ref (a + 5), .int (qz 0)] 50 rfl (Nat.le_of_ble_eq_true rfl) (Nat.le_of_ble_eq_true rfl) (Or.inr ⟨by decide, rfl⟩) (qr_fitR (Or.inr ⟨_, rfl⟩) _) rfl rfl ?_
  refine qr_aload_n 51 rfl rfl rfl ?_
  refine qr_iconst 52 rfl rfl ?_
  refine qr_iput ha [.null, .ref (a + 1), .int (qz 0), .ref (a + 2), .ref (a + 3), .ref (a + 4), .ref (a + 5), .int (qz 0)] 55 rfl (Nat.le_of_ble_eq_true rfl) (Nat.le_of_ble_eq_true rfl) (Or.inl rfl) (qr_fitI rfl _) rfl rfl ?_
  refine qr_aload_n 56 rfl rfl rfl ?_
  refine qr_aload_n 57 rfl rfl rfl ?_
  refine qr_iput ha [.ref b1, .ref (a + 1), .int (qz 0), .ref (a + 2), .ref (a + 3), .ref (a + 4), .ref (a + 5), .int (qz 0)] 60 rfl (Nat.le_of_ble_eq_true rfl) (Nat.le_of_ble_eq_true rfl) (Or.inr ⟨by decide, rfl⟩) (qr_fitR (Or.inl ⟨_, rfl⟩) _) rfl rfl ?_
  refine qr_retV rfl rfl (Nat.le_of_ble_eq_true rfl) (Nat.le_of_ble_eq_true rfl) ?_
  exact ⟨rfl, rfl⟩

set_option maxHeartbeats 2000000 in
set_option maxRecDepth 20000 in
/-- Telling.<init> -/
theorem si_Telling {X : qm_X} {d : Nat} {u : qm_W} {a : Nat} {b1 : Nat} (ha : a = 16 + u.length)  : qm_T X (d + 1) 36 [.ref a, .ref b1] (u ++ [.inr (10, [.null, .null, .int (qz 0), .long (ql 0), .null, .int (qz 0), .long (ql 0)])]) (fun r w' => r = none ∧ w' = u ++ [.inr (10, [.ref b1, .ref (a + 1), .int (qz 0), .long (ql 0), .ref (a + 2), .int (qz 0), .long (ql 0)]), .inl (.int, 31, .inl (qzf (fun _ => 0))), .inl (.int, 60, .inl (qzf (fun _ => 0)))]) := by
  refine qr_start (d := d + 0) qv_e36 (Nat.le_of_ble_eq_true rfl) ?_
  show qr_W X (d + 0) qx_e36 _ (0, [(0, .ref a), (1, .ref b1)], [], u ++ [.inr (10, [.null, .null, .int (qz 0), .long (ql 0), .null, .int (qz 0), .long (ql 0)])], 0, 0)
  refine qr_aload_n 1 rfl rfl rfl ?_
  refine qr_objinit 4 rfl (by decide) rfl ?_
  refine qr_aload_n 5 rfl rfl rfl ?_
  refine qr_bipush 7 rfl (by decide) rfl ?_
  refine qr_inewI ha [.inr (10, [.null, .null, .int (qz 0), .long (ql 0), .null, .int (qz 0), .long (ql 0)]), .inl (.int, 31, .inl (qzf (fun _ => 0)))] 9 1 31 1 rfl (by decide) (Nat.le_of_ble_eq_true rfl) (Nat.le_of_ble_eq_true rfl) rfl rfl rfl rfl rfl ?_
  refine qr_iput ha [.null, .ref (a + 1), .int (qz 0), .long (ql 0), .null, .int (qz 0), .long (ql 0)] 12 rfl (Nat.le_of_ble_eq_true rfl) (Nat.le_of_ble_eq_true rfl) (Or.inr ⟨by decide, rfl⟩) (qr_fitR (Or.inr ⟨_, rfl⟩) _) rfl rfl ?_
  refine qr_aload_n 13 rfl rfl rfl ?_
  refine qr_iconst 14 rfl rfl ?_
  refine qr_iput ha [.null, .ref (a + 1), .int (qz 0), .long (ql 0), .null, .int (qz 0), .long (ql 0)] 17 rfl (Nat.le_of_ble_eq_true rfl) (Nat.le_of_ble_eq_true rfl) (Or.inl rfl) (qr_fitI rfl _) rfl rfl ?_
  refine qr_aload_n 18 rfl rfl rfl ?_
  refine qr_lconst 19 rfl rfl ?_
  refine qr_iput ha [.null, .ref (a + 1), .int (qz 0), .long (ql 0), .null, .int (qz 0), .long (ql 0)] 22 rfl (Nat.le_of_ble_eq_true rfl) (Nat.le_of_ble_eq_true rfl) (Or.inl rfl) (qr_fitL rfl _) rfl rfl ?_
  refine qr_aload_n 23 rfl rfl rfl ?_
  refine qr_bipush 25 rfl (by decide) rfl ?_
  refine qr_inewI ha [.inr (10, [.null, .ref (a + 1), .int (qz 0), .long (ql 0), .null, .int (qz 0), .long (ql 0)]), .inl (.int, 31, .inl (qzf (fun _ => 0))), .inl (.int, 60, .inl (qzf (fun _ => 0)))] 27 2 91 2 rfl (by decide) (Nat.le_of_ble_eq_true rfl) (Nat.le_of_ble_eq_true rfl) rfl rfl rfl rfl rfl ?_
  refine qr_iput ha [.null, .ref (a + 1), .int (qz 0), .long (ql 0), .ref (a + 2), .int (qz 0), .long (ql 0)] 30 rfl (Nat.le_of_ble_eq_true rfl) (Nat.le_of_ble_eq_true rfl) (Or.inr ⟨by decide, rfl⟩) (qr_fitR (Or.inr ⟨_, rfl⟩) _) rfl rfl ?_
  refine qr_aload_n 31 rfl rfl rfl ?_
  refine qr_iconst 32 rfl rfl ?_
  refine qr_iput ha [.null, .ref (a + 1), .int (qz 0), .long (ql 0), .ref (a + 2), .int (qz 0), .long (ql 0)] 35 rfl (Nat.le_of_ble_eq_true rfl) (Nat.le_of_ble_eq_true rfl) (Or.inl rfl) (qr_fitI rfl _) rfl rfl ?_
  refine qr_aload_n 36 rfl rfl rfl ?_
  refine qr_lconst 37 rfl rfl ?_
  refine qr_iput ha [.null, .ref (a + 1), .int (qz 0), .long (ql 0), .ref (a + 2), .int (qz 0), .long (ql 0)] 40 rfl (Nat.le_of_ble_eq_true rfl) (Nat.le_of_ble_eq_true rfl) (Or.inl rfl) (qr_fitL rfl _) rfl rfl ?_
  refine qr_aload_n 41 rfl rfl rfl ?_
  refine qr_aload_n 42 rfl rfl rfl ?_
  refine qr_iput ha [.ref b1, .ref (a + 1), .int (qz 0), .long (ql 0), .ref (a + 2), .int (qz 0), .long (ql 0)] 45 rfl (Nat.le_of_ble_eq_true rfl) (Nat.le_of_ble_eq_true rfl) (Or.inr ⟨by decide, rfl⟩) (qr_fitR (Or.inl ⟨_, rfl⟩) _) rfl rfl ?_
  refine qr_retV rfl rfl (Nat.le_of_ble_eq_true rfl) (Nat.le_of_ble_eq_true rfl) ?_
  exact ⟨rfl, rfl⟩

set_option maxHeartbeats 2000000 in
set_option maxRecDepth 20000 in
/-- History.<init> -/
theorem si_History {X : qm_X} {d : Nat} {u : qm_W} {a : Nat} {b1 b2 b3 : Nat} (ha : a = 16 + u.length)  : qm_T X (d + 1) 37 [.ref a, .ref b1, .ref b2, .ref b3] (u ++ [.inr (11, [.null, .null, .null, .null, .null, .null, .null, .int (qz 0), .int (qz 0)])]) (fun r w' => r = none ∧ w' = u ++ [.inr (11, [.ref b1, .ref b2, .ref b3, .ref (a + 1), .ref (a + 2), .ref (a + 3), .ref (a + 4), .int (qz 0), .int (qz 0)]), .inl (.int, 40, .inl (qzf (fun _ => 0))), .inl (.int, 40, .inl (qzf (fun _ => 0))), .inl (.int, 40, .inl (qzf (fun _ => 0))), .inl (.int, 40, .inl (qzf (fun _ => 0)))]) := by
  refine qr_start (d := d + 0) qv_e37 (Nat.le_of_ble_eq_true rfl) ?_
  show qr_W X (d + 0) qx_e37 _ (0, [(0, .ref a), (1, .ref b1), (2, .ref b2), (3, .ref b3)], [], u ++ [.inr (11, [.null, .null, .null, .null, .null, .null, .null, .int (qz 0), .int (qz 0)])], 0, 0)
  refine qr_aload_n 1 rfl rfl rfl ?_
  refine qr_objinit 4 rfl (by decide) rfl ?_
  refine qr_aload_n 5 rfl rfl rfl ?_
  refine qr_bipush 7 rfl (by decide) rfl ?_
  refine qr_inewI ha [.inr (11, [.null, .null, .null, .null, .null, .null, .null, .int (qz 0), .int (qz 0)]), .inl (.int, 40, .inl (qzf (fun _ => 0)))] 9 1 40 1 rfl (by decide) (Nat.le_of_ble_eq_true rfl) (Nat.le_of_ble_eq_true rfl) rfl rfl rfl rfl rfl ?_
  refine qr_iput ha [.null, .null, .null, .ref (a + 1), .null, .null, .null, .int (qz 0), .int (qz 0)] 12 rfl (Nat.le_of_ble_eq_true rfl) (Nat.le_of_ble_eq_true rfl) (Or.inr ⟨by decide, rfl⟩) (qr_fitR (Or.inr ⟨_, rfl⟩) _) rfl rfl ?_
  refine qr_aload_n 13 rfl rfl rfl ?_
  refine qr_bipush 15 rfl (by decide) rfl ?_
  refine qr_inewI ha [.inr (11, [.null, .null, .null, .ref (a + 1), .null, .null, .null, .int (qz 0), .int (qz 0)]), .inl (.int, 40, .inl (qzf (fun _ => 0))), .inl (.int, 40, .inl (qzf (fun _ => 0)))] 17 2 80 2 rfl (by decide) (Nat.le_of_ble_eq_true rfl) (Nat.le_of_ble_eq_true rfl) rfl rfl rfl rfl rfl ?_
  refine qr_iput ha [.null, .null, .null, .ref (a + 1), .ref (a + 2), .null, .null, .int (qz 0), .int (qz 0)] 20 rfl (Nat.le_of_ble_eq_true rfl) (Nat.le_of_ble_eq_true rfl) (Or.inr ⟨by decide, rfl⟩) (qr_fitR (Or.inr ⟨_, rfl⟩) _) rfl rfl ?_
  refine qr_aload_n 21 rfl rfl rfl ?_
  refine qr_bipush 23 rfl (by decide) rfl ?_
  refine qr_inewI ha [.inr (11, [.null, .null, .null, .ref (a + 1), .ref (a + 2), .null, .null, .int (qz 0), .int (qz 0)]), .inl (.int, 40, .inl (qzf (fun _ => 0))), .inl (.int, 40, .inl (qzf (fun _ => 0))), .inl (.int, 40, .inl (qzf (fun _ => 0)))] 25 3 120 3 rfl (by decide) (Nat.le_of_ble_eq_true rfl) (Nat.le_of_ble_eq_true rfl) rfl rfl rfl rfl rfl ?_
  refine qr_iput ha [.null, .null, .null, .ref (a + 1), .ref (a + 2), .ref (a + 3), .null, .int (qz 0), .int (qz 0)] 28 rfl (Nat.le_of_ble_eq_true rfl) (Nat.le_of_ble_eq_true rfl) (Or.inr ⟨by decide, rfl⟩) (qr_fitR (Or.inr ⟨_, rfl⟩) _) rfl rfl ?_
  refine qr_aload_n 29 rfl rfl rfl ?_
  refine qr_bipush 31 rfl (by decide) rfl ?_
  refine qr_inewI ha [.inr (11, [.null, .null, .null, .ref (a + 1), .ref (a + 2), .ref (a + 3), .null, .int (qz 0), .int (qz 0)]), .inl (.int, 40, .inl (qzf (fun _ => 0))), .inl (.int, 40, .inl (qzf (fun _ => 0))), .inl (.int, 40, .inl (qzf (fun _ => 0))), .inl (.int, 40, .inl (qzf (fun _ => 0)))] 33 4 160 4 rfl (by decide) (Nat.le_of_ble_eq_true rfl) (Nat.le_of_ble_eq_true rfl) rfl rfl rfl rfl rfl ?_
  refine qr_iput ha [.null, .null, .null, .ref (a + 1), .ref (a + 2), .ref (a + 3), .ref (a + 4), .int (qz 0), .int (qz 0)] 36 rfl (Nat.le_of_ble_eq_true rfl) (Nat.le_of_ble_eq_true rfl) (Or.inr ⟨by decide, rfl⟩) (qr_fitR (Or.inr ⟨_, rfl⟩) _) rfl rfl ?_
  refine qr_aload_n 37 rfl rfl rfl ?_
  refine qr_iconst 38 rfl rfl ?_
  refine qr_iput ha [.null, .null, .null, .ref (a + 1), .ref (a + 2), .ref (a + 3), .ref (a + 4), .int (qz 0), .int (qz 0)] 41 rfl (Nat.le_of_ble_eq_true rfl) (Nat.le_of_ble_eq_true rfl) (Or.inl rfl) (qr_fitI rfl _) rfl rfl ?_
  refine qr_aload_n 42 rfl rfl rfl ?_
  refine qr_iconst 43 rfl rfl ?_
  refine qr_iput ha [.null, .null, .null, .ref (a + 1), .ref (a + 2), .ref (a + 3), .ref (a + 4), .int (qz 0), .int (qz 0)] 46 rfl (Nat.le_of_ble_eq_true rfl) (Nat.le_of_ble_eq_true rfl) (Or.inl rfl) (qr_fitI rfl _) rfl rfl ?_
  refine qr_aload_n 47 rfl rfl rfl ?_
  refine qr_aload_n 48 rfl rfl rfl ?_
  refine qr_iput ha [.ref b1, .null, .null, .ref (a + 1), .ref (a + 2), .ref (a + 3), .ref (a + 4), .int (qz 0), .int (qz 0)] 51 rfl (Nat.le_of_ble_eq_true rfl) (Nat.le_of_ble_eq_true rfl) (Or.inr ⟨by decide, rfl⟩) (qr_fitR (Or.inl ⟨_, rfl⟩) _) rfl rfl ?_
  refine qr_aload_n 52 rfl rfl rfl ?_
  refine qr_aload_n 53 rfl rfl rfl ?_
  refine qr_iput ha [.ref b1, .ref b2, .null, .ref (a + 1), .ref (a + 2), .ref (a + 3), .ref (a + 4), .int (qz 0), .int (qz 0)] 56 rfl (Nat.le_of_ble_eq_true rfl) (Nat.le_of_ble_eq_true rfl) (Or.inr ⟨by decide, rfl⟩) (qr_fitR (Or.inl ⟨_, rfl⟩) _) rfl rfl ?_
  refine qr_aload_n 57 rfl rfl rfl ?_
  refine qr_aload_n 58 rfl rfl rfl ?_
  refine qr_iput ha [.ref b1, .ref b2, .ref b3, .ref (a + 1), .ref (a + 2), .ref (a + 3), .ref (a + 4), .int (qz 0), .int (qz 0)] 61 rfl (Nat.le_of_ble_eq_true rfl) (Nat.le_of_ble_eq_true rfl) (Or.inr ⟨by decide, rfl⟩) (qr_fitR (Or.inl ⟨_, rfl⟩) _) rfl rfl ?_
  refine qr_retV rfl rfl (Nat.le_of_ble_eq_true rfl) (Nat.le_of_ble_eq_true rfl) ?_
  exact ⟨rfl, rfl⟩
end
section
set_option maxHeartbeats 2000000 in
set_option maxRecDepth 20000 in
/-- Arrays.fill -/
theorem sp_fill {X : qm_X} {d : Nat} {u r0 : qm_W} {e : qm_E} {a N : Nat} {v : Int} {f : Nat → Int} (ha : a = 16 + u.length) (hN : 0 < N ∧ N ≤ 1000000)  : qm_T X (d + 1) 4 [.ref (a + 1), .int (qz v)] (u ++ e :: .inl (.int, N, .inl (qzf f)) :: r0) (fun r w' => r = none ∧ ∃ g : Nat → Int, w' = u ++ e :: .inl (.int, N, .inl (qzf g)) :: r0 ∧ ∀ j, j < N → g j = v) := by
  refine qr_start (d := d + 0) qv_e4 (Nat.le_of_ble_eq_true rfl) ?_
  show qr_W X (d + 0) qx_e4 _ (0, [(0, .ref (a + 1)), (1, .int (qz v))], [], u ++ e :: .inl (.int, N, .inl (qzf f)) :: r0, 0, 0)
  have loop : ∀ (n : Nat) (i : Int) (g : Nat → Int), (0 ≤ i ∧ i ≤ N ∧ N - i < n) → (∀ j, j < i.toNat → g j = v) → qr_W X d qx_e4 (fun r w' => r = none ∧ ∃ g : Nat → Int, w' = u ++ e :: .inl (.int, N, .inl (qzf g)) :: r0 ∧ ∀ j, j < N → g j = v) (5, [(2, .int (qz i)), (3, .int (qz (N : Int))), (0, .ref (a + 1)), (1, .int (qz v))], [], u ++ e :: .inl (.int, N, .inl (qzf g)) :: r0, 0, 0) := by
    intro n
    induction n with
    | zero => intro i g h1 h2; exact absurd h1 (by omega)
    | succ n ih =>
      intro i g h1 hg
      refine qr_iload_n 6 rfl rfl rfl ?_
      refine qr_iload_n 7 rfl rfl rfl ?_
      refine qr_icmp_ge 20 10 rfl rfl rfl (by omega) (by omega) (fun h => ?_) (fun h => ?_)
      · refine qr_retV rfl rfl (Nat.zero_le _) (Nat.zero_le _) ?_
        exact ⟨rfl, g, rfl, fun j hj => hg j (by omega)⟩
      · skip
        refine qr_aload_n 11 rfl rfl rfl ?_
        refine qr_iload_n 12 rfl rfl rfl ?_
        refine qr_iload_n 13 rfl rfl rfl ?_
        refine qr_iist1 ha 14 rfl (by omega) hN.2 rfl ?_
        refine qr_iincG (fun y => [(2, .int (qz y)), (3, .int (qz (N : Int))), (0, .ref (a + 1)), (1, .int (qz v))]) 17 rfl rfl (by decide) (fun _ => rfl) rfl (fun y hy => ?_)
        refine qr_goto 5 rfl rfl ?_
        refine ih y _ (by omega) ?_
        intro j hj
        unfold qzu
        split
        · rfl
        · exact hg j (by omega)
  refine qr_iconst 1 rfl rfl ?_
  refine qr_istore_n [(2, .int (qz 0)), (0, .ref (a + 1)), (1, .int (qz v))] 2 rfl (by decide) rfl rfl ?_
  refine qr_aload_n 3 rfl rfl rfl ?_
  refine qr_alen 4 rfl (qc_c (by omega) (qi_g1 u ha _ _ _)) (Or.inr (Or.inl rfl)) rfl ?_
  refine qr_istore_n [(3, .int (qz (N : Int))), (2, .int (qz 0)), (0, .ref (a + 1)), (1, .int (qz v))] 5 rfl (by decide) rfl rfl ?_
  refine qr_iload_n 6 rfl rfl rfl ?_
  refine qr_iload_n 7 rfl rfl rfl ?_
  refine qr_icmp_ge 20 10 rfl rfl rfl (by omega) (by omega) (fun h => absurd h (by omega)) (fun h => ?_)
  refine qr_aload_n 11 rfl rfl rfl ?_
  refine qr_iload_n 12 rfl rfl rfl ?_
  refine qr_iload_n 13 rfl rfl rfl ?_
  refine qr_iist1 ha 14 rfl (by omega) hN.2 rfl ?_
  refine qr_iincG (fun y => [(2, .int (qz y)), (3, .int (qz (N : Int))), (0, .ref (a + 1)), (1, .int (qz v))]) 17 rfl rfl (by decide) (fun _ => rfl) rfl (fun y hy => ?_)
  refine qr_goto 5 rfl rfl ?_
  refine loop (N + 1) y _ (by omega) ?_
  intro j hj
  unfold qzu
  split
  · rfl
  · omega

set_option maxHeartbeats 2000000 in
set_option maxRecDepth 20000 in
/-- Kinship.<init> -/
theorem si_Kinship {X : qm_X} {d : Nat} {u : qm_W} {a : Nat} (ha : a = 16 + u.length)  : qm_T X (d + 2) 3 [.ref a] (u ++ [.inr (2, [.null, .int (qz 0)])]) (fun r w' => r = none ∧ ∃ g : Nat → Int, w' = u ++ [.inr (2, [.ref (a + 1), .int (qz 0)]), .inl (.int, 1024, .inl (qzf g))] ∧ ∀ j : Nat, j < 1024 → g j = if j % 33 = 0 then 0 else 99) := by
  refine qr_start (d := d + 1) qv_e3 (Nat.le_of_ble_eq_true rfl) ?_
  show qr_W X (d + 1) qx_e3 _ (0, [(0, .ref a)], [], u ++ [.inr (2, [.null, .int (qz 0)])], 0, 0)
  have loop : ∀ (n : Nat) (i : Int) (g : Nat → Int), (0 ≤ i ∧ i ≤ 32 ∧ 32 - i < n) → (∀ j : Nat, j < 1024 → g j = if j % 33 = 0 ∧ ((j / 33 : Nat) : Int) < i then 0 else 99) → qr_W X (d + 1) qx_e3 (fun r w' => r = none ∧ ∃ g : Nat → Int, w' = u ++ [.inr (2, [.ref (a + 1), .int (qz 0)]), .inl (.int, 1024, .inl (qzf g))] ∧ ∀ j : Nat, j < 1024 → g j = if j % 33 = 0 then 0 else 99) (29, [(1, .int (qz i)), (0, .ref a)], [], u ++ [.inr (2, [.ref (a + 1), .int (qz 0)]), .inl (.int, 1024, .inl (qzf g))], 1, 1024) := by
    intro n
    induction n with
    | zero => intro i g h1 h2; exact absurd h1 (by omega)
    | succ n ih =>
      intro i g h1 hg
      refine qr_iload_n 30 rfl rfl rfl ?_
      refine qr_bipush 32 rfl (by decide) rfl ?_
      refine qr_icmp_ge 53 35 rfl rfl rfl (by omega) (by omega) (fun h => ?_) (fun h => ?_)
      · refine qr_retV rfl rfl (Nat.le_of_ble_eq_true rfl) (Nat.le_of_ble_eq_true rfl) ?_
        refine ⟨rfl, g, rfl, fun j hj => ?_⟩
        rw [hg j hj]
        by_cases h5 : j % 33 = 0
        · rw [if_pos ⟨h5, by omega⟩, if_pos h5]
        · rw [if_neg (fun h6 => h5 h6.1), if_neg h5]
      · refine qr_aload_n 36 rfl rfl rfl ?_
        refine qr_get 39 rfl (qc_c (by omega) (qi_g u ha _ _)) rfl (by decide) rfl ?_
        refine qr_iload_n 40 rfl rfl rfl ?_
        refine qr_bipush 42 rfl (by decide) rfl ?_
        refine qr_imul 43 rfl rfl ?_
        refine qr_iload_n 44 rfl rfl rfl ?_
        refine qr_iadd 45 rfl rfl ?_
        refine qr_topI (fun z hz => ?_)
        refine qr_iconst 46 rfl rfl ?_
        refine qr_iist1 ha 47 rfl (by omega) (by omega) rfl ?_
        refine qr_iincG (fun y => [(1, .int (qz y)), (0, .ref a)]) 50 rfl rfl (by decide) (fun _ => rfl) rfl (fun y hy => ?_)
        refine qr_goto 29 rfl rfl ?_
        refine ih y _ (by omega) ?_
        intro j hj
        unfold qzu
        by_cases h5 : j = z.toNat
        · rw [if_pos h5, if_pos ⟨by omega, by omega⟩]
        · rw [if_neg h5, hg j hj]
          by_cases h6 : j % 33 = 0 ∧ ((j / 33 : Nat) : Int) < i
          · rw [if_pos h6, if_pos ⟨h6.1, by omega⟩]
          · rw [if_neg h6, if_neg (fun h7 => h6 ⟨h7.1, by omega⟩)]
  refine qr_aload_n 1 rfl rfl rfl ?_
  refine qr_objinit 4 rfl (by decide) rfl ?_
  refine qr_aload_n 5 rfl rfl rfl ?_
  refine qr_sipush 8 rfl (by decide) rfl ?_
  refine qr_inewI ha [.inr (2, [.null, .int (qz 0)]), .inl (.int, 1024, .inl (qzf (fun _ => 0)))] 10 1 1024 1 rfl (by decide) (Nat.le_of_ble_eq_true rfl) (Nat.le_of_ble_eq_true rfl) rfl rfl rfl rfl rfl ?_
  refine qr_iput ha [.ref (a + 1), .int (qz 0)] 13 rfl (Nat.le_of_ble_eq_true rfl) (Nat.le_of_ble_eq_true rfl) (Or.inr ⟨by decide, rfl⟩) (qr_fitR (Or.inr ⟨_, rfl⟩) _) rfl rfl ?_
  refine qr_aload_n 14 rfl rfl rfl ?_
  refine qr_iconst 15 rfl rfl ?_
  refine qr_iput ha [.ref (a + 1), .int (qz 0)] 18 rfl (Nat.le_of_ble_eq_true rfl) (Nat.le_of_ble_eq_true rfl) (Or.inl rfl) (qr_fitI rfl _) rfl rfl ?_
  refine qr_aload_n 19 rfl rfl rfl ?_
  refine qr_get 22 rfl (qc_c (by omega) (qi_g u ha _ _)) rfl (by decide) rfl ?_
  refine qr_bipush 24 rfl (by decide) rfl ?_
  refine qr_callC 27 rfl rfl rfl (Nat.le_of_ble_eq_true rfl) (Nat.le_of_ble_eq_true rfl) (sp_fill ha (by omega)) ?_
  rintro _ _ ⟨rfl, g, rfl, hg⟩
  simp only [Option.toList, List.drop, List.cons_append, List.nil_append]
  refine qr_iconst 28 rfl rfl ?_
  refine qr_istore_n [(1, .int (qz 0)), (0, .ref a)] 29 rfl (by decide) rfl rfl ?_
  refine loop 33 0 g (by omega) ?_
  intro j hj
  rw [hg j hj, if_neg (fun h7 => absurd h7.2 (by omega))]
end
section
section QK
variable {X : qm_X} {d : Nat} {x : qs_Ent} {Q : Option Value → qm_W → Prop} {pc : Nat} {ls : qm_L} {st : List Value} {u w : qm_W} {c n r1 r2 r3 : Nat} {rv : Value} {a : Nat}
theorem qi_gk (u : qm_W) {a b m : Nat} (ha : a = 16 + u.length) (hb : a + m = b) (l : qm_W) : (u ++ l)[b - 16]? = l[m]? := by
  subst ha
  subst hb
  rw [show 16 + u.length + m - 16 = u.length + m by omega, List.getElem?_append_right (Nat.le_add_right _ _), Nat.add_sub_cancel_left]
theorem qi_sk (u : qm_W) {a b m : Nat} (ha : a = 16 + u.length) (hb : a + m = b) (l : qm_W) (e : qm_E) : (u ++ l).set (b - 16) e = u ++ l.set m e := by
  subst ha
  subst hb
  rw [show 16 + u.length + m - 16 = u.length + m by omega, List.set_append_right _ _ (Nat.le_add_right _ _), Nat.add_sub_cancel_left]
theorem qr_iistk {l : qm_W} {N m b : Nat} {y v : Int} {f : Nat → Int} (ha : a = 16 + u.length) (hb : a + m = b) (l' : qm_W) (p : Nat) (hq : qm_fetch x.2.2.2.2.2.2.2 pc = some (pc, .iastore, 1, r1, r2, r3, rv)) (hl : l[m]? = some (.inl (.int, N, .inl (qzf f)))) (hz : 0 ≤ y ∧ y < (N : Int)) (hN : N ≤ 1000000) (hs : l.set m (.inl (.int, N, .inl (qzf (qzu f y.toNat v)))) = l') (hp : pc + 1 = p) (k : qr_W X d x Q (p, ls, st, u ++ l', c, n)) : qr_W X d x Q (pc, ls, .int (qz v) :: .int (qz y) :: .ref b :: st, u ++ l, c, n) := by
  subst hs
  refine qr_iastore p hq (by omega) ((qi_gk u ha hb l).trans hl) hz hN hp ?_
  rw [qi_sk u ha hb]
  exact k
end QK

section QK2
variable {X : qm_X} {d : Nat} {x : qs_Ent} {Q : Option Value → qm_W → Prop} {pc : Nat} {ls : qm_L} {st : List Value} {u w : qm_W} {c n r1 r2 r3 : Nat} {rv : Value} {a : Nat}
theorem qr_inewZ {y : Int} {r : qm_W} (ha : a = 16 + u.length) (r' : qm_W) (p c' n' b : Nat) (hq : qm_fetch x.2.2.2.2.2.2.2 pc = some (pc, .newarray .boolean, 2, r1, r2, r3, rv)) (hy : 0 ≤ y ∧ y ≤ 1000000) (hc : c + 1 ≤ (qm_M1 x).2.2.2.2.1) (hn : n + y.toNat ≤ (qm_M1 x).2.2.2.2.2) (hr : r ++ [.inl (.boolean, y.toNat, .inl (qzf (fun _ => 0)))] = r') (hb : r.length = b) (hc2 : c + 1 = c') (hn2 : n + y.toNat = n') (hp : pc + 2 = p) (k : qr_W X d x Q (p, ls, .ref (a + b) :: st, u ++ r', c', n')) : qr_W X d x Q (pc, ls, .int (qz y) :: st, u ++ r, c, n) := by
  subst hr
  subst hb
  refine qr_newZ (u ++ (r ++ [.inl (.boolean, y.toNat, .inl (qzf (fun _ => 0)))])) p c' n' hq hy hc hn (List.append_assoc _ _ _) hc2 hn2 (a + r.length) (by rw [List.length_append]; omega) hp k
end QK2

set_option maxHeartbeats 2000000 in
set_option maxRecDepth 20000 in
/-- OneRoofModel.<init> -/
theorem si_Model {X : qm_X} {d : Nat} {u : qm_W} {a : Nat} (ha : a = 16 + u.length)  : qm_T X (d + 1) 171 [.ref a] (u ++ [.inr (12, [.null, .null, .null, .null, .int (qz 0), .int (qz 0), .int (qz 0), .null, .null, .null, .long (ql 0), .int (qz 0), .null, .null, .null, .int (qz 0), .int (qz 0), .null, .null, .null, .null, .null, .long (ql 0), .int (qz 0), .int (qz 0), .null, .null, .null, .null, .long (ql 0), .int (qz 0), .null, .int (qz 0), .null, .null, .int (qz 0), .int (qz 0), .int (qz 0), .int (qz 0), .int (qz 0), .null, .int (qz 0), .null, .int (qz 0), .null, .null, .null, .null, .null, .null, .int (qz 0), .long (ql 0), .null, .null, .null, .null, .int (qz 0), .int (qz 0), .int (qz 0), .null, .null, .null, .null])]) (fun r w' => r = none ∧ w' = u ++ [.inr (12, [.ref (a + 1), .ref (a + 2), .ref (a + 3), .ref (a + 4), .int (qz 0), .int (qz 0), .int (qz 0), .ref (a + 5), .ref (a + 6), .ref (a + 7), .long (ql 0), .int (qz 0), .ref (a + 8), .ref (a + 9), .ref (a + 10), .int (qz 0), .int (qz 0), .ref (a + 11), .ref (a + 12), .ref (a + 13), .ref (a + 14), .ref (a + 15), .long (ql 0), .int (qz 0), .int (qz 0), .ref (a + 16), .ref (a + 17), .ref (a + 18), .ref (a + 19), .long (ql 0), .int (qz 0), .ref (a + 20), .int (qz 0), .ref (a + 21), .ref (a + 22), .int (qz 0), .int (qz 0), .int (qz 0), .int (qz 0), .int (qz 0), .ref (a + 23), .int (qz 0), .ref (a + 24), .int (qz 0), .ref (a + 25), .ref (a + 26), .ref (a + 27), .ref (a + 28), .ref (a + 29), .ref (a + 30), .int (qz 0), .long (ql (-1)), .ref (a + 31), .ref (a + 32), .ref (a + 33), .ref (a + 34), .int (qz 0), .int (qz 0), .int (qz 0), .ref (a + 35), .ref (a + 36), .ref (a + 37), .ref (a + 38)]), .inl (.int, 252, .inl (qzf (fun _ => 0))), .inl (.int, 40, .inl (qzf (fun _ => 0))), .inl (.int, 40, .inl (qzf (fun _ => 0))), .inl (.int, 40, .inl (qzf (fun _ => 0))), .inl (.int, 32, .inl (qzf (fun _ => 0))), .inl (.int, 32, .inl (qzf (fun _ => 0))), .inl (.int, 32, .inl (qzf (fun _ => 0))), .inl (.int, 61, .inl (qzf (fun _ => 0))), .inl (.int, 61, .inl (qzf (fun _ => 0))), .inl (.int, 1024, .inl (qzf (fun _ => 0))), .inl (.int, 40, .inl (qzf (fun _ => 0))), .inl (.int, 40, .inl (qzf (fun _ => 0))), .inl (.int, 40, .inl (qzf (fun _ => 0))), .inl (.int, 40, .inl (qzf (fun _ => 0))), .inl (.int, 40, .inl (qzf (fun _ => 0))), .inl (.int, 60, .inl (qzf (fun _ => 0))), .inl (.int, 60, .inl (qzf (fun _ => 0))), .inl (.int, 60, .inl (qzf (fun _ => 0))), .inl (.int, 60, .inl (qzf (fun _ => 0))), .inl (.int, 120, .inl (qzf (fun _ => 0))), .inl (.int, 240, .inl (qzf (fun _ => 0))), .inl (.int, 2, .inl (qzf (qzu (qzu (fun _ => 0) (0 : Int).toNat (-1)) (1 : Int).toNat (-1)))), .inl (.int, 9, .inl (qzf (fun _ => 0))), .inl (.int, 32, .inl (qzf (fun _ => 0))), .inl (.int, 12, .inl (qzf (fun _ => 0))), .inl (.int, 4096, .inl (qzf (fun _ => 0))), .inl (.int, 10, .inl (qzf (fun _ => 0))), .inl (.int, 6, .inl (qzf (fun _ => 0))), .inl (.int, 31, .inl (qzf (fun _ => 0))), .inl (.int, 31, .inl (qzf (fun _ => 0))), .inl (.int, 31, .inl (qzf (fun _ => 0))), .inl (.int, 31, .inl (qzf (fun _ => 0))), .inl (.boolean, 1024, .inl (qzf (fun _ => 0))), .inl (.int, 24, .inl (qzf (fun _ => 0))), .inl (.int, 6, .inl (qzf (qzu (qzu (qzu (qzu (qzu (qzu (fun _ => 0) (0 : Int).toNat (-1)) (1 : Int).toNat (-1)) (2 : Int).toNat (-1)) (3 : Int).toNat (-1)) (4 : Int).toNat (-1)) (5 : Int).toNat (-1)))), .inl (.int, 6, .inl (qzf (fun _ => 0))), .inl (.long, 360, .inr (.inl (qlf (fun _ => 0)))), .inl (.long, 60, .inr (.inl (qlf (fun _ => 0))))]) := by
  refine qr_start (d := d + 0) qv_e171 (Nat.le_of_ble_eq_true rfl) ?_
  show qr_W X (d + 0) qx_e171 _ (0, [(0, .ref a)], [], u ++ [.inr (12, [.null, .null, .null, .null, .int (qz 0), .int (qz 0), .int (qz 0), .null, .null, .null, .long (ql 0), .int (qz 0), .null, .null, .null, .int (qz 0), .int (qz 0), .null, .null, .null, .null, .null, .long (ql 0), .int (qz 0), .int (qz 0), .null, .null, .null, .null, .long (ql 0), .int (qz 0), .null, .int (qz 0), .null, .null, .int (qz 0), .int (qz 0), .int (qz 0), .int (qz 0), .int (qz 0), .null, .int (qz 0), .null, .int (qz 0), .null, .null, .null, .null, .null, .null, .int (qz 0), .long (ql 0), .null, .null, .null, .null, .int (qz 0), .int (qz 0), .int (qz 0), .null, .null, .null, .null])], 0, 0)
  refine qr_aload_n 1 rfl rfl rfl ?_
  refine qr_objinit 4 rfl (by decide) rfl ?_
  refine qr_aload_n 5 rfl rfl rfl ?_
  refine qr_sipush 8 rfl (by decide) rfl ?_
  refine qr_inewI ha [.inr (12, [.null, .null, .null, .null, .int (qz 0), .int (qz 0), .int (qz 0), .null, .null, .null, .long (ql 0), .int (qz 0), .null, .null, .null, .int (qz 0), .int (qz 0), .null, .null, .null, .null, .null, .long (ql 0), .int (qz 0), .int (qz 0), .null, .null, .null, .null, .long (ql 0), .int (qz 0), .null, .int (qz 0), .null, .null, .int (qz 0), .int (qz 0), .int (qz 0), .int (qz 0), .int (qz 0), .null, .int (qz 0), .null, .int (qz 0), .null, .null, .null, .null, .null, .null, .int (qz 0), .long (ql 0), .null, .null, .null, .null, .int (qz 0), .int (qz 0), .int (qz 0), .null, .null, .null, .null]), .inl (.int, 252, .inl (qzf (fun _ => 0)))] 10 1 252 1 rfl (by decide) (Nat.le_of_ble_eq_true rfl) (Nat.le_of_ble_eq_true rfl) rfl rfl rfl rfl rfl ?_
  refine qr_iput ha [.ref (a + 1), .null, .null, .null, .int (qz 0), .int (qz 0), .int (qz 0), .null, .null, .null, .long (ql 0), .int (qz 0), .null, .null, .null, .int (qz 0), .int (qz 0), .null, .null, .null, .null, .null, .long (ql 0), .int (qz 0), .int (qz 0), .null, .null, .null, .null, .long (ql 0), .int (qz 0), .null, .int (qz 0), .null, .null, .int (qz 0), .int (qz 0), .int (qz 0), .int (qz 0), .int (qz 0), .null, .int (qz 0), .null, .int (qz 0), .null, .null, .null, .null, .null, .null, .int (qz 0), .long (ql 0), .null, .null, .null, .null, .int (qz 0), .int (qz 0), .int (qz 0), .null, .null, .null, .null] 13 rfl (Nat.le_of_ble_eq_true rfl) (Nat.le_of_ble_eq_true rfl) (Or.inr ⟨by decide, rfl⟩) (qr_fitR (Or.inr ⟨_, rfl⟩) _) rfl rfl ?_
  refine qr_aload_n 14 rfl rfl rfl ?_
  refine qr_bipush 16 rfl (by decide) rfl ?_
  refine qr_inewI ha [.inr (12, [.ref (a + 1), .null, .null, .null, .int (qz 0), .int (qz 0), .int (qz 0), .null, .null, .null, .long (ql 0), .int (qz 0), .null, .null, .null, .int (qz 0), .int (qz 0), .null, .null, .null, .null, .null, .long (ql 0), .int (qz 0), .int (qz 0), .null, .null, .null, .null, .long (ql 0), .int (qz 0), .null, .int (qz 0), .null, .null, .int (qz 0), .int (qz 0), .int (qz 0), .int (qz 0), .int (qz 0), .null, .int (qz 0), .null, .int (qz 0), .null, .null, .null, .null, .null, .null, .int (qz 0), .long (ql 0), .null, .null, .null, .null, .int (qz 0), .int (qz 0), .int (qz 0), .null, .null, .null, .null]), .inl (.int, 252, .inl (qzf (fun _ => 0))), .inl (.int, 40, .inl (qzf (fun _ => 0)))] 18 2 292 2 rfl (by decide) (Nat.le_of_ble_eq_true rfl) (Nat.le_of_ble_eq_true rfl) rfl rfl rfl rfl rfl ?_
  refine qr_iput ha [.ref (a + 1), .ref (a + 2), .null, .null, .int (qz 0), .int (qz 0), .int (qz 0), .null, .null, .null, .long (ql 0), .int (qz 0), .null, .null, .null, .int (qz 0), .int (qz 0), .null, .null, .null, .null, .null, .long (ql 0), .int (qz 0), .int (qz 0), .null, .null, .null, .null, .long (ql 0), .int (qz 0), .null, .int (qz 0), .null, .null, .int (qz 0), .int (qz 0), .int (qz 0), .int (qz 0), .int (qz 0), .null, .int (qz 0), .null, .int (qz 0), .null, .null, .null, .null, .null, .null, .int (qz 0), .long (ql 0), .null, .null, .null, .null, .int (qz 0), .int (qz 0), .int (qz 0), .null, .null, .null, .null] 21 rfl (Nat.le_of_ble_eq_true rfl) (Nat.le_of_ble_eq_true rfl) (Or.inr ⟨by decide, rfl⟩) (qr_fitR (Or.inr ⟨_, rfl⟩) _) rfl rfl ?_
  refine qr_aload_n 22 rfl rfl rfl ?_
  refine qr_bipush 24 rfl (by decide) rfl ?_
  refine qr_inewI ha [.inr (12, [.ref (a + 1), .ref (a + 2), .null, .null, .int (qz 0), .int (qz 0), .int (qz 0), .null, .null, .null, .long (ql 0), .int (qz 0), .null, .null, .null, .int (qz 0), .int (qz 0), .null, .null, .null, .null, .null, .long (ql 0), .int (qz 0), .int (qz 0), .null, .null, .null, .null, .long (ql 0), .int (qz 0), .null, .int (qz 0), .null, .null, .int (qz 0), .int (qz 0), .int (qz 0), .int (qz 0), .int (qz 0), .null, .int (qz 0), .null, .int (qz 0), .null, .null, .null, .null, .null, .null, .int (qz 0), .long (ql 0), .null, .null, .null, .null, .int (qz 0), .int (qz 0), .int (qz 0), .null, .null, .null, .null]), .inl (.int, 252, .inl (qzf (fun _ => 0))), .inl (.int, 40, .inl (qzf (fun _ => 0))), .inl (.int, 40, .inl (qzf (fun _ => 0)))] 26 3 332 3 rfl (by decide) (Nat.le_of_ble_eq_true rfl) (Nat.le_of_ble_eq_true rfl) rfl rfl rfl rfl rfl ?_
  refine qr_iput ha [.ref (a + 1), .ref (a + 2), .ref (a + 3), .null, .int (qz 0), .int (qz 0), .int (qz 0), .null, .null, .null, .long (ql 0), .int (qz 0), .null, .null, .null, .int (qz 0), .int (qz 0), .null, .null, .null, .null, .null, .long (ql 0), .int (qz 0), .int (qz 0), .null, .null, .null, .null, .long (ql 0), .int (qz 0), .null, .int (qz 0), .null, .null, .int (qz 0), .int (qz 0), .int (qz 0), .int (qz 0), .int (qz 0), .null, .int (qz 0), .null, .int (qz 0), .null, .null, .null, .null, .null, .null, .int (qz 0), .long (ql 0), .null, .null, .null, .null, .int (qz 0), .int (qz 0), .int (qz 0), .null, .null, .null, .null] 29 rfl (Nat.le_of_ble_eq_true rfl) (Nat.le_of_ble_eq_true rfl) (Or.inr ⟨by decide, rfl⟩) (qr_fitR (Or.inr ⟨_, rfl⟩) _) rfl rfl ?_
  refine qr_aload_n 30 rfl rfl rfl ?_
  refine qr_bipush 32 rfl (by decide) rfl ?_
  refine qr_inewI ha [.inr (12, [.ref (a + 1), .ref (a + 2), .ref (a + 3), .null, .int (qz 0), .int (qz 0), .int (qz 0), .null, .null, .null, .long (ql 0), .int (qz 0), .null, .null, .null, .int (qz 0), .int (qz 0), .null, .null, .null, .null, .null, .long (ql 0), .int (qz 0), .int (qz 0), .null, .null, .null, .null, .long (ql 0), .int (qz 0), .null, .int (qz 0), .null, .null, .int (qz 0), .int (qz 0), .int (qz 0), .int (qz 0), .int (qz 0), .null, .int (qz 0), .null, .int (qz 0), .null, .null, .null, .null, .null, .null, .int (qz 0), .long (ql 0), .null, .null, .null, .null, .int (qz 0), .int (qz 0), .int (qz 0), .null, .null, .null, .null]), .inl (.int, 252, .inl (qzf (fun _ => 0))), .inl (.int, 40, .inl (qzf (fun _ => 0))), .inl (.int, 40, .inl (qzf (fun _ => 0))), .inl (.int, 40, .inl (qzf (fun _ => 0)))] 34 4 372 4 rfl (by decide) (Nat.le_of_ble_eq_true rfl) (Nat.le_of_ble_eq_true rfl) rfl rfl rfl rfl rfl ?_
  refine qr_iput ha [.ref (a + 1), .ref (a + 2), .ref (a + 3), .ref (a + 4), .int (qz 0), .int (qz 0), .int (qz 0), .null, .null, .null, .long (ql 0), .int (qz 0), .null, .null, .null, .int (qz 0), .int (qz 0), .null, .null, .null, .null, .null, .long (ql 0), .int (qz 0), .int (qz 0), .null, .null, .null, .null, .long (ql 0), .int (qz 0), .null, .int (qz 0), .null, .null, .int (qz 0), .int (qz 0), .int (qz 0), .int (qz 0), .int (qz 0), .null, .int (qz 0), .null, .int (qz 0), .null, .null, .null, .null, .null, .null, .int (qz 0), .long (ql 0), .null, .null, .null, .null, .int (qz 0), .int (qz 0), .int (qz 0), .null, .null, .null, .null] 37 rfl (Nat.le_of_ble_eq_true rfl) (Nat.le_of_ble_eq_true rfl) (Or.inr ⟨by decide, rfl⟩) (qr_fitR (Or.inr ⟨_, rfl⟩) _) rfl rfl ?_
  refine qr_aload_n 38 rfl rfl rfl ?_
  refine qr_bipush 40 rfl (by decide) rfl ?_
  refine qr_inewI ha [.inr (12, [.ref (a + 1), .ref (a + 2), .ref (a + 3), .ref (a + 4), .int (qz 0), .int (qz 0), .int (qz 0), .null, .null, .null, .long (ql 0), .int (qz 0), .null, .null, .null, .int (qz 0), .int (qz 0), .null, .null, .null, .null, .null, .long (ql 0), .int (qz 0), .int (qz 0), .null, .null, .null, .null, .long (ql 0), .int (qz 0), .null, .int (qz 0), .null, .null, .int (qz 0), .int (qz 0), .int (qz 0), .int (qz 0), .int (qz 0), .null, .int (qz 0), .null, .int (qz 0), .null, .null, .null, .null, .null, .null, .int (qz 0), .long (ql 0), .null, .null, .null, .null, .int (qz 0), .int (qz 0), .int (qz 0), .null, .null, .null, .null]), .inl (.int, 252, .inl (qzf (fun _ => 0))), .inl (.int, 40, .inl (qzf (fun _ => 0))), .inl (.int, 40, .inl (qzf (fun _ => 0))), .inl (.int, 40, .inl (qzf (fun _ => 0))), .inl (.int, 32, .inl (qzf (fun _ => 0)))] 42 5 404 5 rfl (by decide) (Nat.le_of_ble_eq_true rfl) (Nat.le_of_ble_eq_true rfl) rfl rfl rfl rfl rfl ?_
  refine qr_iput ha [.ref (a + 1), .ref (a + 2), .ref (a + 3), .ref (a + 4), .int (qz 0), .int (qz 0), .int (qz 0), .ref (a + 5), .null, .null, .long (ql 0), .int (qz 0), .null, .null, .null, .int (qz 0), .int (qz 0), .null, .null, .null, .null, .null, .long (ql 0), .int (qz 0), .int (qz 0), .null, .null, .null, .null, .long (ql 0), .int (qz 0), .null, .int (qz 0), .null, .null, .int (qz 0), .int (qz 0), .int (qz 0), .int (qz 0), .int (qz 0), .null, .int (qz 0), .null, .int (qz 0), .null, .null, .null, .null, .null, .null, .int (qz 0), .long (ql 0), .null, .null, .null, .null, .int (qz 0), .int (qz 0), .int (qz 0), .null, .null, .null, .null] 45 rfl (Nat.le_of_ble_eq_true rfl) (Nat.le_of_ble_eq_true rfl) (Or.inr ⟨by decide, rfl⟩) (qr_fitR (Or.inr ⟨_, rfl⟩) _) rfl rfl ?_
  refine qr_aload_n 46 rfl rfl rfl ?_
  refine qr_bipush 48 rfl (by decide) rfl ?_
  refine qr_inewI ha [.inr (12, [.ref (a + 1), .ref (a + 2), .ref (a + 3), .ref (a + 4), .int (qz 0), .int (qz 0), .int (qz 0), .ref (a + 5), .null, .null, .long (ql 0), .int (qz 0), .null, .null, .null, .int (qz 0), .int (qz 0), .null, .null, .null, .null, .null, .long (ql 0), .int (qz 0), .int (qz 0), .null, .null, .null, .null, .long (ql 0), .int (qz 0), .null, .int (qz 0), .null, .null, .int (qz 0), .int (qz 0), .int (qz 0), .int (qz 0), .int (qz 0), .null, .int (qz 0), .null, .int (qz 0), .null, .null, .null, .null, .null, .null, .int (qz 0), .long (ql 0), .null, .null, .null, .null, .int (qz 0), .int (qz 0), .int (qz 0), .null, .null, .null, .null]), .inl (.int, 252, .inl (qzf (fun _ => 0))), .inl (.int, 40, .inl (qzf (fun _ => 0))), .inl (.int, 40, .inl (qzf (fun _ => 0))), .inl (.int, 40, .inl (qzf (fun _ => 0))), .inl (.int, 32, .inl (qzf (fun _ => 0))), .inl (.int, 32, .inl (qzf (fun _ => 0)))] 50 6 436 6 rfl (by decide) (Nat.le_of_ble_eq_true rfl) (Nat.le_of_ble_eq_true rfl) rfl rfl rfl rfl rfl ?_
  refine qr_iput ha [.ref (a + 1), .ref (a + 2), .ref (a + 3), .ref (a + 4), .int (qz 0), .int (qz 0), .int (qz 0), .ref (a + 5), .ref (a + 6), .null, .long (ql 0), .int (qz 0), .null, .null, .null, .int (qz 0), .int (qz 0), .null, .null, .null, .null, .null, .long (ql 0), .int (qz 0), .int (qz 0), .null, .null, .null, .null, .long (ql 0), .int (qz 0), .null, .int (qz 0), .null, .null, .int (qz 0), .int (qz 0), .int (qz 0), .int (qz 0), .int (qz 0), .null, .int (qz 0), .null, .int (qz 0), .null, .null, .null, .null, .null, .null, .int (qz 0), .long (ql 0), .null, .null, .null, .null, .int (qz 0), .int (qz 0), .int (qz 0), .null, .null, .null, .null] 53 rfl (Nat.le_of_ble_eq_true rfl) (Nat.le_of_ble_eq_true rfl) (Or.inr ⟨by decide, rfl⟩) (qr_fitR (Or.inr ⟨_, rfl⟩) _) rfl rfl ?_
  refine qr_aload_n 54 rfl rfl rfl ?_
  refine qr_bipush 56 rfl (by decide) rfl ?_
  refine qr_inewI ha [.inr (12, [.ref (a + 1), .ref (a + 2), .ref (a + 3), .ref (a + 4), .int (qz 0), .int (qz 0), .int (qz 0), .ref (a + 5), .ref (a + 6), .null, .long (ql 0), .int (qz 0), .null, .null, .null, .int (qz 0), .int (qz 0), .null, .null, .null, .null, .null, .long (ql 0), .int (qz 0), .int (qz 0), .null, .null, .null, .null, .long (ql 0), .int (qz 0), .null, .int (qz 0), .null, .null, .int (qz 0), .int (qz 0), .int (qz 0), .int (qz 0), .int (qz 0), .null, .int (qz 0), .null, .int (qz 0), .null, .null, .null, .null, .null, .null, .int (qz 0), .long (ql 0), .null, .null, .null, .null, .int (qz 0), .int (qz 0), .int (qz 0), .null, .null, .null, .null]), .inl (.int, 252, .inl (qzf (fun _ => 0))), .inl (.int, 40, .inl (qzf (fun _ => 0))), .inl (.int, 40, .inl (qzf (fun _ => 0))), .inl (.int, 40, .inl (qzf (fun _ => 0))), .inl (.int, 32, .inl (qzf (fun _ => 0))), .inl (.int, 32, .inl (qzf (fun _ => 0))), .inl (.int, 32, .inl (qzf (fun _ => 0)))] 58 7 468 7 rfl (by decide) (Nat.le_of_ble_eq_true rfl) (Nat.le_of_ble_eq_true rfl) rfl rfl rfl rfl rfl ?_
  refine qr_iput ha [.ref (a + 1), .ref (a + 2), .ref (a + 3), .ref (a + 4), .int (qz 0), .int (qz 0), .int (qz 0), .ref (a + 5), .ref (a + 6), .ref (a + 7), .long (ql 0), .int (qz 0), .null, .null, .null, .int (qz 0), .int (qz 0), .null, .null, .null, .null, .null, .long (ql 0), .int (qz 0), .int (qz 0), .null, .null, .null, .null, .long (ql 0), .int (qz 0), .null, .int (qz 0), .null, .null, .int (qz 0), .int (qz 0), .int (qz 0), .int (qz 0), .int (qz 0), .null, .int (qz 0), .null, .int (qz 0), .null, .null, .null, .null, .null, .null, .int (qz 0), .long (ql 0), .null, .null, .null, .null, .int (qz 0), .int (qz 0), .int (qz 0), .null, .null, .null, .null] 61 rfl (Nat.le_of_ble_eq_true rfl) (Nat.le_of_ble_eq_true rfl) (Or.inr ⟨by decide, rfl⟩) (qr_fitR (Or.inr ⟨_, rfl⟩) _) rfl rfl ?_
  refine qr_aload_n 62 rfl rfl rfl ?_
  refine qr_bipush 64 rfl (by decide) rfl ?_
  refine qr_inewI ha [.inr (12, [.ref (a + 1), .ref (a + 2), .ref (a + 3), .ref (a + 4), .int (qz 0), .int (qz 0), .int (qz 0), .ref (a + 5), .ref (a + 6), .ref (a + 7), .long (ql 0), .int (qz 0), .null, .null, .null, .int (qz 0), .int (qz 0), .null, .null, .null, .null, .null, .long (ql 0), .int (qz 0), .int (qz 0), .null, .null, .null, .null, .long (ql 0), .int (qz 0), .null, .int (qz 0), .null, .null, .int (qz 0), .int (qz 0), .int (qz 0), .int (qz 0), .int (qz 0), .null, .int (qz 0), .null, .int (qz 0), .null, .null, .null, .null, .null, .null, .int (qz 0), .long (ql 0), .null, .null, .null, .null, .int (qz 0), .int (qz 0), .int (qz 0), .null, .null, .null, .null]), .inl (.int, 252, .inl (qzf (fun _ => 0))), .inl (.int, 40, .inl (qzf (fun _ => 0))), .inl (.int, 40, .inl (qzf (fun _ => 0))), .inl (.int, 40, .inl (qzf (fun _ => 0))), .inl (.int, 32, .inl (qzf (fun _ => 0))), .inl (.int, 32, .inl (qzf (fun _ => 0))), .inl (.int, 32, .inl (qzf (fun _ => 0))), .inl (.int, 61, .inl (qzf (fun _ => 0)))] 66 8 529 8 rfl (by decide) (Nat.le_of_ble_eq_true rfl) (Nat.le_of_ble_eq_true rfl) rfl rfl rfl rfl rfl ?_
  refine qr_iput ha [.ref (a + 1), .ref (a + 2), .ref (a + 3), .ref (a + 4), .int (qz 0), .int (qz 0), .int (qz 0), .ref (a + 5), .ref (a + 6), .ref (a + 7), .long (ql 0), .int (qz 0), .ref (a + 8), .null, .null, .int (qz 0), .int (qz 0), .null, .null, .null, .null, .null, .long (ql 0), .int (qz 0), .int (qz 0), .null, .null, .null, .null, .long (ql 0), .int (qz 0), .null, .int (qz 0), .null, .null, .int (qz 0), .int (qz 0), .int (qz 0), .int (qz 0), .int (qz 0), .null, .int (qz 0), .null, .int (qz 0), .null, .null, .null, .null, .null, .null, .int (qz 0), .long (ql 0), .null, .null, .null, .null, .int (qz 0), .int (qz 0), .int (qz 0), .null, .null, .null, .null] 69 rfl (Nat.le_of_ble_eq_true rfl) (Nat.le_of_ble_eq_true rfl) (Or.inr ⟨by decide, rfl⟩) (qr_fitR (Or.inr ⟨_, rfl⟩) _) rfl rfl ?_
  refine qr_aload_n 70 rfl rfl rfl ?_
  refine qr_bipush 72 rfl (by decide) rfl ?_
  refine qr_inewI ha [.inr (12, [.ref (a + 1), .ref (a + 2), .ref (a + 3), .ref (a + 4), .int (qz 0), .int (qz 0), .int (qz 0), .ref (a + 5), .ref (a + 6), .ref (a + 7), .long (ql 0), .int (qz 0), .ref (a + 8), .null, .null, .int (qz 0), .int (qz 0), .null, .null, .null, .null, .null, .long (ql 0), .int (qz 0), .int (qz 0), .null, .null, .null, .null, .long (ql 0), .int (qz 0), .null, .int (qz 0), .null, .null, .int (qz 0), .int (qz 0), .int (qz 0), .int (qz 0), .int (qz 0), .null, .int (qz 0), .null, .int (qz 0), .null, .null, .null, .null, .null, .null, .int (qz 0), .long (ql 0), .null, .null, .null, .null, .int (qz 0), .int (qz 0), .int (qz 0), .null, .null, .null, .null]), .inl (.int, 252, .inl (qzf (fun _ => 0))), .inl (.int, 40, .inl (qzf (fun _ => 0))), .inl (.int, 40, .inl (qzf (fun _ => 0))), .inl (.int, 40, .inl (qzf (fun _ => 0))), .inl (.int, 32, .inl (qzf (fun _ => 0))), .inl (.int, 32, .inl (qzf (fun _ => 0))), .inl (.int, 32, .inl (qzf (fun _ => 0))), .inl (.int, 61, .inl (qzf (fun _ => 0))), .inl (.int, 61, .inl (qzf (fun _ => 0)))] 74 9 590 9 rfl (by decide) (Nat.le_of_ble_eq_true rfl) (Nat.le_of_ble_eq_true rfl) rfl rfl rfl rfl rfl ?_
  refine qr_iput ha [.ref (a + 1), .ref (a + 2), .ref (a + 3), .ref (a + 4), .int (qz 0), .int (qz 0), .int (qz 0), .ref (a + 5), .ref (a + 6), .ref (a + 7), .long (ql 0), .int (qz 0), .ref (a + 8), .ref (a + 9), .null, .int (qz 0), .int (qz 0), .null, .null, .null, .null, .null, .long (ql 0), .int (qz 0), .int (qz 0), .null, .null, .null, .null, .long (ql 0), .int (qz 0), .null, .int (qz 0), .null, .null, .int (qz 0), .int (qz 0), .int (qz 0), .int (qz 0), .int (qz 0), .null, .int (qz 0), .null, .int (qz 0), .null, .null, .null, .null, .null, .null, .int (qz 0), .long (ql 0), .null, .null, .null, .null, .int (qz 0), .int (qz 0), .int (qz 0), .null, .null, .null, .null] 77 rfl (Nat.le_of_ble_eq_true rfl) (Nat.le_of_ble_eq_true rfl) (Or.inr ⟨by decide, rfl⟩) (qr_fitR (Or.inr ⟨_, rfl⟩) _) rfl rfl ?_
  refine qr_aload_n 78 rfl rfl rfl ?_
  refine qr_sipush 81 rfl (by decide) rfl ?_
  refine qr_inewI ha [.inr (12, [.ref (a + 1), .ref (a + 2), .ref (a + 3), .ref (a + 4), .int (qz 0), .int (qz 0), .int (qz 0), .ref (a + 5), .ref (a + 6), .ref (a + 7), .long (ql 0), .int (qz 0), .ref (a + 8), .ref (a + 9), .null, .int (qz 0), .int (qz 0), .null, .null, .null, .null, .null, .long (ql 0), .int (qz 0), .int (qz 0), .null, .null, .null, .null, .long (ql 0), .int (qz 0), .null, .int (qz 0), .null, .null, .int (qz 0), .int (qz 0), .int (qz 0), .int (qz 0), .int (qz 0), .null, .int (qz 0), .null, .int (qz 0), .null, .null, .null, .null, .null, .null, .int (qz 0), .long (ql 0), .null, .null, .null, .null, .int (qz 0), .int (qz 0), .int (qz 0), .null, .null, .null, .null]), .inl (.int, 252, .inl (qzf (fun _ => 0))), .inl (.int, 40, .inl (qzf (fun _ => 0))), .inl (.int, 40, .inl (qzf (fun _ => 0))), .inl (.int, 40, .inl (qzf (fun _ => 0))), .inl (.int, 32, .inl (qzf (fun _ => 0))), .inl (.int, 32, .inl (qzf (fun _ => 0))), .inl (.int, 32, .inl (qzf (fun _ => 0))), .inl (.int, 61, .inl (qzf (fun _ => 0))), .inl (.int, 61, .inl (qzf (fun _ => 0))), .inl (.int, 1024, .inl (qzf (fun _ => 0)))] 83 10 1614 10 rfl (by decide) (Nat.le_of_ble_eq_true rfl) (Nat.le_of_ble_eq_true rfl) rfl rfl rfl rfl rfl ?_
  refine qr_iput ha [.ref (a + 1), .ref (a + 2), .ref (a + 3), .ref (a + 4), .int (qz 0), .int (qz 0), .int (qz 0), .ref (a + 5), .ref (a + 6), .ref (a + 7), .long (ql 0), .int (qz 0), .ref (a + 8), .ref (a + 9), .ref (a + 10), .int (qz 0), .int (qz 0), .null, .null, .null, .null, .null, .long (ql 0), .int (qz 0), .int (qz 0), .null, .null, .null, .null, .long (ql 0), .int (qz 0), .null, .int (qz 0), .null, .null, .int (qz 0), .int (qz 0), .int (qz 0), .int (qz 0), .int (qz 0), .null, .int (qz 0), .null, .int (qz 0), .null, .null, .null, .null, .null, .null, .int (qz 0), .long (ql 0), .null, .null, .null, .null, .int (qz 0), .int (qz 0), .int (qz 0), .null, .null, .null, .null] 86 rfl (Nat.le_of_ble_eq_true rfl) (Nat.le_of_ble_eq_true rfl) (Or.inr ⟨by decide, rfl⟩) (qr_fitR (Or.inr ⟨_, rfl⟩) _) rfl rfl ?_
  refine qr_aload_n 87 rfl rfl rfl ?_
  refine qr_bipush 89 rfl (by decide) rfl ?_
  refine qr_inewI ha [.inr (12, [.ref (a + 1), .ref (a + 2), .ref (a + 3), .ref (a + 4), .int (qz 0), .int (qz 0), .int (qz 0), .ref (a + 5), .ref (a + 6), .ref (a + 7), .long (ql 0), .int (qz 0), .ref (a + 8), .ref (a + 9), .ref (a + 10), .int (qz 0), .int (qz 0), .null, .null, .null, .null, .null, .long (ql 0), .int (qz 0), .int (qz 0), .null, .null, .null, .null, .long (ql 0), .int (qz 0), .null, .int (qz 0), .null, .null, .int (qz 0), .int (qz 0), .int (qz 0), .int (qz 0), .int (qz 0), .null, .int (qz 0), .null, .int (qz 0), .null, .null, .null, .null, .null, .null, .int (qz 0), .long (ql 0), .null, .null, .null, .null, .int (qz 0), .int (qz 0), .int (qz 0), .null, .null, .null, .null]), .inl (.int, 252, .inl (qzf (fun _ => 0))), .inl (.int, 40, .inl (qzf (fun _ => 0))), .inl (.int, 40, .inl (qzf (fun _ => 0))), .inl (.int, 40, .inl (qzf (fun _ => 0))), .inl (.int, 32, .inl (qzf (fun _ => 0))), .inl (.int, 32, .inl (qzf (fun _ => 0))), .inl (.int, 32, .inl (qzf (fun _ => 0))), .inl (.int, 61, .inl (qzf (fun _ => 0))), .inl (.int, 61, .inl (qzf (fun _ => 0))), .inl (.int, 1024, .inl (qzf (fun _ => 0))), .inl (.int, 40, .inl (qzf (fun _ => 0)))] 91 11 1654 11 rfl (by decide) (Nat.le_of_ble_eq_true rfl) (Nat.le_of_ble_eq_true rfl) rfl rfl rfl rfl rfl ?_
  refine qr_iput ha [.ref (a + 1), .ref (a + 2), .ref (a + 3), .ref (a + 4), .int (qz 0), .int (qz 0), .int (qz 0), .ref (a + 5), .ref (a + 6), .ref (a + 7), .long (ql 0), .int (qz 0), .ref (a + 8), .ref (a + 9), .ref (a + 10), .int (qz 0), .int (qz 0), .ref (a + 11), .null, .null, .null, .null, .long (ql 0), .int (qz 0), .int (qz 0), .null, .null, .null, .null, .long (ql 0), .int (qz 0), .null, .int (qz 0), .null, .null, .int (qz 0), .int (qz 0), .int (qz 0), .int (qz 0), .int (qz 0), .null, .int (qz 0), .null, .int (qz 0), .null, .null, .null, .null, .null, .null, .int (qz 0), .long (ql 0), .null, .null, .null, .null, .int (qz 0), .int (qz 0), .int (qz 0), .null, .null, .null, .null] 94 rfl (Nat.le_of_ble_eq_true rfl) (Nat.le_of_ble_eq_true rfl) (Or.inr ⟨by decide, rfl⟩) (qr_fitR (Or.inr ⟨_, rfl⟩) _) rfl rfl ?_
  refine qr_aload_n 95 rfl rfl rfl ?_
  refine qr_bipush 97 rfl (by decide) rfl ?_
  refine qr_inewI ha [.inr (12, [.ref (a + 1), .ref (a + 2), .ref (a + 3), .ref (a + 4), .int (qz 0), .int (qz 0), .int (qz 0), .ref (a + 5), .ref (a + 6), .ref (a + 7), .long (ql 0), .int (qz 0), .ref (a + 8), .ref (a + 9), .ref (a + 10), .int (qz 0), .int (qz 0), .ref (a + 11), .null, .null, .null, .null, .long (ql 0), .int (qz 0), .int (qz 0), .null, .null, .null, .null, .long (ql 0), .int (qz 0), .null, .int (qz 0), .null, .null, .int (qz 0), .int (qz 0), .int (qz 0), .int (qz 0), .int (qz 0), .null, .int (qz 0), .null, .int (qz 0), .null, .null, .null, .null, .null, .null, .int (qz 0), .long (ql 0), .null, .null, .null, .null, .int (qz 0), .int (qz 0), .int (qz 0), .null, .null, .null, .null]), .inl (.int, 252, .inl (qzf (fun _ => 0))), .inl (.int, 40, .inl (qzf (fun _ => 0))), .inl (.int, 40, .inl (qzf (fun _ => 0))), .inl (.int, 40, .inl (qzf (fun _ => 0))), .inl (.int, 32, .inl (qzf (fun _ => 0))), .inl (.int, 32, .inl (qzf (fun _ => 0))), .inl (.int, 32, .inl (qzf (fun _ => 0))), .inl (.int, 61, .inl (qzf (fun _ => 0))), .inl (.int, 61, .inl (qzf (fun _ => 0))), .inl (.int, 1024, .inl (qzf (fun _ => 0))), .inl (.int, 40, .inl (qzf (fun _ => 0))), .inl (.int, 40, .inl (qzf (fun _ => 0)))] 99 12 1694 12 rfl (by decide) (Nat.le_of_ble_eq_true rfl) (Nat.le_of_ble_eq_true rfl) rfl rfl rfl rfl rfl ?_
  refine qr_iput ha [.ref (a + 1), .ref (a + 2), .ref (a + 3), .ref (a + 4), .int (qz 0), .int (qz 0), .int (qz 0), .ref (a + 5), .ref (a + 6), .ref (a + 7), .long (ql 0), .int (qz 0), .ref (a + 8), .ref (a + 9), .ref (a + 10), .int (qz 0), .int (qz 0), .ref (a + 11), .ref (a + 12), .null, .null, .null, .long (ql 0), .int (qz 0), .int (qz 0), .null, .null, .null, .null, .long (ql 0), .int (qz 0), .null, .int (qz 0), .null, .null, .int (qz 0), .int (qz 0), .int (qz 0), .int (qz 0), .int (qz 0), .null, .int (qz 0), .null, .int (qz 0), .null, .null, .null, .null, .null, .null, .int (qz 0), .long (ql 0), .null, .null, .null, .null, .int (qz 0), .int (qz 0), .int (qz 0), .null, .null, .null, .null] 102 rfl (Nat.le_of_ble_eq_true rfl) (Nat.le_of_ble_eq_true rfl) (Or.inr ⟨by decide, rfl⟩) (qr_fitR (Or.inr ⟨_, rfl⟩) _) rfl rfl ?_
  refine qr_aload_n 103 rfl rfl rfl ?_
  refine qr_bipush 105 rfl (by decide) rfl ?_
  refine qr_inewI ha [.inr (12, [.ref (a + 1), .ref (a + 2), .ref (a + 3), .ref (a + 4), .int (qz 0), .int (qz 0), .int (qz 0), .ref (a + 5), .ref (a + 6), .ref (a + 7), .long (ql 0), .int (qz 0), .ref (a + 8), .ref (a + 9), .ref (a + 10), .int (qz 0), .int (qz 0), .ref (a + 11), .ref (a + 12), .null, .null, .null, .long (ql 0), .int (qz 0), .int (qz 0), .null, .null, .null, .null, .long (ql 0), .int (qz 0), .null, .int (qz 0), .null, .null, .int (qz 0), .int (qz 0), .int (qz 0), .int (qz 0), .int (qz 0), .null, .int (qz 0), .null, .int (qz 0), .null, .null, .null, .null, .null, .null, .int (qz 0), .long (ql 0), .null, .null, .null, .null, .int (qz 0), .int (qz 0), .int (qz 0), .null, .null, .null, .null]), .inl (.int, 252, .inl (qzf (fun _ => 0))), .inl (.int, 40, .inl (qzf (fun _ => 0))), .inl (.int, 40, .inl (qzf (fun _ => 0))), .inl (.int, 40, .inl (qzf (fun _ => 0))), .inl (.int, 32, .inl (qzf (fun _ => 0))), .inl (.int, 32, .inl (qzf (fun _ => 0))), .inl (.int, 32, .inl (qzf (fun _ => 0))), .inl (.int, 61, .inl (qzf (fun _ => 0))), .inl (.int, 61, .inl (qzf (fun _ => 0))), .inl (.int, 1024, .inl (qzf (fun _ => 0))), .inl (.int, 40, .inl (qzf (fun _ => 0))), .inl (.int, 40, .inl (qzf (fun _ => 0))), .inl (.int, 40, .inl (qzf (fun _ => 0)))] 107 13 1734 13 rfl (by decide) (Nat.le_of_ble_eq_true rfl) (Nat.le_of_ble_eq_true rfl) rfl rfl rfl rfl rfl ?_
  refine qr_iput ha [.ref (a + 1), .ref (a + 2), .ref (a + 3), .ref (a + 4), .int (qz 0), .int (qz 0), .int (qz 0), .ref (a + 5), .ref (a + 6), .ref (a + 7), .long (ql 0), .int (qz 0), .ref (a + 8), .ref (a + 9), .ref (a + 10), .int (qz 0), .int (qz 0), .ref (a + 11), .ref (a + 12), .ref (a + 13), .null, .null, .long (ql 0), .int (qz 0), .int (qz 0), .null, .null, .null, .null, .long (ql 0), .int (qz 0), .null, .int (qz 0), .null, .null, .int (qz 0), .int (qz 0), .int (qz 0), .int (qz 0), .int (qz 0), .null, .int (qz 0), .null, .int (qz 0), .null, .null, .null, .null, .null, .null, .int (qz 0), .long (ql 0), .null, .null, .null, .null, .int (qz 0), .int (qz 0), .int (qz 0), .null, .null, .null, .null] 110 rfl (Nat.le_of_ble_eq_true rfl) (Nat.le_of_ble_eq_true rfl) (Or.inr ⟨by decide, rfl⟩) (qr_fitR (Or.inr ⟨_, rfl⟩) _) rfl rfl ?_
  refine qr_aload_n 111 rfl rfl rfl ?_
  refine qr_bipush 113 rfl (by decide) rfl ?_
  refine qr_inewI ha [.inr (12, [.ref (a + 1), .ref (a + 2), .ref (a + 3), .ref (a + 4), .int (qz 0), .int (qz 0), .int (qz 0), .ref (a + 5), .ref (a + 6), .ref (a + 7), .long (ql 0), .int (qz 0), .ref (a + 8), .ref (a + 9), .ref (a + 10), .int (qz 0), .int (qz 0), .ref (a + 11), .ref (a + 12), .ref (a + 13), .null, .null, .long (ql 0), .int (qz 0), .int (qz 0), .null, .null, .null, .null, .long (ql 0), .int (qz 0), .null, .int (qz 0), .null, .null, .int (qz 0), .int (qz 0), .int (qz 0), .int (qz 0), .int (qz 0), .null, .int (qz 0), .null, .int (qz 0), .null, .null, .null, .null, .null, .null, .int (qz 0), .long (ql 0), .null, .null, .null, .null, .int (qz 0), .int (qz 0), .int (qz 0), .null, .null, .null, .null]), .inl (.int, 252, .inl (qzf (fun _ => 0))), .inl (.int, 40, .inl (qzf (fun _ => 0))), .inl (.int, 40, .inl (qzf (fun _ => 0))), .inl (.int, 40, .inl (qzf (fun _ => 0))), .inl (.int, 32, .inl (qzf (fun _ => 0))), .inl (.int, 32, .inl (qzf (fun _ => 0))), .inl (.int, 32, .inl (qzf (fun _ => 0))), .inl (.int, 61, .inl (qzf (fun _ => 0))), .inl (.int, 61, .inl (qzf (fun _ => 0))), .inl (.int, 1024, .inl (qzf (fun _ => 0))), .inl (.int, 40, .inl (qzf (fun _ => 0))), .inl (.int, 40, .inl (qzf (fun _ => 0))), .inl (.int, 40, .inl (qzf (fun _ => 0))), .inl (.int, 40, .inl (qzf (fun _ => 0)))] 115 14 1774 14 rfl (by decide) (Nat.le_of_ble_eq_true rfl) (Nat.le_of_ble_eq_true rfl) rfl rfl rfl rfl rfl ?_
  refine qr_iput ha [.ref (a + 1), .ref (a + 2), .ref (a + 3), .ref (a + 4), .int (qz 0), .int (qz 0), .int (qz 0), .ref (a + 5), .ref (a + 6), .ref (a + 7), .long (ql 0), .int (qz 0), .ref (a + 8), .ref (a + 9), .ref (a + 10), .int (qz 0), .int (qz 0), .ref (a + 11), .ref (a + 12), .ref (a + 13), .ref (a + 14), .null, .long (ql 0), .int (qz 0), .int (qz 0), .null, .null, .null, .null, .long (ql 0), .int (qz 0), .null, .int (qz 0), .null, .null, .int (qz 0), .int (qz 0), .int (qz 0), .int (qz 0), .int (qz 0), .null, .int (qz 0), .null, .int (qz 0), .null, .null, .null, .null, .null, .null, .int (qz 0), .long (ql 0), .null, .null, .null, .null, .int (qz 0), .int (qz 0), .int (qz 0), .null, .null, .null, .null] 118 rfl (Nat.le_of_ble_eq_true rfl) (Nat.le_of_ble_eq_true rfl) (Or.inr ⟨by decide, rfl⟩) (qr_fitR (Or.inr ⟨_, rfl⟩) _) rfl rfl ?_
  refine qr_aload_n 119 rfl rfl rfl ?_
  refine qr_bipush 121 rfl (by decide) rfl ?_
  refine qr_inewI ha [.inr (12, [.ref (a + 1), .ref (a + 2), .ref (a + 3), .ref (a + 4), .int (qz 0), .int (qz 0), .int (qz 0), .ref (a + 5), .ref (a + 6), .ref (a + 7), .long (ql 0), .int (qz 0), .ref (a + 8), .ref (a + 9), .ref (a + 10), .int (qz 0), .int (qz 0), .ref (a + 11), .ref (a + 12), .ref (a + 13), .ref (a + 14), .null, .long (ql 0), .int (qz 0), .int (qz 0), .null, .null, .null, .null, .long (ql 0), .int (qz 0), .null, .int (qz 0), .null, .null, .int (qz 0), .int (qz 0), .int (qz 0), .int (qz 0), .int (qz 0), .null, .int (qz 0), .null, .int (qz 0), .null, .null, .null, .null, .null, .null, .int (qz 0), .long (ql 0), .null, .null, .null, .null, .int (qz 0), .int (qz 0), .int (qz 0), .null, .null, .null, .null]), .inl (.int, 252, .inl (qzf (fun _ => 0))), .inl (.int, 40, .inl (qzf (fun _ => 0))), .inl (.int, 40, .inl (qzf (fun _ => 0))), .inl (.int, 40, .inl (qzf (fun _ => 0))), .inl (.int, 32, .inl (qzf (fun _ => 0))), .inl (.int, 32, .inl (qzf (fun _ => 0))), .inl (.int, 32, .inl (qzf (fun _ => 0))), .inl (.int, 61, .inl (qzf (fun _ => 0))), .inl (.int, 61, .inl (qzf (fun _ => 0))), .inl (.int, 1024, .inl (qzf (fun _ => 0))), .inl (.int, 40, .inl (qzf (fun _ => 0))), .inl (.int, 40, .inl (qzf (fun _ => 0))), .inl (.int, 40, .inl (qzf (fun _ => 0))), .inl (.int, 40, .inl (qzf (fun _ => 0))), .inl (.int, 40, .inl (qzf (fun _ => 0)))] 123 15 1814 15 rfl (by decide) (Nat.le_of_ble_eq_true rfl) (Nat.le_of_ble_eq_true rfl) rfl rfl rfl rfl rfl ?_
  refine qr_iput ha [.ref (a + 1), .ref (a + 2), .ref (a + 3), .ref (a + 4), .int (qz 0), .int (qz 0), .int (qz 0), .ref (a + 5), .ref (a + 6), .ref (a + 7), .long (ql 0), .int (qz 0), .ref (a + 8), .ref (a + 9), .ref (a + 10), .int (qz 0), .int (qz 0), .ref (a + 11), .ref (a + 12), .ref (a + 13), .ref (a + 14), .ref (a + 15), .long (ql 0), .int (qz 0), .int (qz 0), .null, .null, .null, .null, .long (ql 0), .int (qz 0), .null, .int (qz 0), .null, .null, .int (qz 0), .int (qz 0), .int (qz 0), .int (qz 0), .int (qz 0), .null, .int (qz 0), .null, .int (qz 0), .null, .null, .null, .null, .null, .null, .int (qz 0), .long (ql 0), .null, .null, .null, .null, .int (qz 0), .int (qz 0), .int (qz 0), .null, .null, .null, .null] 126 rfl (Nat.le_of_ble_eq_true rfl) (Nat.le_of_ble_eq_true rfl) (Or.inr ⟨by decide, rfl⟩) (qr_fitR (Or.inr ⟨_, rfl⟩) _) rfl rfl ?_
  refine qr_aload_n 127 rfl rfl rfl ?_
  refine qr_bipush 129 rfl (by decide) rfl ?_
  refine qr_inewI ha [.inr (12, [.ref (a + 1), .ref (a + 2), .ref (a + 3), .ref (a + 4), .int (qz 0), .int (qz 0), .int (qz 0), .ref (a + 5), .ref (a + 6), .ref (a + 7), .long (ql 0), .int (qz 0), .ref (a + 8), .ref (a + 9), .ref (a + 10), .int (qz 0), .int (qz 0), .ref (a + 11), .ref (a + 12), .ref (a + 13), .ref (a + 14), .ref (a + 15), .long (ql 0), .int (qz 0), .int (qz 0), .null, .null, .null, .null, .long (ql 0), .int (qz 0), .null, .int (qz 0), .null, .null, .int (qz 0), .int (qz 0), .int (qz 0), .int (qz 0), .int (qz 0), .null, .int (qz 0), .null, .int (qz 0), .null, .null, .null, .null, .null, .null, .int (qz 0), .long (ql 0), .null, .null, .null, .null, .int (qz 0), .int (qz 0), .int (qz 0), .null, .null, .null, .null]), .inl (.int, 252, .inl (qzf (fun _ => 0))), .inl (.int, 40, .inl (qzf (fun _ => 0))), .inl (.int, 40, .inl (qzf (fun _ => 0))), .inl (.int, 40, .inl (qzf (fun _ => 0))), .inl (.int, 32, .inl (qzf (fun _ => 0))), .inl (.int, 32, .inl (qzf (fun _ => 0))), .inl (.int, 32, .inl (qzf (fun _ => 0))), .inl (.int, 61, .inl (qzf (fun _ => 0))), .inl (.int, 61, .inl (qzf (fun _ => 0))), .inl (.int, 1024, .inl (qzf (fun _ => 0))), .inl (.int, 40, .inl (qzf (fun _ => 0))), .inl (.int, 40, .inl (qzf (fun _ => 0))), .inl (.int, 40, .inl (qzf (fun _ => 0))), .inl (.int, 40, .inl (qzf (fun _ => 0))), .inl (.int, 40, .inl (qzf (fun _ => 0))), .inl (.int, 60, .inl (qzf (fun _ => 0)))] 131 16 1874 16 rfl (by decide) (Nat.le_of_ble_eq_true rfl) (Nat.le_of_ble_eq_true rfl) rfl rfl rfl rfl rfl ?_
  refine qr_iput ha [.ref (a + 1), .ref (a + 2), .ref (a + 3), .ref (a + 4), .int (qz 0), .int (qz 0), .int (qz 0), .ref (a + 5), .ref (a + 6), .ref (a + 7), .long (ql 0), .int (qz 0), .ref (a + 8), .ref (a + 9), .ref (a + 10), .int (qz 0), .int (qz 0), .ref (a + 11), .ref (a + 12), .ref (a + 13), .ref (a + 14), .ref (a + 15), .long (ql 0), .int (qz 0), .int (qz 0), .ref (a + 16), .null, .null, .null, .long (ql 0), .int (qz 0), .null, .int (qz 0), .null, .null, .int (qz 0), .int (qz 0), .int (qz 0), .int (qz 0), .int (qz 0), .null, .int (qz 0), .null, .int (qz 0), .null, .null, .null, .null, .null, .null, .int (qz 0), .long (ql 0), .null, .null, .null, .null, .int (qz 0), .int (qz 0), .int (qz 0), .null, .null, .null, .null] 134 rfl (Nat.le_of_ble_eq_true rfl) (Nat.le_of_ble_eq_true rfl) (Or.inr ⟨by decide, rfl⟩) (qr_fitR (Or.inr ⟨_, rfl⟩) _) rfl rfl ?_
  refine qr_aload_n 135 rfl rfl rfl ?_
  refine qr_bipush 137 rfl (by decide) rfl ?_
  refine qr_inewI ha [.inr (12, [.ref (a + 1), .ref (a + 2), .ref (a + 3), .ref (a + 4), .int (qz 0), .int (qz 0), .int (qz 0), .ref (a + 5), .ref (a + 6), .ref (a + 7), .long (ql 0), .int (qz 0), .ref (a + 8), .ref (a + 9), .ref (a + 10), .int (qz 0), .int (qz 0), .ref (a + 11), .ref (a + 12), .ref (a + 13), .ref (a + 14), .ref (a + 15), .long (ql 0), .int (qz 0), .int (qz 0), .ref (a + 16), .null, .null, .null, .long (ql 0), .int (qz 0), .null, .int (qz 0), .null, .null, .int (qz 0), .int (qz 0), .int (qz 0), .int (qz 0), .int (qz 0), .null, .int (qz 0), .null, .int (qz 0), .null, .null, .null, .null, .null, .null, .int (qz 0), .long (ql 0), .null, .null, .null, .null, .int (qz 0), .int (qz 0), .int (qz 0), .null, .null, .null, .null]), .inl (.int, 252, .inl (qzf (fun _ => 0))), .inl (.int, 40, .inl (qzf (fun _ => 0))), .inl (.int, 40, .inl (qzf (fun _ => 0))), .inl (.int, 40, .inl (qzf (fun _ => 0))), .inl (.int, 32, .inl (qzf (fun _ => 0))), .inl (.int, 32, .inl (qzf (fun _ => 0))), .inl (.int, 32, .inl (qzf (fun _ => 0))), .inl (.int, 61, .inl (qzf (fun _ => 0))), .inl (.int, 61, .inl (qzf (fun _ => 0))), .inl (.int, 1024, .inl (qzf (fun _ => 0))), .inl (.int, 40, .inl (qzf (fun _ => 0))), .inl (.int, 40, .inl (qzf (fun _ => 0))), .inl (.int, 40, .inl (qzf (fun _ => 0))), .inl (.int, 40, .inl (qzf (fun _ => 0))), .inl (.int, 40, .inl (qzf (fun _ => 0))), .inl (.int, 60, .inl (qzf (fun _ => 0))), .inl (.int, 60, .inl (qzf (fun _ => 0)))] 139 17 1934 17 rfl (by decide) (Nat.le_of_ble_eq_true rfl) (Nat.le_of_ble_eq_true rfl) rfl rfl rfl rfl rfl ?_
  refine qr_iput ha [.ref (a + 1), .ref (a + 2), .ref (a + 3), .ref (a + 4), .int (qz 0), .int (qz 0), .int (qz 0), .ref (a + 5), .ref (a + 6), .ref (a + 7), .long (ql 0), .int (qz 0), .ref (a + 8), .ref (a + 9), .ref (a + 10), .int (qz 0), .int (qz 0), .ref (a + 11), .ref (a + 12), .ref (a + 13), .ref (a + 14), .ref (a + 15), .long (ql 0), .int (qz 0), .int (qz 0), .ref (a + 16), .ref (a + 17), .null, .null, .long (ql 0), .int (qz 0), .null, .int (qz 0), .null, .null, .int (qz 0), .int (qz 0), .int (qz 0), .int (qz 0), .int (qz 0), .null, .int (qz 0), .null, .int (qz 0), .null, .null, .null, .null, .null, .null, .int (qz 0), .long (ql 0), .null, .null, .null, .null, .int (qz 0), .int (qz 0), .int (qz 0), .null, .null, .null, .null] 142 rfl (Nat.le_of_ble_eq_true rfl) (Nat.le_of_ble_eq_true rfl) (Or.inr ⟨by decide, rfl⟩) (qr_fitR (Or.inr ⟨_, rfl⟩) _) rfl rfl ?_
  refine qr_aload_n 143 rfl rfl rfl ?_
  refine qr_bipush 145 rfl (by decide) rfl ?_
  refine qr_inewI ha [.inr (12, [.ref (a + 1), .ref (a + 2), .ref (a + 3), .ref (a + 4), .int (qz 0), .int (qz 0), .int (qz 0), .ref (a + 5), .ref (a + 6), .ref (a + 7), .long (ql 0), .int (qz 0), .ref (a + 8), .ref (a + 9), .ref (a + 10), .int (qz 0), .int (qz 0), .ref (a + 11), .ref (a + 12), .ref (a + 13), .ref (a + 14), .ref (a + 15), .long (ql 0), .int (qz 0), .int (qz 0), .ref (a + 16), .ref (a + 17), .null, .null, .long (ql 0), .int (qz 0), .null, .int (qz 0), .null, .null, .int (qz 0), .int (qz 0), .int (qz 0), .int (qz 0), .int (qz 0), .null, .int (qz 0), .null, .int (qz 0), .null, .null, .null, .null, .null, .null, .int (qz 0), .long (ql 0), .null, .null, .null, .null, .int (qz 0), .int (qz 0), .int (qz 0), .null, .null, .null, .null]), .inl (.int, 252, .inl (qzf (fun _ => 0))), .inl (.int, 40, .inl (qzf (fun _ => 0))), .inl (.int, 40, .inl (qzf (fun _ => 0))), .inl (.int, 40, .inl (qzf (fun _ => 0))), .inl (.int, 32, .inl (qzf (fun _ => 0))), .inl (.int, 32, .inl (qzf (fun _ => 0))), .inl (.int, 32, .inl (qzf (fun _ => 0))), .inl (.int, 61, .inl (qzf (fun _ => 0))), .inl (.int, 61, .inl (qzf (fun _ => 0))), .inl (.int, 1024, .inl (qzf (fun _ => 0))), .inl (.int, 40, .inl (qzf (fun _ => 0))), .inl (.int, 40, .inl (qzf (fun _ => 0))), .inl (.int, 40, .inl (qzf (fun _ => 0))), .inl (.int, 40, .inl (qzf (fun _ => 0))), .inl (.int, 40, .inl (qzf (fun _ => 0))), .inl (.int, 60, .inl (qzf (fun _ => 0))), .inl (.int, 60, .inl (qzf (fun _ => 0))), .inl (.int, 60, .inl (qzf (fun _ => 0)))] 147 18 1994 18 rfl (by decide) (Nat.le_of_ble_eq_true rfl) (Nat.le_of_ble_eq_true rfl) rfl rfl rfl rfl rfl ?_
  refine qr_iput ha [.ref (a + 1), .ref (a + 2), .ref (a + 3), .ref (a + 4), .int (qz 0), .int (qz 0), .int (qz 0), .ref (a + 5), .ref (a + 6), .ref (a + 7), .long (ql 0), .int (qz 0), .ref (a + 8), .ref (a + 9), .ref (a + 10), .int (qz 0), .int (qz 0), .ref (a + 11), .ref (a + 12), .ref (a + 13), .ref (a + 14), .ref (a + 15), .long (ql 0), .int (qz 0), .int (qz 0), .ref (a + 16), .ref (a + 17), .ref (a + 18), .null, .long (ql 0), .int (qz 0), .null, .int (qz 0), .null, .null, .int (qz 0), .int (qz 0), .int (qz 0), .int (qz 0), .int (qz 0), .null, .int (qz 0), .null, .int (qz 0), .null, .null, .null, .null, .null, .null, .int (qz 0), .long (ql 0), .null, .null, .null, .null, .int (qz 0), .int (qz 0), .int (qz 0), .null, .null, .null, .null] 150 rfl (Nat.le_of_ble_eq_true rfl) (Nat.le_of_ble_eq_true rfl) (Or.inr ⟨by decide, rfl⟩) (qr_fitR (Or.inr ⟨_, rfl⟩) _) rfl rfl ?_
  refine qr_aload_n 151 rfl rfl rfl ?_
  refine qr_bipush 153 rfl (by decide) rfl ?_
  refine qr_inewI ha [.inr (12, [.ref (a + 1), .ref (a + 2), .ref (a + 3), .ref (a + 4), .int (qz 0), .int (qz 0), .int (qz 0), .ref (a + 5), .ref (a + 6), .ref (a + 7), .long (ql 0), .int (qz 0), .ref (a + 8), .ref (a + 9), .ref (a + 10), .int (qz 0), .int (qz 0), .ref (a + 11), .ref (a + 12), .ref (a + 13), .ref (a + 14), .ref (a + 15), .long (ql 0), .int (qz 0), .int (qz 0), .ref (a + 16), .ref (a + 17), .ref (a + 18), .null, .long (ql 0), .int (qz 0), .null, .int (qz 0), .null, .null, .int (qz 0), .int (qz 0), .int (qz 0), .int (qz 0), .int (qz 0), .null, .int (qz 0), .null, .int (qz 0), .null, .null, .null, .null, .null, .null, .int (qz 0), .long (ql 0), .null, .null, .null, .null, .int (qz 0), .int (qz 0), .int (qz 0), .null, .null, .null, .null]), .inl (.int, 252, .inl (qzf (fun _ => 0))), .inl (.int, 40, .inl (qzf (fun _ => 0))), .inl (.int, 40, .inl (qzf (fun _ => 0))), .inl (.int, 40, .inl (qzf (fun _ => 0))), .inl (.int, 32, .inl (qzf (fun _ => 0))), .inl (.int, 32, .inl (qzf (fun _ => 0))), .inl (.int, 32, .inl (qzf (fun _ => 0))), .inl (.int, 61, .inl (qzf (fun _ => 0))), .inl (.int, 61, .inl (qzf (fun _ => 0))), .inl (.int, 1024, .inl (qzf (fun _ => 0))), .inl (.int, 40, .inl (qzf (fun _ => 0))), .inl (.int, 40, .inl (qzf (fun _ => 0))), .inl (.int, 40, .inl (qzf (fun _ => 0))), .inl (.int, 40, .inl (qzf (fun _ => 0))), .inl (.int, 40, .inl (qzf (fun _ => 0))), .inl (.int, 60, .inl (qzf (fun _ => 0))), .inl (.int, 60, .inl (qzf (fun _ => 0))), .inl (.int, 60, .inl (qzf (fun _ => 0))), .inl (.int, 60, .inl (qzf (fun _ => 0)))] 155 19 2054 19 rfl (by decide) (Nat.le_of_ble_eq_true rfl) (Nat.le_of_ble_eq_true rfl) rfl rfl rfl rfl rfl ?_
  refine qr_iput ha [.ref (a + 1), .ref (a + 2), .ref (a + 3), .ref (a + 4), .int (qz 0), .int (qz 0), .int (qz 0), .ref (a + 5), .ref (a + 6), .ref (a + 7), .long (ql 0), .int (qz 0), .ref (a + 8), .ref (a + 9), .ref (a + 10), .int (qz 0), .int (qz 0), .ref (a + 11), .ref (a + 12), .ref (a + 13), .ref (a + 14), .ref (a + 15), .long (ql 0), .int (qz 0), .int (qz 0), .ref (a + 16), .ref (a + 17), .ref (a + 18), .ref (a + 19), .long (ql 0), .int (qz 0), .null, .int (qz 0), .null, .null, .int (qz 0), .int (qz 0), .int (qz 0), .int (qz 0), .int (qz 0), .null, .int (qz 0), .null, .int (qz 0), .null, .null, .null, .null, .null, .null, .int (qz 0), .long (ql 0), .null, .null, .null, .null, .int (qz 0), .int (qz 0), .int (qz 0), .null, .null, .null, .null] 158 rfl (Nat.le_of_ble_eq_true rfl) (Nat.le_of_ble_eq_true rfl) (Or.inr ⟨by decide, rfl⟩) (qr_fitR (Or.inr ⟨_, rfl⟩) _) rfl rfl ?_
  refine qr_aload_n 159 rfl rfl rfl ?_
  refine qr_bipush 161 rfl (by decide) rfl ?_
  refine qr_inewI ha [.inr (12, [.ref (a + 1), .ref (a + 2), .ref (a + 3), .ref (a + 4), .int (qz 0), .int (qz 0), .int (qz 0), .ref (a + 5), .ref (a + 6), .ref (a + 7), .long (ql 0), .int (qz 0), .ref (a + 8), .ref (a + 9), .ref (a + 10), .int (qz 0), .int (qz 0), .ref (a + 11), .ref (a + 12), .ref (a + 13), .ref (a + 14), .ref (a + 15), .long (ql 0), .int (qz 0), .int (qz 0), .ref (a + 16), .ref (a + 17), .ref (a + 18), .ref (a + 19), .long (ql 0), .int (qz 0), .null, .int (qz 0), .null, .null, .int (qz 0), .int (qz 0), .int (qz 0), .int (qz 0), .int (qz 0), .null, .int (qz 0), .null, .int (qz 0), .null, .null, .null, .null, .null, .null, .int (qz 0), .long (ql 0), .null, .null, .null, .null, .int (qz 0), .int (qz 0), .int (qz 0), .null, .null, .null, .null]), .inl (.int, 252, .inl (qzf (fun _ => 0))), .inl (.int, 40, .inl (qzf (fun _ => 0))), .inl (.int, 40, .inl (qzf (fun _ => 0))), .inl (.int, 40, .inl (qzf (fun _ => 0))), .inl (.int, 32, .inl (qzf (fun _ => 0))), .inl (.int, 32, .inl (qzf (fun _ => 0))), .inl (.int, 32, .inl (qzf (fun _ => 0))), .inl (.int, 61, .inl (qzf (fun _ => 0))), .inl (.int, 61, .inl (qzf (fun _ => 0))), .inl (.int, 1024, .inl (qzf (fun _ => 0))), .inl (.int, 40, .inl (qzf (fun _ => 0))), .inl (.int, 40, .inl (qzf (fun _ => 0))), .inl (.int, 40, .inl (qzf (fun _ => 0))), .inl (.int, 40, .inl (qzf (fun _ => 0))), .inl (.int, 40, .inl (qzf (fun _ => 0))), .inl (.int, 60, .inl (qzf (fun _ => 0))), .inl (.int, 60, .inl (qzf (fun _ => 0))), .inl (.int, 60, .inl (qzf (fun _ => 0))), .inl (.int, 60, .inl (qzf (fun _ => 0))), .inl (.int, 120, .inl (qzf (fun _ => 0)))] 163 20 2174 20 rfl (by decide) (Nat.le_of_ble_eq_true rfl) (Nat.le_of_ble_eq_true rfl) rfl rfl rfl rfl rfl ?_
  refine qr_iput ha [.ref (a + 1), .ref (a + 2), .ref (a + 3), .ref (a + 4), .int (qz 0), .int (qz 0), .int (qz 0), .ref (a + 5), .ref (a + 6), .ref (a + 7), .long (ql 0), .int (qz 0), .ref (a + 8), .ref (a + 9), .ref (a + 10), .int (qz 0), .int (qz 0), .ref (a + 11), .ref (a + 12), .ref (a + 13), .ref (a + 14), .ref (a + 15), .long (ql 0), .int (qz 0), .int (qz 0), .ref (a + 16), .ref (a + 17), .ref (a + 18), .ref (a + 19), .long (ql 0), .int (qz 0), .ref (a + 20), .int (qz 0), .null, .null, .int (qz 0), .int (qz 0), .int (qz 0), .int (qz 0), .int (qz 0), .null, .int (qz 0), .null, .int (qz 0), .null, .null, .null, .null, .null, .null, .int (qz 0), .long (ql 0), .null, .null, .null, .null, .int (qz 0), .int (qz 0), .int (qz 0), .null, .null, .null, .null] 166 rfl (Nat.le_of_ble_eq_true rfl) (Nat.le_of_ble_eq_true rfl) (Or.inr ⟨by decide, rfl⟩) (qr_fitR (Or.inr ⟨_, rfl⟩) _) rfl rfl ?_
  refine qr_aload_n 167 rfl rfl rfl ?_
  refine qr_sipush 170 rfl (by decide) rfl ?_
  refine qr_inewI ha [.inr (12, [.ref (a + 1), .ref (a + 2), .ref (a + 3), .ref (a + 4), .int (qz 0), .int (qz 0), .int (qz 0), .ref (a + 5), .ref (a + 6), .ref (a + 7), .long (ql 0), .int (qz 0), .ref (a + 8), .ref (a + 9), .ref (a + 10), .int (qz 0), .int (qz 0), .ref (a + 11), .ref (a + 12), .ref (a + 13), .ref (a + 14), .ref (a + 15), .long (ql 0), .int (qz 0), .int (qz 0), .ref (a + 16), .ref (a + 17), .ref (a + 18), .ref (a + 19), .long (ql 0), .int (qz 0), .ref (a + 20), .int (qz 0), .null, .null, .int (qz 0), .int (qz 0), .int (qz 0), .int (qz 0), .int (qz 0), .null, .int (qz 0), .null, .int (qz 0), .null, .null, .null, .null, .null, .null, .int (qz 0), .long (ql 0), .null, .null, .null, .null, .int (qz 0), .int (qz 0), .int (qz 0), .null, .null, .null, .null]), .inl (.int, 252, .inl (qzf (fun _ => 0))), .inl (.int, 40, .inl (qzf (fun _ => 0))), .inl (.int, 40, .inl (qzf (fun _ => 0))), .inl (.int, 40, .inl (qzf (fun _ => 0))), .inl (.int, 32, .inl (qzf (fun _ => 0))), .inl (.int, 32, .inl (qzf (fun _ => 0))), .inl (.int, 32, .inl (qzf (fun _ => 0))), .inl (.int, 61, .inl (qzf (fun _ => 0))), .inl (.int, 61, .inl (qzf (fun _ => 0))), .inl (.int, 1024, .inl (qzf (fun _ => 0))), .inl (.int, 40, .inl (qzf (fun _ => 0))), .inl (.int, 40, .inl (qzf (fun _ => 0))), .inl (.int, 40, .inl (qzf (fun _ => 0))), .inl (.int, 40, .inl (qzf (fun _ => 0))), .inl (.int, 40, .inl (qzf (fun _ => 0))), .inl (.int, 60, .inl (qzf (fun _ => 0))), .inl (.int, 60, .inl (qzf (fun _ => 0))), .inl (.int, 60, .inl (qzf (fun _ => 0))), .inl (.int, 60, .inl (qzf (fun _ => 0))), .inl (.int, 120, .inl (qzf (fun _ => 0))), .inl (.int, 240, .inl (qzf (fun _ => 0)))] 172 21 2414 21 rfl (by decide) (Nat.le_of_ble_eq_true rfl) (Nat.le_of_ble_eq_true rfl) rfl rfl rfl rfl rfl ?_
  refine qr_iput ha [.ref (a + 1), .ref (a + 2), .ref (a + 3), .ref (a + 4), .int (qz 0), .int (qz 0), .int (qz 0), .ref (a + 5), .ref (a + 6), .ref (a + 7), .long (ql 0), .int (qz 0), .ref (a + 8), .ref (a + 9), .ref (a + 10), .int (qz 0), .int (qz 0), .ref (a + 11), .ref (a + 12), .ref (a + 13), .ref (a + 14), .ref (a + 15), .long (ql 0), .int (qz 0), .int (qz 0), .ref (a + 16), .ref (a + 17), .ref (a + 18), .ref (a + 19), .long (ql 0), .int (qz 0), .ref (a + 20), .int (qz 0), .ref (a + 21), .null, .int (qz 0), .int (qz 0), .int (qz 0), .int (qz 0), .int (qz 0), .null, .int (qz 0), .null, .int (qz 0), .null, .null, .null, .null, .null, .null, .int (qz 0), .long (ql 0), .null, .null, .null, .null, .int (qz 0), .int (qz 0), .int (qz 0), .null, .null, .null, .null] 175 rfl (Nat.le_of_ble_eq_true rfl) (Nat.le_of_ble_eq_true rfl) (Or.inr ⟨by decide, rfl⟩) (qr_fitR (Or.inr ⟨_, rfl⟩) _) rfl rfl ?_
  refine qr_aload_n 176 rfl rfl rfl ?_
  refine qr_iconst 177 rfl rfl ?_
  refine qr_inewI ha [.inr (12, [.ref (a + 1), .ref (a + 2), .ref (a + 3), .ref (a + 4), .int (qz 0), .int (qz 0), .int (qz 0), .ref (a + 5), .ref (a + 6), .ref (a + 7), .long (ql 0), .int (qz 0), .ref (a + 8), .ref (a + 9), .ref (a + 10), .int (qz 0), .int (qz 0), .ref (a + 11), .ref (a + 12), .ref (a + 13), .ref (a + 14), .ref (a + 15), .long (ql 0), .int (qz 0), .int (qz 0), .ref (a + 16), .ref (a + 17), .ref (a + 18), .ref (a + 19), .long (ql 0), .int (qz 0), .ref (a + 20), .int (qz 0), .ref (a + 21), .null, .int (qz 0), .int (qz 0), .int (qz 0), .int (qz 0), .int (qz 0), .null, .int (qz 0), .null, .int (qz 0), .null, .null, .null, .null, .null, .null, .int (qz 0), .long (ql 0), .null, .null, .null, .null, .int (qz 0), .int (qz 0), .int (qz 0), .null, .null, .null, .null]), .inl (.int, 252, .inl (qzf (fun _ => 0))), .inl (.int, 40, .inl (qzf (fun _ => 0))), .inl (.int, 40, .inl (qzf (fun _ => 0))), .inl (.int, 40, .inl (qzf (fun _ => 0))), .inl (.int, 32, .inl (qzf (fun _ => 0))), .inl (.int, 32, .inl (qzf (fun _ => 0))), .inl (.int, 32, .inl (qzf (fun _ => 0))), .inl (.int, 61, .inl (qzf (fun _ => 0))), .inl (.int, 61, .inl (qzf (fun _ => 0))), .inl (.int, 1024, .inl (qzf (fun _ => 0))), .inl (.int, 40, .inl (qzf (fun _ => 0))), .inl (.int, 40, .inl (qzf (fun _ => 0))), .inl (.int, 40, .inl (qzf (fun _ => 0))), .inl (.int, 40, .inl (qzf (fun _ => 0))), .inl (.int, 40, .inl (qzf (fun _ => 0))), .inl (.int, 60, .inl (qzf (fun _ => 0))), .inl (.int, 60, .inl (qzf (fun _ => 0))), .inl (.int, 60, .inl (qzf (fun _ => 0))), .inl (.int, 60, .inl (qzf (fun _ => 0))), .inl (.int, 120, .inl (qzf (fun _ => 0))), .inl (.int, 240, .inl (qzf (fun _ => 0))), .inl (.int, 2, .inl (qzf (fun _ => 0)))] 179 22 2416 22 rfl (by decide) (Nat.le_of_ble_eq_true rfl) (Nat.le_of_ble_eq_true rfl) rfl rfl rfl rfl rfl ?_
  refine qr_iput ha [.ref (a + 1), .ref (a + 2), .ref (a + 3), .ref (a + 4), .int (qz 0), .int (qz 0), .int (qz 0), .ref (a + 5), .ref (a + 6), .ref (a + 7), .long (ql 0), .int (qz 0), .ref (a + 8), .ref (a + 9), .ref (a + 10), .int (qz 0), .int (qz 0), .ref (a + 11), .ref (a + 12), .ref (a + 13), .ref (a + 14), .ref (a + 15), .long (ql 0), .int (qz 0), .int (qz 0), .ref (a + 16), .ref (a + 17), .ref (a + 18), .ref (a + 19), .long (ql 0), .int (qz 0), .ref (a + 20), .int (qz 0), .ref (a + 21), .ref (a + 22), .int (qz 0), .int (qz 0), .int (qz 0), .int (qz 0), .int (qz 0), .null, .int (qz 0), .null, .int (qz 0), .null, .null, .null, .null, .null, .null, .int (qz 0), .long (ql 0), .null, .null, .null, .null, .int (qz 0), .int (qz 0), .int (qz 0), .null, .null, .null, .null] 182 rfl (Nat.le_of_ble_eq_true rfl) (Nat.le_of_ble_eq_true rfl) (Or.inr ⟨by decide, rfl⟩) (qr_fitR (Or.inr ⟨_, rfl⟩) _) rfl rfl ?_
  refine qr_aload_n 183 rfl rfl rfl ?_
  refine qr_bipush 185 rfl (by decide) rfl ?_
  refine qr_inewI ha [.inr (12, [.ref (a + 1), .ref (a + 2), .ref (a + 3), .ref (a + 4), .int (qz 0), .int (qz 0), .int (qz 0), .ref (a + 5), .ref (a + 6), .ref (a + 7), .long (ql 0), .int (qz 0), .ref (a + 8), .ref (a + 9), .ref (a + 10), .int (qz 0), .int (qz 0), .ref (a + 11), .ref (a + 12), .ref (a + 13), .ref (a + 14), .ref (a + 15), .long (ql 0), .int (qz 0), .int (qz 0), .ref (a + 16), .ref (a + 17), .ref (a + 18), .ref (a + 19), .long (ql 0), .int (qz 0), .ref (a + 20), .int (qz 0), .ref (a + 21), .ref (a + 22), .int (qz 0), .int (qz 0), .int (qz 0), .int (qz 0), .int (qz 0), .null, .int (qz 0), .null, .int (qz 0), .null, .null, .null, .null, .null, .null, .int (qz 0), .long (ql 0), .null, .null, .null, .null, .int (qz 0), .int (qz 0), .int (qz 0), .null, .null, .null, .null]), .inl (.int, 252, .inl (qzf (fun _ => 0))), .inl (.int, 40, .inl (qzf (fun _ => 0))), .inl (.int, 40, .inl (qzf (fun _ => 0))), .inl (.int, 40, .inl (qzf (fun _ => 0))), .inl (.int, 32, .inl (qzf (fun _ => 0))), .inl (.int, 32, .inl (qzf (fun _ => 0))), .inl (.int, 32, .inl (qzf (fun _ => 0))), .inl (.int, 61, .inl (qzf (fun _ => 0))), .inl (.int, 61, .inl (qzf (fun _ => 0))), .inl (.int, 1024, .inl (qzf (fun _ => 0))), .inl (.int, 40, .inl (qzf (fun _ => 0))), .inl (.int, 40, .inl (qzf (fun _ => 0))), .inl (.int, 40, .inl (qzf (fun _ => 0))), .inl (.int, 40, .inl (qzf (fun _ => 0))), .inl (.int, 40, .inl (qzf (fun _ => 0))), .inl (.int, 60, .inl (qzf (fun _ => 0))), .inl (.int, 60, .inl (qzf (fun _ => 0))), .inl (.int, 60, .inl (qzf (fun _ => 0))), .inl (.int, 60, .inl (qzf (fun _ => 0))), .inl (.int, 120, .inl (qzf (fun _ => 0))), .inl (.int, 240, .inl (qzf (fun _ => 0))), .inl (.int, 2, .inl (qzf (fun _ => 0))), .inl (.int, 9, .inl (qzf (fun _ => 0)))] 187 23 2425 23 rfl (by decide) (Nat.le_of_ble_eq_true rfl) (Nat.le_of_ble_eq_true rfl) rfl rfl rfl rfl rfl ?_
  refine qr_iput ha [.ref (a + 1), .ref (a + 2), .ref (a + 3), .ref (a + 4), .int (qz 0), .int (qz 0), .int (qz 0), .ref (a + 5), .ref (a + 6), .ref (a + 7), .long (ql 0), .int (qz 0), .ref (a + 8), .ref (a + 9), .ref (a + 10), .int (qz 0), .int (qz 0), .ref (a + 11), .ref (a + 12), .ref (a + 13), .ref (a + 14), .ref (a + 15), .long (ql 0), .int (qz 0), .int (qz 0), .ref (a + 16), .ref (a + 17), .ref (a + 18), .ref (a + 19), .long (ql 0), .int (qz 0), .ref (a + 20), .int (qz 0), .ref (a + 21), .ref (a + 22), .int (qz 0), .int (qz 0), .int (qz 0), .int (qz 0), .int (qz 0), .ref (a + 23), .int (qz 0), .null, .int (qz 0), .null, .null, .null, .null, .null, .null, .int (qz 0), .long (ql 0), .null, .null, .null, .null, .int (qz 0), .int (qz 0), .int (qz 0), .null, .null, .null, .null] 190 rfl (Nat.le_of_ble_eq_true rfl) (Nat.le_of_ble_eq_true rfl) (Or.inr ⟨by decide, rfl⟩) (qr_fitR (Or.inr ⟨_, rfl⟩) _) rfl rfl ?_
  refine qr_aload_n 191 rfl rfl rfl ?_
  refine qr_bipush 193 rfl (by decide) rfl ?_
  refine qr_inewI ha [.inr (12, [.ref (a + 1), .ref (a + 2), .ref (a + 3), .ref (a + 4), .int (qz 0), .int (qz 0), .int (qz 0), .ref (a + 5), .ref (a + 6), .ref (a + 7), .long (ql 0), .int (qz 0), .ref (a + 8), .ref (a + 9), .ref (a + 10), .int (qz 0), .int (qz 0), .ref (a + 11), .ref (a + 12), .ref (a + 13), .ref (a + 14), .ref (a + 15), .long (ql 0), .int (qz 0), .int (qz 0), .ref (a + 16), .ref (a + 17), .ref (a + 18), .ref (a + 19), .long (ql 0), .int (qz 0), .ref (a + 20), .int (qz 0), .ref (a + 21), .ref (a + 22), .int (qz 0), .int (qz 0), .int (qz 0), .int (qz 0), .int (qz 0), .ref (a + 23), .int (qz 0), .null, .int (qz 0), .null, .null, .null, .null, .null, .null, .int (qz 0), .long (ql 0), .null, .null, .null, .null, .int (qz 0), .int (qz 0), .int (qz 0), .null, .null, .null, .null]), .inl (.int, 252, .inl (qzf (fun _ => 0))), .inl (.int, 40, .inl (qzf (fun _ => 0))), .inl (.int, 40, .inl (qzf (fun _ => 0))), .inl (.int, 40, .inl (qzf (fun _ => 0))), .inl (.int, 32, .inl (qzf (fun _ => 0))), .inl (.int, 32, .inl (qzf (fun _ => 0))), .inl (.int, 32, .inl (qzf (fun _ => 0))), .inl (.int, 61, .inl (qzf (fun _ => 0))), .inl (.int, 61, .inl (qzf (fun _ => 0))), .inl (.int, 1024, .inl (qzf (fun _ => 0))), .inl (.int, 40, .inl (qzf (fun _ => 0))), .inl (.int, 40, .inl (qzf (fun _ => 0))), .inl (.int, 40, .inl (qzf (fun _ => 0))), .inl (.int, 40, .inl (qzf (fun _ => 0))), .inl (.int, 40, .inl (qzf (fun _ => 0))), .inl (.int, 60, .inl (qzf (fun _ => 0))), .inl (.int, 60, .inl (qzf (fun _ => 0))), .inl (.int, 60, .inl (qzf (fun _ => 0))), .inl (.int, 60, .inl (qzf (fun _ => 0))), .inl (.int, 120, .inl (qzf (fun _ => 0))), .inl (.int, 240, .inl (qzf (fun _ => 0))), .inl (.int, 2, .inl (qzf (fun _ => 0))), .inl (.int, 9, .inl (qzf (fun _ => 0))), .inl (.int, 32, .inl (qzf (fun _ => 0)))] 195 24 2457 24 rfl (by decide) (Nat.le_of_ble_eq_true rfl) (Nat.le_of_ble_eq_true rfl) rfl rfl rfl rfl rfl ?_
  refine qr_iput ha [.ref (a + 1), .ref (a + 2), .ref (a + 3), .ref (a + 4), .int (qz 0), .int (qz 0), .int (qz 0), .ref (a + 5), .ref (a + 6), .ref (a + 7), .long (ql 0), .int (qz 0), .ref (a + 8), .ref (a + 9), .ref (a + 10), .int (qz 0), .int (qz 0), .ref (a + 11), .ref (a + 12), .ref (a + 13), .ref (a + 14), .ref (a + 15), .long (ql 0), .int (qz 0), .int (qz 0), .ref (a + 16), .ref (a + 17), .ref (a + 18), .ref (a + 19), .long (ql 0), .int (qz 0), .ref (a + 20), .int (qz 0), .ref (a + 21), .ref (a + 22), .int (qz 0), .int (qz 0), .int (qz 0), .int (qz 0), .int (qz 0), .ref (a + 23), .int (qz 0), .ref (a + 24), .int (qz 0), .null, .null, .null, .null, .null, .null, .int (qz 0), .long (ql 0), .null, .null, .null, .null, .int (qz 0), .int (qz 0), .int (qz 0), .null, .null, .null, .null] 198 rfl (Nat.le_of_ble_eq_true rfl) (Nat.le_of_ble_eq_true rfl) (Or.inr ⟨by decide, rfl⟩) (qr_fitR (Or.inr ⟨_, rfl⟩) _) rfl rfl ?_
  refine qr_aload_n 199 rfl rfl rfl ?_
  refine qr_bipush 201 rfl (by decide) rfl ?_
  refine qr_inewI ha [.inr (12, [.ref (a + 1), .ref (a + 2), .ref (a + 3), .ref (a + 4), .int (qz 0), .int (qz 0), .int (qz 0), .ref (a + 5), .ref (a + 6), .ref (a + 7), .long (ql 0), .int (qz 0), .ref (a + 8), .ref (a + 9), .ref (a + 10), .int (qz 0), .int (qz 0), .ref (a + 11), .ref (a + 12), .ref (a + 13), .ref (a + 14), .ref (a + 15), .long (ql 0), .int (qz 0), .int (qz 0), .ref (a + 16), .ref (a + 17), .ref (a + 18), .ref (a + 19), .long (ql 0), .int (qz 0), .ref (a + 20), .int (qz 0), .ref (a + 21), .ref (a + 22), .int (qz 0), .int (qz 0), .int (qz 0), .int (qz 0), .int (qz 0), .ref (a + 23), .int (qz 0), .ref (a + 24), .int (qz 0), .null, .null, .null, .null, .null, .null, .int (qz 0), .long (ql 0), .null, .null, .null, .null, .int (qz 0), .int (qz 0), .int (qz 0), .null, .null, .null, .null]), .inl (.int, 252, .inl (qzf (fun _ => 0))), .inl (.int, 40, .inl (qzf (fun _ => 0))), .inl (.int, 40, .inl (qzf (fun _ => 0))), .inl (.int, 40, .inl (qzf (fun _ => 0))), .inl (.int, 32, .inl (qzf (fun _ => 0))), .inl (.int, 32, .inl (qzf (fun _ => 0))), .inl (.int, 32, .inl (qzf (fun _ => 0))), .inl (.int, 61, .inl (qzf (fun _ => 0))), .inl (.int, 61, .inl (qzf (fun _ => 0))), .inl (.int, 1024, .inl (qzf (fun _ => 0))), .inl (.int, 40, .inl (qzf (fun _ => 0))), .inl (.int, 40, .inl (qzf (fun _ => 0))), .inl (.int, 40, .inl (qzf (fun _ => 0))), .inl (.int, 40, .inl (qzf (fun _ => 0))), .inl (.int, 40, .inl (qzf (fun _ => 0))), .inl (.int, 60, .inl (qzf (fun _ => 0))), .inl (.int, 60, .inl (qzf (fun _ => 0))), .inl (.int, 60, .inl (qzf (fun _ => 0))), .inl (.int, 60, .inl (qzf (fun _ => 0))), .inl (.int, 120, .inl (qzf (fun _ => 0))), .inl (.int, 240, .inl (qzf (fun _ => 0))), .inl (.int, 2, .inl (qzf (fun _ => 0))), .inl (.int, 9, .inl (qzf (fun _ => 0))), .inl (.int, 32, .inl (qzf (fun _ => 0))), .inl (.int, 12, .inl (qzf (fun _ => 0)))] 203 25 2469 25 rfl (by decide) (Nat.le_of_ble_eq_true rfl) (Nat.le_of_ble_eq_true rfl) rfl rfl rfl rfl rfl ?_
  refine qr_iput ha [.ref (a + 1), .ref (a + 2), .ref (a + 3), .ref (a + 4), .int (qz 0), .int (qz 0), .int (qz 0), .ref (a + 5), .ref (a + 6), .ref (a + 7), .long (ql 0), .int (qz 0), .ref (a + 8), .ref (a + 9), .ref (a + 10), .int (qz 0), .int (qz 0), .ref (a + 11), .ref (a + 12), .ref (a + 13), .ref (a + 14), .ref (a + 15), .long (ql 0), .int (qz 0), .int (qz 0), .ref (a + 16), .ref (a + 17), .ref (a + 18), .ref (a + 19), .long (ql 0), .int (qz 0), .ref (a + 20), .int (qz 0), .ref (a + 21), .ref (a + 22), .int (qz 0), .int (qz 0), .int (qz 0), .int (qz 0), .int (qz 0), .ref (a + 23), .int (qz 0), .ref (a + 24), .int (qz 0), .ref (a + 25), .null, .null, .null, .null, .null, .int (qz 0), .long (ql 0), .null, .null, .null, .null, .int (qz 0), .int (qz 0), .int (qz 0), .null, .null, .null, .null] 206 rfl (Nat.le_of_ble_eq_true rfl) (Nat.le_of_ble_eq_true rfl) (Or.inr ⟨by decide, rfl⟩) (qr_fitR (Or.inr ⟨_, rfl⟩) _) rfl rfl ?_
  refine qr_aload_n 207 rfl rfl rfl ?_
  refine qr_sipush 210 rfl (by decide) rfl ?_
  refine qr_inewI ha [.inr (12, [.ref (a + 1), .ref (a + 2), .ref (a + 3), .ref (a + 4), .int (qz 0), .int (qz 0), .int (qz 0), .ref (a + 5), .ref (a + 6), .ref (a + 7), .long (ql 0), .int (qz 0), .ref (a + 8), .ref (a + 9), .ref (a + 10), .int (qz 0), .int (qz 0), .ref (a + 11), .ref (a + 12), .ref (a + 13), .ref (a + 14), .ref (a + 15), .long (ql 0), .int (qz 0), .int (qz 0), .ref (a + 16), .ref (a + 17), .ref (a + 18), .ref (a + 19), .long (ql 0), .int (qz 0), .ref (a + 20), .int (qz 0), .ref (a + 21), .ref (a + 22), .int (qz 0), .int (qz 0), .int (qz 0), .int (qz 0), .int (qz 0), .ref (a + 23), .int (qz 0), .ref (a + 24), .int (qz 0), .ref (a + 25), .null, .null, .null, .null, .null, .int (qz 0), .long (ql 0), .null, .null, .null, .null, .int (qz 0), .int (qz 0), .int (qz 0), .null, .null, .null, .null]), .inl (.int, 252, .inl (qzf (fun _ => 0))), .inl (.int, 40, .inl (qzf (fun _ => 0))), .inl (.int, 40, .inl (qzf (fun _ => 0))), .inl (.int, 40, .inl (qzf (fun _ => 0))), .inl (.int, 32, .inl (qzf (fun _ => 0))), .inl (.int, 32, .inl (qzf (fun _ => 0))), .inl (.int, 32, .inl (qzf (fun _ => 0))), .inl (.int, 61, .inl (qzf (fun _ => 0))), .inl (.int, 61, .inl (qzf (fun _ => 0))), .inl (.int, 1024, .inl (qzf (fun _ => 0))), .inl (.int, 40, .inl (qzf (fun _ => 0))), .inl (.int, 40, .inl (qzf (fun _ => 0))), .inl (.int, 40, .inl (qzf (fun _ => 0))), .inl (.int, 40, .inl (qzf (fun _ => 0))), .inl (.int, 40, .inl (qzf (fun _ => 0))), .inl (.int, 60, .inl (qzf (fun _ => 0))), .inl (.int, 60, .inl (qzf (fun _ => 0))), .inl (.int, 60, .inl (qzf (fun _ => 0))), .inl (.int, 60, .inl (qzf (fun _ => 0))), .inl (.int, 120, .inl (qzf (fun _ => 0))), .inl (.int, 240, .inl (qzf (fun _ => 0))), .inl (.int, 2, .inl (qzf (fun _ => 0))), .inl (.int, 9, .inl (qzf (fun _ => 0))), .inl (.int, 32, .inl (qzf (fun _ => 0))), .inl (.int, 12, .inl (qzf (fun _ => 0))), .inl (.int, 4096, .inl (qzf (fun _ => 0)))] 212 26 6565 26 rfl (by decide) (Nat.le_of_ble_eq_true rfl) (Nat.le_of_ble_eq_true rfl) rfl rfl rfl rfl rfl ?_
  refine qr_iput ha [.ref (a + 1), .ref (a + 2), .ref (a + 3), .ref (a + 4), .int (qz 0), .int (qz 0), .int (qz 0), .ref (a + 5), .ref (a + 6), .ref (a + 7), .long (ql 0), .int (qz 0), .ref (a + 8), .ref (a + 9), .ref (a + 10), .int (qz 0), .int (qz 0), .ref (a + 11), .ref (a + 12), .ref (a + 13), .ref (a + 14), .ref (a + 15), .long (ql 0), .int (qz 0), .int (qz 0), .ref (a + 16), .ref (a + 17), .ref (a + 18), .ref (a + 19), .long (ql 0), .int (qz 0), .ref (a + 20), .int (qz 0), .ref (a + 21), .ref (a + 22), .int (qz 0), .int (qz 0), .int (qz 0), .int (qz 0), .int (qz 0), .ref (a + 23), .int (qz 0), .ref (a + 24), .int (qz 0), .ref (a + 25), .ref (a + 26), .null, .null, .null, .null, .int (qz 0), .long (ql 0), .null, .null, .null, .null, .int (qz 0), .int (qz 0), .int (qz 0), .null, .null, .null, .null] 215 rfl (Nat.le_of_ble_eq_true rfl) (Nat.le_of_ble_eq_true rfl) (Or.inr ⟨by decide, rfl⟩) (qr_fitR (Or.inr ⟨_, rfl⟩) _) rfl rfl ?_
  refine qr_aload_n 216 rfl rfl rfl ?_
  refine qr_bipush 218 rfl (by decide) rfl ?_
  refine qr_inewI ha [.inr (12, [.ref (a + 1), .ref (a + 2), .ref (a + 3), .ref (a + 4), .int (qz 0), .int (qz 0), .int (qz 0), .ref (a + 5), .ref (a + 6), .ref (a + 7), .long (ql 0), .int (qz 0), .ref (a + 8), .ref (a + 9), .ref (a + 10), .int (qz 0), .int (qz 0), .ref (a + 11), .ref (a + 12), .ref (a + 13), .ref (a + 14), .ref (a + 15), .long (ql 0), .int (qz 0), .int (qz 0), .ref (a + 16), .ref (a + 17), .ref (a + 18), .ref (a + 19), .long (ql 0), .int (qz 0), .ref (a + 20), .int (qz 0), .ref (a + 21), .ref (a + 22), .int (qz 0), .int (qz 0), .int (qz 0), .int (qz 0), .int (qz 0), .ref (a + 23), .int (qz 0), .ref (a + 24), .int (qz 0), .ref (a + 25), .ref (a + 26), .null, .null, .null, .null, .int (qz 0), .long (ql 0), .null, .null, .null, .null, .int (qz 0), .int (qz 0), .int (qz 0), .null, .null, .null, .null]), .inl (.int, 252, .inl (qzf (fun _ => 0))), .inl (.int, 40, .inl (qzf (fun _ => 0))), .inl (.int, 40, .inl (qzf (fun _ => 0))), .inl (.int, 40, .inl (qzf (fun _ => 0))), .inl (.int, 32, .inl (qzf (fun _ => 0))), .inl (.int, 32, .inl (qzf (fun _ => 0))), .inl (.int, 32, .inl (qzf (fun _ => 0))), .inl (.int, 61, .inl (qzf (fun _ => 0))), .inl (.int, 61, .inl (qzf (fun _ => 0))), .inl (.int, 1024, .inl (qzf (fun _ => 0))), .inl (.int, 40, .inl (qzf (fun _ => 0))), .inl (.int, 40, .inl (qzf (fun _ => 0))), .inl (.int, 40, .inl (qzf (fun _ => 0))), .inl (.int, 40, .inl (qzf (fun _ => 0))), .inl (.int, 40, .inl (qzf (fun _ => 0))), .inl (.int, 60, .inl (qzf (fun _ => 0))), .inl (.int, 60, .inl (qzf (fun _ => 0))), .inl (.int, 60, .inl (qzf (fun _ => 0))), .inl (.int, 60, .inl (qzf (fun _ => 0))), .inl (.int, 120, .inl (qzf (fun _ => 0))), .inl (.int, 240, .inl (qzf (fun _ => 0))), .inl (.int, 2, .inl (qzf (fun _ => 0))), .inl (.int, 9, .inl (qzf (fun _ => 0))), .inl (.int, 32, .inl (qzf (fun _ => 0))), .inl (.int, 12, .inl (qzf (fun _ => 0))), .inl (.int, 4096, .inl (qzf (fun _ => 0))), .inl (.int, 10, .inl (qzf (fun _ => 0)))] 220 27 6575 27 rfl (by decide) (Nat.le_of_ble_eq_true rfl) (Nat.le_of_ble_eq_true rfl) rfl rfl rfl rfl rfl ?_
  refine qr_iput ha [.ref (a + 1), .ref (a + 2), .ref (a + 3), .ref (a + 4), .int (qz 0), .int (qz 0), .int (qz 0), .ref (a + 5), .ref (a + 6), .ref (a + 7), .long (ql 0), .int (qz 0), .ref (a + 8), .ref (a + 9), .ref (a + 10), .int (qz 0), .int (qz 0), .ref (a + 11), .ref (a + 12), .ref (a + 13), .ref (a + 14), .ref (a + 15), .long (ql 0), .int (qz 0), .int (qz 0), .ref (a + 16), .ref (a + 17), .ref (a + 18), .ref (a + 19), .long (ql 0), .int (qz 0), .ref (a + 20), .int (qz 0), .ref (a + 21), .ref (a + 22), .int (qz 0), .int (qz 0), .int (qz 0), .int (qz 0), .int (qz 0), .ref (a + 23), .int (qz 0), .ref (a + 24), .int (qz 0), .ref (a + 25), .ref (a + 26), .ref (a + 27), .null, .null, .null, .int (qz 0), .long (ql 0), .null, .null, .null, .null, .int (qz 0), .int (qz 0), .int (qz 0), .null, .null, .null, .null] 223 rfl (Nat.le_of_ble_eq_true rfl) (Nat.le_of_ble_eq_true rfl) (Or.inr ⟨by decide, rfl⟩) (qr_fitR (Or.inr ⟨_, rfl⟩) _) rfl rfl ?_
  refine qr_aload_n 224 rfl rfl rfl ?_
  refine qr_bipush 226 rfl (by decide) rfl ?_
  refine qr_inewI ha [.inr (12, [.ref (a + 1), .ref (a + 2), .ref (a + 3), .ref (a + 4), .int (qz 0), .int (qz 0), .int (qz 0), .ref (a + 5), .ref (a + 6), .ref (a + 7), .long (ql 0), .int (qz 0), .ref (a + 8), .ref (a + 9), .ref (a + 10), .int (qz 0), .int (qz 0), .ref (a + 11), .ref (a + 12), .ref (a + 13), .ref (a + 14), .ref (a + 15), .long (ql 0), .int (qz 0), .int (qz 0), .ref (a + 16), .ref (a + 17), .ref (a + 18), .ref (a + 19), .long (ql 0), .int (qz 0), .ref (a + 20), .int (qz 0), .ref (a + 21), .ref (a + 22), .int (qz 0), .int (qz 0), .int (qz 0), .int (qz 0), .int (qz 0), .ref (a + 23), .int (qz 0), .ref (a + 24), .int (qz 0), .ref (a + 25), .ref (a + 26), .ref (a + 27), .null, .null, .null, .int (qz 0), .long (ql 0), .null, .null, .null, .null, .int (qz 0), .int (qz 0), .int (qz 0), .null, .null, .null, .null]), .inl (.int, 252, .inl (qzf (fun _ => 0))), .inl (.int, 40, .inl (qzf (fun _ => 0))), .inl (.int, 40, .inl (qzf (fun _ => 0))), .inl (.int, 40, .inl (qzf (fun _ => 0))), .inl (.int, 32, .inl (qzf (fun _ => 0))), .inl (.int, 32, .inl (qzf (fun _ => 0))), .inl (.int, 32, .inl (qzf (fun _ => 0))), .inl (.int, 61, .inl (qzf (fun _ => 0))), .inl (.int, 61, .inl (qzf (fun _ => 0))), .inl (.int, 1024, .inl (qzf (fun _ => 0))), .inl (.int, 40, .inl (qzf (fun _ => 0))), .inl (.int, 40, .inl (qzf (fun _ => 0))), .inl (.int, 40, .inl (qzf (fun _ => 0))), .inl (.int, 40, .inl (qzf (fun _ => 0))), .inl (.int, 40, .inl (qzf (fun _ => 0))), .inl (.int, 60, .inl (qzf (fun _ => 0))), .inl (.int, 60, .inl (qzf (fun _ => 0))), .inl (.int, 60, .inl (qzf (fun _ => 0))), .inl (.int, 60, .inl (qzf (fun _ => 0))), .inl (.int, 120, .inl (qzf (fun _ => 0))), .inl (.int, 240, .inl (qzf (fun _ => 0))), .inl (.int, 2, .inl (qzf (fun _ => 0))), .inl (.int, 9, .inl (qzf (fun _ => 0))), .inl (.int, 32, .inl (qzf (fun _ => 0))), .inl (.int, 12, .inl (qzf (fun _ => 0))), .inl (.int, 4096, .inl (qzf (fun _ => 0))), .inl (.int, 10, .inl (qzf (fun _ => 0))), .inl (.int, 6, .inl (qzf (fun _ => 0)))] 228 28 6581 28 rfl (by decide) (Nat.le_of_ble_eq_true rfl) (Nat.le_of_ble_eq_true rfl) rfl rfl rfl rfl rfl ?_
  refine qr_iput ha [.ref (a + 1), .ref (a + 2), .ref (a + 3), .ref (a + 4), .int (qz 0), .int (qz 0), .int (qz 0), .ref (a + 5), .ref (a + 6), .ref (a + 7), .long (ql 0), .int (qz 0), .ref (a + 8), .ref (a + 9), .ref (a + 10), .int (qz 0), .int (qz 0), .ref (a + 11), .ref (a + 12), .ref (a + 13), .ref (a + 14), .ref (a + 15), .long (ql 0), .int (qz 0), .int (qz 0), .ref (a + 16), .ref (a + 17), .ref (a + 18), .ref (a + 19), .long (ql 0), .int (qz 0), .ref (a + 20), .int (qz 0), .ref (a + 21), .ref (a + 22), .int (qz 0), .int (qz 0), .int (qz 0), .int (qz 0), .int (qz 0), .ref (a + 23), .int (qz 0), .ref (a + 24), .int (qz 0), .ref (a + 25), .ref (a + 26), .ref (a + 27), .ref (a + 28), .null, .null, .int (qz 0), .long (ql 0), .null, .null, .null, .null, .int (qz 0), .int (qz 0), .int (qz 0), .null, .null, .null, .null] 231 rfl (Nat.le_of_ble_eq_true rfl) (Nat.le_of_ble_eq_true rfl) (Or.inr ⟨by decide, rfl⟩) (qr_fitR (Or.inr ⟨_, rfl⟩) _) rfl rfl ?_
  refine qr_aload_n 232 rfl rfl rfl ?_
  refine qr_bipush 234 rfl (by decide) rfl ?_
  refine qr_inewI ha [.inr (12, [.ref (a + 1), .ref (a + 2), .ref (a + 3), .ref (a + 4), .int (qz 0), .int (qz 0), .int (qz 0), .ref (a + 5), .ref (a + 6), .ref (a + 7), .long (ql 0), .int (qz 0), .ref (a + 8), .ref (a + 9), .ref (a + 10), .int (qz 0), .int (qz 0), .ref (a + 11), .ref (a + 12), .ref (a + 13), .ref (a + 14), .ref (a + 15), .long (ql 0), .int (qz 0), .int (qz 0), .ref (a + 16), .ref (a + 17), .ref (a + 18), .ref (a + 19), .long (ql 0), .int (qz 0), .ref (a + 20), .int (qz 0), .ref (a + 21), .ref (a + 22), .int (qz 0), .int (qz 0), .int (qz 0), .int (qz 0), .int (qz 0), .ref (a + 23), .int (qz 0), .ref (a + 24), .int (qz 0), .ref (a + 25), .ref (a + 26), .ref (a + 27), .ref (a + 28), .null, .null, .int (qz 0), .long (ql 0), .null, .null, .null, .null, .int (qz 0), .int (qz 0), .int (qz 0), .null, .null, .null, .null]), .inl (.int, 252, .inl (qzf (fun _ => 0))), .inl (.int, 40, .inl (qzf (fun _ => 0))), .inl (.int, 40, .inl (qzf (fun _ => 0))), .inl (.int, 40, .inl (qzf (fun _ => 0))), .inl (.int, 32, .inl (qzf (fun _ => 0))), .inl (.int, 32, .inl (qzf (fun _ => 0))), .inl (.int, 32, .inl (qzf (fun _ => 0))), .inl (.int, 61, .inl (qzf (fun _ => 0))), .inl (.int, 61, .inl (qzf (fun _ => 0))), .inl (.int, 1024, .inl (qzf (fun _ => 0))), .inl (.int, 40, .inl (qzf (fun _ => 0))), .inl (.int, 40, .inl (qzf (fun _ => 0))), .inl (.int, 40, .inl (qzf (fun _ => 0))), .inl (.int, 40, .inl (qzf (fun _ => 0))), .inl (.int, 40, .inl (qzf (fun _ => 0))), .inl (.int, 60, .inl (qzf (fun _ => 0))), .inl (.int, 60, .inl (qzf (fun _ => 0))), .inl (.int, 60, .inl (qzf (fun _ => 0))), .inl (.int, 60, .inl (qzf (fun _ => 0))), .inl (.int, 120, .inl (qzf (fun _ => 0))), .inl (.int, 240, .inl (qzf (fun _ => 0))), .inl (.int, 2, .inl (qzf (fun _ => 0))), .inl (.int, 9, .inl (qzf (fun _ => 0))), .inl (.int, 32, .inl (qzf (fun _ => 0))), .inl (.int, 12, .inl (qzf (fun _ => 0))), .inl (.int, 4096, .inl (qzf (fun _ => 0))), .inl (.int, 10, .inl (qzf (fun _ => 0))), .inl (.int, 6, .inl (qzf (fun _ => 0))), .inl (.int, 31, .inl (qzf (fun _ => 0)))] 236 29 6612 29 rfl (by decide) (Nat.le_of_ble_eq_true rfl) (Nat.le_of_ble_eq_true rfl) rfl rfl rfl rfl rfl ?_
  refine qr_iput ha [.ref (a + 1), .ref (a + 2), .ref (a + 3), .ref (a + 4), .int (qz 0), .int (qz 0), .int (qz 0), .ref (a + 5), .ref (a + 6), .ref (a + 7), .long (ql 0), .int (qz 0), .ref (a + 8), .ref (a + 9), .ref (a + 10), .int (qz 0), .int (qz 0), .ref (a + 11), .ref (a + 12), .ref (a + 13), .ref (a + 14), .ref (a + 15), .long (ql 0), .int (qz 0), .int (qz 0), .ref (a + 16), .ref (a + 17), .ref (a + 18), .ref (a + 19), .long (ql 0), .int (qz 0), .ref (a + 20), .int (qz 0), .ref (a + 21), .ref (a + 22), .int (qz 0), .int (qz 0), .int (qz 0), .int (qz 0), .int (qz 0), .ref (a + 23), .int (qz 0), .ref (a + 24), .int (qz 0), .ref (a + 25), .ref (a + 26), .ref (a + 27), .ref (a + 28), .ref (a + 29), .null, .int (qz 0), .long (ql 0), .null, .null, .null, .null, .int (qz 0), .int (qz 0), .int (qz 0), .null, .null, .null, .null] 239 rfl (Nat.le_of_ble_eq_true rfl) (Nat.le_of_ble_eq_true rfl) (Or.inr ⟨by decide, rfl⟩) (qr_fitR (Or.inr ⟨_, rfl⟩) _) rfl rfl ?_
  refine qr_aload_n 240 rfl rfl rfl ?_
  refine qr_bipush 242 rfl (by decide) rfl ?_
  refine qr_inewI ha [.inr (12, [.ref (a + 1), .ref (a + 2), .ref (a + 3), .ref (a + 4), .int (qz 0), .int (qz 0), .int (qz 0), .ref (a + 5), .ref (a + 6), .ref (a + 7), .long (ql 0), .int (qz 0), .ref (a + 8), .ref (a + 9), .ref (a + 10), .int (qz 0), .int (qz 0), .ref (a + 11), .ref (a + 12), .ref (a + 13), .ref (a + 14), .ref (a + 15), .long (ql 0), .int (qz 0), .int (qz 0), .ref (a + 16), .ref (a + 17), .ref (a + 18), .ref (a + 19), .long (ql 0), .int (qz 0), .ref (a + 20), .int (qz 0), .ref (a + 21), .ref (a + 22), .int (qz 0), .int (qz 0), .int (qz 0), .int (qz 0), .int (qz 0), .ref (a + 23), .int (qz 0), .ref (a + 24), .int (qz 0), .ref (a + 25), .ref (a + 26), .ref (a + 27), .ref (a + 28), .ref (a + 29), .null, .int (qz 0), .long (ql 0), .null, .null, .null, .null, .int (qz 0), .int (qz 0), .int (qz 0), .null, .null, .null, .null]), .inl (.int, 252, .inl (qzf (fun _ => 0))), .inl (.int, 40, .inl (qzf (fun _ => 0))), .inl (.int, 40, .inl (qzf (fun _ => 0))), .inl (.int, 40, .inl (qzf (fun _ => 0))), .inl (.int, 32, .inl (qzf (fun _ => 0))), .inl (.int, 32, .inl (qzf (fun _ => 0))), .inl (.int, 32, .inl (qzf (fun _ => 0))), .inl (.int, 61, .inl (qzf (fun _ => 0))), .inl (.int, 61, .inl (qzf (fun _ => 0))), .inl (.int, 1024, .inl (qzf (fun _ => 0))), .inl (.int, 40, .inl (qzf (fun _ => 0))), .inl (.int, 40, .inl (qzf (fun _ => 0))), .inl (.int, 40, .inl (qzf (fun _ => 0))), .inl (.int, 40, .inl (qzf (fun _ => 0))), .inl (.int, 40, .inl (qzf (fun _ => 0))), .inl (.int, 60, .inl (qzf (fun _ => 0))), .inl (.int, 60, .inl (qzf (fun _ => 0))), .inl (.int, 60, .inl (qzf (fun _ => 0))), .inl (.int, 60, .inl (qzf (fun _ => 0))), .inl (.int, 120, .inl (qzf (fun _ => 0))), .inl (.int, 240, .inl (qzf (fun _ => 0))), .inl (.int, 2, .inl (qzf (fun _ => 0))), .inl (.int, 9, .inl (qzf (fun _ => 0))), .inl (.int, 32, .inl (qzf (fun _ => 0))), .inl (.int, 12, .inl (qzf (fun _ => 0))), .inl (.int, 4096, .inl (qzf (fun _ => 0))), .inl (.int, 10, .inl (qzf (fun _ => 0))), .inl (.int, 6, .inl (qzf (fun _ => 0))), .inl (.int, 31, .inl (qzf (fun _ => 0))), .inl (.int, 31, .inl (qzf (fun _ => 0)))] 244 30 6643 30 rfl (by decide) (Nat.le_of_ble_eq_true rfl) (Nat.le_of_ble_eq_true rfl) rfl rfl rfl rfl rfl ?_
  refine qr_iput ha [.ref (a + 1), .ref (a + 2), .ref (a + 3), .ref (a + 4), .int (qz 0), .int (qz 0), .int (qz 0), .ref (a + 5), .ref (a + 6), .ref (a + 7), .long (ql 0), .int (qz 0), .ref (a + 8), .ref (a + 9), .ref (a + 10), .int (qz 0), .int (qz 0), .ref (a + 11), .ref (a + 12), .ref (a + 13), .ref (a + 14), .ref (a + 15), .long (ql 0), .int (qz 0), .int (qz 0), .ref (a + 16), .ref (a + 17), .ref (a + 18), .ref (a + 19), .long (ql 0), .int (qz 0), .ref (a + 20), .int (qz 0), .ref (a + 21), .ref (a + 22), .int (qz 0), .int (qz 0), .int (qz 0), .int (qz 0), .int (qz 0), .ref (a + 23), .int (qz 0), .ref (a + 24), .int (qz 0), .ref (a + 25), .ref (a + 26), .ref (a + 27), .ref (a + 28), .ref (a + 29), .ref (a + 30), .int (qz 0), .long (ql 0), .null, .null, .null, .null, .int (qz 0), .int (qz 0), .int (qz 0), .null, .null, .null, .null] 247 rfl (Nat.le_of_ble_eq_true rfl) (Nat.le_of_ble_eq_true rfl) (Or.inr ⟨by decide, rfl⟩) (qr_fitR (Or.inr ⟨_, rfl⟩) _) rfl rfl ?_
  refine qr_aload_n 248 rfl rfl rfl ?_
  refine qr_ldc2 (-1) 251 rfl (by decide) rfl ?_
  refine qr_iput ha [.ref (a + 1), .ref (a + 2), .ref (a + 3), .ref (a + 4), .int (qz 0), .int (qz 0), .int (qz 0), .ref (a + 5), .ref (a + 6), .ref (a + 7), .long (ql 0), .int (qz 0), .ref (a + 8), .ref (a + 9), .ref (a + 10), .int (qz 0), .int (qz 0), .ref (a + 11), .ref (a + 12), .ref (a + 13), .ref (a + 14), .ref (a + 15), .long (ql 0), .int (qz 0), .int (qz 0), .ref (a + 16), .ref (a + 17), .ref (a + 18), .ref (a + 19), .long (ql 0), .int (qz 0), .ref (a + 20), .int (qz 0), .ref (a + 21), .ref (a + 22), .int (qz 0), .int (qz 0), .int (qz 0), .int (qz 0), .int (qz 0), .ref (a + 23), .int (qz 0), .ref (a + 24), .int (qz 0), .ref (a + 25), .ref (a + 26), .ref (a + 27), .ref (a + 28), .ref (a + 29), .ref (a + 30), .int (qz 0), .long (ql (-1)), .null, .null, .null, .null, .int (qz 0), .int (qz 0), .int (qz 0), .null, .null, .null, .null] 254 rfl (Nat.le_of_ble_eq_true rfl) (Nat.le_of_ble_eq_true rfl) (Or.inl rfl) (qr_fitL rfl _) rfl rfl ?_
  refine qr_aload_n 255 rfl rfl rfl ?_
  refine qr_bipush 257 rfl (by decide) rfl ?_
  refine qr_inewI ha [.inr (12, [.ref (a + 1), .ref (a + 2), .ref (a + 3), .ref (a + 4), .int (qz 0), .int (qz 0), .int (qz 0), .ref (a + 5), .ref (a + 6), .ref (a + 7), .long (ql 0), .int (qz 0), .ref (a + 8), .ref (a + 9), .ref (a + 10), .int (qz 0), .int (qz 0), .ref (a + 11), .ref (a + 12), .ref (a + 13), .ref (a + 14), .ref (a + 15), .long (ql 0), .int (qz 0), .int (qz 0), .ref (a + 16), .ref (a + 17), .ref (a + 18), .ref (a + 19), .long (ql 0), .int (qz 0), .ref (a + 20), .int (qz 0), .ref (a + 21), .ref (a + 22), .int (qz 0), .int (qz 0), .int (qz 0), .int (qz 0), .int (qz 0), .ref (a + 23), .int (qz 0), .ref (a + 24), .int (qz 0), .ref (a + 25), .ref (a + 26), .ref (a + 27), .ref (a + 28), .ref (a + 29), .ref (a + 30), .int (qz 0), .long (ql (-1)), .null, .null, .null, .null, .int (qz 0), .int (qz 0), .int (qz 0), .null, .null, .null, .null]), .inl (.int, 252, .inl (qzf (fun _ => 0))), .inl (.int, 40, .inl (qzf (fun _ => 0))), .inl (.int, 40, .inl (qzf (fun _ => 0))), .inl (.int, 40, .inl (qzf (fun _ => 0))), .inl (.int, 32, .inl (qzf (fun _ => 0))), .inl (.int, 32, .inl (qzf (fun _ => 0))), .inl (.int, 32, .inl (qzf (fun _ => 0))), .inl (.int, 61, .inl (qzf (fun _ => 0))), .inl (.int, 61, .inl (qzf (fun _ => 0))), .inl (.int, 1024, .inl (qzf (fun _ => 0))), .inl (.int, 40, .inl (qzf (fun _ => 0))), .inl (.int, 40, .inl (qzf (fun _ => 0))), .inl (.int, 40, .inl (qzf (fun _ => 0))), .inl (.int, 40, .inl (qzf (fun _ => 0))), .inl (.int, 40, .inl (qzf (fun _ => 0))), .inl (.int, 60, .inl (qzf (fun _ => 0))), .inl (.int, 60, .inl (qzf (fun _ => 0))), .inl (.int, 60, .inl (qzf (fun _ => 0))), .inl (.int, 60, .inl (qzf (fun _ => 0))), .inl (.int, 120, .inl (qzf (fun _ => 0))), .inl (.int, 240, .inl (qzf (fun _ => 0))), .inl (.int, 2, .inl (qzf (fun _ => 0))), .inl (.int, 9, .inl (qzf (fun _ => 0))), .inl (.int, 32, .inl (qzf (fun _ => 0))), .inl (.int, 12, .inl (qzf (fun _ => 0))), .inl (.int, 4096, .inl (qzf (fun _ => 0))), .inl (.int, 10, .inl (qzf (fun _ => 0))), .inl (.int, 6, .inl (qzf (fun _ => 0))), .inl (.int, 31, .inl (qzf (fun _ => 0))), .inl (.int, 31, .inl (qzf (fun _ => 0))), .inl (.int, 31, .inl (qzf (fun _ => 0)))] 259 31 6674 31 rfl (by decide) (Nat.le_of_ble_eq_true rfl) (Nat.le_of_ble_eq_true rfl) rfl rfl rfl rfl rfl ?_
  refine qr_iput ha [.ref (a + 1), .ref (a + 2), .ref (a + 3), .ref (a + 4), .int (qz 0), .int (qz 0), .int (qz 0), .ref (a + 5), .ref (a + 6), .ref (a + 7), .long (ql 0), .int (qz 0), .ref (a + 8), .ref (a + 9), .ref (a + 10), .int (qz 0), .int (qz 0), .ref (a + 11), .ref (a + 12), .ref (a + 13), .ref (a + 14), .ref (a + 15), .long (ql 0), .int (qz 0), .int (qz 0), .ref (a + 16), .ref (a + 17), .ref (a + 18), .ref (a + 19), .long (ql 0), .int (qz 0), .ref (a + 20), .int (qz 0), .ref (a + 21), .ref (a + 22), .int (qz 0), .int (qz 0), .int (qz 0), .int (qz 0), .int (qz 0), .ref (a + 23), .int (qz 0), .ref (a + 24), .int (qz 0), .ref (a + 25), .ref (a + 26), .ref (a + 27), .ref (a + 28), .ref (a + 29), .ref (a + 30), .int (qz 0), .long (ql (-1)), .ref (a + 31), .null, .null, .null, .int (qz 0), .int (qz 0), .int (qz 0), .null, .null, .null, .null] 262 rfl (Nat.le_of_ble_eq_true rfl) (Nat.le_of_ble_eq_true rfl) (Or.inr ⟨by decide, rfl⟩) (qr_fitR (Or.inr ⟨_, rfl⟩) _) rfl rfl ?_
  refine qr_aload_n 263 rfl rfl rfl ?_
  refine qr_bipush 265 rfl (by decide) rfl ?_
  refine qr_inewI ha [.inr (12, [.ref (a + 1), .ref (a + 2), .ref (a + 3), .ref (a + 4), .int (qz 0), .int (qz 0), .int (qz 0), .ref (a + 5), .ref (a + 6), .ref (a + 7), .long (ql 0), .int (qz 0), .ref (a + 8), .ref (a + 9), .ref (a + 10), .int (qz 0), .int (qz 0), .ref (a + 11), .ref (a + 12), .ref (a + 13), .ref (a + 14), .ref (a + 15), .long (ql 0), .int (qz 0), .int (qz 0), .ref (a + 16), .ref (a + 17), .ref (a + 18), .ref (a + 19), .long (ql 0), .int (qz 0), .ref (a + 20), .int (qz 0), .ref (a + 21), .ref (a + 22), .int (qz 0), .int (qz 0), .int (qz 0), .int (qz 0), .int (qz 0), .ref (a + 23), .int (qz 0), .ref (a + 24), .int (qz 0), .ref (a + 25), .ref (a + 26), .ref (a + 27), .ref (a + 28), .ref (a + 29), .ref (a + 30), .int (qz 0), .long (ql (-1)), .ref (a + 31), .null, .null, .null, .int (qz 0), .int (qz 0), .int (qz 0), .null, .null, .null, .null]), .inl (.int, 252, .inl (qzf (fun _ => 0))), .inl (.int, 40, .inl (qzf (fun _ => 0))), .inl (.int, 40, .inl (qzf (fun _ => 0))), .inl (.int, 40, .inl (qzf (fun _ => 0))), .inl (.int, 32, .inl (qzf (fun _ => 0))), .inl (.int, 32, .inl (qzf (fun _ => 0))), .inl (.int, 32, .inl (qzf (fun _ => 0))), .inl (.int, 61, .inl (qzf (fun _ => 0))), .inl (.int, 61, .inl (qzf (fun _ => 0))), .inl (.int, 1024, .inl (qzf (fun _ => 0))), .inl (.int, 40, .inl (qzf (fun _ => 0))), .inl (.int, 40, .inl (qzf (fun _ => 0))), .inl (.int, 40, .inl (qzf (fun _ => 0))), .inl (.int, 40, .inl (qzf (fun _ => 0))), .inl (.int, 40, .inl (qzf (fun _ => 0))), .inl (.int, 60, .inl (qzf (fun _ => 0))), .inl (.int, 60, .inl (qzf (fun _ => 0))), .inl (.int, 60, .inl (qzf (fun _ => 0))), .inl (.int, 60, .inl (qzf (fun _ => 0))), .inl (.int, 120, .inl (qzf (fun _ => 0))), .inl (.int, 240, .inl (qzf (fun _ => 0))), .inl (.int, 2, .inl (qzf (fun _ => 0))), .inl (.int, 9, .inl (qzf (fun _ => 0))), .inl (.int, 32, .inl (qzf (fun _ => 0))), .inl (.int, 12, .inl (qzf (fun _ => 0))), .inl (.int, 4096, .inl (qzf (fun _ => 0))), .inl (.int, 10, .inl (qzf (fun _ => 0))), .inl (.int, 6, .inl (qzf (fun _ => 0))), .inl (.int, 31, .inl (qzf (fun _ => 0))), .inl (.int, 31, .inl (qzf (fun _ => 0))), .inl (.int, 31, .inl (qzf (fun _ => 0))), .inl (.int, 31, .inl (qzf (fun _ => 0)))] 267 32 6705 32 rfl (by decide) (Nat.le_of_ble_eq_true rfl) (Nat.le_of_ble_eq_true rfl) rfl rfl rfl rfl rfl ?_
  refine qr_iput ha [.ref (a + 1), .ref (a + 2), .ref (a + 3), .ref (a + 4), .int (qz 0), .int (qz 0), .int (qz 0), .ref (a + 5), .ref (a + 6), .ref (a + 7), .long (ql 0), .int (qz 0), .ref (a + 8), .ref (a + 9), .ref (a + 10), .int (qz 0), .int (qz 0), .ref (a + 11), .ref (a + 12), .ref (a + 13), .ref (a + 14), .ref (a + 15), .long (ql 0), .int (qz 0), .int (qz 0), .ref (a + 16), .ref (a + 17), .ref (a + 18), .ref (a + 19), .long (ql 0), .int (qz 0), .ref (a + 20), .int (qz 0), .ref (a + 21), .ref (a + 22), .int (qz 0), .int (qz 0), .int (qz 0), .int (qz 0), .int (qz 0), .ref (a + 23), .int (qz 0), .ref (a + 24), .int (qz 0), .ref (a + 25), .ref (a + 26), .ref (a + 27), .ref (a + 28), .ref (a + 29), .ref (a + 30), .int (qz 0), .long (ql (-1)), .ref (a + 31), .ref (a + 32), .null, .null, .int (qz 0), .int (qz 0), .int (qz 0), .null, .null, .null, .null] 270 rfl (Nat.le_of_ble_eq_true rfl) (Nat.le_of_ble_eq_true rfl) (Or.inr ⟨by decide, rfl⟩) (qr_fitR (Or.inr ⟨_, rfl⟩) _) rfl rfl ?_
  refine qr_aload_n 271 rfl rfl rfl ?_
  refine qr_sipush 274 rfl (by decide) rfl ?_
  refine qr_inewZ ha [.inr (12, [.ref (a + 1), .ref (a + 2), .ref (a + 3), .ref (a + 4), .int (qz 0), .int (qz 0), .int (qz 0), .ref (a + 5), .ref (a + 6), .ref (a + 7), .long (ql 0), .int (qz 0), .ref (a + 8), .ref (a + 9), .ref (a + 10), .int (qz 0), .int (qz 0), .ref (a + 11), .ref (a + 12), .ref (a + 13), .ref (a + 14), .ref (a + 15), .long (ql 0), .int (qz 0), .int (qz 0), .ref (a + 16), .ref (a + 17), .ref (a + 18), .ref (a + 19), .long (ql 0), .int (qz 0), .ref (a + 20), .int (qz 0), .ref (a + 21), .ref (a + 22), .int (qz 0), .int (qz 0), .int (qz 0), .int (qz 0), .int (qz 0), .ref (a + 23), .int (qz 0), .ref (a + 24), .int (qz 0), .ref (a + 25), .ref (a + 26), .ref (a + 27), .ref (a + 28), .ref (a + 29), .ref (a + 30), .int (qz 0), .long (ql (-1)), .ref (a + 31), .ref (a + 32), .null, .null, .int (qz 0), .int (qz 0), .int (qz 0), .null, .null, .null, .null]), .inl (.int, 252, .inl (qzf (fun _ => 0))), .inl (.int, 40, .inl (qzf (fun _ => 0))), .inl (.int, 40, .inl (qzf (fun _ => 0))), .inl (.int, 40, .inl (qzf (fun _ => 0))), .inl (.int, 32, .inl (qzf (fun _ => 0))), .inl (.int, 32, .inl (qzf (fun _ => 0))), .inl (.int, 32, .inl (qzf (fun _ => 0))), .inl (.int, 61, .inl (qzf (fun _ => 0))), .inl (.int, 61, .inl (qzf (fun _ => 0))), .inl (.int, 1024, .inl (qzf (fun _ => 0))), .inl (.int, 40, .inl (qzf (fun _ => 0))), .inl (.int, 40, .inl (qzf (fun _ => 0))), .inl (.int, 40, .inl (qzf (fun _ => 0))), .inl (.int, 40, .inl (qzf (fun _ => 0))), .inl (.int, 40, .inl (qzf (fun _ => 0))), .inl (.int, 60, .inl (qzf (fun _ => 0))), .inl (.int, 60, .inl (qzf (fun _ => 0))), .inl (.int, 60, .inl (qzf (fun _ => 0))), .inl (.int, 60, .inl (qzf (fun _ => 0))), .inl (.int, 120, .inl (qzf (fun _ => 0))), .inl (.int, 240, .inl (qzf (fun _ => 0))), .inl (.int, 2, .inl (qzf (fun _ => 0))), .inl (.int, 9, .inl (qzf (fun _ => 0))), .inl (.int, 32, .inl (qzf (fun _ => 0))), .inl (.int, 12, .inl (qzf (fun _ => 0))), .inl (.int, 4096, .inl (qzf (fun _ => 0))), .inl (.int, 10, .inl (qzf (fun _ => 0))), .inl (.int, 6, .inl (qzf (fun _ => 0))), .inl (.int, 31, .inl (qzf (fun _ => 0))), .inl (.int, 31, .inl (qzf (fun _ => 0))), .inl (.int, 31, .inl (qzf (fun _ => 0))), .inl (.int, 31, .inl (qzf (fun _ => 0))), .inl (.boolean, 1024, .inl (qzf (fun _ => 0)))] 276 33 7729 33 rfl (by decide) (Nat.le_of_ble_eq_true rfl) (Nat.le_of_ble_eq_true rfl) rfl rfl rfl rfl rfl ?_
  refine qr_iput ha [.ref (a + 1), .ref (a + 2), .ref (a + 3), .ref (a + 4), .int (qz 0), .int (qz 0), .int (qz 0), .ref (a + 5), .ref (a + 6), .ref (a + 7), .long (ql 0), .int (qz 0), .ref (a + 8), .ref (a + 9), .ref (a + 10), .int (qz 0), .int (qz 0), .ref (a + 11), .ref (a + 12), .ref (a + 13), .ref (a + 14), .ref (a + 15), .long (ql 0), .int (qz 0), .int (qz 0), .ref (a + 16), .ref (a + 17), .ref (a + 18), .ref (a + 19), .long (ql 0), .int (qz 0), .ref (a + 20), .int (qz 0), .ref (a + 21), .ref (a + 22), .int (qz 0), .int (qz 0), .int (qz 0), .int (qz 0), .int (qz 0), .ref (a + 23), .int (qz 0), .ref (a + 24), .int (qz 0), .ref (a + 25), .ref (a + 26), .ref (a + 27), .ref (a + 28), .ref (a + 29), .ref (a + 30), .int (qz 0), .long (ql (-1)), .ref (a + 31), .ref (a + 32), .ref (a + 33), .null, .int (qz 0), .int (qz 0), .int (qz 0), .null, .null, .null, .null] 279 rfl (Nat.le_of_ble_eq_true rfl) (Nat.le_of_ble_eq_true rfl) (Or.inr ⟨by decide, rfl⟩) (qr_fitR (Or.inr ⟨_, rfl⟩) _) rfl rfl ?_
  refine qr_aload_n 280 rfl rfl rfl ?_
  refine qr_bipush 282 rfl (by decide) rfl ?_
  refine qr_inewI ha [.inr (12, [.ref (a + 1), .ref (a + 2), .ref (a + 3), .ref (a + 4), .int (qz 0), .int (qz 0), .int (qz 0), .ref (a + 5), .ref (a + 6), .ref (a + 7), .long (ql 0), .int (qz 0), .ref (a + 8), .ref (a + 9), .ref (a + 10), .int (qz 0), .int (qz 0), .ref (a + 11), .ref (a + 12), .ref (a + 13), .ref (a + 14), .ref (a + 15), .long (ql 0), .int (qz 0), .int (qz 0), .ref (a + 16), .ref (a + 17), .ref (a + 18), .ref (a + 19), .long (ql 0), .int (qz 0), .ref (a + 20), .int (qz 0), .ref (a + 21), .ref (a + 22), .int (qz 0), .int (qz 0), .int (qz 0), .int (qz 0), .int (qz 0), .ref (a + 23), .int (qz 0), .ref (a + 24), .int (qz 0), .ref (a + 25), .ref (a + 26), .ref (a + 27), .ref (a + 28), .ref (a + 29), .ref (a + 30), .int (qz 0), .long (ql (-1)), .ref (a + 31), .ref (a + 32), .ref (a + 33), .null, .int (qz 0), .int (qz 0), .int (qz 0), .null, .null, .null, .null]), .inl (.int, 252, .inl (qzf (fun _ => 0))), .inl (.int, 40, .inl (qzf (fun _ => 0))), .inl (.int, 40, .inl (qzf (fun _ => 0))), .inl (.int, 40, .inl (qzf (fun _ => 0))), .inl (.int, 32, .inl (qzf (fun _ => 0))), .inl (.int, 32, .inl (qzf (fun _ => 0))), .inl (.int, 32, .inl (qzf (fun _ => 0))), .inl (.int, 61, .inl (qzf (fun _ => 0))), .inl (.int, 61, .inl (qzf (fun _ => 0))), .inl (.int, 1024, .inl (qzf (fun _ => 0))), .inl (.int, 40, .inl (qzf (fun _ => 0))), .inl (.int, 40, .inl (qzf (fun _ => 0))), .inl (.int, 40, .inl (qzf (fun _ => 0))), .inl (.int, 40, .inl (qzf (fun _ => 0))), .inl (.int, 40, .inl (qzf (fun _ => 0))), .inl (.int, 60, .inl (qzf (fun _ => 0))), .inl (.int, 60, .inl (qzf (fun _ => 0))), .inl (.int, 60, .inl (qzf (fun _ => 0))), .inl (.int, 60, .inl (qzf (fun _ => 0))), .inl (.int, 120, .inl (qzf (fun _ => 0))), .inl (.int, 240, .inl (qzf (fun _ => 0))), .inl (.int, 2, .inl (qzf (fun _ => 0))), .inl (.int, 9, .inl (qzf (fun _ => 0))), .inl (.int, 32, .inl (qzf (fun _ => 0))), .inl (.int, 12, .inl (qzf (fun _ => 0))), .inl (.int, 4096, .inl (qzf (fun _ => 0))), .inl (.int, 10, .inl (qzf (fun _ => 0))), .inl (.int, 6, .inl (qzf (fun _ => 0))), .inl (.int, 31, .inl (qzf (fun _ => 0))), .inl (.int, 31, .inl (qzf (fun _ => 0))), .inl (.int, 31, .inl (qzf (fun _ => 0))), .inl (.int, 31, .inl (qzf (fun _ => 0))), .inl (.boolean, 1024, .inl (qzf (fun _ => 0))), .inl (.int, 24, .inl (qzf (fun _ => 0)))] 284 34 7753 34 rfl (by decide) (Nat.le_of_ble_eq_true rfl) (Nat.le_of_ble_eq_true rfl) rfl rfl rfl rfl rfl ?_
  refine qr_iput ha [.ref (a + 1), .ref (a + 2), .ref (a + 3), .ref (a + 4), .int (qz 0), .int (qz 0), .int (qz 0), .ref (a + 5), .ref (a + 6), .ref (a + 7), .long (ql 0), .int (qz 0), .ref (a + 8), .ref (a + 9), .ref (a + 10), .int (qz 0), .int (qz 0), .ref (a + 11), .ref (a + 12), .ref (a + 13), .ref (a + 14), .ref (a + 15), .long (ql 0), .int (qz 0), .int (qz 0), .ref (a + 16), .ref (a + 17), .ref (a + 18), .ref (a + 19), .long (ql 0), .int (qz 0), .ref (a + 20), .int (qz 0), .ref (a + 21), .ref (a + 22), .int (qz 0), .int (qz 0), .int (qz 0), .int (qz 0), .int (qz 0), .ref (a + 23), .int (qz 0), .ref (a + 24), .int (qz 0), .ref (a + 25), .ref (a + 26), .ref (a + 27), .ref (a + 28), .ref (a + 29), .ref (a + 30), .int (qz 0), .long (ql (-1)), .ref (a + 31), .ref (a + 32), .ref (a + 33), .ref (a + 34), .int (qz 0), .int (qz 0), .int (qz 0), .null, .null, .null, .null] 287 rfl (Nat.le_of_ble_eq_true rfl) (Nat.le_of_ble_eq_true rfl) (Or.inr ⟨by decide, rfl⟩) (qr_fitR (Or.inr ⟨_, rfl⟩) _) rfl rfl ?_
  refine qr_aload_n 288 rfl rfl rfl ?_
  refine qr_bipush 290 rfl (by decide) rfl ?_
  refine qr_inewI ha [.inr (12, [.ref (a + 1), .ref (a + 2), .ref (a + 3), .ref (a + 4), .int (qz 0), .int (qz 0), .int (qz 0), .ref (a + 5), .ref (a + 6), .ref (a + 7), .long (ql 0), .int (qz 0), .ref (a + 8), .ref (a + 9), .ref (a + 10), .int (qz 0), .int (qz 0), .ref (a + 11), .ref (a + 12), .ref (a + 13), .ref (a + 14), .ref (a + 15), .long (ql 0), .int (qz 0), .int (qz 0), .ref (a + 16), .ref (a + 17), .ref (a + 18), .ref (a + 19), .long (ql 0), .int (qz 0), .ref (a + 20), .int (qz 0), .ref (a + 21), .ref (a + 22), .int (qz 0), .int (qz 0), .int (qz 0), .int (qz 0), .int (qz 0), .ref (a + 23), .int (qz 0), .ref (a + 24), .int (qz 0), .ref (a + 25), .ref (a + 26), .ref (a + 27), .ref (a + 28), .ref (a + 29), .ref (a + 30), .int (qz 0), .long (ql (-1)), .ref (a + 31), .ref (a + 32), .ref (a + 33), .ref (a + 34), .int (qz 0), .int (qz 0), .int (qz 0), .null, .null, .null, .null]), .inl (.int, 252, .inl (qzf (fun _ => 0))), .inl (.int, 40, .inl (qzf (fun _ => 0))), .inl (.int, 40, .inl (qzf (fun _ => 0))), .inl (.int, 40, .inl (qzf (fun _ => 0))), .inl (.int, 32, .inl (qzf (fun _ => 0))), .inl (.int, 32, .inl (qzf (fun _ => 0))), .inl (.int, 32, .inl (qzf (fun _ => 0))), .inl (.int, 61, .inl (qzf (fun _ => 0))), .inl (.int, 61, .inl (qzf (fun _ => 0))), .inl (.int, 1024, .inl (qzf (fun _ => 0))), .inl (.int, 40, .inl (qzf (fun _ => 0))), .inl (.int, 40, .inl (qzf (fun _ => 0))), .inl (.int, 40, .inl (qzf (fun _ => 0))), .inl (.int, 40, .inl (qzf (fun _ => 0))), .inl (.int, 40, .inl (qzf (fun _ => 0))), .inl (.int, 60, .inl (qzf (fun _ => 0))), .inl (.int, 60, .inl (qzf (fun _ => 0))), .inl (.int, 60, .inl (qzf (fun _ => 0))), .inl (.int, 60, .inl (qzf (fun _ => 0))), .inl (.int, 120, .inl (qzf (fun _ => 0))), .inl (.int, 240, .inl (qzf (fun _ => 0))), .inl (.int, 2, .inl (qzf (fun _ => 0))), .inl (.int, 9, .inl (qzf (fun _ => 0))), .inl (.int, 32, .inl (qzf (fun _ => 0))), .inl (.int, 12, .inl (qzf (fun _ => 0))), .inl (.int, 4096, .inl (qzf (fun _ => 0))), .inl (.int, 10, .inl (qzf (fun _ => 0))), .inl (.int, 6, .inl (qzf (fun _ => 0))), .inl (.int, 31, .inl (qzf (fun _ => 0))), .inl (.int, 31, .inl (qzf (fun _ => 0))), .inl (.int, 31, .inl (qzf (fun _ => 0))), .inl (.int, 31, .inl (qzf (fun _ => 0))), .inl (.boolean, 1024, .inl (qzf (fun _ => 0))), .inl (.int, 24, .inl (qzf (fun _ => 0))), .inl (.int, 6, .inl (qzf (fun _ => 0)))] 292 35 7759 35 rfl (by decide) (Nat.le_of_ble_eq_true rfl) (Nat.le_of_ble_eq_true rfl) rfl rfl rfl rfl rfl ?_
  refine qr_iput ha [.ref (a + 1), .ref (a + 2), .ref (a + 3), .ref (a + 4), .int (qz 0), .int (qz 0), .int (qz 0), .ref (a + 5), .ref (a + 6), .ref (a + 7), .long (ql 0), .int (qz 0), .ref (a + 8), .ref (a + 9), .ref (a + 10), .int (qz 0), .int (qz 0), .ref (a + 11), .ref (a + 12), .ref (a + 13), .ref (a + 14), .ref (a + 15), .long (ql 0), .int (qz 0), .int (qz 0), .ref (a + 16), .ref (a + 17), .ref (a + 18), .ref (a + 19), .long (ql 0), .int (qz 0), .ref (a + 20), .int (qz 0), .ref (a + 21), .ref (a + 22), .int (qz 0), .int (qz 0), .int (qz 0), .int (qz 0), .int (qz 0), .ref (a + 23), .int (qz 0), .ref (a + 24), .int (qz 0), .ref (a + 25), .ref (a + 26), .ref (a + 27), .ref (a + 28), .ref (a + 29), .ref (a + 30), .int (qz 0), .long (ql (-1)), .ref (a + 31), .ref (a + 32), .ref (a + 33), .ref (a + 34), .int (qz 0), .int (qz 0), .int (qz 0), .ref (a + 35), .null, .null, .null] 295 rfl (Nat.le_of_ble_eq_true rfl) (Nat.le_of_ble_eq_true rfl) (Or.inr ⟨by decide, rfl⟩) (qr_fitR (Or.inr ⟨_, rfl⟩) _) rfl rfl ?_
  refine qr_aload_n 296 rfl rfl rfl ?_
  refine qr_bipush 298 rfl (by decide) rfl ?_
  refine qr_inewI ha [.inr (12, [.ref (a + 1), .ref (a + 2), .ref (a + 3), .ref (a + 4), .int (qz 0), .int (qz 0), .int (qz 0), .ref (a + 5), .ref (a + 6), .ref (a + 7), .long (ql 0), .int (qz 0), .ref (a + 8), .ref (a + 9), .ref (a + 10), .int (qz 0), .int (qz 0), .ref (a + 11), .ref (a + 12), .ref (a + 13), .ref (a + 14), .ref (a + 15), .long (ql 0), .int (qz 0), .int (qz 0), .ref (a + 16), .ref (a + 17), .ref (a + 18), .ref (a + 19), .long (ql 0), .int (qz 0), .ref (a + 20), .int (qz 0), .ref (a + 21), .ref (a + 22), .int (qz 0), .int (qz 0), .int (qz 0), .int (qz 0), .int (qz 0), .ref (a + 23), .int (qz 0), .ref (a + 24), .int (qz 0), .ref (a + 25), .ref (a + 26), .ref (a + 27), .ref (a + 28), .ref (a + 29), .ref (a + 30), .int (qz 0), .long (ql (-1)), .ref (a + 31), .ref (a + 32), .ref (a + 33), .ref (a + 34), .int (qz 0), .int (qz 0), .int (qz 0), .ref (a + 35), .null, .null, .null]), .inl (.int, 252, .inl (qzf (fun _ => 0))), .inl (.int, 40, .inl (qzf (fun _ => 0))), .inl (.int, 40, .inl (qzf (fun _ => 0))), .inl (.int, 40, .inl (qzf (fun _ => 0))), .inl (.int, 32, .inl (qzf (fun _ => 0))), .inl (.int, 32, .inl (qzf (fun _ => 0))), .inl (.int, 32, .inl (qzf (fun _ => 0))), .inl (.int, 61, .inl (qzf (fun _ => 0))), .inl (.int, 61, .inl (qzf (fun _ => 0))), .inl (.int, 1024, .inl (qzf (fun _ => 0))), .inl (.int, 40, .inl (qzf (fun _ => 0))), .inl (.int, 40, .inl (qzf (fun _ => 0))), .inl (.int, 40, .inl (qzf (fun _ => 0))), .inl (.int, 40, .inl (qzf (fun _ => 0))), .inl (.int, 40, .inl (qzf (fun _ => 0))), .inl (.int, 60, .inl (qzf (fun _ => 0))), .inl (.int, 60, .inl (qzf (fun _ => 0))), .inl (.int, 60, .inl (qzf (fun _ => 0))), .inl (.int, 60, .inl (qzf (fun _ => 0))), .inl (.int, 120, .inl (qzf (fun _ => 0))), .inl (.int, 240, .inl (qzf (fun _ => 0))), .inl (.int, 2, .inl (qzf (fun _ => 0))), .inl (.int, 9, .inl (qzf (fun _ => 0))), .inl (.int, 32, .inl (qzf (fun _ => 0))), .inl (.int, 12, .inl (qzf (fun _ => 0))), .inl (.int, 4096, .inl (qzf (fun _ => 0))), .inl (.int, 10, .inl (qzf (fun _ => 0))), .inl (.int, 6, .inl (qzf (fun _ => 0))), .inl (.int, 31, .inl (qzf (fun _ => 0))), .inl (.int, 31, .inl (qzf (fun _ => 0))), .inl (.int, 31, .inl (qzf (fun _ => 0))), .inl (.int, 31, .inl (qzf (fun _ => 0))), .inl (.boolean, 1024, .inl (qzf (fun _ => 0))), .inl (.int, 24, .inl (qzf (fun _ => 0))), .inl (.int, 6, .inl (qzf (fun _ => 0))), .inl (.int, 6, .inl (qzf (fun _ => 0)))] 300 36 7765 36 rfl (by decide) (Nat.le_of_ble_eq_true rfl) (Nat.le_of_ble_eq_true rfl) rfl rfl rfl rfl rfl ?_
  refine qr_iput ha [.ref (a + 1), .ref (a + 2), .ref (a + 3), .ref (a + 4), .int (qz 0), .int (qz 0), .int (qz 0), .ref (a + 5), .ref (a + 6), .ref (a + 7), .long (ql 0), .int (qz 0), .ref (a + 8), .ref (a + 9), .ref (a + 10), .int (qz 0), .int (qz 0), .ref (a + 11), .ref (a + 12), .ref (a + 13), .ref (a + 14), .ref (a + 15), .long (ql 0), .int (qz 0), .int (qz 0), .ref (a + 16), .ref (a + 17), .ref (a + 18), .ref (a + 19), .long (ql 0), .int (qz 0), .ref (a + 20), .int (qz 0), .ref (a + 21), .ref (a + 22), .int (qz 0), .int (qz 0), .int (qz 0), .int (qz 0), .int (qz 0), .ref (a + 23), .int (qz 0), .ref (a + 24), .int (qz 0), .ref (a + 25), .ref (a + 26), .ref (a + 27), .ref (a + 28), .ref (a + 29), .ref (a + 30), .int (qz 0), .long (ql (-1)), .ref (a + 31), .ref (a + 32), .ref (a + 33), .ref (a + 34), .int (qz 0), .int (qz 0), .int (qz 0), .ref (a + 35), .ref (a + 36), .null, .null] 303 rfl (Nat.le_of_ble_eq_true rfl) (Nat.le_of_ble_eq_true rfl) (Or.inr ⟨by decide, rfl⟩) (qr_fitR (Or.inr ⟨_, rfl⟩) _) rfl rfl ?_
  refine qr_aload_n 304 rfl rfl rfl ?_
  refine qr_sipush 307 rfl (by decide) rfl ?_
  refine qr_inewL ha [.inr (12, [.ref (a + 1), .ref (a + 2), .ref (a + 3), .ref (a + 4), .int (qz 0), .int (qz 0), .int (qz 0), .ref (a + 5), .ref (a + 6), .ref (a + 7), .long (ql 0), .int (qz 0), .ref (a + 8), .ref (a + 9), .ref (a + 10), .int (qz 0), .int (qz 0), .ref (a + 11), .ref (a + 12), .ref (a + 13), .ref (a + 14), .ref (a + 15), .long (ql 0), .int (qz 0), .int (qz 0), .ref (a + 16), .ref (a + 17), .ref (a + 18), .ref (a + 19), .long (ql 0), .int (qz 0), .ref (a + 20), .int (qz 0), .ref (a + 21), .ref (a + 22), .int (qz 0), .int (qz 0), .int (qz 0), .int (qz 0), .int (qz 0), .ref (a + 23), .int (qz 0), .ref (a + 24), .int (qz 0), .ref (a + 25), .ref (a + 26), .ref (a + 27), .ref (a + 28), .ref (a + 29), .ref (a + 30), .int (qz 0), .long (ql (-1)), .ref (a + 31), .ref (a + 32), .ref (a + 33), .ref (a + 34), .int (qz 0), .int (qz 0), .int (qz 0), .ref (a + 35), .ref (a + 36), .null, .null]), .inl (.int, 252, .inl (qzf (fun _ => 0))), .inl (.int, 40, .inl (qzf (fun _ => 0))), .inl (.int, 40, .inl (qzf (fun _ => 0))), .inl (.int, 40, .inl (qzf (fun _ => 0))), .inl (.int, 32, .inl (qzf (fun _ => 0))), .inl (.int, 32, .inl (qzf (fun _ => 0))), .inl (.int, 32, .inl (qzf (fun _ => 0))), .inl (.int, 61, .inl (qzf (fun _ => 0))), .inl (.int, 61, .inl (qzf (fun _ => 0))), .inl (.int, 1024, .inl (qzf (fun _ => 0))), .inl (.int, 40, .inl (qzf (fun _ => 0))), .inl (.int, 40, .inl (qzf (fun _ => 0))), .inl (.int, 40, .inl (qzf (fun _ => 0))), .inl (.int, 40, .inl (qzf (fun _ => 0))), .inl (.int, 40, .inl (qzf (fun _ => 0))), .inl (.int, 60, .inl (qzf (fun _ => 0))), .inl (.int, 60, .inl (qzf (fun _ => 0))), .inl (.int, 60, .inl (qzf (fun _ => 0))), .inl (.int, 60, .inl (qzf (fun _ => 0))), .inl (.int, 120, .inl (qzf (fun _ => 0))), .inl (.int, 240, .inl (qzf (fun _ => 0))), .inl (.int, 2, .inl (qzf (fun _ => 0))), .inl (.int, 9, .inl (qzf (fun _ => 0))), .inl (.int, 32, .inl (qzf (fun _ => 0))), .inl (.int, 12, .inl (qzf (fun _ => 0))), .inl (.int, 4096, .inl (qzf (fun _ => 0))), .inl (.int, 10, .inl (qzf (fun _ => 0))), .inl (.int, 6, .inl (qzf (fun _ => 0))), .inl (.int, 31, .inl (qzf (fun _ => 0))), .inl (.int, 31, .inl (qzf (fun _ => 0))), .inl (.int, 31, .inl (qzf (fun _ => 0))), .inl (.int, 31, .inl (qzf (fun _ => 0))), .inl (.boolean, 1024, .inl (qzf (fun _ => 0))), .inl (.int, 24, .inl (qzf (fun _ => 0))), .inl (.int, 6, .inl (qzf (fun _ => 0))), .inl (.int, 6, .inl (qzf (fun _ => 0))), .inl (.long, 360, .inr (.inl (qlf (fun _ => 0))))] 309 37 8125 37 rfl (by decide) (Nat.le_of_ble_eq_true rfl) (Nat.le_of_ble_eq_true rfl) rfl rfl rfl rfl rfl ?_
  refine qr_iput ha [.ref (a + 1), .ref (a + 2), .ref (a + 3), .ref (a + 4), .int (qz 0), .int (qz 0), .int (qz 0), .ref (a + 5), .ref (a + 6), .ref (a + 7), .long (ql 0), .int (qz 0), .ref (a + 8), .ref (a + 9), .ref (a + 10), .int (qz 0), .int (qz 0), .ref (a + 11), .ref (a + 12), .ref (a + 13), .ref (a + 14), .ref (a + 15), .long (ql 0), .int (qz 0), .int (qz 0), .ref (a + 16), .ref (a + 17), .ref (a + 18), .ref (a + 19), .long (ql 0), .int (qz 0), .ref (a + 20), .int (qz 0), .ref (a + 21), .ref (a + 22), .int (qz 0), .int (qz 0), .int (qz 0), .int (qz 0), .int (qz 0), .ref (a + 23), .int (qz 0), .ref (a + 24), .int (qz 0), .ref (a + 25), .ref (a + 26), .ref (a + 27), .ref (a + 28), .ref (a + 29), .ref (a + 30), .int (qz 0), .long (ql (-1)), .ref (a + 31), .ref (a + 32), .ref (a + 33), .ref (a + 34), .int (qz 0), .int (qz 0), .int (qz 0), .ref (a + 35), .ref (a + 36), .ref (a + 37), .null] 312 rfl (Nat.le_of_ble_eq_true rfl) (Nat.le_of_ble_eq_true rfl) (Or.inr ⟨by decide, rfl⟩) (qr_fitR (Or.inr ⟨_, rfl⟩) _) rfl rfl ?_
  refine qr_aload_n 313 rfl rfl rfl ?_
  refine qr_bipush 315 rfl (by decide) rfl ?_
  refine qr_inewL ha [.inr (12, [.ref (a + 1), .ref (a + 2), .ref (a + 3), .ref (a + 4), .int (qz 0), .int (qz 0), .int (qz 0), .ref (a + 5), .ref (a + 6), .ref (a + 7), .long (ql 0), .int (qz 0), .ref (a + 8), .ref (a + 9), .ref (a + 10), .int (qz 0), .int (qz 0), .ref (a + 11), .ref (a + 12), .ref (a + 13), .ref (a + 14), .ref (a + 15), .long (ql 0), .int (qz 0), .int (qz 0), .ref (a + 16), .ref (a + 17), .ref (a + 18), .ref (a + 19), .long (ql 0), .int (qz 0), .ref (a + 20), .int (qz 0), .ref (a + 21), .ref (a + 22), .int (qz 0), .int (qz 0), .int (qz 0), .int (qz 0), .int (qz 0), .ref (a + 23), .int (qz 0), .ref (a + 24), .int (qz 0), .ref (a + 25), .ref (a + 26), .ref (a + 27), .ref (a + 28), .ref (a + 29), .ref (a + 30), .int (qz 0), .long (ql (-1)), .ref (a + 31), .ref (a + 32), .ref (a + 33), .ref (a + 34), .int (qz 0), .int (qz 0), .int (qz 0), .ref (a + 35), .ref (a + 36), .ref (a + 37), .null]), .inl (.int, 252, .inl (qzf (fun _ => 0))), .inl (.int, 40, .inl (qzf (fun _ => 0))), .inl (.int, 40, .inl (qzf (fun _ => 0))), .inl (.int, 40, .inl (qzf (fun _ => 0))), .inl (.int, 32, .inl (qzf (fun _ => 0))), .inl (.int, 32, .inl (qzf (fun _ => 0))), .inl (.int, 32, .inl (qzf (fun _ => 0))), .inl (.int, 61, .inl (qzf (fun _ => 0))), .inl (.int, 61, .inl (qzf (fun _ => 0))), .inl (.int, 1024, .inl (qzf (fun _ => 0))), .inl (.int, 40, .inl (qzf (fun _ => 0))), .inl (.int, 40, .inl (qzf (fun _ => 0))), .inl (.int, 40, .inl (qzf (fun _ => 0))), .inl (.int, 40, .inl (qzf (fun _ => 0))), .inl (.int, 40, .inl (qzf (fun _ => 0))), .inl (.int, 60, .inl (qzf (fun _ => 0))), .inl (.int, 60, .inl (qzf (fun _ => 0))), .inl (.int, 60, .inl (qzf (fun _ => 0))), .inl (.int, 60, .inl (qzf (fun _ => 0))), .inl (.int, 120, .inl (qzf (fun _ => 0))), .inl (.int, 240, .inl (qzf (fun _ => 0))), .inl (.int, 2, .inl (qzf (fun _ => 0))), .inl (.int, 9, .inl (qzf (fun _ => 0))), .inl (.int, 32, .inl (qzf (fun _ => 0))), .inl (.int, 12, .inl (qzf (fun _ => 0))), .inl (.int, 4096, .inl (qzf (fun _ => 0))), .inl (.int, 10, .inl (qzf (fun _ => 0))), .inl (.int, 6, .inl (qzf (fun _ => 0))), .inl (.int, 31, .inl (qzf (fun _ => 0))), .inl (.int, 31, .inl (qzf (fun _ => 0))), .inl (.int, 31, .inl (qzf (fun _ => 0))), .inl (.int, 31, .inl (qzf (fun _ => 0))), .inl (.boolean, 1024, .inl (qzf (fun _ => 0))), .inl (.int, 24, .inl (qzf (fun _ => 0))), .inl (.int, 6, .inl (qzf (fun _ => 0))), .inl (.int, 6, .inl (qzf (fun _ => 0))), .inl (.long, 360, .inr (.inl (qlf (fun _ => 0)))), .inl (.long, 60, .inr (.inl (qlf (fun _ => 0))))] 317 38 8185 38 rfl (by decide) (Nat.le_of_ble_eq_true rfl) (Nat.le_of_ble_eq_true rfl) rfl rfl rfl rfl rfl ?_
  refine qr_iput ha [.ref (a + 1), .ref (a + 2), .ref (a + 3), .ref (a + 4), .int (qz 0), .int (qz 0), .int (qz 0), .ref (a + 5), .ref (a + 6), .ref (a + 7), .long (ql 0), .int (qz 0), .ref (a + 8), .ref (a + 9), .ref (a + 10), .int (qz 0), .int (qz 0), .ref (a + 11), .ref (a + 12), .ref (a + 13), .ref (a + 14), .ref (a + 15), .long (ql 0), .int (qz 0), .int (qz 0), .ref (a + 16), .ref (a + 17), .ref (a + 18), .ref (a + 19), .long (ql 0), .int (qz 0), .ref (a + 20), .int (qz 0), .ref (a + 21), .ref (a + 22), .int (qz 0), .int (qz 0), .int (qz 0), .int (qz 0), .int (qz 0), .ref (a + 23), .int (qz 0), .ref (a + 24), .int (qz 0), .ref (a + 25), .ref (a + 26), .ref (a + 27), .ref (a + 28), .ref (a + 29), .ref (a + 30), .int (qz 0), .long (ql (-1)), .ref (a + 31), .ref (a + 32), .ref (a + 33), .ref (a + 34), .int (qz 0), .int (qz 0), .int (qz 0), .ref (a + 35), .ref (a + 36), .ref (a + 37), .ref (a + 38)] 320 rfl (Nat.le_of_ble_eq_true rfl) (Nat.le_of_ble_eq_true rfl) (Or.inr ⟨by decide, rfl⟩) (qr_fitR (Or.inr ⟨_, rfl⟩) _) rfl rfl ?_
  refine qr_iconst 321 rfl rfl ?_
  refine qr_istore_n [(1, .int (qz 0)), (0, .ref a)] 322 rfl (by decide) rfl rfl ?_
  refine qr_iload_n 323 rfl rfl rfl ?_
  refine qr_bipush 325 rfl (by decide) rfl ?_
  refine qr_icmp_ge 341 328 rfl rfl rfl (by omega) (by omega) (fun h => absurd h (by omega)) (fun h => ?_)
  refine qr_aload_n 329 rfl rfl rfl ?_
  refine qr_get 332 rfl (qc_c (by omega) (qi_g u ha _ _)) rfl (by decide) rfl ?_
  refine qr_iload_n 333 rfl rfl rfl ?_
  refine qr_iconst 334 rfl rfl ?_
  refine qr_iistk (m := 35) ha rfl [.inr (12, [.ref (a + 1), .ref (a + 2), .ref (a + 3), .ref (a + 4), .int (qz 0), .int (qz 0), .int (qz 0), .ref (a + 5), .ref (a + 6), .ref (a + 7), .long (ql 0), .int (qz 0), .ref (a + 8), .ref (a + 9), .ref (a + 10), .int (qz 0), .int (qz 0), .ref (a + 11), .ref (a + 12), .ref (a + 13), .ref (a + 14), .ref (a + 15), .long (ql 0), .int (qz 0), .int (qz 0), .ref (a + 16), .ref (a + 17), .ref (a + 18), .ref (a + 19), .long (ql 0), .int (qz 0), .ref (a + 20), .int (qz 0), .ref (a + 21), .ref (a + 22), .int (qz 0), .int (qz 0), .int (qz 0), .int (qz 0), .int (qz 0), .ref (a + 23), .int (qz 0), .ref (a + 24), .int (qz 0), .ref (a + 25), .ref (a + 26), .ref (a + 27), .ref (a + 28), .ref (a + 29), .ref (a + 30), .int (qz 0), .long (ql (-1)), .ref (a + 31), .ref (a + 32), .ref (a + 33), .ref (a + 34), .int (qz 0), .int (qz 0), .int (qz 0), .ref (a + 35), .ref (a + 36), .ref (a + 37), .ref (a + 38)]), .inl (.int, 252, .inl (qzf (fun _ => 0))), .inl (.int, 40, .inl (qzf (fun _ => 0))), .inl (.int, 40, .inl (qzf (fun _ => 0))), .inl (.int, 40, .inl (qzf (fun _ => 0))), .inl (.int, 32, .inl (qzf (fun _ => 0))), .inl (.int, 32, .inl (qzf (fun _ => 0))), .inl (.int, 32, .inl (qzf (fun _ => 0))), .inl (.int, 61, .inl (qzf (fun _ => 0))), .inl (.int, 61, .inl (qzf (fun _ => 0))), .inl (.int, 1024, .inl (qzf (fun _ => 0))), .inl (.int, 40, .inl (qzf (fun _ => 0))), .inl (.int, 40, .inl (qzf (fun _ => 0))), .inl (.int, 40, .inl (qzf (fun _ => 0))), .inl (.int, 40, .inl (qzf (fun _ => 0))), .inl (.int, 40, .inl (qzf (fun _ => 0))), .inl (.int, 60, .inl (qzf (fun _ => 0))), .inl (.int, 60, .inl (qzf (fun _ => 0))), .inl (.int, 60, .inl (qzf (fun _ => 0))), .inl (.int, 60, .inl (qzf (fun _ => 0))), .inl (.int, 120, .inl (qzf (fun _ => 0))), .inl (.int, 240, .inl (qzf (fun _ => 0))), .inl (.int, 2, .inl (qzf (fun _ => 0))), .inl (.int, 9, .inl (qzf (fun _ => 0))), .inl (.int, 32, .inl (qzf (fun _ => 0))), .inl (.int, 12, .inl (qzf (fun _ => 0))), .inl (.int, 4096, .inl (qzf (fun _ => 0))), .inl (.int, 10, .inl (qzf (fun _ => 0))), .inl (.int, 6, .inl (qzf (fun _ => 0))), .inl (.int, 31, .inl (qzf (fun _ => 0))), .inl (.int, 31, .inl (qzf (fun _ => 0))), .inl (.int, 31, .inl (qzf (fun _ => 0))), .inl (.int, 31, .inl (qzf (fun _ => 0))), .inl (.boolean, 1024, .inl (qzf (fun _ => 0))), .inl (.int, 24, .inl (qzf (fun _ => 0))), .inl (.int, 6, .inl (qzf (qzu (fun _ => 0) (0 : Int).toNat (-1)))), .inl (.int, 6, .inl (qzf (fun _ => 0))), .inl (.long, 360, .inr (.inl (qlf (fun _ => 0)))), .inl (.long, 60, .inr (.inl (qlf (fun _ => 0))))] 335 rfl rfl (by omega) (by omega) rfl rfl ?_
  refine qr_iinc [(1, .int (qz 1)), (0, .ref a)] 338 rfl rfl (by decide) rfl rfl ?_
  refine qr_goto 322 rfl rfl ?_
  refine qr_iload_n 323 rfl rfl rfl ?_
  refine qr_bipush 325 rfl (by decide) rfl ?_
  refine qr_icmp_ge 341 328 rfl rfl rfl (by omega) (by omega) (fun h => absurd h (by omega)) (fun h => ?_)
  refine qr_aload_n 329 rfl rfl rfl ?_
  refine qr_get 332 rfl (qc_c (by omega) (qi_g u ha _ _)) rfl (by decide) rfl ?_
  refine qr_iload_n 333 rfl rfl rfl ?_
  refine qr_iconst 334 rfl rfl ?_
  refine qr_iistk (m := 35) ha rfl [.inr (12, [.ref (a + 1), .ref (a + 2), .ref (a + 3), .ref (a + 4), .int (qz 0), .int (qz 0), .int (qz 0), .ref (a + 5), .ref (a + 6), .ref (a + 7), .long (ql 0), .int (qz 0), .ref (a + 8), .ref (a + 9), .ref (a + 10), .int (qz 0), .int (qz 0), .ref (a + 11), .ref (a + 12), .ref (a + 13), .ref (a + 14), .ref (a + 15), .long (ql 0), .int (qz 0), .int (qz 0), .ref (a + 16), .ref (a + 17), .ref (a + 18), .ref (a + 19), .long (ql 0), .int (qz 0), .ref (a + 20), .int (qz 0), .ref (a + 21), .ref (a + 22), .int (qz 0), .int (qz 0), .int (qz 0), .int (qz 0), .int (qz 0), .ref (a + 23), .int (qz 0), .ref (a + 24), .int (qz 0), .ref (a + 25), .ref (a + 26), .ref (a + 27), .ref (a + 28), .ref (a + 29), .ref (a + 30), .int (qz 0), .long (ql (-1)), .ref (a + 31), .ref (a + 32), .ref (a + 33), .ref (a + 34), .int (qz 0), .int (qz 0), .int (qz 0), .ref (a + 35), .ref (a + 36), .ref (a + 37), .ref (a + 38)]), .inl (.int, 252, .inl (qzf (fun _ => 0))), .inl (.int, 40, .inl (qzf (fun _ => 0))), .inl (.int, 40, .inl (qzf (fun _ => 0))), .inl (.int, 40, .inl (qzf (fun _ => 0))), .inl (.int, 32, .inl (qzf (fun _ => 0))), .inl (.int, 32, .inl (qzf (fun _ => 0))), .inl (.int, 32, .inl (qzf (fun _ => 0))), .inl (.int, 61, .inl (qzf (fun _ => 0))), .inl (.int, 61, .inl (qzf (fun _ => 0))), .inl (.int, 1024, .inl (qzf (fun _ => 0))), .inl (.int, 40, .inl (qzf (fun _ => 0))), .inl (.int, 40, .inl (qzf (fun _ => 0))), .inl (.int, 40, .inl (qzf (fun _ => 0))), .inl (.int, 40, .inl (qzf (fun _ => 0))), .inl (.int, 40, .inl (qzf (fun _ => 0))), .inl (.int, 60, .inl (qzf (fun _ => 0))), .inl (.int, 60, .inl (qzf (fun _ => 0))), .inl (.int, 60, .inl (qzf (fun _ => 0))), .inl (.int, 60, .inl (qzf (fun _ => 0))), .inl (.int, 120, .inl (qzf (fun _ => 0))), .inl (.int, 240, .inl (qzf (fun _ => 0))), .inl (.int, 2, .inl (qzf (fun _ => 0))), .inl (.int, 9, .inl (qzf (fun _ => 0))), .inl (.int, 32, .inl (qzf (fun _ => 0))), .inl (.int, 12, .inl (qzf (fun _ => 0))), .inl (.int, 4096, .inl (qzf (fun _ => 0))), .inl (.int, 10, .inl (qzf (fun _ => 0))), .inl (.int, 6, .inl (qzf (fun _ => 0))), .inl (.int, 31, .inl (qzf (fun _ => 0))), .inl (.int, 31, .inl (qzf (fun _ => 0))), .inl (.int, 31, .inl (qzf (fun _ => 0))), .inl (.int, 31, .inl (qzf (fun _ => 0))), .inl (.boolean, 1024, .inl (qzf (fun _ => 0))), .inl (.int, 24, .inl (qzf (fun _ => 0))), .inl (.int, 6, .inl (qzf (qzu (qzu (fun _ => 0) (0 : Int).toNat (-1)) (1 : Int).toNat (-1)))), .inl (.int, 6, .inl (qzf (fun _ => 0))), .inl (.long, 360, .inr (.inl (qlf (fun _ => 0)))), .inl (.long, 60, .inr (.inl (qlf (fun _ => 0))))] 335 rfl rfl (by omega) (by omega) rfl rfl ?_
  refine qr_iinc [(1, .int (qz 2)), (0, .ref a)] 338 rfl rfl (by decide) rfl rfl ?_
  refine qr_goto 322 rfl rfl ?_
  refine qr_iload_n 323 rfl rfl rfl ?_
  refine qr_bipush 325 rfl (by decide) rfl ?_
  refine qr_icmp_ge 341 328 rfl rfl rfl (by omega) (by omega) (fun h => absurd h (by omega)) (fun h => ?_)
  refine qr_aload_n 329 rfl rfl rfl ?_
  refine qr_get 332 rfl (qc_c (by omega) (qi_g u ha _ _)) rfl (by decide) rfl ?_
  refine qr_iload_n 333 rfl rfl rfl ?_
  refine qr_iconst 334 rfl rfl ?_
  refine qr_iistk (m := 35) ha rfl [.inr (12, [.ref (a + 1), .ref (a + 2), .ref (a + 3), .ref (a + 4), .int (qz 0), .int (qz 0), .int (qz 0), .ref (a + 5), .ref (a + 6), .ref (a + 7), .long (ql 0), .int (qz 0), .ref (a + 8), .ref (a + 9), .ref (a + 10), .int (qz 0), .int (qz 0), .ref (a + 11), .ref (a + 12), .ref (a + 13), .ref (a + 14), .ref (a + 15), .long (ql 0), .int (qz 0), .int (qz 0), .ref (a + 16), .ref (a + 17), .ref (a + 18), .ref (a + 19), .long (ql 0), .int (qz 0), .ref (a + 20), .int (qz 0), .ref (a + 21), .ref (a + 22), .int (qz 0), .int (qz 0), .int (qz 0), .int (qz 0), .int (qz 0), .ref (a + 23), .int (qz 0), .ref (a + 24), .int (qz 0), .ref (a + 25), .ref (a + 26), .ref (a + 27), .ref (a + 28), .ref (a + 29), .ref (a + 30), .int (qz 0), .long (ql (-1)), .ref (a + 31), .ref (a + 32), .ref (a + 33), .ref (a + 34), .int (qz 0), .int (qz 0), .int (qz 0), .ref (a + 35), .ref (a + 36), .ref (a + 37), .ref (a + 38)]), .inl (.int, 252, .inl (qzf (fun _ => 0))), .inl (.int, 40, .inl (qzf (fun _ => 0))), .inl (.int, 40, .inl (qzf (fun _ => 0))), .inl (.int, 40, .inl (qzf (fun _ => 0))), .inl (.int, 32, .inl (qzf (fun _ => 0))), .inl (.int, 32, .inl (qzf (fun _ => 0))), .inl (.int, 32, .inl (qzf (fun _ => 0))), .inl (.int, 61, .inl (qzf (fun _ => 0))), .inl (.int, 61, .inl (qzf (fun _ => 0))), .inl (.int, 1024, .inl (qzf (fun _ => 0))), .inl (.int, 40, .inl (qzf (fun _ => 0))), .inl (.int, 40, .inl (qzf (fun _ => 0))), .inl (.int, 40, .inl (qzf (fun _ => 0))), .inl (.int, 40, .inl (qzf (fun _ => 0))), .inl (.int, 40, .inl (qzf (fun _ => 0))), .inl (.int, 60, .inl (qzf (fun _ => 0))), .inl (.int, 60, .inl (qzf (fun _ => 0))), .inl (.int, 60, .inl (qzf (fun _ => 0))), .inl (.int, 60, .inl (qzf (fun _ => 0))), .inl (.int, 120, .inl (qzf (fun _ => 0))), .inl (.int, 240, .inl (qzf (fun _ => 0))), .inl (.int, 2, .inl (qzf (fun _ => 0))), .inl (.int, 9, .inl (qzf (fun _ => 0))), .inl (.int, 32, .inl (qzf (fun _ => 0))), .inl (.int, 12, .inl (qzf (fun _ => 0))), .inl (.int, 4096, .inl (qzf (fun _ => 0))), .inl (.int, 10, .inl (qzf (fun _ => 0))), .inl (.int, 6, .inl (qzf (fun _ => 0))), .inl (.int, 31, .inl (qzf (fun _ => 0))), .inl (.int, 31, .inl (qzf (fun _ => 0))), .inl (.int, 31, .inl (qzf (fun _ => 0))), .inl (.int, 31, .inl (qzf (fun _ => 0))), .inl (.boolean, 1024, .inl (qzf (fun _ => 0))), .inl (.int, 24, .inl (qzf (fun _ => 0))), .inl (.int, 6, .inl (qzf (qzu (qzu (qzu (fun _ => 0) (0 : Int).toNat (-1)) (1 : Int).toNat (-1)) (2 : Int).toNat (-1)))), .inl (.int, 6, .inl (qzf (fun _ => 0))), .inl (.long, 360, .inr (.inl (qlf (fun _ => 0)))), .inl (.long, 60, .inr (.inl (qlf (fun _ => 0))))] 335 rfl rfl (by omega) (by omega) rfl rfl ?_
  refine qr_iinc [(1, .int (qz 3)), (0, .ref a)] 338 rfl rfl (by decide) rfl rfl ?_
  refine qr_goto 322 rfl rfl ?_
  refine qr_iload_n 323 rfl rfl rfl ?_
  refine qr_bipush 325 rfl (by decide) rfl ?_
  refine qr_icmp_ge 341 328 rfl rfl rfl (by omega) (by omega) (fun h => absurd h (by omega)) (fun h => ?_)
  refine qr_aload_n 329 rfl rfl rfl ?_
  refine qr_get 332 rfl (qc_c (by omega) (qi_g u ha _ _)) rfl (by decide) rfl ?_
  refine qr_iload_n 333 rfl rfl rfl ?_
  refine qr_iconst 334 rfl rfl ?_
  refine qr_iistk (m := 35) ha rfl [.inr (12, [.ref (a + 1), .ref (a + 2), .ref (a + 3), .ref (a + 4), .int (qz 0), .int (qz 0), .int (qz 0), .ref (a + 5), .ref (a + 6), .ref (a + 7), .long (ql 0), .int (qz 0), .ref (a + 8), .ref (a + 9), .ref (a + 10), .int (qz 0), .int (qz 0), .ref (a + 11), .ref (a + 12), .ref (a + 13), .ref (a + 14), .ref (a + 15), .long (ql 0), .int (qz 0), .int (qz 0), .ref (a + 16), .ref (a + 17), .ref (a + 18), .ref (a + 19), .long (ql 0), .int (qz 0), .ref (a + 20), .int (qz 0), .ref (a + 21), .ref (a + 22), .int (qz 0), .int (qz 0), .int (qz 0), .int (qz 0), .int (qz 0), .ref (a + 23), .int (qz 0), .ref (a + 24), .int (qz 0), .ref (a + 25), .ref (a + 26), .ref (a + 27), .ref (a + 28), .ref (a + 29), .ref (a + 30), .int (qz 0), .long (ql (-1)), .ref (a + 31), .ref (a + 32), .ref (a + 33), .ref (a + 34), .int (qz 0), .int (qz 0), .int (qz 0), .ref (a + 35), .ref (a + 36), .ref (a + 37), .ref (a + 38)]), .inl (.int, 252, .inl (qzf (fun _ => 0))), .inl (.int, 40, .inl (qzf (fun _ => 0))), .inl (.int, 40, .inl (qzf (fun _ => 0))), .inl (.int, 40, .inl (qzf (fun _ => 0))), .inl (.int, 32, .inl (qzf (fun _ => 0))), .inl (.int, 32, .inl (qzf (fun _ => 0))), .inl (.int, 32, .inl (qzf (fun _ => 0))), .inl (.int, 61, .inl (qzf (fun _ => 0))), .inl (.int, 61, .inl (qzf (fun _ => 0))), .inl (.int, 1024, .inl (qzf (fun _ => 0))), .inl (.int, 40, .inl (qzf (fun _ => 0))), .inl (.int, 40, .inl (qzf (fun _ => 0))), .inl (.int, 40, .inl (qzf (fun _ => 0))), .inl (.int, 40, .inl (qzf (fun _ => 0))), .inl (.int, 40, .inl (qzf (fun _ => 0))), .inl (.int, 60, .inl (qzf (fun _ => 0))), .inl (.int, 60, .inl (qzf (fun _ => 0))), .inl (.int, 60, .inl (qzf (fun _ => 0))), .inl (.int, 60, .inl (qzf (fun _ => 0))), .inl (.int, 120, .inl (qzf (fun _ => 0))), .inl (.int, 240, .inl (qzf (fun _ => 0))), .inl (.int, 2, .inl (qzf (fun _ => 0))), .inl (.int, 9, .inl (qzf (fun _ => 0))), .inl (.int, 32, .inl (qzf (fun _ => 0))), .inl (.int, 12, .inl (qzf (fun _ => 0))), .inl (.int, 4096, .inl (qzf (fun _ => 0))), .inl (.int, 10, .inl (qzf (fun _ => 0))), .inl (.int, 6, .inl (qzf (fun _ => 0))), .inl (.int, 31, .inl (qzf (fun _ => 0))), .inl (.int, 31, .inl (qzf (fun _ => 0))), .inl (.int, 31, .inl (qzf (fun _ => 0))), .inl (.int, 31, .inl (qzf (fun _ => 0))), .inl (.boolean, 1024, .inl (qzf (fun _ => 0))), .inl (.int, 24, .inl (qzf (fun _ => 0))), .inl (.int, 6, .inl (qzf (qzu (qzu (qzu (qzu (fun _ => 0) (0 : Int).toNat (-1)) (1 : Int).toNat (-1)) (2 : Int).toNat (-1)) (3 : Int).toNat (-1)))), .inl (.int, 6, .inl (qzf (fun _ => 0))), .inl (.long, 360, .inr (.inl (qlf (fun _ => 0)))), .inl (.long, 60, .inr (.inl (qlf (fun _ => 0))))] 335 rfl rfl (by omega) (by omega) rfl rfl ?_
  refine qr_iinc [(1, .int (qz 4)), (0, .ref a)] 338 rfl rfl (by decide) rfl rfl ?_
  refine qr_goto 322 rfl rfl ?_
  refine qr_iload_n 323 rfl rfl rfl ?_
  refine qr_bipush 325 rfl (by decide) rfl ?_
  refine qr_icmp_ge 341 328 rfl rfl rfl (by omega) (by omega) (fun h => absurd h (by omega)) (fun h => ?_)
  refine qr_aload_n 329 rfl rfl rfl ?_
  refine qr_get 332 rfl (qc_c (by omega) (qi_g u ha _ _)) rfl (by decide) rfl ?_
  refine qr_iload_n 333 rfl rfl rfl ?_
  refine qr_iconst 334 rfl rfl ?_
  refine qr_iistk (m := 35) ha rfl [.inr (12, [.ref (a + 1), .ref (a + 2), .ref (a + 3), .ref (a + 4), .int (qz 0), .int (qz 0), .int (qz 0), .ref (a + 5), .ref (a + 6), .ref (a + 7), .long (ql 0), .int (qz 0), .ref (a + 8), .ref (a + 9), .ref (a + 10), .int (qz 0), .int (qz 0), .ref (a + 11), .ref (a + 12), .ref (a + 13), .ref (a + 14), .ref (a + 15), .long (ql 0), .int (qz 0), .int (qz 0), .ref (a + 16), .ref (a + 17), .ref (a + 18), .ref (a + 19), .long (ql 0), .int (qz 0), .ref (a + 20), .int (qz 0), .ref (a + 21), .ref (a + 22), .int (qz 0), .int (qz 0), .int (qz 0), .int (qz 0), .int (qz 0), .ref (a + 23), .int (qz 0), .ref (a + 24), .int (qz 0), .ref (a + 25), .ref (a + 26), .ref (a + 27), .ref (a + 28), .ref (a + 29), .ref (a + 30), .int (qz 0), .long (ql (-1)), .ref (a + 31), .ref (a + 32), .ref (a + 33), .ref (a + 34), .int (qz 0), .int (qz 0), .int (qz 0), .ref (a + 35), .ref (a + 36), .ref (a + 37), .ref (a + 38)]), .inl (.int, 252, .inl (qzf (fun _ => 0))), .inl (.int, 40, .inl (qzf (fun _ => 0))), .inl (.int, 40, .inl (qzf (fun _ => 0))), .inl (.int, 40, .inl (qzf (fun _ => 0))), .inl (.int, 32, .inl (qzf (fun _ => 0))), .inl (.int, 32, .inl (qzf (fun _ => 0))), .inl (.int, 32, .inl (qzf (fun _ => 0))), .inl (.int, 61, .inl (qzf (fun _ => 0))), .inl (.int, 61, .inl (qzf (fun _ => 0))), .inl (.int, 1024, .inl (qzf (fun _ => 0))), .inl (.int, 40, .inl (qzf (fun _ => 0))), .inl (.int, 40, .inl (qzf (fun _ => 0))), .inl (.int, 40, .inl (qzf (fun _ => 0))), .inl (.int, 40, .inl (qzf (fun _ => 0))), .inl (.int, 40, .inl (qzf (fun _ => 0))), .inl (.int, 60, .inl (qzf (fun _ => 0))), .inl (.int, 60, .inl (qzf (fun _ => 0))), .inl (.int, 60, .inl (qzf (fun _ => 0))), .inl (.int, 60, .inl (qzf (fun _ => 0))), .inl (.int, 120, .inl (qzf (fun _ => 0))), .inl (.int, 240, .inl (qzf (fun _ => 0))), .inl (.int, 2, .inl (qzf (fun _ => 0))), .inl (.int, 9, .inl (qzf (fun _ => 0))), .inl (.int, 32, .inl (qzf (fun _ => 0))), .inl (.int, 12, .inl (qzf (fun _ => 0))), .inl (.int, 4096, .inl (qzf (fun _ => 0))), .inl (.int, 10, .inl (qzf (fun _ => 0))), .inl (.int, 6, .inl (qzf (fun _ => 0))), .inl (.int, 31, .inl (qzf (fun _ => 0))), .inl (.int, 31, .inl (qzf (fun _ => 0))), .inl (.int, 31, .inl (qzf (fun _ => 0))), .inl (.int, 31, .inl (qzf (fun _ => 0))), .inl (.boolean, 1024, .inl (qzf (fun _ => 0))), .inl (.int, 24, .inl (qzf (fun _ => 0))), .inl (.int, 6, .inl (qzf (qzu (qzu (qzu (qzu (qzu (fun _ => 0) (0 : Int).toNat (-1)) (1 : Int).toNat (-1)) (2 : Int).toNat (-1)) (3 : Int).toNat (-1)) (4 : Int).toNat (-1)))), .inl (.int, 6, .inl (qzf (fun _ => 0))), .inl (.long, 360, .inr (.inl (qlf (fun _ => 0)))), .inl (.long, 60, .inr (.inl (qlf (fun _ => 0))))] 335 rfl rfl (by omega) (by omega) rfl rfl ?_
  refine qr_iinc [(1, .int (qz 5)), (0, .ref a)] 338 rfl rfl (by decide) rfl rfl ?_
  refine qr_goto 322 rfl rfl ?_
  refine qr_iload_n 323 rfl rfl rfl ?_
  refine qr_bipush 325 rfl (by decide) rfl ?_
  refine qr_icmp_ge 341 328 rfl rfl rfl (by omega) (by omega) (fun h => absurd h (by omega)) (fun h => ?_)
  refine qr_aload_n 329 rfl rfl rfl ?_
  refine qr_get 332 rfl (qc_c (by omega) (qi_g u ha _ _)) rfl (by decide) rfl ?_
  refine qr_iload_n 333 rfl rfl rfl ?_
  refine qr_iconst 334 rfl rfl ?_
  refine qr_iistk (m := 35) ha rfl [.inr (12, [.ref (a + 1), .ref (a + 2), .ref (a + 3), .ref (a + 4), .int (qz 0), .int (qz 0), .int (qz 0), .ref (a + 5), .ref (a + 6), .ref (a + 7), .long (ql 0), .int (qz 0), .ref (a + 8), .ref (a + 9), .ref (a + 10), .int (qz 0), .int (qz 0), .ref (a + 11), .ref (a + 12), .ref (a + 13), .ref (a + 14), .ref (a + 15), .long (ql 0), .int (qz 0), .int (qz 0), .ref (a + 16), .ref (a + 17), .ref (a + 18), .ref (a + 19), .long (ql 0), .int (qz 0), .ref (a + 20), .int (qz 0), .ref (a + 21), .ref (a + 22), .int (qz 0), .int (qz 0), .int (qz 0), .int (qz 0), .int (qz 0), .ref (a + 23), .int (qz 0), .ref (a + 24), .int (qz 0), .ref (a + 25), .ref (a + 26), .ref (a + 27), .ref (a + 28), .ref (a + 29), .ref (a + 30), .int (qz 0), .long (ql (-1)), .ref (a + 31), .ref (a + 32), .ref (a + 33), .ref (a + 34), .int (qz 0), .int (qz 0), .int (qz 0), .ref (a + 35), .ref (a + 36), .ref (a + 37), .ref (a + 38)]), .inl (.int, 252, .inl (qzf (fun _ => 0))), .inl (.int, 40, .inl (qzf (fun _ => 0))), .inl (.int, 40, .inl (qzf (fun _ => 0))), .inl (.int, 40, .inl (qzf (fun _ => 0))), .inl (.int, 32, .inl (qzf (fun _ => 0))), .inl (.int, 32, .inl (qzf (fun _ => 0))), .inl (.int, 32, .inl (qzf (fun _ => 0))), .inl (.int, 61, .inl (qzf (fun _ => 0))), .inl (.int, 61, .inl (qzf (fun _ => 0))), .inl (.int, 1024, .inl (qzf (fun _ => 0))), .inl (.int, 40, .inl (qzf (fun _ => 0))), .inl (.int, 40, .inl (qzf (fun _ => 0))), .inl (.int, 40, .inl (qzf (fun _ => 0))), .inl (.int, 40, .inl (qzf (fun _ => 0))), .inl (.int, 40, .inl (qzf (fun _ => 0))), .inl (.int, 60, .inl (qzf (fun _ => 0))), .inl (.int, 60, .inl (qzf (fun _ => 0))), .inl (.int, 60, .inl (qzf (fun _ => 0))), .inl (.int, 60, .inl (qzf (fun _ => 0))), .inl (.int, 120, .inl (qzf (fun _ => 0))), .inl (.int, 240, .inl (qzf (fun _ => 0))), .inl (.int, 2, .inl (qzf (fun _ => 0))), .inl (.int, 9, .inl (qzf (fun _ => 0))), .inl (.int, 32, .inl (qzf (fun _ => 0))), .inl (.int, 12, .inl (qzf (fun _ => 0))), .inl (.int, 4096, .inl (qzf (fun _ => 0))), .inl (.int, 10, .inl (qzf (fun _ => 0))), .inl (.int, 6, .inl (qzf (fun _ => 0))), .inl (.int, 31, .inl (qzf (fun _ => 0))), .inl (.int, 31, .inl (qzf (fun _ => 0))), .inl (.int, 31, .inl (qzf (fun _ => 0))), .inl (.int, 31, .inl (qzf (fun _ => 0))), .inl (.boolean, 1024, .inl (qzf (fun _ => 0))), .inl (.int, 24, .inl (qzf (fun _ => 0))), .inl (.int, 6, .inl (qzf (qzu (qzu (qzu (qzu (qzu (qzu (fun _ => 0) (0 : Int).toNat (-1)) (1 : Int).toNat (-1)) (2 : Int).toNat (-1)) (3 : Int).toNat (-1)) (4 : Int).toNat (-1)) (5 : Int).toNat (-1)))), .inl (.int, 6, .inl (qzf (fun _ => 0))), .inl (.long, 360, .inr (.inl (qlf (fun _ => 0)))), .inl (.long, 60, .inr (.inl (qlf (fun _ => 0))))] 335 rfl rfl (by omega) (by omega) rfl rfl ?_
  refine qr_iinc [(1, .int (qz 6)), (0, .ref a)] 338 rfl rfl (by decide) rfl rfl ?_
  refine qr_goto 322 rfl rfl ?_
  refine qr_iload_n 323 rfl rfl rfl ?_
  refine qr_bipush 325 rfl (by decide) rfl ?_
  refine qr_icmp_ge 341 328 rfl rfl rfl (by omega) (by omega) (fun h => ?_) (fun h => absurd h (by omega))
  refine qr_aload_n 342 rfl rfl rfl ?_
  refine qr_get 345 rfl (qc_c (by omega) (qi_g u ha _ _)) rfl (by decide) rfl ?_
  refine qr_iconst 346 rfl rfl ?_
  refine qr_iconst 347 rfl rfl ?_
  refine qr_iistk (m := 22) ha rfl [.inr (12, [.ref (a + 1), .ref (a + 2), .ref (a + 3), .ref (a + 4), .int (qz 0), .int (qz 0), .int (qz 0), .ref (a + 5), .ref (a + 6), .ref (a + 7), .long (ql 0), .int (qz 0), .ref (a + 8), .ref (a + 9), .ref (a + 10), .int (qz 0), .int (qz 0), .ref (a + 11), .ref (a + 12), .ref (a + 13), .ref (a + 14), .ref (a + 15), .long (ql 0), .int (qz 0), .int (qz 0), .ref (a + 16), .ref (a + 17), .ref (a + 18), .ref (a + 19), .long (ql 0), .int (qz 0), .ref (a + 20), .int (qz 0), .ref (a + 21), .ref (a + 22), .int (qz 0), .int (qz 0), .int (qz 0), .int (qz 0), .int (qz 0), .ref (a + 23), .int (qz 0), .ref (a + 24), .int (qz 0), .ref (a + 25), .ref (a + 26), .ref (a + 27), .ref (a + 28), .ref (a + 29), .ref (a + 30), .int (qz 0), .long (ql (-1)), .ref (a + 31), .ref (a + 32), .ref (a + 33), .ref (a + 34), .int (qz 0), .int (qz 0), .int (qz 0), .ref (a + 35), .ref (a + 36), .ref (a + 37), .ref (a + 38)]), .inl (.int, 252, .inl (qzf (fun _ => 0))), .inl (.int, 40, .inl (qzf (fun _ => 0))), .inl (.int, 40, .inl (qzf (fun _ => 0))), .inl (.int, 40, .inl (qzf (fun _ => 0))), .inl (.int, 32, .inl (qzf (fun _ => 0))), .inl (.int, 32, .inl (qzf (fun _ => 0))), .inl (.int, 32, .inl (qzf (fun _ => 0))), .inl (.int, 61, .inl (qzf (fun _ => 0))), .inl (.int, 61, .inl (qzf (fun _ => 0))), .inl (.int, 1024, .inl (qzf (fun _ => 0))), .inl (.int, 40, .inl (qzf (fun _ => 0))), .inl (.int, 40, .inl (qzf (fun _ => 0))), .inl (.int, 40, .inl (qzf (fun _ => 0))), .inl (.int, 40, .inl (qzf (fun _ => 0))), .inl (.int, 40, .inl (qzf (fun _ => 0))), .inl (.int, 60, .inl (qzf (fun _ => 0))), .inl (.int, 60, .inl (qzf (fun _ => 0))), .inl (.int, 60, .inl (qzf (fun _ => 0))), .inl (.int, 60, .inl (qzf (fun _ => 0))), .inl (.int, 120, .inl (qzf (fun _ => 0))), .inl (.int, 240, .inl (qzf (fun _ => 0))), .inl (.int, 2, .inl (qzf (qzu (fun _ => 0) (0 : Int).toNat (-1)))), .inl (.int, 9, .inl (qzf (fun _ => 0))), .inl (.int, 32, .inl (qzf (fun _ => 0))), .inl (.int, 12, .inl (qzf (fun _ => 0))), .inl (.int, 4096, .inl (qzf (fun _ => 0))), .inl (.int, 10, .inl (qzf (fun _ => 0))), .inl (.int, 6, .inl (qzf (fun _ => 0))), .inl (.int, 31, .inl (qzf (fun _ => 0))), .inl (.int, 31, .inl (qzf (fun _ => 0))), .inl (.int, 31, .inl (qzf (fun _ => 0))), .inl (.int, 31, .inl (qzf (fun _ => 0))), .inl (.boolean, 1024, .inl (qzf (fun _ => 0))), .inl (.int, 24, .inl (qzf (fun _ => 0))), .inl (.int, 6, .inl (qzf (qzu (qzu (qzu (qzu (qzu (qzu (fun _ => 0) (0 : Int).toNat (-1)) (1 : Int).toNat (-1)) (2 : Int).toNat (-1)) (3 : Int).toNat (-1)) (4 : Int).toNat (-1)) (5 : Int).toNat (-1)))), .inl (.int, 6, .inl (qzf (fun _ => 0))), .inl (.long, 360, .inr (.inl (qlf (fun _ => 0)))), .inl (.long, 60, .inr (.inl (qlf (fun _ => 0))))] 348 rfl rfl (by omega) (by omega) rfl rfl ?_
  refine qr_aload_n 349 rfl rfl rfl ?_
  refine qr_get 352 rfl (qc_c (by omega) (qi_g u ha _ _)) rfl (by decide) rfl ?_
  refine qr_iconst 353 rfl rfl ?_
  refine qr_iconst 354 rfl rfl ?_
  refine qr_iistk (m := 22) ha rfl [.inr (12, [.ref (a + 1), .ref (a + 2), .ref (a + 3), .ref (a + 4), .int (qz 0), .int (qz 0), .int (qz 0), .ref (a + 5), .ref (a + 6), .ref (a + 7), .long (ql 0), .int (qz 0), .ref (a + 8), .ref (a + 9), .ref (a + 10), .int (qz 0), .int (qz 0), .ref (a + 11), .ref (a + 12), .ref (a + 13), .ref (a + 14), .ref (a + 15), .long (ql 0), .int (qz 0), .int (qz 0), .ref (a + 16), .ref (a + 17), .ref (a + 18), .ref (a + 19), .long (ql 0), .int (qz 0), .ref (a + 20), .int (qz 0), .ref (a + 21), .ref (a + 22), .int (qz 0), .int (qz 0), .int (qz 0), .int (qz 0), .int (qz 0), .ref (a + 23), .int (qz 0), .ref (a + 24), .int (qz 0), .ref (a + 25), .ref (a + 26), .ref (a + 27), .ref (a + 28), .ref (a + 29), .ref (a + 30), .int (qz 0), .long (ql (-1)), .ref (a + 31), .ref (a + 32), .ref (a + 33), .ref (a + 34), .int (qz 0), .int (qz 0), .int (qz 0), .ref (a + 35), .ref (a + 36), .ref (a + 37), .ref (a + 38)]), .inl (.int, 252, .inl (qzf (fun _ => 0))), .inl (.int, 40, .inl (qzf (fun _ => 0))), .inl (.int, 40, .inl (qzf (fun _ => 0))), .inl (.int, 40, .inl (qzf (fun _ => 0))), .inl (.int, 32, .inl (qzf (fun _ => 0))), .inl (.int, 32, .inl (qzf (fun _ => 0))), .inl (.int, 32, .inl (qzf (fun _ => 0))), .inl (.int, 61, .inl (qzf (fun _ => 0))), .inl (.int, 61, .inl (qzf (fun _ => 0))), .inl (.int, 1024, .inl (qzf (fun _ => 0))), .inl (.int, 40, .inl (qzf (fun _ => 0))), .inl (.int, 40, .inl (qzf (fun _ => 0))), .inl (.int, 40, .inl (qzf (fun _ => 0))), .inl (.int, 40, .inl (qzf (fun _ => 0))), .inl (.int, 40, .inl (qzf (fun _ => 0))), .inl (.int, 60, .inl (qzf (fun _ => 0))), .inl (.int, 60, .inl (qzf (fun _ => 0))), .inl (.int, 60, .inl (qzf (fun _ => 0))), .inl (.int, 60, .inl (qzf (fun _ => 0))), .inl (.int, 120, .inl (qzf (fun _ => 0))), .inl (.int, 240, .inl (qzf (fun _ => 0))), .inl (.int, 2, .inl (qzf (qzu (qzu (fun _ => 0) (0 : Int).toNat (-1)) (1 : Int).toNat (-1)))), .inl (.int, 9, .inl (qzf (fun _ => 0))), .inl (.int, 32, .inl (qzf (fun _ => 0))), .inl (.int, 12, .inl (qzf (fun _ => 0))), .inl (.int, 4096, .inl (qzf (fun _ => 0))), .inl (.int, 10, .inl (qzf (fun _ => 0))), .inl (.int, 6, .inl (qzf (fun _ => 0))), .inl (.int, 31, .inl (qzf (fun _ => 0))), .inl (.int, 31, .inl (qzf (fun _ => 0))), .inl (.int, 31, .inl (qzf (fun _ => 0))), .inl (.int, 31, .inl (qzf (fun _ => 0))), .inl (.boolean, 1024, .inl (qzf (fun _ => 0))), .inl (.int, 24, .inl (qzf (fun _ => 0))), .inl (.int, 6, .inl (qzf (qzu (qzu (qzu (qzu (qzu (qzu (fun _ => 0) (0 : Int).toNat (-1)) (1 : Int).toNat (-1)) (2 : Int).toNat (-1)) (3 : Int).toNat (-1)) (4 : Int).toNat (-1)) (5 : Int).toNat (-1)))), .inl (.int, 6, .inl (qzf (fun _ => 0))), .inl (.long, 360, .inr (.inl (qlf (fun _ => 0)))), .inl (.long, 60, .inr (.inl (qlf (fun _ => 0))))] 355 rfl rfl (by omega) (by omega) rfl rfl ?_
  refine qr_retV rfl rfl (Nat.le_of_ble_eq_true rfl) (Nat.le_of_ble_eq_true rfl) ?_
  exact ⟨rfl, rfl⟩
end
section
theorem qv_d0_0 : ∀ q ∈ qx_c0_0, qv_D code 0 q := qv_E_of 0 (by decide +kernel) (by decide +kernel)
theorem qv_d0_1 : ∀ q ∈ qx_c0_1, qv_D code 0 q := qv_E_of 242 (by decide +kernel) (by decide +kernel)
theorem qv_d0_2 : ∀ q ∈ qx_c0_2, qv_D code 0 q := qv_E_of 302 (by decide +kernel) (by decide +kernel)
theorem qv_d0_3 : ∀ q ∈ qx_c0_3, qv_D code 0 q := qv_E_of 364 (by decide +kernel) (by decide +kernel)
theorem qv_d0_4 : ∀ q ∈ qx_c0_4, qv_D code 0 q := qv_E_of 422 (by decide +kernel) (by decide +kernel)
theorem qv_d0_5 : ∀ q ∈ qx_c0_5, qv_D code 0 q := qv_E_of 482 (by decide +kernel) (by decide +kernel)
theorem qv_d0_6 : ∀ q ∈ qx_c0_6, qv_D code 0 q := qv_E_of 540 (by decide +kernel) (by decide +kernel)
theorem qv_d0_7 : ∀ q ∈ qx_c0_7, qv_D code 0 q := qv_E_of 599 (by decide +kernel) (by decide +kernel)
theorem qv_d0_8 : ∀ q ∈ qx_c0_8, qv_D code 0 q := qv_E_of 658 (by decide +kernel) (by decide +kernel)
theorem qv_d0_9 : ∀ q ∈ qx_c0_9, qv_D code 0 q := qv_E_of 718 (by decide +kernel) (by decide +kernel)
theorem qv_d0_10 : ∀ q ∈ qx_c0_10, qv_D code 0 q := qv_E_of 776 (by decide +kernel) (by decide +kernel)
theorem qv_d0_11 : ∀ q ∈ qx_c0_11, qv_D code 0 q := qv_E_of 836 (by decide +kernel) (by decide +kernel)
end
section
theorem qv_d0_12 : ∀ q ∈ qx_c0_12, qv_D code 0 q := qv_E_of 899 (by decide +kernel) (by decide +kernel)
theorem qv_d0_13 : ∀ q ∈ qx_c0_13, qv_D code 0 q := qv_E_of 960 (by decide +kernel) (by decide +kernel)
theorem qv_d0_14 : ∀ q ∈ qx_c0_14, qv_D code 0 q := qv_E_of 1018 (by decide +kernel) (by decide +kernel)
theorem qv_d0_15 : ∀ q ∈ qx_c0_15, qv_D code 0 q := qv_E_of 1081 (by decide +kernel) (by decide +kernel)
theorem qv_d0_16 : ∀ q ∈ qx_c0_16, qv_D code 0 q := qv_E_of 1139 (by decide +kernel) (by decide +kernel)
theorem qv_d0_17 : ∀ q ∈ qx_c0_17, qv_D code 0 q := qv_E_of 1201 (by decide +kernel) (by decide +kernel)
theorem qv_d0_18 : ∀ q ∈ qx_c0_18, qv_D code 0 q := qv_E_of 1261 (by decide +kernel) (by decide +kernel)
theorem qv_d0_19 : ∀ q ∈ qx_c0_19, qv_D code 0 q := qv_E_of 1320 (by decide +kernel) (by decide +kernel)
end
section
theorem qv_d0_20 : ∀ q ∈ qx_c0_20, qv_D code 0 q := qv_E_of 1381 (by decide +kernel) (by decide +kernel)
theorem qv_d0_21 : ∀ q ∈ qx_c0_21, qv_D code 0 q := qv_E_of 1439 (by decide +kernel) (by decide +kernel)
theorem qv_d0_22 : ∀ q ∈ qx_c0_22, qv_D code 0 q := qv_E_of 1498 (by decide +kernel) (by decide +kernel)
theorem qv_d0_23 : ∀ q ∈ qx_c0_23, qv_D code 0 q := qv_E_of 1567 (by decide +kernel) (by decide +kernel)
theorem qv_d0_24 : ∀ q ∈ qx_c0_24, qv_D code 0 q := qv_E_of 1626 (by decide +kernel) (by decide +kernel)
theorem qv_d0_25 : ∀ q ∈ qx_c0_25, qv_D code 0 q := qv_E_of 1694 (by decide +kernel) (by decide +kernel)
theorem qv_d0_26 : ∀ q ∈ qx_c0_26, qv_D code 0 q := qv_E_of 1756 (by decide +kernel) (by decide +kernel)
theorem qv_d0_27 : ∀ q ∈ qx_c0_27, qv_D code 0 q := qv_E_of 1816 (by decide +kernel) (by decide +kernel)
theorem qv_d0_28 : ∀ q ∈ qx_c0_28, qv_D code 0 q := qv_E_of 1872 (by decide +kernel) (by decide +kernel)
theorem qv_d0_29 : ∀ q ∈ qx_c0_29, qv_D code 0 q := qv_E_of 1934 (by decide +kernel) (by decide +kernel)
theorem qv_d0_30 : ∀ q ∈ qx_c0_30, qv_D code 0 q := qv_E_of 1990 (by decide +kernel) (by decide +kernel)
theorem qv_law : ∀ q ∈ qx_c0, qv_D code 0 q := List.forall_mem_append.mpr ⟨qv_d0_0, List.forall_mem_append.mpr ⟨qv_d0_1, List.forall_mem_append.mpr ⟨qv_d0_2, List.forall_mem_append.mpr ⟨qv_d0_3, List.forall_mem_append.mpr ⟨qv_d0_4, List.forall_mem_append.mpr ⟨qv_d0_5, List.forall_mem_append.mpr ⟨qv_d0_6, List.forall_mem_append.mpr ⟨qv_d0_7, List.forall_mem_append.mpr ⟨qv_d0_8, List.forall_mem_append.mpr ⟨qv_d0_9, List.forall_mem_append.mpr ⟨qv_d0_10, List.forall_mem_append.mpr ⟨qv_d0_11, List.forall_mem_append.mpr ⟨qv_d0_12, List.forall_mem_append.mpr ⟨qv_d0_13, List.forall_mem_append.mpr ⟨qv_d0_14, List.forall_mem_append.mpr ⟨qv_d0_15, List.forall_mem_append.mpr ⟨qv_d0_16, List.forall_mem_append.mpr ⟨qv_d0_17, List.forall_mem_append.mpr ⟨qv_d0_18, List.forall_mem_append.mpr ⟨qv_d0_19, List.forall_mem_append.mpr ⟨qv_d0_20, List.forall_mem_append.mpr ⟨qv_d0_21, List.forall_mem_append.mpr ⟨qv_d0_22, List.forall_mem_append.mpr ⟨qv_d0_23, List.forall_mem_append.mpr ⟨qv_d0_24, List.forall_mem_append.mpr ⟨qv_d0_25, List.forall_mem_append.mpr ⟨qv_d0_26, List.forall_mem_append.mpr ⟨qv_d0_27, List.forall_mem_append.mpr ⟨qv_d0_28, List.forall_mem_append.mpr ⟨qv_d0_29, qv_d0_30⟩⟩⟩⟩⟩⟩⟩⟩⟩⟩⟩⟩⟩⟩⟩⟩⟩⟩⟩⟩⟩⟩⟩⟩⟩⟩⟩⟩⟩⟩
end
