set_option maxHeartbeats 8000000 in
set_option maxRecDepth 20000 in
/-- most on the fresh objects: both answer alike -/
theorem sx_most {L : Nat} {xs : Nat → Int} {vb : Bool} {d : Nat} {s g : Nat → Nat → Int} {x0 : Int} {x1 : Int} {x2 : Int} (hok : qo_ok s g) (rx0 : -9223372036854775808 ≤ x0 ∧ x0 ≤ 9223372036854775807) (rx1 : -9223372036854775808 ≤ x1 ∧ x1 ≤ 9223372036854775807) (rx2 : -2147483648 ≤ x2 ∧ x2 ≤ 2147483647) : qm_T (qe L xs vb) (d + 4) 108 [.ref 16, .long (ql x0), .long (ql x1), .int (qz x2)] (qw (qo_s s) (qo_r g) qo_k 82) (fun r w => (∃ y : Int, r = some (.long (ql y))) ∧ (∃ σ α κ ρ, w = qw σ α κ ρ) ∧ qm_T (qe L xs vb) (d + 4) 233 [.ref 86, .long (ql x0), .long (ql x1), .int (qz x2)] w (fun r' _ => r' = r)) := by
  refine qr_start (d := d + 3) qv_e108 (Nat.le_of_ble_eq_true rfl) ?_
  show qr_W (qe L xs vb) (d + 3) qx_e108 _ (0, [(0, .ref 16), (1, .long (ql x0)), (3, .long (ql x1)), (5, .int (qz x2))], [], _, 0, 0)
  refine qr_aload_n 1 rfl rfl rfl ?_
  refine qr_get 4 rfl rfl rfl (by decide) rfl ?_
  refine qr_lload_n 5 rfl rfl rfl ?_
  refine qy_call 8 rfl rfl rfl ?_
  refine qr_start (d := d + 2) qv_e88 (Nat.le_of_ble_eq_true rfl) ?_
  show qr_W (qe L xs vb) (d + 2) qx_e88 _ (0, [(0, .ref 17), (1, .long (ql x0))], [], _, 0, 0)
  refine qr_lload_n 1 rfl rfl rfl ?_
  refine qr_lconst 2 rfl rfl ?_
  refine qy_vl 0 rfl ?_
  refine qr_lc_lt 21 6 rfl rfl rfl rfl (by omega) (by decide) (fun h1 => ?_) (fun h1 => ?_)
  · skip
    refine qr_iconst 22 rfl rfl ?_
    refine qr_retZ rfl rfl (by omega) (by decide) (by decide) ?_
    show qr_W (qe L xs vb) (d + 3) qx_e108 _ (8, [(0, .ref 16), (1, .long (ql x0)), (3, .long (ql x1)), (5, .int (qz x2))], [.int (qz 0)], _, 0, 0)
    refine qr_if_eq 31 11 rfl rfl rfl (by decide) (fun _ => ?_) (fun h => absurd h (by decide))
    refine qr_ldc2 (-1) 34 rfl (by decide) rfl ?_
    refine qr_retL rfl rfl (by decide) (by decide) ?_
    refine ⟨⟨_, rfl⟩, ⟨_, _, _, _, rfl⟩, ?_⟩
    refine qr_start (d := d + 3) qv_e233 (Nat.le_of_ble_eq_true rfl) ?_
    show qr_W (qe L xs vb) (d + 3) qx_e233 _ (0, [(0, .ref 86), (1, .long (ql x0)), (3, .long (ql x1)), (5, .int (qz x2))], [], _, 0, 0)
    refine qr_iload 2 rfl rfl rfl ?_
    refine qy_call 5 rfl rfl rfl ?_
    refine qr_start (d := d + 2) qv_e230 (Nat.le_of_ble_eq_true rfl) ?_
    show qr_W (qe L xs vb) (d + 2) qx_e230 _ (0, [(0, .int (qz x2))], [], _, 0, 0)
    refine qr_iload_n 1 rfl rfl rfl ?_
    refine qr_if_lt 59 4 rfl rfl rfl (by omega) (fun h2 => ?_) (fun h2 => ?_)
    · skip
      refine qr_iconst 60 rfl rfl ?_
      refine qr_retZ rfl rfl (by omega) (by decide) (by decide) ?_
      show qr_W (qe L xs vb) (d + 3) qx_e233 _ (5, [(0, .ref 86), (1, .long (ql x0)), (3, .long (ql x1)), (5, .int (qz x2))], [.int (qz 0)], _, 0, 0)
      refine qr_if_eq 38 8 rfl rfl rfl (by decide) (fun _ => ?_) (fun h => absurd h (by decide))
      refine qr_ldc2 (-1) 41 rfl (by decide) rfl ?_
      refine qr_retL rfl rfl (by decide) (by decide) ?_
      exact rfl
    · skip
      refine qr_iload_n 5 rfl rfl rfl ?_
      refine qr_sipush 8 rfl (by decide) rfl ?_
      refine qr_idiv 9 rfl (by omega) (by omega) rfl ?_
      refine qy_call 12 rfl rfl rfl ?_
      refine qr_start (d := d + 1) qv_e192 (Nat.le_of_ble_eq_true rfl) ?_
      show qr_W (qe L xs vb) (d + 1) qx_e192 _ (0, [(0, .int (qz (x2 / 10000)))], [], _, 0, 0)
      refine qr_iload_n 1 rfl rfl rfl ?_
      refine qr_i2l 2 rfl (by omega) rfl ?_
      refine qr_lconst 3 rfl rfl ?_
      refine qy_vl 0 rfl ?_
      refine qr_ldc2 2399 6 rfl (by decide) rfl ?_
      refine qy_call 9 rfl rfl rfl ?_
      refine qr_start (d := d + 0) qv_e176 (Nat.le_of_ble_eq_true rfl) ?_
      show qr_W (qe L xs vb) (d + 0) qx_e176 _ (0, [(0, .long (ql (x2 / 10000))), (2, .long (ql 0)), (4, .long (ql 2399))], [], _, 0, 0)
      refine qr_lload_n 1 rfl rfl rfl ?_
      refine qr_lload_n 2 rfl rfl rfl ?_
      refine qr_lc_lt 17 6 rfl rfl rfl rfl (by omega) (by decide) (fun h => False.elim (by omega)) (fun h3 => ?_)
      refine qr_lload_n 7 rfl rfl rfl ?_
      refine qr_lload 9 rfl rfl rfl ?_
      refine qr_lc_gt 17 13 rfl rfl rfl rfl (by omega) (by decide) (fun h4 => ?_) (fun h4 => ?_)
      · skip
        refine qr_iconst 18 rfl rfl ?_
        refine qr_retZ rfl rfl (by omega) (by decide) (by decide) ?_
        show qr_W (qe L xs vb) (d + 1) qx_e192 _ (9, [(0, .int (qz (x2 / 10000)))], [.int (qz 0)], _, 0, 0)
        refine qr_retZ rfl rfl (by omega) (by decide) (by decide) ?_
        show qr_W (qe L xs vb) (d + 2) qx_e230 _ (12, [(0, .int (qz x2))], [.int (qz 0)], _, 0, 0)
        refine qr_if_eq 59 15 rfl rfl rfl (by decide) (fun _ => ?_) (fun h => absurd h (by decide))
        refine qr_iconst 60 rfl rfl ?_
        refine qr_retZ rfl rfl (by omega) (by decide) (by decide) ?_
        show qr_W (qe L xs vb) (d + 3) qx_e233 _ (5, [(0, .ref 86), (1, .long (ql x0)), (3, .long (ql x1)), (5, .int (qz x2))], [.int (qz 0)], _, 0, 0)
        refine qr_if_eq 38 8 rfl rfl rfl (by decide) (fun _ => ?_) (fun h => absurd h (by decide))
        refine qr_ldc2 (-1) 41 rfl (by decide) rfl ?_
        refine qr_retL rfl rfl (by decide) (by decide) ?_
        exact rfl
      · skip
        refine qr_iconst 14 rfl rfl ?_
        refine qr_goto 18 rfl rfl ?_
        refine qr_retZ rfl rfl (by omega) (by decide) (by decide) ?_
        show qr_W (qe L xs vb) (d + 1) qx_e192 _ (9, [(0, .int (qz (x2 / 10000)))], [.int (qz 1)], _, 0, 0)
        refine qr_retZ rfl rfl (by omega) (by decide) (by decide) ?_
        show qr_W (qe L xs vb) (d + 2) qx_e230 _ (12, [(0, .int (qz x2))], [.int (qz 1)], _, 0, 0)
        refine qr_if_eq 59 15 rfl rfl rfl (by decide) (fun h => absurd h (by decide)) (fun _ => ?_)
        refine qr_iload_n 16 rfl rfl rfl ?_
        refine qr_sipush 19 rfl (by decide) rfl ?_
        refine qr_irem 20 rfl (by omega) (by omega) rfl ?_
        refine qy_call 23 rfl rfl rfl ?_
        refine qr_start (d := d + 1) qv_e192 (Nat.le_of_ble_eq_true rfl) ?_
        show qr_W (qe L xs vb) (d + 1) qx_e192 _ (0, [(0, .int (qz (x2 % 10000)))], [], _, 0, 0)
        refine qr_iload_n 1 rfl rfl rfl ?_
        refine qr_i2l 2 rfl (by omega) rfl ?_
        refine qr_lconst 3 rfl rfl ?_
        refine qy_vl 0 rfl ?_
        refine qr_ldc2 2399 6 rfl (by decide) rfl ?_
        refine qy_call 9 rfl rfl rfl ?_
        refine qr_start (d := d + 0) qv_e176 (Nat.le_of_ble_eq_true rfl) ?_
        show qr_W (qe L xs vb) (d + 0) qx_e176 _ (0, [(0, .long (ql (x2 % 10000))), (2, .long (ql 0)), (4, .long (ql 2399))], [], _, 0, 0)
        refine qr_lload_n 1 rfl rfl rfl ?_
        refine qr_lload_n 2 rfl rfl rfl ?_
        refine qr_lc_lt 17 6 rfl rfl rfl rfl (by omega) (by decide) (fun h => False.elim (by omega)) (fun h5 => ?_)
        refine qr_lload_n 7 rfl rfl rfl ?_
        refine qr_lload 9 rfl rfl rfl ?_
        refine qr_lc_gt 17 13 rfl rfl rfl rfl (by omega) (by decide) (fun h6 => ?_) (fun h6 => ?_)
        · skip
          refine qr_iconst 18 rfl rfl ?_
          refine qr_retZ rfl rfl (by omega) (by decide) (by decide) ?_
          show qr_W (qe L xs vb) (d + 1) qx_e192 _ (9, [(0, .int (qz (x2 % 10000)))], [.int (qz 0)], _, 0, 0)
          refine qr_retZ rfl rfl (by omega) (by decide) (by decide) ?_
          show qr_W (qe L xs vb) (d + 2) qx_e230 _ (23, [(0, .int (qz x2))], [.int (qz 0)], _, 0, 0)
          refine qr_if_eq 59 26 rfl rfl rfl (by decide) (fun _ => ?_) (fun h => absurd h (by decide))
          refine qr_iconst 60 rfl rfl ?_
          refine qr_retZ rfl rfl (by omega) (by decide) (by decide) ?_
          show qr_W (qe L xs vb) (d + 3) qx_e233 _ (5, [(0, .ref 86), (1, .long (ql x0)), (3, .long (ql x1)), (5, .int (qz x2))], [.int (qz 0)], _, 0, 0)
          refine qr_if_eq 38 8 rfl rfl rfl (by decide) (fun _ => ?_) (fun h => absurd h (by decide))
          refine qr_ldc2 (-1) 41 rfl (by decide) rfl ?_
          refine qr_retL rfl rfl (by decide) (by decide) ?_
          exact rfl
        · skip
          refine qr_iconst 14 rfl rfl ?_
          refine qr_goto 18 rfl rfl ?_
          refine qr_retZ rfl rfl (by omega) (by decide) (by decide) ?_
          show qr_W (qe L xs vb) (d + 1) qx_e192 _ (9, [(0, .int (qz (x2 % 10000)))], [.int (qz 1)], _, 0, 0)
          refine qr_retZ rfl rfl (by omega) (by decide) (by decide) ?_
          show qr_W (qe L xs vb) (d + 2) qx_e230 _ (23, [(0, .int (qz x2))], [.int (qz 1)], _, 0, 0)
          refine qr_if_eq 59 26 rfl rfl rfl (by decide) (fun h => absurd h (by decide)) (fun _ => ?_)
          refine qr_iload_n 27 rfl rfl rfl ?_
          refine qr_sipush 30 rfl (by decide) rfl ?_
          refine qr_idiv 31 rfl (by omega) (by omega) rfl ?_
          refine qr_iload_n 32 rfl rfl rfl ?_
          as_aux_lemma =>
            refine qr_sipush 35 rfl (by decide) rfl ?_
            refine qr_irem 36 rfl (by omega) (by omega) rfl ?_
            refine qr_icmp_gt 59 39 rfl rfl rfl (by omega) (by omega) (fun h7 => ?_) (fun h7 => ?_)
            · skip
              refine qr_iconst 60 rfl rfl ?_
              refine qr_retZ rfl rfl (by omega) (by decide) (by decide) ?_
              show qr_W (qe L xs vb) (d + 3) qx_e233 _ (5, [(0, .ref 86), (1, .long (ql x0)), (3, .long (ql x1)), (5, .int (qz x2))], [.int (qz 0)], _, 0, 0)
              refine qr_if_eq 38 8 rfl rfl rfl (by decide) (fun _ => ?_) (fun h => absurd h (by decide))
              refine qr_ldc2 (-1) 41 rfl (by decide) rfl ?_
              refine qr_retL rfl rfl (by decide) (by decide) ?_
              exact rfl
            · skip
              refine qr_iload_n 40 rfl rfl rfl ?_
              refine qr_sipush 43 rfl (by decide) rfl ?_
              refine qr_irem 44 rfl (by omega) (by omega) rfl ?_
              refine qr_iload_n 45 rfl rfl rfl ?_
              refine qr_sipush 48 rfl (by decide) rfl ?_
              refine qr_idiv 49 rfl (by omega) (by omega) rfl ?_
              refine qr_isub 50 rfl rfl ?_
              refine qr_bipush 52 rfl (by decide) rfl ?_
              refine qr_icmp_ge 59 55 rfl rfl rfl (by omega) (by decide) (fun h8 => ?_) (fun h8 => ?_)
              · skip
                refine qr_iconst 60 rfl rfl ?_
                refine qr_retZ rfl rfl (by omega) (by decide) (by decide) ?_
                show qr_W (qe L xs vb) (d + 3) qx_e233 _ (5, [(0, .ref 86), (1, .long (ql x0)), (3, .long (ql x1)), (5, .int (qz x2))], [.int (qz 0)], _, 0, 0)
                refine qr_if_eq 38 8 rfl rfl rfl (by decide) (fun _ => ?_) (fun h => absurd h (by decide))
                refine qr_ldc2 (-1) 41 rfl (by decide) rfl ?_
                refine qr_retL rfl rfl (by decide) (by decide) ?_
                exact rfl
              · skip
                refine qr_iconst 56 rfl rfl ?_
                refine qr_goto 60 rfl rfl ?_
                refine qr_retZ rfl rfl (by omega) (by decide) (by decide) ?_
                show qr_W (qe L xs vb) (d + 3) qx_e233 _ (5, [(0, .ref 86), (1, .long (ql x0)), (3, .long (ql x1)), (5, .int (qz x2))], [.int (qz 1)], _, 0, 0)
                refine qr_if_eq 38 8 rfl rfl rfl (by decide) (fun h => absurd h (by decide)) (fun _ => ?_)
                refine qr_aload_n 9 rfl rfl rfl ?_
                refine qr_lload_n 10 rfl rfl rfl ?_
                refine qy_call 13 rfl rfl rfl ?_
                refine qr_start (d := d + 2) qv_e225 (Nat.le_of_ble_eq_true rfl) ?_
                show qr_W (qe L xs vb) (d + 2) qx_e225 _ (0, [(0, .ref 86), (1, .long (ql x1))], [], _, 0, 0)
                refine qr_lload_n 1 rfl rfl rfl ?_
                refine qr_lconst 2 rfl rfl ?_
                refine qy_vl 0 rfl ?_
                refine qr_lc_lt 21 6 rfl rfl rfl rfl (by omega) (by decide) (fun h9 => ?_) (fun h9 => ?_)
                · skip
                  refine qr_iconst 22 rfl rfl ?_
                  refine qr_retZ rfl rfl (by omega) (by decide) (by decide) ?_
                  show qr_W (qe L xs vb) (d + 3) qx_e233 _ (13, [(0, .ref 86), (1, .long (ql x0)), (3, .long (ql x1)), (5, .int (qz x2))], [.int (qz 0)], _, 0, 0)
                  refine qr_if_eq 38 16 rfl rfl rfl (by decide) (fun _ => ?_) (fun h => absurd h (by decide))
                  refine qr_ldc2 (-1) 41 rfl (by decide) rfl ?_
                  refine qr_retL rfl rfl (by decide) (by decide) ?_
                  exact rfl
                · skip
                  refine qr_lload_n 7 rfl rfl rfl ?_
                  refine qr_aload_n 8 rfl rfl rfl ?_
                  refine qr_get 11 rfl rfl rfl (by decide) rfl ?_
                  refine qy_v 0 rfl ?_
                  refine qr_lshr 12 rfl rfl ?_
                  refine qy_vl x1 (ql_shr0 (by omega)) ?_
                  refine qr_lconst 13 rfl rfl ?_
                  refine qy_vl 0 rfl ?_
                  refine qr_lc_ne 21 17 rfl rfl rfl rfl (by omega) (by decide) (fun h10 => ?_) (fun h10 => ?_)
                  · skip
                    refine qr_iconst 22 rfl rfl ?_
                    refine qr_retZ rfl rfl (by omega) (by decide) (by decide) ?_
                    show qr_W (qe L xs vb) (d + 3) qx_e233 _ (13, [(0, .ref 86), (1, .long (ql x0)), (3, .long (ql x1)), (5, .int (qz x2))], [.int (qz 0)], _, 0, 0)
                    refine qr_if_eq 38 16 rfl rfl rfl (by decide) (fun _ => ?_) (fun h => absurd h (by decide))
                    refine qr_ldc2 (-1) 41 rfl (by decide) rfl ?_
                    refine qr_retL rfl rfl (by decide) (by decide) ?_
                    exact rfl
                  · skip
                    subst h10
                    refine qr_iconst 18 rfl rfl ?_
                    refine qr_goto 22 rfl rfl ?_
                    refine qr_retZ rfl rfl (by omega) (by decide) (by decide) ?_
                    show qr_W (qe L xs vb) (d + 3) qx_e233 _ (13, [(0, .ref 86), (1, .long (ql x0)), (3, .long (ql 0)), (5, .int (qz x2))], [.int (qz 1)], _, 0, 0)
                    refine qr_if_eq 38 16 rfl rfl rfl (by decide) (fun h => absurd h (by decide)) (fun _ => ?_)
                    refine qr_lload_n 17 rfl rfl rfl ?_
                    refine qr_lload_n 18 rfl rfl rfl ?_
                    refine qr_ldc2 (-1) 21 rfl (by decide) rfl ?_
                    refine qr_lxor 22 rfl rfl ?_
                    refine qr_land 23 rfl rfl ?_
                    refine qy_vl 0 (ql_and0l _) ?_
                    refine qr_lconst 24 rfl rfl ?_
                    refine qy_vl 0 rfl ?_
                    refine qr_lc_ne 38 28 rfl rfl rfl rfl (by decide) (by decide) (fun h => absurd h (by decide)) (fun _ => ?_)
                    refine qr_aload_n 29 rfl rfl rfl ?_
                    refine qr_lload_n 30 rfl rfl rfl ?_
                    refine qr_bipush 32 rfl (by decide) rfl ?_
                    refine qy_call 35 rfl rfl rfl ?_
                    refine qr_start (d := d + 2) qv_e234 (Nat.le_of_ble_eq_true rfl) ?_
                    show qr_W (qe L xs vb) (d + 2) qx_e234 _ (0, [(0, .ref 86), (1, .long (ql x0)), (3, .int (qz 12))], [], _, 0, 0)
                    refine qr_aload_n 1 rfl rfl rfl ?_
                    refine qr_iconst 2 rfl rfl ?_
                    refine qr_put 5 rfl (by decide) rfl (Nat.le_of_ble_eq_true rfl) (Nat.le_of_ble_eq_true rfl) (Or.inl rfl) (qr_fitI rfl _) rfl ?_
                    refine qy_wS (qw_s (qo_s s) 86 43 0) rfl (fun σ11 e11 => ?_)
                    refine qr_iconst 6 rfl rfl ?_
                    refine qr_istore [(4, .int (qz 0)), (0, .ref 86), (1, .long (ql x0)), (3, .int (qz 12))] 8 rfl (by decide) rfl rfl ?_
                    refine qr_iload 10 rfl rfl rfl ?_
                    refine qr_aload_n 11 rfl rfl rfl ?_
                    refine qr_get 14 rfl rfl rfl (by decide) rfl ?_
                    refine qy_v 0 (by subst_vars; rfl) ?_
                    refine qr_icmp_ge 70 17 rfl rfl rfl (by decide) (by decide) (fun _ => ?_) (fun h => absurd h (by decide))
                    refine qr_aload_n 71 rfl rfl rfl ?_
                    refine qr_lload_n 72 rfl rfl rfl ?_
                    refine qy_call 75 rfl rfl rfl ?_
                    refine qr_start (d := d + 1) qv_e225 (Nat.le_of_ble_eq_true rfl) ?_
                    show qr_W (qe L xs vb) (d + 1) qx_e225 _ (0, [(0, .ref 86), (1, .long (ql x0))], [], _, 0, 0)
                    refine qr_lload_n 1 rfl rfl rfl ?_
                    refine qr_lconst 2 rfl rfl ?_
                    refine qy_vl 0 rfl ?_
                    refine qr_lc_lt 21 6 rfl rfl rfl rfl (by omega) (by decide) (fun h12 => ?_) (fun h => False.elim (by omega))
                    refine qr_iconst 22 rfl rfl ?_
                    refine qr_retZ rfl rfl (by omega) (by decide) (by decide) ?_
                    show qr_W (qe L xs vb) (d + 2) qx_e234 _ (75, [(4, .int (qz 0)), (0, .ref 86), (1, .long (ql x0)), (3, .int (qz 12))], [.int (qz 0)], _, 0, 0)
                    refine qr_if_eq 96 78 rfl rfl rfl (by decide) (fun _ => ?_) (fun h => absurd h (by decide))
                    as_aux_lemma =>
                      refine qr_iconst 97 rfl rfl ?_
                      refine qr_retZ rfl rfl (by omega) (by decide) (by decide) ?_
                      show qr_W (qe L xs vb) (d + 3) qx_e233 _ (35, [(0, .ref 86), (1, .long (ql x0)), (3, .long (ql 0)), (5, .int (qz x2))], [.int (qz 0)], _, 0, 0)
                      refine qr_if_ne 42 38 rfl rfl rfl (by decide) (fun h => absurd h (by decide)) (fun _ => ?_)
                      refine qr_ldc2 (-1) 41 rfl (by decide) rfl ?_
                      refine qr_retL rfl rfl (by decide) (by decide) ?_
                      exact rfl
  · skip
    refine qr_lload_n 7 rfl rfl rfl ?_
    refine qr_aload_n 8 rfl rfl rfl ?_
    refine qr_get 11 rfl rfl rfl (by decide) rfl ?_
    refine qy_v 0 rfl ?_
    refine qr_lushr 12 rfl rfl ?_
    refine qy_vl x0 (ql_ushr0 (by omega)) ?_
    refine qr_lconst 13 rfl rfl ?_
    refine qy_vl 0 rfl ?_
    refine qr_lc_ne 21 17 rfl rfl rfl rfl (by omega) (by decide) (fun h13 => ?_) (fun h13 => ?_)
    · skip
      refine qr_iconst 22 rfl rfl ?_
      refine qr_retZ rfl rfl (by omega) (by decide) (by decide) ?_
      show qr_W (qe L xs vb) (d + 3) qx_e108 _ (8, [(0, .ref 16), (1, .long (ql x0)), (3, .long (ql x1)), (5, .int (qz x2))], [.int (qz 0)], _, 0, 0)
      refine qr_if_eq 31 11 rfl rfl rfl (by decide) (fun _ => ?_) (fun h => absurd h (by decide))
      refine qr_ldc2 (-1) 34 rfl (by decide) rfl ?_
      refine qr_retL rfl rfl (by decide) (by decide) ?_
      refine ⟨⟨_, rfl⟩, ⟨_, _, _, _, rfl⟩, ?_⟩
      refine qr_start (d := d + 3) qv_e233 (Nat.le_of_ble_eq_true rfl) ?_
      show qr_W (qe L xs vb) (d + 3) qx_e233 _ (0, [(0, .ref 86), (1, .long (ql x0)), (3, .long (ql x1)), (5, .int (qz x2))], [], _, 0, 0)
      refine qr_iload 2 rfl rfl rfl ?_
      refine qy_call 5 rfl rfl rfl ?_
      refine qr_start (d := d + 2) qv_e230 (Nat.le_of_ble_eq_true rfl) ?_
      show qr_W (qe L xs vb) (d + 2) qx_e230 _ (0, [(0, .int (qz x2))], [], _, 0, 0)
      refine qr_iload_n 1 rfl rfl rfl ?_
      refine qr_if_lt 59 4 rfl rfl rfl (by omega) (fun h14 => ?_) (fun h14 => ?_)
      · skip
        refine qr_iconst 60 rfl rfl ?_
        refine qr_retZ rfl rfl (by omega) (by decide) (by decide) ?_
        show qr_W (qe L xs vb) (d + 3) qx_e233 _ (5, [(0, .ref 86), (1, .long (ql x0)), (3, .long (ql x1)), (5, .int (qz x2))], [.int (qz 0)], _, 0, 0)
        refine qr_if_eq 38 8 rfl rfl rfl (by decide) (fun _ => ?_) (fun h => absurd h (by decide))
        refine qr_ldc2 (-1) 41 rfl (by decide) rfl ?_
        refine qr_retL rfl rfl (by decide) (by decide) ?_
        exact rfl
      · skip
        refine qr_iload_n 5 rfl rfl rfl ?_
        refine qr_sipush 8 rfl (by decide) rfl ?_
        refine qr_idiv 9 rfl (by omega) (by omega) rfl ?_
        refine qy_call 12 rfl rfl rfl ?_
        refine qr_start (d := d + 1) qv_e192 (Nat.le_of_ble_eq_true rfl) ?_
        show qr_W (qe L xs vb) (d + 1) qx_e192 _ (0, [(0, .int (qz (x2 / 10000)))], [], _, 0, 0)
        refine qr_iload_n 1 rfl rfl rfl ?_
        refine qr_i2l 2 rfl (by omega) rfl ?_
        refine qr_lconst 3 rfl rfl ?_
        refine qy_vl 0 rfl ?_
        refine qr_ldc2 2399 6 rfl (by decide) rfl ?_
        refine qy_call 9 rfl rfl rfl ?_
        refine qr_start (d := d + 0) qv_e176 (Nat.le_of_ble_eq_true rfl) ?_
        show qr_W (qe L xs vb) (d + 0) qx_e176 _ (0, [(0, .long (ql (x2 / 10000))), (2, .long (ql 0)), (4, .long (ql 2399))], [], _, 0, 0)
        refine qr_lload_n 1 rfl rfl rfl ?_
        refine qr_lload_n 2 rfl rfl rfl ?_
        refine qr_lc_lt 17 6 rfl rfl rfl rfl (by omega) (by decide) (fun h => False.elim (by omega)) (fun h15 => ?_)
        refine qr_lload_n 7 rfl rfl rfl ?_
        refine qr_lload 9 rfl rfl rfl ?_
        refine qr_lc_gt 17 13 rfl rfl rfl rfl (by omega) (by decide) (fun h16 => ?_) (fun h16 => ?_)
        · skip
          refine qr_iconst 18 rfl rfl ?_
          refine qr_retZ rfl rfl (by omega) (by decide) (by decide) ?_
          show qr_W (qe L xs vb) (d + 1) qx_e192 _ (9, [(0, .int (qz (x2 / 10000)))], [.int (qz 0)], _, 0, 0)
          refine qr_retZ rfl rfl (by omega) (by decide) (by decide) ?_
          show qr_W (qe L xs vb) (d + 2) qx_e230 _ (12, [(0, .int (qz x2))], [.int (qz 0)], _, 0, 0)
          refine qr_if_eq 59 15 rfl rfl rfl (by decide) (fun _ => ?_) (fun h => absurd h (by decide))
          refine qr_iconst 60 rfl rfl ?_
          refine qr_retZ rfl rfl (by omega) (by decide) (by decide) ?_
          show qr_W (qe L xs vb) (d + 3) qx_e233 _ (5, [(0, .ref 86), (1, .long (ql x0)), (3, .long (ql x1)), (5, .int (qz x2))], [.int (qz 0)], _, 0, 0)
          refine qr_if_eq 38 8 rfl rfl rfl (by decide) (fun _ => ?_) (fun h => absurd h (by decide))
          refine qr_ldc2 (-1) 41 rfl (by decide) rfl ?_
          refine qr_retL rfl rfl (by decide) (by decide) ?_
          exact rfl
        · skip
          refine qr_iconst 14 rfl rfl ?_
          refine qr_goto 18 rfl rfl ?_
          refine qr_retZ rfl rfl (by omega) (by decide) (by decide) ?_
          show qr_W (qe L xs vb) (d + 1) qx_e192 _ (9, [(0, .int (qz (x2 / 10000)))], [.int (qz 1)], _, 0, 0)
          refine qr_retZ rfl rfl (by omega) (by decide) (by decide) ?_
          show qr_W (qe L xs vb) (d + 2) qx_e230 _ (12, [(0, .int (qz x2))], [.int (qz 1)], _, 0, 0)
          refine qr_if_eq 59 15 rfl rfl rfl (by decide) (fun h => absurd h (by decide)) (fun _ => ?_)
          refine qr_iload_n 16 rfl rfl rfl ?_
          refine qr_sipush 19 rfl (by decide) rfl ?_
          refine qr_irem 20 rfl (by omega) (by omega) rfl ?_
          refine qy_call 23 rfl rfl rfl ?_
          refine qr_start (d := d + 1) qv_e192 (Nat.le_of_ble_eq_true rfl) ?_
          show qr_W (qe L xs vb) (d + 1) qx_e192 _ (0, [(0, .int (qz (x2 % 10000)))], [], _, 0, 0)
          refine qr_iload_n 1 rfl rfl rfl ?_
          refine qr_i2l 2 rfl (by omega) rfl ?_
          refine qr_lconst 3 rfl rfl ?_
          refine qy_vl 0 rfl ?_
          refine qr_ldc2 2399 6 rfl (by decide) rfl ?_
          refine qy_call 9 rfl rfl rfl ?_
          refine qr_start (d := d + 0) qv_e176 (Nat.le_of_ble_eq_true rfl) ?_
          show qr_W (qe L xs vb) (d + 0) qx_e176 _ (0, [(0, .long (ql (x2 % 10000))), (2, .long (ql 0)), (4, .long (ql 2399))], [], _, 0, 0)
          refine qr_lload_n 1 rfl rfl rfl ?_
          refine qr_lload_n 2 rfl rfl rfl ?_
          refine qr_lc_lt 17 6 rfl rfl rfl rfl (by omega) (by decide) (fun h => False.elim (by omega)) (fun h17 => ?_)
          refine qr_lload_n 7 rfl rfl rfl ?_
          refine qr_lload 9 rfl rfl rfl ?_
          refine qr_lc_gt 17 13 rfl rfl rfl rfl (by omega) (by decide) (fun h18 => ?_) (fun h18 => ?_)
          · skip
            refine qr_iconst 18 rfl rfl ?_
            refine qr_retZ rfl rfl (by omega) (by decide) (by decide) ?_
            show qr_W (qe L xs vb) (d + 1) qx_e192 _ (9, [(0, .int (qz (x2 % 10000)))], [.int (qz 0)], _, 0, 0)
            refine qr_retZ rfl rfl (by omega) (by decide) (by decide) ?_
            show qr_W (qe L xs vb) (d + 2) qx_e230 _ (23, [(0, .int (qz x2))], [.int (qz 0)], _, 0, 0)
            as_aux_lemma =>
              refine qr_if_eq 59 26 rfl rfl rfl (by decide) (fun _ => ?_) (fun h => absurd h (by decide))
              refine qr_iconst 60 rfl rfl ?_
              refine qr_retZ rfl rfl (by omega) (by decide) (by decide) ?_
              show qr_W (qe L xs vb) (d + 3) qx_e233 _ (5, [(0, .ref 86), (1, .long (ql x0)), (3, .long (ql x1)), (5, .int (qz x2))], [.int (qz 0)], _, 0, 0)
              refine qr_if_eq 38 8 rfl rfl rfl (by decide) (fun _ => ?_) (fun h => absurd h (by decide))
              refine qr_ldc2 (-1) 41 rfl (by decide) rfl ?_
              refine qr_retL rfl rfl (by decide) (by decide) ?_
              exact rfl
          · skip
            refine qr_iconst 14 rfl rfl ?_
            refine qr_goto 18 rfl rfl ?_
            refine qr_retZ rfl rfl (by omega) (by decide) (by decide) ?_
            show qr_W (qe L xs vb) (d + 1) qx_e192 _ (9, [(0, .int (qz (x2 % 10000)))], [.int (qz 1)], _, 0, 0)
            as_aux_lemma =>
              refine qr_retZ rfl rfl (by omega) (by decide) (by decide) ?_
              show qr_W (qe L xs vb) (d + 2) qx_e230 _ (23, [(0, .int (qz x2))], [.int (qz 1)], _, 0, 0)
              refine qr_if_eq 59 26 rfl rfl rfl (by decide) (fun h => absurd h (by decide)) (fun _ => ?_)
              refine qr_iload_n 27 rfl rfl rfl ?_
              refine qr_sipush 30 rfl (by decide) rfl ?_
              refine qr_idiv 31 rfl (by omega) (by omega) rfl ?_
              refine qr_iload_n 32 rfl rfl rfl ?_
              refine qr_sipush 35 rfl (by decide) rfl ?_
              refine qr_irem 36 rfl (by omega) (by omega) rfl ?_
              refine qr_icmp_gt 59 39 rfl rfl rfl (by omega) (by omega) (fun h19 => ?_) (fun h19 => ?_)
              · skip
                refine qr_iconst 60 rfl rfl ?_
                refine qr_retZ rfl rfl (by omega) (by decide) (by decide) ?_
                show qr_W (qe L xs vb) (d + 3) qx_e233 _ (5, [(0, .ref 86), (1, .long (ql x0)), (3, .long (ql x1)), (5, .int (qz x2))], [.int (qz 0)], _, 0, 0)
                refine qr_if_eq 38 8 rfl rfl rfl (by decide) (fun _ => ?_) (fun h => absurd h (by decide))
                refine qr_ldc2 (-1) 41 rfl (by decide) rfl ?_
                refine qr_retL rfl rfl (by decide) (by decide) ?_
                exact rfl
              · skip
                refine qr_iload_n 40 rfl rfl rfl ?_
                refine qr_sipush 43 rfl (by decide) rfl ?_
                refine qr_irem 44 rfl (by omega) (by omega) rfl ?_
                refine qr_iload_n 45 rfl rfl rfl ?_
                refine qr_sipush 48 rfl (by decide) rfl ?_
                refine qr_idiv 49 rfl (by omega) (by omega) rfl ?_
                refine qr_isub 50 rfl rfl ?_
                refine qr_bipush 52 rfl (by decide) rfl ?_
                refine qr_icmp_ge 59 55 rfl rfl rfl (by omega) (by decide) (fun h20 => ?_) (fun h20 => ?_)
                · skip
                  refine qr_iconst 60 rfl rfl ?_
                  refine qr_retZ rfl rfl (by omega) (by decide) (by decide) ?_
                  show qr_W (qe L xs vb) (d + 3) qx_e233 _ (5, [(0, .ref 86), (1, .long (ql x0)), (3, .long (ql x1)), (5, .int (qz x2))], [.int (qz 0)], _, 0, 0)
                  refine qr_if_eq 38 8 rfl rfl rfl (by decide) (fun _ => ?_) (fun h => absurd h (by decide))
                  refine qr_ldc2 (-1) 41 rfl (by decide) rfl ?_
                  refine qr_retL rfl rfl (by decide) (by decide) ?_
                  exact rfl
                · skip
                  refine qr_iconst 56 rfl rfl ?_
                  refine qr_goto 60 rfl rfl ?_
                  refine qr_retZ rfl rfl (by omega) (by decide) (by decide) ?_
                  show qr_W (qe L xs vb) (d + 3) qx_e233 _ (5, [(0, .ref 86), (1, .long (ql x0)), (3, .long (ql x1)), (5, .int (qz x2))], [.int (qz 1)], _, 0, 0)
                  refine qr_if_eq 38 8 rfl rfl rfl (by decide) (fun h => absurd h (by decide)) (fun _ => ?_)
                  refine qr_aload_n 9 rfl rfl rfl ?_
                  refine qr_lload_n 10 rfl rfl rfl ?_
                  refine qy_call 13 rfl rfl rfl ?_
                  refine qr_start (d := d + 2) qv_e225 (Nat.le_of_ble_eq_true rfl) ?_
                  show qr_W (qe L xs vb) (d + 2) qx_e225 _ (0, [(0, .ref 86), (1, .long (ql x1))], [], _, 0, 0)
                  refine qr_lload_n 1 rfl rfl rfl ?_
                  refine qr_lconst 2 rfl rfl ?_
                  refine qy_vl 0 rfl ?_
                  refine qr_lc_lt 21 6 rfl rfl rfl rfl (by omega) (by decide) (fun h21 => ?_) (fun h21 => ?_)
                  · skip
                    refine qr_iconst 22 rfl rfl ?_
                    refine qr_retZ rfl rfl (by omega) (by decide) (by decide) ?_
                    show qr_W (qe L xs vb) (d + 3) qx_e233 _ (13, [(0, .ref 86), (1, .long (ql x0)), (3, .long (ql x1)), (5, .int (qz x2))], [.int (qz 0)], _, 0, 0)
                    refine qr_if_eq 38 16 rfl rfl rfl (by decide) (fun _ => ?_) (fun h => absurd h (by decide))
                    refine qr_ldc2 (-1) 41 rfl (by decide) rfl ?_
                    refine qr_retL rfl rfl (by decide) (by decide) ?_
                    exact rfl
                  · skip
                    refine qr_lload_n 7 rfl rfl rfl ?_
                    refine qr_aload_n 8 rfl rfl rfl ?_
                    refine qr_get 11 rfl rfl rfl (by decide) rfl ?_
                    refine qy_v 0 rfl ?_
                    refine qr_lshr 12 rfl rfl ?_
                    refine qy_vl x1 (ql_shr0 (by omega)) ?_
                    refine qr_lconst 13 rfl rfl ?_
                    refine qy_vl 0 rfl ?_
                    refine qr_lc_ne 21 17 rfl rfl rfl rfl (by omega) (by decide) (fun h22 => ?_) (fun h22 => ?_)
                    · skip
                      refine qr_iconst 22 rfl rfl ?_
                      refine qr_retZ rfl rfl (by omega) (by decide) (by decide) ?_
                      show qr_W (qe L xs vb) (d + 3) qx_e233 _ (13, [(0, .ref 86), (1, .long (ql x0)), (3, .long (ql x1)), (5, .int (qz x2))], [.int (qz 0)], _, 0, 0)
                      refine qr_if_eq 38 16 rfl rfl rfl (by decide) (fun _ => ?_) (fun h => absurd h (by decide))
                      refine qr_ldc2 (-1) 41 rfl (by decide) rfl ?_
                      refine qr_retL rfl rfl (by decide) (by decide) ?_
                      exact rfl
                    · skip
                      subst h22
                      refine qr_iconst 18 rfl rfl ?_
                      refine qr_goto 22 rfl rfl ?_
                      refine qr_retZ rfl rfl (by omega) (by decide) (by decide) ?_
                      show qr_W (qe L xs vb) (d + 3) qx_e233 _ (13, [(0, .ref 86), (1, .long (ql x0)), (3, .long (ql 0)), (5, .int (qz x2))], [.int (qz 1)], _, 0, 0)
                      refine qr_if_eq 38 16 rfl rfl rfl (by decide) (fun h => absurd h (by decide)) (fun _ => ?_)
                      refine qr_lload_n 17 rfl rfl rfl ?_
                      refine qr_lload_n 18 rfl rfl rfl ?_
                      refine qr_ldc2 (-1) 21 rfl (by decide) rfl ?_
                      refine qr_lxor 22 rfl rfl ?_
                      refine qr_land 23 rfl rfl ?_
                      refine qy_vl 0 (ql_and0l _) ?_
                      refine qr_lconst 24 rfl rfl ?_
                      refine qy_vl 0 rfl ?_
                      refine qr_lc_ne 38 28 rfl rfl rfl rfl (by decide) (by decide) (fun h => absurd h (by decide)) (fun _ => ?_)
                      refine qr_aload_n 29 rfl rfl rfl ?_
                      refine qr_lload_n 30 rfl rfl rfl ?_
                      refine qr_bipush 32 rfl (by decide) rfl ?_
                      refine qy_call 35 rfl rfl rfl ?_
                      refine qr_start (d := d + 2) qv_e234 (Nat.le_of_ble_eq_true rfl) ?_
                      show qr_W (qe L xs vb) (d + 2) qx_e234 _ (0, [(0, .ref 86), (1, .long (ql x0)), (3, .int (qz 12))], [], _, 0, 0)
                      refine qr_aload_n 1 rfl rfl rfl ?_
                      refine qr_iconst 2 rfl rfl ?_
                      refine qr_put 5 rfl (by decide) rfl (Nat.le_of_ble_eq_true rfl) (Nat.le_of_ble_eq_true rfl) (Or.inl rfl) (qr_fitI rfl _) rfl ?_
                      refine qy_wS (qw_s (qo_s s) 86 43 0) rfl (fun σ23 e23 => ?_)
                      refine qr_iconst 6 rfl rfl ?_
                      refine qr_istore [(4, .int (qz 0)), (0, .ref 86), (1, .long (ql x0)), (3, .int (qz 12))] 8 rfl (by decide) rfl rfl ?_
                      refine qr_iload 10 rfl rfl rfl ?_
                      refine qr_aload_n 11 rfl rfl rfl ?_
                      refine qr_get 14 rfl rfl rfl (by decide) rfl ?_
                      refine qy_v 0 (by subst_vars; rfl) ?_
                      refine qr_icmp_ge 70 17 rfl rfl rfl (by decide) (by decide) (fun _ => ?_) (fun h => absurd h (by decide))
                      refine qr_aload_n 71 rfl rfl rfl ?_
                      refine qr_lload_n 72 rfl rfl rfl ?_
                      refine qy_call 75 rfl rfl rfl ?_
                      refine qr_start (d := d + 1) qv_e225 (Nat.le_of_ble_eq_true rfl) ?_
                      show qr_W (qe L xs vb) (d + 1) qx_e225 _ (0, [(0, .ref 86), (1, .long (ql x0))], [], _, 0, 0)
                      as_aux_lemma =>
                        refine qr_lload_n 1 rfl rfl rfl ?_
                        refine qr_lconst 2 rfl rfl ?_
                        refine qy_vl 0 rfl ?_
                        refine qr_lc_lt 21 6 rfl rfl rfl rfl (by omega) (by decide) (fun h => False.elim (by omega)) (fun h24 => ?_)
                        refine qr_lload_n 7 rfl rfl rfl ?_
                        refine qr_aload_n 8 rfl rfl rfl ?_
                        refine qr_get 11 rfl rfl rfl (by decide) rfl ?_
                        refine qy_v 0 (by subst_vars; rfl) ?_
                        refine qr_lshr 12 rfl rfl ?_
                        refine qy_vl x0 (ql_shr0 (by omega)) ?_
                        refine qr_lconst 13 rfl rfl ?_
                        refine qy_vl 0 rfl ?_
                        refine qr_lc_ne 21 17 rfl rfl rfl rfl (by omega) (by decide) (fun h25 => ?_) (fun h => False.elim (by omega))
                        refine qr_iconst 22 rfl rfl ?_
                        refine qr_retZ rfl rfl (by omega) (by decide) (by decide) ?_
                        show qr_W (qe L xs vb) (d + 2) qx_e234 _ (75, [(4, .int (qz 0)), (0, .ref 86), (1, .long (ql x0)), (3, .int (qz 12))], [.int (qz 0)], _, 0, 0)
                        refine qr_if_eq 96 78 rfl rfl rfl (by decide) (fun _ => ?_) (fun h => absurd h (by decide))
                        refine qr_iconst 97 rfl rfl ?_
                        refine qr_retZ rfl rfl (by omega) (by decide) (by decide) ?_
                        show qr_W (qe L xs vb) (d + 3) qx_e233 _ (35, [(0, .ref 86), (1, .long (ql x0)), (3, .long (ql 0)), (5, .int (qz x2))], [.int (qz 0)], _, 0, 0)
                        refine qr_if_ne 42 38 rfl rfl rfl (by decide) (fun h => absurd h (by decide)) (fun _ => ?_)
                        refine qr_ldc2 (-1) 41 rfl (by decide) rfl ?_
                        refine qr_retL rfl rfl (by decide) (by decide) ?_
                        exact rfl
    · skip
      subst h13
      refine qr_iconst 18 rfl rfl ?_
      refine qr_goto 22 rfl rfl ?_
      refine qr_retZ rfl rfl (by omega) (by decide) (by decide) ?_
      show qr_W (qe L xs vb) (d + 3) qx_e108 _ (8, [(0, .ref 16), (1, .long (ql 0)), (3, .long (ql x1)), (5, .int (qz x2))], [.int (qz 1)], _, 0, 0)
      refine qr_if_eq 31 11 rfl rfl rfl (by decide) (fun h => absurd h (by decide)) (fun _ => ?_)
      refine qr_lload_n 12 rfl rfl rfl ?_
      refine qr_lload_n 13 rfl rfl rfl ?_
      refine qr_ldc2 (-1) 16 rfl (by decide) rfl ?_
      refine qr_lxor 17 rfl rfl ?_
      refine qy_vl (-1) rfl ?_
      refine qr_land 18 rfl rfl ?_
      refine qy_vl x1 (ql_andm (by omega)) ?_
      refine qr_lconst 19 rfl rfl ?_
      refine qy_vl 0 rfl ?_
      refine qr_lc_ne 31 23 rfl rfl rfl rfl (by omega) (by decide) (fun h26 => ?_) (fun h26 => ?_)
      · skip
        refine qr_ldc2 (-1) 34 rfl (by decide) rfl ?_
        refine qr_retL rfl rfl (by decide) (by decide) ?_
        refine ⟨⟨_, rfl⟩, ⟨_, _, _, _, rfl⟩, ?_⟩
        refine qr_start (d := d + 3) qv_e233 (Nat.le_of_ble_eq_true rfl) ?_
        show qr_W (qe L xs vb) (d + 3) qx_e233 _ (0, [(0, .ref 86), (1, .long (ql 0)), (3, .long (ql x1)), (5, .int (qz x2))], [], _, 0, 0)
        refine qr_iload 2 rfl rfl rfl ?_
        refine qy_call 5 rfl rfl rfl ?_
        refine qr_start (d := d + 2) qv_e230 (Nat.le_of_ble_eq_true rfl) ?_
        show qr_W (qe L xs vb) (d + 2) qx_e230 _ (0, [(0, .int (qz x2))], [], _, 0, 0)
        refine qr_iload_n 1 rfl rfl rfl ?_
        refine qr_if_lt 59 4 rfl rfl rfl (by omega) (fun h27 => ?_) (fun h27 => ?_)
        · skip
          refine qr_iconst 60 rfl rfl ?_
          refine qr_retZ rfl rfl (by omega) (by decide) (by decide) ?_
          show qr_W (qe L xs vb) (d + 3) qx_e233 _ (5, [(0, .ref 86), (1, .long (ql 0)), (3, .long (ql x1)), (5, .int (qz x2))], [.int (qz 0)], _, 0, 0)
          refine qr_if_eq 38 8 rfl rfl rfl (by decide) (fun _ => ?_) (fun h => absurd h (by decide))
          refine qr_ldc2 (-1) 41 rfl (by decide) rfl ?_
          refine qr_retL rfl rfl (by decide) (by decide) ?_
          exact rfl
        · skip
          refine qr_iload_n 5 rfl rfl rfl ?_
          refine qr_sipush 8 rfl (by decide) rfl ?_
          refine qr_idiv 9 rfl (by omega) (by omega) rfl ?_
          refine qy_call 12 rfl rfl rfl ?_
          refine qr_start (d := d + 1) qv_e192 (Nat.le_of_ble_eq_true rfl) ?_
          show qr_W (qe L xs vb) (d + 1) qx_e192 _ (0, [(0, .int (qz (x2 / 10000)))], [], _, 0, 0)
          refine qr_iload_n 1 rfl rfl rfl ?_
          refine qr_i2l 2 rfl (by omega) rfl ?_
          refine qr_lconst 3 rfl rfl ?_
          refine qy_vl 0 rfl ?_
          refine qr_ldc2 2399 6 rfl (by decide) rfl ?_
          refine qy_call 9 rfl rfl rfl ?_
          refine qr_start (d := d + 0) qv_e176 (Nat.le_of_ble_eq_true rfl) ?_
          show qr_W (qe L xs vb) (d + 0) qx_e176 _ (0, [(0, .long (ql (x2 / 10000))), (2, .long (ql 0)), (4, .long (ql 2399))], [], _, 0, 0)
          refine qr_lload_n 1 rfl rfl rfl ?_
          refine qr_lload_n 2 rfl rfl rfl ?_
          refine qr_lc_lt 17 6 rfl rfl rfl rfl (by omega) (by decide) (fun h => False.elim (by omega)) (fun h28 => ?_)
          refine qr_lload_n 7 rfl rfl rfl ?_
          refine qr_lload 9 rfl rfl rfl ?_
          refine qr_lc_gt 17 13 rfl rfl rfl rfl (by omega) (by decide) (fun h29 => ?_) (fun h29 => ?_)
          · skip
            refine qr_iconst 18 rfl rfl ?_
            refine qr_retZ rfl rfl (by omega) (by decide) (by decide) ?_
            show qr_W (qe L xs vb) (d + 1) qx_e192 _ (9, [(0, .int (qz (x2 / 10000)))], [.int (qz 0)], _, 0, 0)
            refine qr_retZ rfl rfl (by omega) (by decide) (by decide) ?_
            show qr_W (qe L xs vb) (d + 2) qx_e230 _ (12, [(0, .int (qz x2))], [.int (qz 0)], _, 0, 0)
            refine qr_if_eq 59 15 rfl rfl rfl (by decide) (fun _ => ?_) (fun h => absurd h (by decide))
            refine qr_iconst 60 rfl rfl ?_
            refine qr_retZ rfl rfl (by omega) (by decide) (by decide) ?_
            show qr_W (qe L xs vb) (d + 3) qx_e233 _ (5, [(0, .ref 86), (1, .long (ql 0)), (3, .long (ql x1)), (5, .int (qz x2))], [.int (qz 0)], _, 0, 0)
            refine qr_if_eq 38 8 rfl rfl rfl (by decide) (fun _ => ?_) (fun h => absurd h (by decide))
            refine qr_ldc2 (-1) 41 rfl (by decide) rfl ?_
            refine qr_retL rfl rfl (by decide) (by decide) ?_
            exact rfl
          · skip
            refine qr_iconst 14 rfl rfl ?_
            refine qr_goto 18 rfl rfl ?_
            refine qr_retZ rfl rfl (by omega) (by decide) (by decide) ?_
            show qr_W (qe L xs vb) (d + 1) qx_e192 _ (9, [(0, .int (qz (x2 / 10000)))], [.int (qz 1)], _, 0, 0)
            refine qr_retZ rfl rfl (by omega) (by decide) (by decide) ?_
            show qr_W (qe L xs vb) (d + 2) qx_e230 _ (12, [(0, .int (qz x2))], [.int (qz 1)], _, 0, 0)
            refine qr_if_eq 59 15 rfl rfl rfl (by decide) (fun h => absurd h (by decide)) (fun _ => ?_)
            refine qr_iload_n 16 rfl rfl rfl ?_
            refine qr_sipush 19 rfl (by decide) rfl ?_
            refine qr_irem 20 rfl (by omega) (by omega) rfl ?_
            refine qy_call 23 rfl rfl rfl ?_
            refine qr_start (d := d + 1) qv_e192 (Nat.le_of_ble_eq_true rfl) ?_
            show qr_W (qe L xs vb) (d + 1) qx_e192 _ (0, [(0, .int (qz (x2 % 10000)))], [], _, 0, 0)
            refine qr_iload_n 1 rfl rfl rfl ?_
            refine qr_i2l 2 rfl (by omega) rfl ?_
            refine qr_lconst 3 rfl rfl ?_
            refine qy_vl 0 rfl ?_
            refine qr_ldc2 2399 6 rfl (by decide) rfl ?_
            refine qy_call 9 rfl rfl rfl ?_
            refine qr_start (d := d + 0) qv_e176 (Nat.le_of_ble_eq_true rfl) ?_
            show qr_W (qe L xs vb) (d + 0) qx_e176 _ (0, [(0, .long (ql (x2 % 10000))), (2, .long (ql 0)), (4, .long (ql 2399))], [], _, 0, 0)
            refine qr_lload_n 1 rfl rfl rfl ?_
            as_aux_lemma =>
              refine qr_lload_n 2 rfl rfl rfl ?_
              refine qr_lc_lt 17 6 rfl rfl rfl rfl (by omega) (by decide) (fun h => False.elim (by omega)) (fun h30 => ?_)
              refine qr_lload_n 7 rfl rfl rfl ?_
              refine qr_lload 9 rfl rfl rfl ?_
              refine qr_lc_gt 17 13 rfl rfl rfl rfl (by omega) (by decide) (fun h31 => ?_) (fun h31 => ?_)
              · skip
                refine qr_iconst 18 rfl rfl ?_
                refine qr_retZ rfl rfl (by omega) (by decide) (by decide) ?_
                show qr_W (qe L xs vb) (d + 1) qx_e192 _ (9, [(0, .int (qz (x2 % 10000)))], [.int (qz 0)], _, 0, 0)
                refine qr_retZ rfl rfl (by omega) (by decide) (by decide) ?_
                show qr_W (qe L xs vb) (d + 2) qx_e230 _ (23, [(0, .int (qz x2))], [.int (qz 0)], _, 0, 0)
                refine qr_if_eq 59 26 rfl rfl rfl (by decide) (fun _ => ?_) (fun h => absurd h (by decide))
                refine qr_iconst 60 rfl rfl ?_
                refine qr_retZ rfl rfl (by omega) (by decide) (by decide) ?_
                show qr_W (qe L xs vb) (d + 3) qx_e233 _ (5, [(0, .ref 86), (1, .long (ql 0)), (3, .long (ql x1)), (5, .int (qz x2))], [.int (qz 0)], _, 0, 0)
                refine qr_if_eq 38 8 rfl rfl rfl (by decide) (fun _ => ?_) (fun h => absurd h (by decide))
                refine qr_ldc2 (-1) 41 rfl (by decide) rfl ?_
                refine qr_retL rfl rfl (by decide) (by decide) ?_
                exact rfl
              · skip
                refine qr_iconst 14 rfl rfl ?_
                refine qr_goto 18 rfl rfl ?_
                refine qr_retZ rfl rfl (by omega) (by decide) (by decide) ?_
                show qr_W (qe L xs vb) (d + 1) qx_e192 _ (9, [(0, .int (qz (x2 % 10000)))], [.int (qz 1)], _, 0, 0)
                refine qr_retZ rfl rfl (by omega) (by decide) (by decide) ?_
                show qr_W (qe L xs vb) (d + 2) qx_e230 _ (23, [(0, .int (qz x2))], [.int (qz 1)], _, 0, 0)
                refine qr_if_eq 59 26 rfl rfl rfl (by decide) (fun h => absurd h (by decide)) (fun _ => ?_)
                refine qr_iload_n 27 rfl rfl rfl ?_
                refine qr_sipush 30 rfl (by decide) rfl ?_
                refine qr_idiv 31 rfl (by omega) (by omega) rfl ?_
                refine qr_iload_n 32 rfl rfl rfl ?_
                refine qr_sipush 35 rfl (by decide) rfl ?_
                refine qr_irem 36 rfl (by omega) (by omega) rfl ?_
                refine qr_icmp_gt 59 39 rfl rfl rfl (by omega) (by omega) (fun h32 => ?_) (fun h32 => ?_)
                · skip
                  refine qr_iconst 60 rfl rfl ?_
                  refine qr_retZ rfl rfl (by omega) (by decide) (by decide) ?_
                  show qr_W (qe L xs vb) (d + 3) qx_e233 _ (5, [(0, .ref 86), (1, .long (ql 0)), (3, .long (ql x1)), (5, .int (qz x2))], [.int (qz 0)], _, 0, 0)
                  refine qr_if_eq 38 8 rfl rfl rfl (by decide) (fun _ => ?_) (fun h => absurd h (by decide))
                  refine qr_ldc2 (-1) 41 rfl (by decide) rfl ?_
                  refine qr_retL rfl rfl (by decide) (by decide) ?_
                  exact rfl
                · skip
                  refine qr_iload_n 40 rfl rfl rfl ?_
                  refine qr_sipush 43 rfl (by decide) rfl ?_
                  refine qr_irem 44 rfl (by omega) (by omega) rfl ?_
                  refine qr_iload_n 45 rfl rfl rfl ?_
                  refine qr_sipush 48 rfl (by decide) rfl ?_
                  refine qr_idiv 49 rfl (by omega) (by omega) rfl ?_
                  refine qr_isub 50 rfl rfl ?_
                  refine qr_bipush 52 rfl (by decide) rfl ?_
                  refine qr_icmp_ge 59 55 rfl rfl rfl (by omega) (by decide) (fun h33 => ?_) (fun h33 => ?_)
                  · skip
                    refine qr_iconst 60 rfl rfl ?_
                    refine qr_retZ rfl rfl (by omega) (by decide) (by decide) ?_
                    show qr_W (qe L xs vb) (d + 3) qx_e233 _ (5, [(0, .ref 86), (1, .long (ql 0)), (3, .long (ql x1)), (5, .int (qz x2))], [.int (qz 0)], _, 0, 0)
                    refine qr_if_eq 38 8 rfl rfl rfl (by decide) (fun _ => ?_) (fun h => absurd h (by decide))
                    refine qr_ldc2 (-1) 41 rfl (by decide) rfl ?_
                    refine qr_retL rfl rfl (by decide) (by decide) ?_
                    exact rfl
                  · skip
                    refine qr_iconst 56 rfl rfl ?_
                    refine qr_goto 60 rfl rfl ?_
                    refine qr_retZ rfl rfl (by omega) (by decide) (by decide) ?_
                    show qr_W (qe L xs vb) (d + 3) qx_e233 _ (5, [(0, .ref 86), (1, .long (ql 0)), (3, .long (ql x1)), (5, .int (qz x2))], [.int (qz 1)], _, 0, 0)
                    refine qr_if_eq 38 8 rfl rfl rfl (by decide) (fun h => absurd h (by decide)) (fun _ => ?_)
                    refine qr_aload_n 9 rfl rfl rfl ?_
                    refine qr_lload_n 10 rfl rfl rfl ?_
                    refine qy_call 13 rfl rfl rfl ?_
                    refine qr_start (d := d + 2) qv_e225 (Nat.le_of_ble_eq_true rfl) ?_
                    show qr_W (qe L xs vb) (d + 2) qx_e225 _ (0, [(0, .ref 86), (1, .long (ql x1))], [], _, 0, 0)
                    refine qr_lload_n 1 rfl rfl rfl ?_
                    refine qr_lconst 2 rfl rfl ?_
                    refine qy_vl 0 rfl ?_
                    refine qr_lc_lt 21 6 rfl rfl rfl rfl (by omega) (by decide) (fun h34 => ?_) (fun h34 => ?_)
                    · skip
                      refine qr_iconst 22 rfl rfl ?_
                      refine qr_retZ rfl rfl (by omega) (by decide) (by decide) ?_
                      show qr_W (qe L xs vb) (d + 3) qx_e233 _ (13, [(0, .ref 86), (1, .long (ql 0)), (3, .long (ql x1)), (5, .int (qz x2))], [.int (qz 0)], _, 0, 0)
                      refine qr_if_eq 38 16 rfl rfl rfl (by decide) (fun _ => ?_) (fun h => absurd h (by decide))
                      refine qr_ldc2 (-1) 41 rfl (by decide) rfl ?_
                      refine qr_retL rfl rfl (by decide) (by decide) ?_
                      exact rfl
                    · skip
                      refine qr_lload_n 7 rfl rfl rfl ?_
                      refine qr_aload_n 8 rfl rfl rfl ?_
                      refine qr_get 11 rfl rfl rfl (by decide) rfl ?_
                      refine qy_v 0 rfl ?_
                      refine qr_lshr 12 rfl rfl ?_
                      refine qy_vl x1 (ql_shr0 (by omega)) ?_
                      refine qr_lconst 13 rfl rfl ?_
                      refine qy_vl 0 rfl ?_
                      refine qr_lc_ne 21 17 rfl rfl rfl rfl (by omega) (by decide) (fun h35 => ?_) (fun h => False.elim (by omega))
                      refine qr_iconst 22 rfl rfl ?_
                      refine qr_retZ rfl rfl (by omega) (by decide) (by decide) ?_
                      show qr_W (qe L xs vb) (d + 3) qx_e233 _ (13, [(0, .ref 86), (1, .long (ql 0)), (3, .long (ql x1)), (5, .int (qz x2))], [.int (qz 0)], _, 0, 0)
                      refine qr_if_eq 38 16 rfl rfl rfl (by decide) (fun _ => ?_) (fun h => absurd h (by decide))
                      refine qr_ldc2 (-1) 41 rfl (by decide) rfl ?_
                      refine qr_retL rfl rfl (by decide) (by decide) ?_
                      exact rfl
      · skip
        subst h26
        refine qr_iload 25 rfl rfl rfl ?_
        refine qy_call 28 rfl rfl rfl ?_
        refine qr_start (d := d + 2) qv_e100 (Nat.le_of_ble_eq_true rfl) ?_
        show qr_W (qe L xs vb) (d + 2) qx_e100 _ (0, [(0, .int (qz x2))], [], _, 0, 0)
        refine qr_iload_n 1 rfl rfl rfl ?_
        refine qy_call 4 rfl rfl rfl ?_
        refine qr_start (d := d + 1) qv_e70 (Nat.le_of_ble_eq_true rfl) ?_
        show qr_W (qe L xs vb) (d + 1) qx_e70 _ (0, [(0, .int (qz x2))], [], _, 0, 0)
        refine qr_iload_n 1 rfl rfl rfl ?_
        refine qr_if_lt 32 4 rfl rfl rfl (by omega) (fun h36 => ?_) (fun h36 => ?_)
        · skip
          refine qr_iconst 33 rfl rfl ?_
          refine qr_retZ rfl rfl (by omega) (by decide) (by decide) ?_
          show qr_W (qe L xs vb) (d + 2) qx_e100 _ (4, [(0, .int (qz x2))], [.int (qz 0)], _, 0, 0)
          refine qr_if_eq 27 7 rfl rfl rfl (by decide) (fun _ => ?_) (fun h => absurd h (by decide))
          refine qr_iconst 28 rfl rfl ?_
          refine qr_retZ rfl rfl (by omega) (by decide) (by decide) ?_
          show qr_W (qe L xs vb) (d + 3) qx_e108 _ (28, [(0, .ref 16), (1, .long (ql 0)), (3, .long (ql 0)), (5, .int (qz x2))], [.int (qz 0)], _, 0, 0)
          refine qr_if_ne 35 31 rfl rfl rfl (by decide) (fun h => absurd h (by decide)) (fun _ => ?_)
          refine qr_ldc2 (-1) 34 rfl (by decide) rfl ?_
          refine qr_retL rfl rfl (by decide) (by decide) ?_
          refine ⟨⟨_, rfl⟩, ⟨_, _, _, _, rfl⟩, ?_⟩
          refine qr_start (d := d + 3) qv_e233 (Nat.le_of_ble_eq_true rfl) ?_
          show qr_W (qe L xs vb) (d + 3) qx_e233 _ (0, [(0, .ref 86), (1, .long (ql 0)), (3, .long (ql 0)), (5, .int (qz x2))], [], _, 0, 0)
          refine qr_iload 2 rfl rfl rfl ?_
          refine qy_call 5 rfl rfl rfl ?_
          refine qr_start (d := d + 2) qv_e230 (Nat.le_of_ble_eq_true rfl) ?_
          show qr_W (qe L xs vb) (d + 2) qx_e230 _ (0, [(0, .int (qz x2))], [], _, 0, 0)
          refine qr_iload_n 1 rfl rfl rfl ?_
          refine qr_if_lt 59 4 rfl rfl rfl (by omega) (fun h37 => ?_) (fun h => False.elim (by omega))
          refine qr_iconst 60 rfl rfl ?_
          refine qr_retZ rfl rfl (by omega) (by decide) (by decide) ?_
          show qr_W (qe L xs vb) (d + 3) qx_e233 _ (5, [(0, .ref 86), (1, .long (ql 0)), (3, .long (ql 0)), (5, .int (qz x2))], [.int (qz 0)], _, 0, 0)
          refine qr_if_eq 38 8 rfl rfl rfl (by decide) (fun _ => ?_) (fun h => absurd h (by decide))
          refine qr_ldc2 (-1) 41 rfl (by decide) rfl ?_
          refine qr_retL rfl rfl (by decide) (by decide) ?_
          exact rfl
        · skip
          refine qr_iload_n 5 rfl rfl rfl ?_
          refine qr_sipush 8 rfl (by decide) rfl ?_
          refine qr_idiv 9 rfl (by omega) (by omega) rfl ?_
          refine qr_iload_n 10 rfl rfl rfl ?_
          refine qr_sipush 13 rfl (by decide) rfl ?_
          refine qr_irem 14 rfl (by omega) (by omega) rfl ?_
          refine qr_icmp_gt 32 17 rfl rfl rfl (by omega) (by omega) (fun h38 => ?_) (fun h38 => ?_)
          · skip
            refine qr_iconst 33 rfl rfl ?_
            refine qr_retZ rfl rfl (by omega) (by decide) (by decide) ?_
            show qr_W (qe L xs vb) (d + 2) qx_e100 _ (4, [(0, .int (qz x2))], [.int (qz 0)], _, 0, 0)
            refine qr_if_eq 27 7 rfl rfl rfl (by decide) (fun _ => ?_) (fun h => absurd h (by decide))
            refine qr_iconst 28 rfl rfl ?_
            refine qr_retZ rfl rfl (by omega) (by decide) (by decide) ?_
            show qr_W (qe L xs vb) (d + 3) qx_e108 _ (28, [(0, .ref 16), (1, .long (ql 0)), (3, .long (ql 0)), (5, .int (qz x2))], [.int (qz 0)], _, 0, 0)
            refine qr_if_ne 35 31 rfl rfl rfl (by decide) (fun h => absurd h (by decide)) (fun _ => ?_)
            refine qr_ldc2 (-1) 34 rfl (by decide) rfl ?_
            refine qr_retL rfl rfl (by decide) (by decide) ?_
            refine ⟨⟨_, rfl⟩, ⟨_, _, _, _, rfl⟩, ?_⟩
            refine qr_start (d := d + 3) qv_e233 (Nat.le_of_ble_eq_true rfl) ?_
            show qr_W (qe L xs vb) (d + 3) qx_e233 _ (0, [(0, .ref 86), (1, .long (ql 0)), (3, .long (ql 0)), (5, .int (qz x2))], [], _, 0, 0)
            refine qr_iload 2 rfl rfl rfl ?_
            refine qy_call 5 rfl rfl rfl ?_
            refine qr_start (d := d + 2) qv_e230 (Nat.le_of_ble_eq_true rfl) ?_
            show qr_W (qe L xs vb) (d + 2) qx_e230 _ (0, [(0, .int (qz x2))], [], _, 0, 0)
            refine qr_iload_n 1 rfl rfl rfl ?_
            refine qr_if_lt 59 4 rfl rfl rfl (by omega) (fun h => False.elim (by omega)) (fun h39 => ?_)
            refine qr_iload_n 5 rfl rfl rfl ?_
            refine qr_sipush 8 rfl (by decide) rfl ?_
            refine qr_idiv 9 rfl (by omega) (by omega) rfl ?_
            refine qy_call 12 rfl rfl rfl ?_
            refine qr_start (d := d + 1) qv_e192 (Nat.le_of_ble_eq_true rfl) ?_
            show qr_W (qe L xs vb) (d + 1) qx_e192 _ (0, [(0, .int (qz (x2 / 10000)))], [], _, 0, 0)
            refine qr_iload_n 1 rfl rfl rfl ?_
            refine qr_i2l 2 rfl (by omega) rfl ?_
            refine qr_lconst 3 rfl rfl ?_
            refine qy_vl 0 rfl ?_
            refine qr_ldc2 2399 6 rfl (by decide) rfl ?_
            refine qy_call 9 rfl rfl rfl ?_
            refine qr_start (d := d + 0) qv_e176 (Nat.le_of_ble_eq_true rfl) ?_
            show qr_W (qe L xs vb) (d + 0) qx_e176 _ (0, [(0, .long (ql (x2 / 10000))), (2, .long (ql 0)), (4, .long (ql 2399))], [], _, 0, 0)
            refine qr_lload_n 1 rfl rfl rfl ?_
            refine qr_lload_n 2 rfl rfl rfl ?_
            as_aux_lemma =>
              refine qr_lc_lt 17 6 rfl rfl rfl rfl (by omega) (by decide) (fun h => False.elim (by omega)) (fun h40 => ?_)
              refine qr_lload_n 7 rfl rfl rfl ?_
              refine qr_lload 9 rfl rfl rfl ?_
              refine qr_lc_gt 17 13 rfl rfl rfl rfl (by omega) (by decide) (fun h41 => ?_) (fun h41 => ?_)
              · skip
                refine qr_iconst 18 rfl rfl ?_
                refine qr_retZ rfl rfl (by omega) (by decide) (by decide) ?_
                show qr_W (qe L xs vb) (d + 1) qx_e192 _ (9, [(0, .int (qz (x2 / 10000)))], [.int (qz 0)], _, 0, 0)
                refine qr_retZ rfl rfl (by omega) (by decide) (by decide) ?_
                show qr_W (qe L xs vb) (d + 2) qx_e230 _ (12, [(0, .int (qz x2))], [.int (qz 0)], _, 0, 0)
                refine qr_if_eq 59 15 rfl rfl rfl (by decide) (fun _ => ?_) (fun h => absurd h (by decide))
                refine qr_iconst 60 rfl rfl ?_
                refine qr_retZ rfl rfl (by omega) (by decide) (by decide) ?_
                show qr_W (qe L xs vb) (d + 3) qx_e233 _ (5, [(0, .ref 86), (1, .long (ql 0)), (3, .long (ql 0)), (5, .int (qz x2))], [.int (qz 0)], _, 0, 0)
                refine qr_if_eq 38 8 rfl rfl rfl (by decide) (fun _ => ?_) (fun h => absurd h (by decide))
                refine qr_ldc2 (-1) 41 rfl (by decide) rfl ?_
                refine qr_retL rfl rfl (by decide) (by decide) ?_
                exact rfl
              · skip
                refine qr_iconst 14 rfl rfl ?_
                refine qr_goto 18 rfl rfl ?_
                refine qr_retZ rfl rfl (by omega) (by decide) (by decide) ?_
                show qr_W (qe L xs vb) (d + 1) qx_e192 _ (9, [(0, .int (qz (x2 / 10000)))], [.int (qz 1)], _, 0, 0)
                refine qr_retZ rfl rfl (by omega) (by decide) (by decide) ?_
                show qr_W (qe L xs vb) (d + 2) qx_e230 _ (12, [(0, .int (qz x2))], [.int (qz 1)], _, 0, 0)
                refine qr_if_eq 59 15 rfl rfl rfl (by decide) (fun h => absurd h (by decide)) (fun _ => ?_)
                refine qr_iload_n 16 rfl rfl rfl ?_
                refine qr_sipush 19 rfl (by decide) rfl ?_
                refine qr_irem 20 rfl (by omega) (by omega) rfl ?_
                refine qy_call 23 rfl rfl rfl ?_
                refine qr_start (d := d + 1) qv_e192 (Nat.le_of_ble_eq_true rfl) ?_
                show qr_W (qe L xs vb) (d + 1) qx_e192 _ (0, [(0, .int (qz (x2 % 10000)))], [], _, 0, 0)
                refine qr_iload_n 1 rfl rfl rfl ?_
                refine qr_i2l 2 rfl (by omega) rfl ?_
                refine qr_lconst 3 rfl rfl ?_
                refine qy_vl 0 rfl ?_
                refine qr_ldc2 2399 6 rfl (by decide) rfl ?_
                refine qy_call 9 rfl rfl rfl ?_
                refine qr_start (d := d + 0) qv_e176 (Nat.le_of_ble_eq_true rfl) ?_
                show qr_W (qe L xs vb) (d + 0) qx_e176 _ (0, [(0, .long (ql (x2 % 10000))), (2, .long (ql 0)), (4, .long (ql 2399))], [], _, 0, 0)
                refine qr_lload_n 1 rfl rfl rfl ?_
                refine qr_lload_n 2 rfl rfl rfl ?_
                refine qr_lc_lt 17 6 rfl rfl rfl rfl (by omega) (by decide) (fun h => False.elim (by omega)) (fun h42 => ?_)
                refine qr_lload_n 7 rfl rfl rfl ?_
                refine qr_lload 9 rfl rfl rfl ?_
                refine qr_lc_gt 17 13 rfl rfl rfl rfl (by omega) (by decide) (fun h => False.elim (by omega)) (fun h43 => ?_)
                refine qr_iconst 14 rfl rfl ?_
                refine qr_goto 18 rfl rfl ?_
                refine qr_retZ rfl rfl (by omega) (by decide) (by decide) ?_
                show qr_W (qe L xs vb) (d + 1) qx_e192 _ (9, [(0, .int (qz (x2 % 10000)))], [.int (qz 1)], _, 0, 0)
                refine qr_retZ rfl rfl (by omega) (by decide) (by decide) ?_
                show qr_W (qe L xs vb) (d + 2) qx_e230 _ (23, [(0, .int (qz x2))], [.int (qz 1)], _, 0, 0)
                refine qr_if_eq 59 26 rfl rfl rfl (by decide) (fun h => absurd h (by decide)) (fun _ => ?_)
                refine qr_iload_n 27 rfl rfl rfl ?_
                refine qr_sipush 30 rfl (by decide) rfl ?_
                refine qr_idiv 31 rfl (by omega) (by omega) rfl ?_
                refine qr_iload_n 32 rfl rfl rfl ?_
                refine qr_sipush 35 rfl (by decide) rfl ?_
                refine qr_irem 36 rfl (by omega) (by omega) rfl ?_
                refine qr_icmp_gt 59 39 rfl rfl rfl (by omega) (by omega) (fun h44 => ?_) (fun h => False.elim (by omega))
                refine qr_iconst 60 rfl rfl ?_
                refine qr_retZ rfl rfl (by omega) (by decide) (by decide) ?_
                show qr_W (qe L xs vb) (d + 3) qx_e233 _ (5, [(0, .ref 86), (1, .long (ql 0)), (3, .long (ql 0)), (5, .int (qz x2))], [.int (qz 0)], _, 0, 0)
                refine qr_if_eq 38 8 rfl rfl rfl (by decide) (fun _ => ?_) (fun h => absurd h (by decide))
                refine qr_ldc2 (-1) 41 rfl (by decide) rfl ?_
                refine qr_retL rfl rfl (by decide) (by decide) ?_
                exact rfl
          · skip
            refine qr_iload_n 18 rfl rfl rfl ?_
            refine qr_sipush 21 rfl (by decide) rfl ?_
            refine qr_irem 22 rfl (by omega) (by omega) rfl ?_
            refine qy_call 25 rfl rfl rfl ?_
            refine qr_start (d := d + 0) qv_e62 (Nat.le_of_ble_eq_true rfl) ?_
            show qr_W (qe L xs vb) (d + 0) qx_e62 _ (0, [(0, .int (qz (x2 % 10000)))], [], _, 0, 0)
            refine qr_iload_n 1 rfl rfl rfl ?_
            refine qr_if_lt 15 4 rfl rfl rfl (by omega) (fun h => False.elim (by omega)) (fun h45 => ?_)
            refine qr_iload_n 5 rfl rfl rfl ?_
            refine qr_sipush 8 rfl (by decide) rfl ?_
            refine qr_icmp_gt 15 11 rfl rfl rfl (by omega) (by decide) (fun h46 => ?_) (fun h46 => ?_)
            · skip
              refine qr_iconst 16 rfl rfl ?_
              refine qr_retZ rfl rfl (by omega) (by decide) (by decide) ?_
              show qr_W (qe L xs vb) (d + 1) qx_e70 _ (25, [(0, .int (qz x2))], [.int (qz 0)], _, 0, 0)
              refine qr_if_eq 32 28 rfl rfl rfl (by decide) (fun _ => ?_) (fun h => absurd h (by decide))
              refine qr_iconst 33 rfl rfl ?_
              refine qr_retZ rfl rfl (by omega) (by decide) (by decide) ?_
              show qr_W (qe L xs vb) (d + 2) qx_e100 _ (4, [(0, .int (qz x2))], [.int (qz 0)], _, 0, 0)
              refine qr_if_eq 27 7 rfl rfl rfl (by decide) (fun _ => ?_) (fun h => absurd h (by decide))
              refine qr_iconst 28 rfl rfl ?_
              refine qr_retZ rfl rfl (by omega) (by decide) (by decide) ?_
              show qr_W (qe L xs vb) (d + 3) qx_e108 _ (28, [(0, .ref 16), (1, .long (ql 0)), (3, .long (ql 0)), (5, .int (qz x2))], [.int (qz 0)], _, 0, 0)
              refine qr_if_ne 35 31 rfl rfl rfl (by decide) (fun h => absurd h (by decide)) (fun _ => ?_)
              refine qr_ldc2 (-1) 34 rfl (by decide) rfl ?_
              refine qr_retL rfl rfl (by decide) (by decide) ?_
              refine ⟨⟨_, rfl⟩, ⟨_, _, _, _, rfl⟩, ?_⟩
              refine qr_start (d := d + 3) qv_e233 (Nat.le_of_ble_eq_true rfl) ?_
              show qr_W (qe L xs vb) (d + 3) qx_e233 _ (0, [(0, .ref 86), (1, .long (ql 0)), (3, .long (ql 0)), (5, .int (qz x2))], [], _, 0, 0)
              refine qr_iload 2 rfl rfl rfl ?_
              refine qy_call 5 rfl rfl rfl ?_
              refine qr_start (d := d + 2) qv_e230 (Nat.le_of_ble_eq_true rfl) ?_
              show qr_W (qe L xs vb) (d + 2) qx_e230 _ (0, [(0, .int (qz x2))], [], _, 0, 0)
              refine qr_iload_n 1 rfl rfl rfl ?_
              as_aux_lemma =>
                refine qr_if_lt 59 4 rfl rfl rfl (by omega) (fun h => False.elim (by omega)) (fun h47 => ?_)
                refine qr_iload_n 5 rfl rfl rfl ?_
                refine qr_sipush 8 rfl (by decide) rfl ?_
                refine qr_idiv 9 rfl (by omega) (by omega) rfl ?_
                refine qy_call 12 rfl rfl rfl ?_
                refine qr_start (d := d + 1) qv_e192 (Nat.le_of_ble_eq_true rfl) ?_
                show qr_W (qe L xs vb) (d + 1) qx_e192 _ (0, [(0, .int (qz (x2 / 10000)))], [], _, 0, 0)
                refine qr_iload_n 1 rfl rfl rfl ?_
                refine qr_i2l 2 rfl (by omega) rfl ?_
                refine qr_lconst 3 rfl rfl ?_
                refine qy_vl 0 rfl ?_
                refine qr_ldc2 2399 6 rfl (by decide) rfl ?_
                refine qy_call 9 rfl rfl rfl ?_
                refine qr_start (d := d + 0) qv_e176 (Nat.le_of_ble_eq_true rfl) ?_
                show qr_W (qe L xs vb) (d + 0) qx_e176 _ (0, [(0, .long (ql (x2 / 10000))), (2, .long (ql 0)), (4, .long (ql 2399))], [], _, 0, 0)
                refine qr_lload_n 1 rfl rfl rfl ?_
                refine qr_lload_n 2 rfl rfl rfl ?_
                refine qr_lc_lt 17 6 rfl rfl rfl rfl (by omega) (by decide) (fun h => False.elim (by omega)) (fun h48 => ?_)
                refine qr_lload_n 7 rfl rfl rfl ?_
                refine qr_lload 9 rfl rfl rfl ?_
                refine qr_lc_gt 17 13 rfl rfl rfl rfl (by omega) (by decide) (fun h49 => ?_) (fun h49 => ?_)
                · skip
                  refine qr_iconst 18 rfl rfl ?_
                  refine qr_retZ rfl rfl (by omega) (by decide) (by decide) ?_
                  show qr_W (qe L xs vb) (d + 1) qx_e192 _ (9, [(0, .int (qz (x2 / 10000)))], [.int (qz 0)], _, 0, 0)
                  refine qr_retZ rfl rfl (by omega) (by decide) (by decide) ?_
                  show qr_W (qe L xs vb) (d + 2) qx_e230 _ (12, [(0, .int (qz x2))], [.int (qz 0)], _, 0, 0)
                  refine qr_if_eq 59 15 rfl rfl rfl (by decide) (fun _ => ?_) (fun h => absurd h (by decide))
                  refine qr_iconst 60 rfl rfl ?_
                  refine qr_retZ rfl rfl (by omega) (by decide) (by decide) ?_
                  show qr_W (qe L xs vb) (d + 3) qx_e233 _ (5, [(0, .ref 86), (1, .long (ql 0)), (3, .long (ql 0)), (5, .int (qz x2))], [.int (qz 0)], _, 0, 0)
                  refine qr_if_eq 38 8 rfl rfl rfl (by decide) (fun _ => ?_) (fun h => absurd h (by decide))
                  refine qr_ldc2 (-1) 41 rfl (by decide) rfl ?_
                  refine qr_retL rfl rfl (by decide) (by decide) ?_
                  exact rfl
                · skip
                  refine qr_iconst 14 rfl rfl ?_
                  refine qr_goto 18 rfl rfl ?_
                  refine qr_retZ rfl rfl (by omega) (by decide) (by decide) ?_
                  show qr_W (qe L xs vb) (d + 1) qx_e192 _ (9, [(0, .int (qz (x2 / 10000)))], [.int (qz 1)], _, 0, 0)
                  refine qr_retZ rfl rfl (by omega) (by decide) (by decide) ?_
                  show qr_W (qe L xs vb) (d + 2) qx_e230 _ (12, [(0, .int (qz x2))], [.int (qz 1)], _, 0, 0)
                  refine qr_if_eq 59 15 rfl rfl rfl (by decide) (fun h => absurd h (by decide)) (fun _ => ?_)
                  refine qr_iload_n 16 rfl rfl rfl ?_
                  refine qr_sipush 19 rfl (by decide) rfl ?_
                  refine qr_irem 20 rfl (by omega) (by omega) rfl ?_
                  refine qy_call 23 rfl rfl rfl ?_
                  refine qr_start (d := d + 1) qv_e192 (Nat.le_of_ble_eq_true rfl) ?_
                  show qr_W (qe L xs vb) (d + 1) qx_e192 _ (0, [(0, .int (qz (x2 % 10000)))], [], _, 0, 0)
                  refine qr_iload_n 1 rfl rfl rfl ?_
                  refine qr_i2l 2 rfl (by omega) rfl ?_
                  refine qr_lconst 3 rfl rfl ?_
                  refine qy_vl 0 rfl ?_
                  refine qr_ldc2 2399 6 rfl (by decide) rfl ?_
                  refine qy_call 9 rfl rfl rfl ?_
                  refine qr_start (d := d + 0) qv_e176 (Nat.le_of_ble_eq_true rfl) ?_
                  show qr_W (qe L xs vb) (d + 0) qx_e176 _ (0, [(0, .long (ql (x2 % 10000))), (2, .long (ql 0)), (4, .long (ql 2399))], [], _, 0, 0)
                  refine qr_lload_n 1 rfl rfl rfl ?_
                  refine qr_lload_n 2 rfl rfl rfl ?_
                  refine qr_lc_lt 17 6 rfl rfl rfl rfl (by omega) (by decide) (fun h => False.elim (by omega)) (fun h50 => ?_)
                  refine qr_lload_n 7 rfl rfl rfl ?_
                  refine qr_lload 9 rfl rfl rfl ?_
                  refine qr_lc_gt 17 13 rfl rfl rfl rfl (by omega) (by decide) (fun h51 => ?_) (fun h => False.elim (by omega))
                  refine qr_iconst 18 rfl rfl ?_
                  refine qr_retZ rfl rfl (by omega) (by decide) (by decide) ?_
                  show qr_W (qe L xs vb) (d + 1) qx_e192 _ (9, [(0, .int (qz (x2 % 10000)))], [.int (qz 0)], _, 0, 0)
                  refine qr_retZ rfl rfl (by omega) (by decide) (by decide) ?_
                  show qr_W (qe L xs vb) (d + 2) qx_e230 _ (23, [(0, .int (qz x2))], [.int (qz 0)], _, 0, 0)
                  refine qr_if_eq 59 26 rfl rfl rfl (by decide) (fun _ => ?_) (fun h => absurd h (by decide))
                  refine qr_iconst 60 rfl rfl ?_
                  refine qr_retZ rfl rfl (by omega) (by decide) (by decide) ?_
                  show qr_W (qe L xs vb) (d + 3) qx_e233 _ (5, [(0, .ref 86), (1, .long (ql 0)), (3, .long (ql 0)), (5, .int (qz x2))], [.int (qz 0)], _, 0, 0)
                  refine qr_if_eq 38 8 rfl rfl rfl (by decide) (fun _ => ?_) (fun h => absurd h (by decide))
                  refine qr_ldc2 (-1) 41 rfl (by decide) rfl ?_
                  refine qr_retL rfl rfl (by decide) (by decide) ?_
                  exact rfl
            · skip
              refine qr_iconst 12 rfl rfl ?_
              refine qr_goto 16 rfl rfl ?_
              refine qr_retZ rfl rfl (by omega) (by decide) (by decide) ?_
              show qr_W (qe L xs vb) (d + 1) qx_e70 _ (25, [(0, .int (qz x2))], [.int (qz 1)], _, 0, 0)
              refine qr_if_eq 32 28 rfl rfl rfl (by decide) (fun h => absurd h (by decide)) (fun _ => ?_)
              refine qr_iconst 29 rfl rfl ?_
              refine qr_goto 33 rfl rfl ?_
              refine qr_retZ rfl rfl (by omega) (by decide) (by decide) ?_
              show qr_W (qe L xs vb) (d + 2) qx_e100 _ (4, [(0, .int (qz x2))], [.int (qz 1)], _, 0, 0)
              refine qr_if_eq 27 7 rfl rfl rfl (by decide) (fun h => absurd h (by decide)) (fun _ => ?_)
              refine qr_iload_n 8 rfl rfl rfl ?_
              refine qr_sipush 11 rfl (by decide) rfl ?_
              refine qr_irem 12 rfl (by omega) (by omega) rfl ?_
              refine qr_iload_n 13 rfl rfl rfl ?_
              refine qr_sipush 16 rfl (by decide) rfl ?_
              refine qr_idiv 17 rfl (by omega) (by omega) rfl ?_
              as_aux_lemma =>
                refine qr_isub 18 rfl rfl ?_
                refine qr_bipush 20 rfl (by decide) rfl ?_
                refine qr_icmp_ge 27 23 rfl rfl rfl (by omega) (by decide) (fun h52 => ?_) (fun h52 => ?_)
                · skip
                  refine qr_iconst 28 rfl rfl ?_
                  refine qr_retZ rfl rfl (by omega) (by decide) (by decide) ?_
                  show qr_W (qe L xs vb) (d + 3) qx_e108 _ (28, [(0, .ref 16), (1, .long (ql 0)), (3, .long (ql 0)), (5, .int (qz x2))], [.int (qz 0)], _, 0, 0)
                  refine qr_if_ne 35 31 rfl rfl rfl (by decide) (fun h => absurd h (by decide)) (fun _ => ?_)
                  refine qr_ldc2 (-1) 34 rfl (by decide) rfl ?_
                  refine qr_retL rfl rfl (by decide) (by decide) ?_
                  refine ⟨⟨_, rfl⟩, ⟨_, _, _, _, rfl⟩, ?_⟩
                  refine qr_start (d := d + 3) qv_e233 (Nat.le_of_ble_eq_true rfl) ?_
                  show qr_W (qe L xs vb) (d + 3) qx_e233 _ (0, [(0, .ref 86), (1, .long (ql 0)), (3, .long (ql 0)), (5, .int (qz x2))], [], _, 0, 0)
                  refine qr_iload 2 rfl rfl rfl ?_
                  refine qy_call 5 rfl rfl rfl ?_
                  refine qr_start (d := d + 2) qv_e230 (Nat.le_of_ble_eq_true rfl) ?_
                  show qr_W (qe L xs vb) (d + 2) qx_e230 _ (0, [(0, .int (qz x2))], [], _, 0, 0)
                  refine qr_iload_n 1 rfl rfl rfl ?_
                  refine qr_if_lt 59 4 rfl rfl rfl (by omega) (fun h => False.elim (by omega)) (fun h53 => ?_)
                  refine qr_iload_n 5 rfl rfl rfl ?_
                  refine qr_sipush 8 rfl (by decide) rfl ?_
                  refine qr_idiv 9 rfl (by omega) (by omega) rfl ?_
                  refine qy_call 12 rfl rfl rfl ?_
                  refine qr_start (d := d + 1) qv_e192 (Nat.le_of_ble_eq_true rfl) ?_
                  show qr_W (qe L xs vb) (d + 1) qx_e192 _ (0, [(0, .int (qz (x2 / 10000)))], [], _, 0, 0)
                  refine qr_iload_n 1 rfl rfl rfl ?_
                  refine qr_i2l 2 rfl (by omega) rfl ?_
                  refine qr_lconst 3 rfl rfl ?_
                  refine qy_vl 0 rfl ?_
                  refine qr_ldc2 2399 6 rfl (by decide) rfl ?_
                  refine qy_call 9 rfl rfl rfl ?_
                  refine qr_start (d := d + 0) qv_e176 (Nat.le_of_ble_eq_true rfl) ?_
                  show qr_W (qe L xs vb) (d + 0) qx_e176 _ (0, [(0, .long (ql (x2 / 10000))), (2, .long (ql 0)), (4, .long (ql 2399))], [], _, 0, 0)
                  refine qr_lload_n 1 rfl rfl rfl ?_
                  refine qr_lload_n 2 rfl rfl rfl ?_
                  refine qr_lc_lt 17 6 rfl rfl rfl rfl (by omega) (by decide) (fun h => False.elim (by omega)) (fun h54 => ?_)
                  refine qr_lload_n 7 rfl rfl rfl ?_
                  refine qr_lload 9 rfl rfl rfl ?_
                  refine qr_lc_gt 17 13 rfl rfl rfl rfl (by omega) (by decide) (fun h => False.elim (by omega)) (fun h55 => ?_)
                  refine qr_iconst 14 rfl rfl ?_
                  refine qr_goto 18 rfl rfl ?_
                  refine qr_retZ rfl rfl (by omega) (by decide) (by decide) ?_
                  show qr_W (qe L xs vb) (d + 1) qx_e192 _ (9, [(0, .int (qz (x2 / 10000)))], [.int (qz 1)], _, 0, 0)
                  refine qr_retZ rfl rfl (by omega) (by decide) (by decide) ?_
                  show qr_W (qe L xs vb) (d + 2) qx_e230 _ (12, [(0, .int (qz x2))], [.int (qz 1)], _, 0, 0)
                  refine qr_if_eq 59 15 rfl rfl rfl (by decide) (fun h => absurd h (by decide)) (fun _ => ?_)
                  refine qr_iload_n 16 rfl rfl rfl ?_
                  refine qr_sipush 19 rfl (by decide) rfl ?_
                  refine qr_irem 20 rfl (by omega) (by omega) rfl ?_
                  refine qy_call 23 rfl rfl rfl ?_
                  refine qr_start (d := d + 1) qv_e192 (Nat.le_of_ble_eq_true rfl) ?_
                  show qr_W (qe L xs vb) (d + 1) qx_e192 _ (0, [(0, .int (qz (x2 % 10000)))], [], _, 0, 0)
                  refine qr_iload_n 1 rfl rfl rfl ?_
                  refine qr_i2l 2 rfl (by omega) rfl ?_
                  refine qr_lconst 3 rfl rfl ?_
                  refine qy_vl 0 rfl ?_
                  refine qr_ldc2 2399 6 rfl (by decide) rfl ?_
                  refine qy_call 9 rfl rfl rfl ?_
                  refine qr_start (d := d + 0) qv_e176 (Nat.le_of_ble_eq_true rfl) ?_
                  show qr_W (qe L xs vb) (d + 0) qx_e176 _ (0, [(0, .long (ql (x2 % 10000))), (2, .long (ql 0)), (4, .long (ql 2399))], [], _, 0, 0)
                  refine qr_lload_n 1 rfl rfl rfl ?_
                  refine qr_lload_n 2 rfl rfl rfl ?_
                  refine qr_lc_lt 17 6 rfl rfl rfl rfl (by omega) (by decide) (fun h => False.elim (by omega)) (fun h56 => ?_)
                  refine qr_lload_n 7 rfl rfl rfl ?_
                  refine qr_lload 9 rfl rfl rfl ?_
                  refine qr_lc_gt 17 13 rfl rfl rfl rfl (by omega) (by decide) (fun h => False.elim (by omega)) (fun h57 => ?_)
                  refine qr_iconst 14 rfl rfl ?_
                  refine qr_goto 18 rfl rfl ?_
                  refine qr_retZ rfl rfl (by omega) (by decide) (by decide) ?_
                  show qr_W (qe L xs vb) (d + 1) qx_e192 _ (9, [(0, .int (qz (x2 % 10000)))], [.int (qz 1)], _, 0, 0)
                  refine qr_retZ rfl rfl (by omega) (by decide) (by decide) ?_
                  show qr_W (qe L xs vb) (d + 2) qx_e230 _ (23, [(0, .int (qz x2))], [.int (qz 1)], _, 0, 0)
                  refine qr_if_eq 59 26 rfl rfl rfl (by decide) (fun h => absurd h (by decide)) (fun _ => ?_)
                  refine qr_iload_n 27 rfl rfl rfl ?_
                  refine qr_sipush 30 rfl (by decide) rfl ?_
                  refine qr_idiv 31 rfl (by omega) (by omega) rfl ?_
                  refine qr_iload_n 32 rfl rfl rfl ?_
                  refine qr_sipush 35 rfl (by decide) rfl ?_
                  refine qr_irem 36 rfl (by omega) (by omega) rfl ?_
                  refine qr_icmp_gt 59 39 rfl rfl rfl (by omega) (by omega) (fun h => False.elim (by omega)) (fun h58 => ?_)
                  refine qr_iload_n 40 rfl rfl rfl ?_
                  refine qr_sipush 43 rfl (by decide) rfl ?_
                  as_aux_lemma =>
                    refine qr_irem 44 rfl (by omega) (by omega) rfl ?_
                    refine qr_iload_n 45 rfl rfl rfl ?_
                    refine qr_sipush 48 rfl (by decide) rfl ?_
                    refine qr_idiv 49 rfl (by omega) (by omega) rfl ?_
                    refine qr_isub 50 rfl rfl ?_
                    refine qr_bipush 52 rfl (by decide) rfl ?_
                    refine qr_icmp_ge 59 55 rfl rfl rfl (by omega) (by decide) (fun h59 => ?_) (fun h => False.elim (by omega))
                    refine qr_iconst 60 rfl rfl ?_
                    refine qr_retZ rfl rfl (by omega) (by decide) (by decide) ?_
                    show qr_W (qe L xs vb) (d + 3) qx_e233 _ (5, [(0, .ref 86), (1, .long (ql 0)), (3, .long (ql 0)), (5, .int (qz x2))], [.int (qz 0)], _, 0, 0)
                    refine qr_if_eq 38 8 rfl rfl rfl (by decide) (fun _ => ?_) (fun h => absurd h (by decide))
                    refine qr_ldc2 (-1) 41 rfl (by decide) rfl ?_
                    refine qr_retL rfl rfl (by decide) (by decide) ?_
                    exact rfl
                · skip
                  refine qr_iconst 24 rfl rfl ?_
                  refine qr_goto 28 rfl rfl ?_
                  refine qr_retZ rfl rfl (by omega) (by decide) (by decide) ?_
                  show qr_W (qe L xs vb) (d + 3) qx_e108 _ (28, [(0, .ref 16), (1, .long (ql 0)), (3, .long (ql 0)), (5, .int (qz x2))], [.int (qz 1)], _, 0, 0)
                  refine qr_if_ne 35 31 rfl rfl rfl (by decide) (fun _ => ?_) (fun h => absurd h (by decide))
                  refine qr_lload_n 36 rfl rfl rfl ?_
                  refine qr_aload_n 37 rfl rfl rfl ?_
                  refine qr_get 40 rfl rfl rfl (by decide) rfl ?_
                  refine qr_get 43 rfl rfl rfl (by decide) rfl ?_
                  refine qy_vl 0 rfl ?_
                  refine qr_ldc2 (-1) 46 rfl (by decide) rfl ?_
                  refine qr_lxor 47 rfl rfl ?_
                  refine qy_vl (-1) rfl ?_
                  refine qr_land 48 rfl rfl ?_
                  refine qy_vl 0 rfl ?_
                  refine qr_lstore [(6, .long (ql 0)), (0, .ref 16), (1, .long (ql 0)), (3, .long (ql 0)), (5, .int (qz x2))] 50 rfl (by decide) rfl rfl ?_
                  refine qr_lload 52 rfl rfl rfl ?_
                  refine qr_bipush 54 rfl (by decide) rfl ?_
                  refine qy_call 57 rfl rfl rfl ?_
                  refine qr_start (d := d + 2) qv_e109 (Nat.le_of_ble_eq_true rfl) ?_
                  show qr_W (qe L xs vb) (d + 2) qx_e109 _ (0, [(0, .long (ql 0)), (2, .int (qz 12))], [], _, 0, 0)
                  refine qr_lload_n 1 rfl rfl rfl ?_
                  refine qr_lconst 2 rfl rfl ?_
                  refine qy_vl 0 rfl ?_
                  refine qr_lc_eq 18 6 rfl rfl rfl rfl (by decide) (by decide) (fun _ => ?_) (fun h => absurd h (by decide))
                  refine qr_iconst 19 rfl rfl ?_
                  refine qr_retZ rfl rfl (by omega) (by decide) (by decide) ?_
                  show qr_W (qe L xs vb) (d + 3) qx_e108 _ (57, [(6, .long (ql 0)), (0, .ref 16), (1, .long (ql 0)), (3, .long (ql 0)), (5, .int (qz x2))], [.int (qz 0)], _, 0, 0)
                  refine qr_if_ne 64 60 rfl rfl rfl (by decide) (fun h => absurd h (by decide)) (fun _ => ?_)
                  refine qr_ldc2 (-1) 63 rfl (by decide) rfl ?_
                  refine qr_retL rfl rfl (by decide) (by decide) ?_
                  refine ⟨⟨_, rfl⟩, ⟨_, _, _, _, rfl⟩, ?_⟩
                  refine qr_start (d := d + 3) qv_e233 (Nat.le_of_ble_eq_true rfl) ?_
                  show qr_W (qe L xs vb) (d + 3) qx_e233 _ (0, [(0, .ref 86), (1, .long (ql 0)), (3, .long (ql 0)), (5, .int (qz x2))], [], _, 0, 0)
                  refine qr_iload 2 rfl rfl rfl ?_
                  refine qy_call 5 rfl rfl rfl ?_
                  refine qr_start (d := d + 2) qv_e230 (Nat.le_of_ble_eq_true rfl) ?_
                  show qr_W (qe L xs vb) (d + 2) qx_e230 _ (0, [(0, .int (qz x2))], [], _, 0, 0)
                  refine qr_iload_n 1 rfl rfl rfl ?_
                  refine qr_if_lt 59 4 rfl rfl rfl (by omega) (fun h => False.elim (by omega)) (fun h60 => ?_)
                  refine qr_iload_n 5 rfl rfl rfl ?_
                  refine qr_sipush 8 rfl (by decide) rfl ?_
                  refine qr_idiv 9 rfl (by omega) (by omega) rfl ?_
                  refine qy_call 12 rfl rfl rfl ?_
                  refine qr_start (d := d + 1) qv_e192 (Nat.le_of_ble_eq_true rfl) ?_
                  show qr_W (qe L xs vb) (d + 1) qx_e192 _ (0, [(0, .int (qz (x2 / 10000)))], [], _, 0, 0)
                  refine qr_iload_n 1 rfl rfl rfl ?_
                  refine qr_i2l 2 rfl (by omega) rfl ?_
                  refine qr_lconst 3 rfl rfl ?_
                  refine qy_vl 0 rfl ?_
                  refine qr_ldc2 2399 6 rfl (by decide) rfl ?_
                  refine qy_call 9 rfl rfl rfl ?_
                  refine qr_start (d := d + 0) qv_e176 (Nat.le_of_ble_eq_true rfl) ?_
                  show qr_W (qe L xs vb) (d + 0) qx_e176 _ (0, [(0, .long (ql (x2 / 10000))), (2, .long (ql 0)), (4, .long (ql 2399))], [], _, 0, 0)
                  refine qr_lload_n 1 rfl rfl rfl ?_
                  refine qr_lload_n 2 rfl rfl rfl ?_
                  refine qr_lc_lt 17 6 rfl rfl rfl rfl (by omega) (by decide) (fun h => False.elim (by omega)) (fun h61 => ?_)
                  refine qr_lload_n 7 rfl rfl rfl ?_
                  refine qr_lload 9 rfl rfl rfl ?_
                  refine qr_lc_gt 17 13 rfl rfl rfl rfl (by omega) (by decide) (fun h => False.elim (by omega)) (fun h62 => ?_)
                  refine qr_iconst 14 rfl rfl ?_
                  refine qr_goto 18 rfl rfl ?_
                  refine qr_retZ rfl rfl (by omega) (by decide) (by decide) ?_
                  show qr_W (qe L xs vb) (d + 1) qx_e192 _ (9, [(0, .int (qz (x2 / 10000)))], [.int (qz 1)], _, 0, 0)
                  refine qr_retZ rfl rfl (by omega) (by decide) (by decide) ?_
                  show qr_W (qe L xs vb) (d + 2) qx_e230 _ (12, [(0, .int (qz x2))], [.int (qz 1)], _, 0, 0)
                  refine qr_if_eq 59 15 rfl rfl rfl (by decide) (fun h => absurd h (by decide)) (fun _ => ?_)
                  refine qr_iload_n 16 rfl rfl rfl ?_
                  refine qr_sipush 19 rfl (by decide) rfl ?_
                  refine qr_irem 20 rfl (by omega) (by omega) rfl ?_
                  refine qy_call 23 rfl rfl rfl ?_
                  refine qr_start (d := d + 1) qv_e192 (Nat.le_of_ble_eq_true rfl) ?_
                  show qr_W (qe L xs vb) (d + 1) qx_e192 _ (0, [(0, .int (qz (x2 % 10000)))], [], _, 0, 0)
                  refine qr_iload_n 1 rfl rfl rfl ?_
                  refine qr_i2l 2 rfl (by omega) rfl ?_
                  refine qr_lconst 3 rfl rfl ?_
                  refine qy_vl 0 rfl ?_
                  refine qr_ldc2 2399 6 rfl (by decide) rfl ?_
                  refine qy_call 9 rfl rfl rfl ?_
                  refine qr_start (d := d + 0) qv_e176 (Nat.le_of_ble_eq_true rfl) ?_
                  show qr_W (qe L xs vb) (d + 0) qx_e176 _ (0, [(0, .long (ql (x2 % 10000))), (2, .long (ql 0)), (4, .long (ql 2399))], [], _, 0, 0)
                  refine qr_lload_n 1 rfl rfl rfl ?_
                  refine qr_lload_n 2 rfl rfl rfl ?_
                  as_aux_lemma =>
                    refine qr_lc_lt 17 6 rfl rfl rfl rfl (by omega) (by decide) (fun h => False.elim (by omega)) (fun h63 => ?_)
                    refine qr_lload_n 7 rfl rfl rfl ?_
                    refine qr_lload 9 rfl rfl rfl ?_
                    refine qr_lc_gt 17 13 rfl rfl rfl rfl (by omega) (by decide) (fun h => False.elim (by omega)) (fun h64 => ?_)
                    refine qr_iconst 14 rfl rfl ?_
                    refine qr_goto 18 rfl rfl ?_
                    refine qr_retZ rfl rfl (by omega) (by decide) (by decide) ?_
                    show qr_W (qe L xs vb) (d + 1) qx_e192 _ (9, [(0, .int (qz (x2 % 10000)))], [.int (qz 1)], _, 0, 0)
                    refine qr_retZ rfl rfl (by omega) (by decide) (by decide) ?_
                    show qr_W (qe L xs vb) (d + 2) qx_e230 _ (23, [(0, .int (qz x2))], [.int (qz 1)], _, 0, 0)
                    refine qr_if_eq 59 26 rfl rfl rfl (by decide) (fun h => absurd h (by decide)) (fun _ => ?_)
                    refine qr_iload_n 27 rfl rfl rfl ?_
                    refine qr_sipush 30 rfl (by decide) rfl ?_
                    refine qr_idiv 31 rfl (by omega) (by omega) rfl ?_
                    refine qr_iload_n 32 rfl rfl rfl ?_
                    refine qr_sipush 35 rfl (by decide) rfl ?_
                    refine qr_irem 36 rfl (by omega) (by omega) rfl ?_
                    refine qr_icmp_gt 59 39 rfl rfl rfl (by omega) (by omega) (fun h => False.elim (by omega)) (fun h65 => ?_)
                    refine qr_iload_n 40 rfl rfl rfl ?_
                    refine qr_sipush 43 rfl (by decide) rfl ?_
                    refine qr_irem 44 rfl (by omega) (by omega) rfl ?_
                    refine qr_iload_n 45 rfl rfl rfl ?_
                    refine qr_sipush 48 rfl (by decide) rfl ?_
                    refine qr_idiv 49 rfl (by omega) (by omega) rfl ?_
                    refine qr_isub 50 rfl rfl ?_
                    refine qr_bipush 52 rfl (by decide) rfl ?_
                    refine qr_icmp_ge 59 55 rfl rfl rfl (by omega) (by decide) (fun h => False.elim (by omega)) (fun h66 => ?_)
                    refine qr_iconst 56 rfl rfl ?_
                    refine qr_goto 60 rfl rfl ?_
                    refine qr_retZ rfl rfl (by omega) (by decide) (by decide) ?_
                    show qr_W (qe L xs vb) (d + 3) qx_e233 _ (5, [(0, .ref 86), (1, .long (ql 0)), (3, .long (ql 0)), (5, .int (qz x2))], [.int (qz 1)], _, 0, 0)
                    refine qr_if_eq 38 8 rfl rfl rfl (by decide) (fun h => absurd h (by decide)) (fun _ => ?_)
                    refine qr_aload_n 9 rfl rfl rfl ?_
                    refine qr_lload_n 10 rfl rfl rfl ?_
                    refine qy_call 13 rfl rfl rfl ?_
                    refine qr_start (d := d + 2) qv_e225 (Nat.le_of_ble_eq_true rfl) ?_
                    show qr_W (qe L xs vb) (d + 2) qx_e225 _ (0, [(0, .ref 86), (1, .long (ql 0))], [], _, 0, 0)
                    refine qr_lload_n 1 rfl rfl rfl ?_
                    refine qr_lconst 2 rfl rfl ?_
                    refine qy_vl 0 rfl ?_
                    refine qr_lc_lt 21 6 rfl rfl rfl rfl (by decide) (by decide) (fun h => absurd h (by decide)) (fun _ => ?_)
                    refine qr_lload_n 7 rfl rfl rfl ?_
                    refine qr_aload_n 8 rfl rfl rfl ?_
                    refine qr_get 11 rfl rfl rfl (by decide) rfl ?_
                    refine qy_v 0 rfl ?_
                    refine qr_lshr 12 rfl rfl ?_
                    refine qy_vl 0 rfl ?_
                    refine qr_lconst 13 rfl rfl ?_
                    refine qy_vl 0 rfl ?_
                    refine qr_lc_ne 21 17 rfl rfl rfl rfl (by decide) (by decide) (fun h => absurd h (by decide)) (fun _ => ?_)
                    refine qr_iconst 18 rfl rfl ?_
                    refine qr_goto 22 rfl rfl ?_
                    refine qr_retZ rfl rfl (by omega) (by decide) (by decide) ?_
                    show qr_W (qe L xs vb) (d + 3) qx_e233 _ (13, [(0, .ref 86), (1, .long (ql 0)), (3, .long (ql 0)), (5, .int (qz x2))], [.int (qz 1)], _, 0, 0)
                    refine qr_if_eq 38 16 rfl rfl rfl (by decide) (fun h => absurd h (by decide)) (fun _ => ?_)
                    refine qr_lload_n 17 rfl rfl rfl ?_
                    refine qr_lload_n 18 rfl rfl rfl ?_
                    refine qr_ldc2 (-1) 21 rfl (by decide) rfl ?_
                    refine qr_lxor 22 rfl rfl ?_
                    refine qy_vl (-1) rfl ?_
                    refine qr_land 23 rfl rfl ?_
                    refine qy_vl 0 rfl ?_
                    refine qr_lconst 24 rfl rfl ?_
                    refine qy_vl 0 rfl ?_
                    refine qr_lc_ne 38 28 rfl rfl rfl rfl (by decide) (by decide) (fun h => absurd h (by decide)) (fun _ => ?_)
                    refine qr_aload_n 29 rfl rfl rfl ?_
                    refine qr_lload_n 30 rfl rfl rfl ?_
                    refine qr_bipush 32 rfl (by decide) rfl ?_
                    refine qy_call 35 rfl rfl rfl ?_
                    refine qr_start (d := d + 2) qv_e234 (Nat.le_of_ble_eq_true rfl) ?_
                    show qr_W (qe L xs vb) (d + 2) qx_e234 _ (0, [(0, .ref 86), (1, .long (ql 0)), (3, .int (qz 12))], [], _, 0, 0)
                    refine qr_aload_n 1 rfl rfl rfl ?_
                    refine qr_iconst 2 rfl rfl ?_
                    refine qr_put 5 rfl (by decide) rfl (Nat.le_of_ble_eq_true rfl) (Nat.le_of_ble_eq_true rfl) (Or.inl rfl) (qr_fitI rfl _) rfl ?_
                    refine qy_wS (qw_s (qo_s s) 86 43 0) rfl (fun σ67 e67 => ?_)
                    refine qr_iconst 6 rfl rfl ?_
                    refine qr_istore [(4, .int (qz 0)), (0, .ref 86), (1, .long (ql 0)), (3, .int (qz 12))] 8 rfl (by decide) rfl rfl ?_
                    as_aux_lemma =>
                      refine qr_iload 10 rfl rfl rfl ?_
                      refine qr_aload_n 11 rfl rfl rfl ?_
                      refine qr_get 14 rfl rfl rfl (by decide) rfl ?_
                      refine qy_v 0 (by subst_vars; rfl) ?_
                      refine qr_icmp_ge 70 17 rfl rfl rfl (by decide) (by decide) (fun _ => ?_) (fun h => absurd h (by decide))
                      refine qr_aload_n 71 rfl rfl rfl ?_
                      refine qr_lload_n 72 rfl rfl rfl ?_
                      refine qy_call 75 rfl rfl rfl ?_
                      refine qr_start (d := d + 1) qv_e225 (Nat.le_of_ble_eq_true rfl) ?_
                      show qr_W (qe L xs vb) (d + 1) qx_e225 _ (0, [(0, .ref 86), (1, .long (ql 0))], [], _, 0, 0)
                      refine qr_lload_n 1 rfl rfl rfl ?_
                      refine qr_lconst 2 rfl rfl ?_
                      refine qy_vl 0 rfl ?_
                      refine qr_lc_lt 21 6 rfl rfl rfl rfl (by decide) (by decide) (fun h => absurd h (by decide)) (fun _ => ?_)
                      refine qr_lload_n 7 rfl rfl rfl ?_
                      refine qr_aload_n 8 rfl rfl rfl ?_
                      refine qr_get 11 rfl rfl rfl (by decide) rfl ?_
                      refine qy_v 0 (by subst_vars; rfl) ?_
                      refine qr_lshr 12 rfl rfl ?_
                      refine qy_vl 0 rfl ?_
                      refine qr_lconst 13 rfl rfl ?_
                      refine qy_vl 0 rfl ?_
                      refine qr_lc_ne 21 17 rfl rfl rfl rfl (by decide) (by decide) (fun h => absurd h (by decide)) (fun _ => ?_)
                      refine qr_iconst 18 rfl rfl ?_
                      refine qr_goto 22 rfl rfl ?_
                      refine qr_retZ rfl rfl (by omega) (by decide) (by decide) ?_
                      show qr_W (qe L xs vb) (d + 2) qx_e234 _ (75, [(4, .int (qz 0)), (0, .ref 86), (1, .long (ql 0)), (3, .int (qz 12))], [.int (qz 1)], _, 0, 0)
                      refine qr_if_eq 96 78 rfl rfl rfl (by decide) (fun h => absurd h (by decide)) (fun _ => ?_)
                      refine qr_aload_n 79 rfl rfl rfl ?_
                      refine qr_get 82 rfl rfl rfl (by decide) rfl ?_
                      refine qy_v 0 (by subst_vars; rfl) ?_
                      refine qr_i2l 83 rfl (by omega) rfl ?_
                      refine qy_vl 0 rfl ?_
                      refine qr_lconst 84 rfl rfl ?_
                      refine qy_vl 1 rfl ?_
                      refine qr_iload_n 85 rfl rfl rfl ?_
                      refine qr_i2l 86 rfl (by omega) rfl ?_
                      refine qy_vl 12 rfl ?_
                      refine qy_call 89 rfl rfl rfl ?_
                      refine qr_start (d := d + 1) qv_e176 (Nat.le_of_ble_eq_true rfl) ?_
                      show qr_W (qe L xs vb) (d + 1) qx_e176 _ (0, [(0, .long (ql 0)), (2, .long (ql 1)), (4, .long (ql 12))], [], _, 0, 0)
                      refine qr_lload_n 1 rfl rfl rfl ?_
                      refine qr_lload_n 2 rfl rfl rfl ?_
                      refine qr_lc_lt 17 6 rfl rfl rfl rfl (by decide) (by decide) (fun _ => ?_) (fun h => absurd h (by decide))
                      refine qr_iconst 18 rfl rfl ?_
                      refine qr_retZ rfl rfl (by omega) (by decide) (by decide) ?_
                      show qr_W (qe L xs vb) (d + 2) qx_e234 _ (89, [(4, .int (qz 0)), (0, .ref 86), (1, .long (ql 0)), (3, .int (qz 12))], [.int (qz 0)], _, 0, 0)
                      refine qr_if_eq 96 92 rfl rfl rfl (by decide) (fun _ => ?_) (fun h => absurd h (by decide))
                      refine qr_iconst 97 rfl rfl ?_
                      refine qr_retZ rfl rfl (by omega) (by decide) (by decide) ?_
                      show qr_W (qe L xs vb) (d + 3) qx_e233 _ (35, [(0, .ref 86), (1, .long (ql 0)), (3, .long (ql 0)), (5, .int (qz x2))], [.int (qz 0)], _, 0, 0)
                      refine qr_if_ne 42 38 rfl rfl rfl (by decide) (fun h => absurd h (by decide)) (fun _ => ?_)
                      refine qr_ldc2 (-1) 41 rfl (by decide) rfl ?_
                      refine qr_retL rfl rfl (by decide) (by decide) ?_
                      exact rfl

set_option maxHeartbeats 8000000 in
set_option maxRecDepth 20000 in
/-- rooms on the fresh objects: both answer alike -/
theorem sx_rooms {L : Nat} {xs : Nat → Int} {vb : Bool} {d : Nat} {s g : Nat → Nat → Int} {x0 : Int} {x1 : Int} {x2 : Int} (hok : qo_ok s g) (rx0 : -9223372036854775808 ≤ x0 ∧ x0 ≤ 9223372036854775807) (rx1 : -2147483648 ≤ x1 ∧ x1 ≤ 2147483647) (rx2 : -2147483648 ≤ x2 ∧ x2 ≤ 2147483647) : qm_T (qe L xs vb) (d + 4) 117 [.ref 16, .long (ql x0), .int (qz x1), .int (qz x2)] (qw (qo_s s) (qo_r g) qo_k 82) (fun r w => (∃ y : Int, r = some (.long (ql y))) ∧ (∃ σ α κ ρ, w = qw σ α κ ρ) ∧ qm_T (qe L xs vb) (d + 4) 238 [.ref 86, .long (ql x0), .int (qz x1), .int (qz x2)] w (fun r' _ => r' = r)) := by
  refine qr_start (d := d + 3) qv_e117 (Nat.le_of_ble_eq_true rfl) ?_
  show qr_W (qe L xs vb) (d + 3) qx_e117 _ (0, [(0, .ref 16), (1, .long (ql x0)), (3, .int (qz x1)), (4, .int (qz x2))], [], _, 0, 0)
  refine qr_aload_n 1 rfl rfl rfl ?_
  refine qr_get 4 rfl rfl rfl (by decide) rfl ?_
  refine qr_lload_n 5 rfl rfl rfl ?_
  refine qy_call 8 rfl rfl rfl ?_
  refine qr_start (d := d + 2) qv_e88 (Nat.le_of_ble_eq_true rfl) ?_
  show qr_W (qe L xs vb) (d + 2) qx_e88 _ (0, [(0, .ref 17), (1, .long (ql x0))], [], _, 0, 0)
  refine qr_lload_n 1 rfl rfl rfl ?_
  refine qr_lconst 2 rfl rfl ?_
  refine qy_vl 0 rfl ?_
  refine qr_lc_lt 21 6 rfl rfl rfl rfl (by omega) (by decide) (fun h1 => ?_) (fun h1 => ?_)
  · skip
    refine qr_iconst 22 rfl rfl ?_
    refine qr_retZ rfl rfl (by omega) (by decide) (by decide) ?_
    show qr_W (qe L xs vb) (d + 3) qx_e117 _ (8, [(0, .ref 16), (1, .long (ql x0)), (3, .int (qz x1)), (4, .int (qz x2))], [.int (qz 0)], _, 0, 0)
    refine qr_if_eq 26 11 rfl rfl rfl (by decide) (fun _ => ?_) (fun h => absurd h (by decide))
    refine qr_ldc2 (-1) 29 rfl (by decide) rfl ?_
    refine qr_retL rfl rfl (by decide) (by decide) ?_
    refine ⟨⟨_, rfl⟩, ⟨_, _, _, _, rfl⟩, ?_⟩
    refine qr_start (d := d + 3) qv_e238 (Nat.le_of_ble_eq_true rfl) ?_
    show qr_W (qe L xs vb) (d + 3) qx_e238 _ (0, [(0, .ref 86), (1, .long (ql x0)), (3, .int (qz x1)), (4, .int (qz x2))], [], _, 0, 0)
    refine qr_iload_n 1 rfl rfl rfl ?_
    refine qy_call 4 rfl rfl rfl ?_
    refine qr_start (d := d + 2) qv_e230 (Nat.le_of_ble_eq_true rfl) ?_
    show qr_W (qe L xs vb) (d + 2) qx_e230 _ (0, [(0, .int (qz x1))], [], _, 0, 0)
    refine qr_iload_n 1 rfl rfl rfl ?_
    refine qr_if_lt 59 4 rfl rfl rfl (by omega) (fun h2 => ?_) (fun h2 => ?_)
    · skip
      refine qr_iconst 60 rfl rfl ?_
      refine qr_retZ rfl rfl (by omega) (by decide) (by decide) ?_
      show qr_W (qe L xs vb) (d + 3) qx_e238 _ (4, [(0, .ref 86), (1, .long (ql x0)), (3, .int (qz x1)), (4, .int (qz x2))], [.int (qz 0)], _, 0, 0)
      refine qr_if_eq 28 7 rfl rfl rfl (by decide) (fun _ => ?_) (fun h => absurd h (by decide))
      refine qr_ldc2 (-1) 31 rfl (by decide) rfl ?_
      refine qr_retL rfl rfl (by decide) (by decide) ?_
      exact rfl
    · skip
      refine qr_iload_n 5 rfl rfl rfl ?_
      refine qr_sipush 8 rfl (by decide) rfl ?_
      refine qr_idiv 9 rfl (by omega) (by omega) rfl ?_
      refine qy_call 12 rfl rfl rfl ?_
      refine qr_start (d := d + 1) qv_e192 (Nat.le_of_ble_eq_true rfl) ?_
      show qr_W (qe L xs vb) (d + 1) qx_e192 _ (0, [(0, .int (qz (x1 / 10000)))], [], _, 0, 0)
      refine qr_iload_n 1 rfl rfl rfl ?_
      refine qr_i2l 2 rfl (by omega) rfl ?_
      refine qr_lconst 3 rfl rfl ?_
      refine qy_vl 0 rfl ?_
      refine qr_ldc2 2399 6 rfl (by decide) rfl ?_
      refine qy_call 9 rfl rfl rfl ?_
      refine qr_start (d := d + 0) qv_e176 (Nat.le_of_ble_eq_true rfl) ?_
      show qr_W (qe L xs vb) (d + 0) qx_e176 _ (0, [(0, .long (ql (x1 / 10000))), (2, .long (ql 0)), (4, .long (ql 2399))], [], _, 0, 0)
      refine qr_lload_n 1 rfl rfl rfl ?_
      refine qr_lload_n 2 rfl rfl rfl ?_
      refine qr_lc_lt 17 6 rfl rfl rfl rfl (by omega) (by decide) (fun h => False.elim (by omega)) (fun h3 => ?_)
      refine qr_lload_n 7 rfl rfl rfl ?_
      refine qr_lload 9 rfl rfl rfl ?_
      refine qr_lc_gt 17 13 rfl rfl rfl rfl (by omega) (by decide) (fun h4 => ?_) (fun h4 => ?_)
      · skip
        refine qr_iconst 18 rfl rfl ?_
        refine qr_retZ rfl rfl (by omega) (by decide) (by decide) ?_
        show qr_W (qe L xs vb) (d + 1) qx_e192 _ (9, [(0, .int (qz (x1 / 10000)))], [.int (qz 0)], _, 0, 0)
        refine qr_retZ rfl rfl (by omega) (by decide) (by decide) ?_
        show qr_W (qe L xs vb) (d + 2) qx_e230 _ (12, [(0, .int (qz x1))], [.int (qz 0)], _, 0, 0)
        refine qr_if_eq 59 15 rfl rfl rfl (by decide) (fun _ => ?_) (fun h => absurd h (by decide))
        refine qr_iconst 60 rfl rfl ?_
        refine qr_retZ rfl rfl (by omega) (by decide) (by decide) ?_
        show qr_W (qe L xs vb) (d + 3) qx_e238 _ (4, [(0, .ref 86), (1, .long (ql x0)), (3, .int (qz x1)), (4, .int (qz x2))], [.int (qz 0)], _, 0, 0)
        refine qr_if_eq 28 7 rfl rfl rfl (by decide) (fun _ => ?_) (fun h => absurd h (by decide))
        refine qr_ldc2 (-1) 31 rfl (by decide) rfl ?_
        refine qr_retL rfl rfl (by decide) (by decide) ?_
        exact rfl
      · skip
        refine qr_iconst 14 rfl rfl ?_
        refine qr_goto 18 rfl rfl ?_
        refine qr_retZ rfl rfl (by omega) (by decide) (by decide) ?_
        show qr_W (qe L xs vb) (d + 1) qx_e192 _ (9, [(0, .int (qz (x1 / 10000)))], [.int (qz 1)], _, 0, 0)
        refine qr_retZ rfl rfl (by omega) (by decide) (by decide) ?_
        show qr_W (qe L xs vb) (d + 2) qx_e230 _ (12, [(0, .int (qz x1))], [.int (qz 1)], _, 0, 0)
        refine qr_if_eq 59 15 rfl rfl rfl (by decide) (fun h => absurd h (by decide)) (fun _ => ?_)
        refine qr_iload_n 16 rfl rfl rfl ?_
        refine qr_sipush 19 rfl (by decide) rfl ?_
        refine qr_irem 20 rfl (by omega) (by omega) rfl ?_
        refine qy_call 23 rfl rfl rfl ?_
        refine qr_start (d := d + 1) qv_e192 (Nat.le_of_ble_eq_true rfl) ?_
        show qr_W (qe L xs vb) (d + 1) qx_e192 _ (0, [(0, .int (qz (x1 % 10000)))], [], _, 0, 0)
        refine qr_iload_n 1 rfl rfl rfl ?_
        refine qr_i2l 2 rfl (by omega) rfl ?_
        refine qr_lconst 3 rfl rfl ?_
        refine qy_vl 0 rfl ?_
        refine qr_ldc2 2399 6 rfl (by decide) rfl ?_
        refine qy_call 9 rfl rfl rfl ?_
        refine qr_start (d := d + 0) qv_e176 (Nat.le_of_ble_eq_true rfl) ?_
        show qr_W (qe L xs vb) (d + 0) qx_e176 _ (0, [(0, .long (ql (x1 % 10000))), (2, .long (ql 0)), (4, .long (ql 2399))], [], _, 0, 0)
        refine qr_lload_n 1 rfl rfl rfl ?_
        refine qr_lload_n 2 rfl rfl rfl ?_
        refine qr_lc_lt 17 6 rfl rfl rfl rfl (by omega) (by decide) (fun h => False.elim (by omega)) (fun h5 => ?_)
        refine qr_lload_n 7 rfl rfl rfl ?_
        refine qr_lload 9 rfl rfl rfl ?_
        refine qr_lc_gt 17 13 rfl rfl rfl rfl (by omega) (by decide) (fun h6 => ?_) (fun h6 => ?_)
        · skip
          refine qr_iconst 18 rfl rfl ?_
          refine qr_retZ rfl rfl (by omega) (by decide) (by decide) ?_
          show qr_W (qe L xs vb) (d + 1) qx_e192 _ (9, [(0, .int (qz (x1 % 10000)))], [.int (qz 0)], _, 0, 0)
          refine qr_retZ rfl rfl (by omega) (by decide) (by decide) ?_
          show qr_W (qe L xs vb) (d + 2) qx_e230 _ (23, [(0, .int (qz x1))], [.int (qz 0)], _, 0, 0)
          refine qr_if_eq 59 26 rfl rfl rfl (by decide) (fun _ => ?_) (fun h => absurd h (by decide))
          refine qr_iconst 60 rfl rfl ?_
          refine qr_retZ rfl rfl (by omega) (by decide) (by decide) ?_
          show qr_W (qe L xs vb) (d + 3) qx_e238 _ (4, [(0, .ref 86), (1, .long (ql x0)), (3, .int (qz x1)), (4, .int (qz x2))], [.int (qz 0)], _, 0, 0)
          refine qr_if_eq 28 7 rfl rfl rfl (by decide) (fun _ => ?_) (fun h => absurd h (by decide))
          refine qr_ldc2 (-1) 31 rfl (by decide) rfl ?_
          refine qr_retL rfl rfl (by decide) (by decide) ?_
          exact rfl
        · skip
          refine qr_iconst 14 rfl rfl ?_
          refine qr_goto 18 rfl rfl ?_
          refine qr_retZ rfl rfl (by omega) (by decide) (by decide) ?_
          show qr_W (qe L xs vb) (d + 1) qx_e192 _ (9, [(0, .int (qz (x1 % 10000)))], [.int (qz 1)], _, 0, 0)
          refine qr_retZ rfl rfl (by omega) (by decide) (by decide) ?_
          show qr_W (qe L xs vb) (d + 2) qx_e230 _ (23, [(0, .int (qz x1))], [.int (qz 1)], _, 0, 0)
          refine qr_if_eq 59 26 rfl rfl rfl (by decide) (fun h => absurd h (by decide)) (fun _ => ?_)
          refine qr_iload_n 27 rfl rfl rfl ?_
          refine qr_sipush 30 rfl (by decide) rfl ?_
          refine qr_idiv 31 rfl (by omega) (by omega) rfl ?_
          refine qr_iload_n 32 rfl rfl rfl ?_
          as_aux_lemma =>
            refine qr_sipush 35 rfl (by decide) rfl ?_
            refine qr_irem 36 rfl (by omega) (by omega) rfl ?_
            refine qr_icmp_gt 59 39 rfl rfl rfl (by omega) (by omega) (fun h7 => ?_) (fun h7 => ?_)
            · skip
              refine qr_iconst 60 rfl rfl ?_
              refine qr_retZ rfl rfl (by omega) (by decide) (by decide) ?_
              show qr_W (qe L xs vb) (d + 3) qx_e238 _ (4, [(0, .ref 86), (1, .long (ql x0)), (3, .int (qz x1)), (4, .int (qz x2))], [.int (qz 0)], _, 0, 0)
              refine qr_if_eq 28 7 rfl rfl rfl (by decide) (fun _ => ?_) (fun h => absurd h (by decide))
              refine qr_ldc2 (-1) 31 rfl (by decide) rfl ?_
              refine qr_retL rfl rfl (by decide) (by decide) ?_
              exact rfl
            · skip
              refine qr_iload_n 40 rfl rfl rfl ?_
              refine qr_sipush 43 rfl (by decide) rfl ?_
              refine qr_irem 44 rfl (by omega) (by omega) rfl ?_
              refine qr_iload_n 45 rfl rfl rfl ?_
              refine qr_sipush 48 rfl (by decide) rfl ?_
              refine qr_idiv 49 rfl (by omega) (by omega) rfl ?_
              refine qr_isub 50 rfl rfl ?_
              refine qr_bipush 52 rfl (by decide) rfl ?_
              refine qr_icmp_ge 59 55 rfl rfl rfl (by omega) (by decide) (fun h8 => ?_) (fun h8 => ?_)
              · skip
                refine qr_iconst 60 rfl rfl ?_
                refine qr_retZ rfl rfl (by omega) (by decide) (by decide) ?_
                show qr_W (qe L xs vb) (d + 3) qx_e238 _ (4, [(0, .ref 86), (1, .long (ql x0)), (3, .int (qz x1)), (4, .int (qz x2))], [.int (qz 0)], _, 0, 0)
                refine qr_if_eq 28 7 rfl rfl rfl (by decide) (fun _ => ?_) (fun h => absurd h (by decide))
                refine qr_ldc2 (-1) 31 rfl (by decide) rfl ?_
                refine qr_retL rfl rfl (by decide) (by decide) ?_
                exact rfl
              · skip
                refine qr_iconst 56 rfl rfl ?_
                refine qr_goto 60 rfl rfl ?_
                refine qr_retZ rfl rfl (by omega) (by decide) (by decide) ?_
                show qr_W (qe L xs vb) (d + 3) qx_e238 _ (4, [(0, .ref 86), (1, .long (ql x0)), (3, .int (qz x1)), (4, .int (qz x2))], [.int (qz 1)], _, 0, 0)
                refine qr_if_eq 28 7 rfl rfl rfl (by decide) (fun h => absurd h (by decide)) (fun _ => ?_)
                refine qr_iload 9 rfl rfl rfl ?_
                refine qr_i2l 10 rfl (by omega) rfl ?_
                refine qr_lconst 11 rfl rfl ?_
                refine qy_vl 0 rfl ?_
                refine qr_lconst 12 rfl rfl ?_
                refine qy_vl 1 rfl ?_
                refine qy_call 15 rfl rfl rfl ?_
                refine qr_start (d := d + 2) qv_e176 (Nat.le_of_ble_eq_true rfl) ?_
                show qr_W (qe L xs vb) (d + 2) qx_e176 _ (0, [(0, .long (ql x2)), (2, .long (ql 0)), (4, .long (ql 1))], [], _, 0, 0)
                refine qr_lload_n 1 rfl rfl rfl ?_
                refine qr_lload_n 2 rfl rfl rfl ?_
                refine qr_lc_lt 17 6 rfl rfl rfl rfl (by omega) (by decide) (fun h9 => ?_) (fun h9 => ?_)
                · skip
                  refine qr_iconst 18 rfl rfl ?_
                  refine qr_retZ rfl rfl (by omega) (by decide) (by decide) ?_
                  show qr_W (qe L xs vb) (d + 3) qx_e238 _ (15, [(0, .ref 86), (1, .long (ql x0)), (3, .int (qz x1)), (4, .int (qz x2))], [.int (qz 0)], _, 0, 0)
                  refine qr_if_eq 28 18 rfl rfl rfl (by decide) (fun _ => ?_) (fun h => absurd h (by decide))
                  refine qr_ldc2 (-1) 31 rfl (by decide) rfl ?_
                  refine qr_retL rfl rfl (by decide) (by decide) ?_
                  exact rfl
                · skip
                  refine qr_lload_n 7 rfl rfl rfl ?_
                  refine qr_lload 9 rfl rfl rfl ?_
                  refine qr_lc_gt 17 13 rfl rfl rfl rfl (by omega) (by decide) (fun h10 => ?_) (fun h10 => ?_)
                  · skip
                    refine qr_iconst 18 rfl rfl ?_
                    refine qr_retZ rfl rfl (by omega) (by decide) (by decide) ?_
                    show qr_W (qe L xs vb) (d + 3) qx_e238 _ (15, [(0, .ref 86), (1, .long (ql x0)), (3, .int (qz x1)), (4, .int (qz x2))], [.int (qz 0)], _, 0, 0)
                    refine qr_if_eq 28 18 rfl rfl rfl (by decide) (fun _ => ?_) (fun h => absurd h (by decide))
                    refine qr_ldc2 (-1) 31 rfl (by decide) rfl ?_
                    refine qr_retL rfl rfl (by decide) (by decide) ?_
                    exact rfl
                  · skip
                    refine qr_iconst 14 rfl rfl ?_
                    refine qr_goto 18 rfl rfl ?_
                    refine qr_retZ rfl rfl (by omega) (by decide) (by decide) ?_
                    show qr_W (qe L xs vb) (d + 3) qx_e238 _ (15, [(0, .ref 86), (1, .long (ql x0)), (3, .int (qz x1)), (4, .int (qz x2))], [.int (qz 1)], _, 0, 0)
                    refine qr_if_eq 28 18 rfl rfl rfl (by decide) (fun h => absurd h (by decide)) (fun _ => ?_)
                    refine qr_aload_n 19 rfl rfl rfl ?_
                    refine qr_lload_n 20 rfl rfl rfl ?_
                    refine qr_bipush 22 rfl (by decide) rfl ?_
                    refine qy_call 25 rfl rfl rfl ?_
                    refine qr_start (d := d + 2) qv_e234 (Nat.le_of_ble_eq_true rfl) ?_
                    show qr_W (qe L xs vb) (d + 2) qx_e234 _ (0, [(0, .ref 86), (1, .long (ql x0)), (3, .int (qz 12))], [], _, 0, 0)
                    refine qr_aload_n 1 rfl rfl rfl ?_
                    refine qr_iconst 2 rfl rfl ?_
                    refine qr_put 5 rfl (by decide) rfl (Nat.le_of_ble_eq_true rfl) (Nat.le_of_ble_eq_true rfl) (Or.inl rfl) (qr_fitI rfl _) rfl ?_
                    refine qy_wS (qw_s (qo_s s) 86 43 0) rfl (fun σ11 e11 => ?_)
                    refine qr_iconst 6 rfl rfl ?_
                    refine qr_istore [(4, .int (qz 0)), (0, .ref 86), (1, .long (ql x0)), (3, .int (qz 12))] 8 rfl (by decide) rfl rfl ?_
                    refine qr_iload 10 rfl rfl rfl ?_
                    refine qr_aload_n 11 rfl rfl rfl ?_
                    refine qr_get 14 rfl rfl rfl (by decide) rfl ?_
                    refine qy_v 0 (by subst_vars; rfl) ?_
                    refine qr_icmp_ge 70 17 rfl rfl rfl (by decide) (by decide) (fun _ => ?_) (fun h => absurd h (by decide))
                    refine qr_aload_n 71 rfl rfl rfl ?_
                    refine qr_lload_n 72 rfl rfl rfl ?_
                    refine qy_call 75 rfl rfl rfl ?_
                    refine qr_start (d := d + 1) qv_e225 (Nat.le_of_ble_eq_true rfl) ?_
                    show qr_W (qe L xs vb) (d + 1) qx_e225 _ (0, [(0, .ref 86), (1, .long (ql x0))], [], _, 0, 0)
                    refine qr_lload_n 1 rfl rfl rfl ?_
                    refine qr_lconst 2 rfl rfl ?_
                    refine qy_vl 0 rfl ?_
                    refine qr_lc_lt 21 6 rfl rfl rfl rfl (by omega) (by decide) (fun h12 => ?_) (fun h => False.elim (by omega))
                    refine qr_iconst 22 rfl rfl ?_
                    refine qr_retZ rfl rfl (by omega) (by decide) (by decide) ?_
                    show qr_W (qe L xs vb) (d + 2) qx_e234 _ (75, [(4, .int (qz 0)), (0, .ref 86), (1, .long (ql x0)), (3, .int (qz 12))], [.int (qz 0)], _, 0, 0)
                    refine qr_if_eq 96 78 rfl rfl rfl (by decide) (fun _ => ?_) (fun h => absurd h (by decide))
                    refine qr_iconst 97 rfl rfl ?_
                    refine qr_retZ rfl rfl (by omega) (by decide) (by decide) ?_
                    show qr_W (qe L xs vb) (d + 3) qx_e238 _ (25, [(0, .ref 86), (1, .long (ql x0)), (3, .int (qz x1)), (4, .int (qz x2))], [.int (qz 0)], _, 0, 0)
                    refine qr_if_ne 32 28 rfl rfl rfl (by decide) (fun h => absurd h (by decide)) (fun _ => ?_)
                    refine qr_ldc2 (-1) 31 rfl (by decide) rfl ?_
                    refine qr_retL rfl rfl (by decide) (by decide) ?_
                    exact rfl
  · skip
    refine qr_lload_n 7 rfl rfl rfl ?_
    refine qr_aload_n 8 rfl rfl rfl ?_
    refine qr_get 11 rfl rfl rfl (by decide) rfl ?_
    refine qy_v 0 rfl ?_
    refine qr_lushr 12 rfl rfl ?_
    refine qy_vl x0 (ql_ushr0 (by omega)) ?_
    refine qr_lconst 13 rfl rfl ?_
    refine qy_vl 0 rfl ?_
    refine qr_lc_ne 21 17 rfl rfl rfl rfl (by omega) (by decide) (fun h13 => ?_) (fun h13 => ?_)
    · skip
      refine qr_iconst 22 rfl rfl ?_
      refine qr_retZ rfl rfl (by omega) (by decide) (by decide) ?_
      show qr_W (qe L xs vb) (d + 3) qx_e117 _ (8, [(0, .ref 16), (1, .long (ql x0)), (3, .int (qz x1)), (4, .int (qz x2))], [.int (qz 0)], _, 0, 0)
      refine qr_if_eq 26 11 rfl rfl rfl (by decide) (fun _ => ?_) (fun h => absurd h (by decide))
      refine qr_ldc2 (-1) 29 rfl (by decide) rfl ?_
      refine qr_retL rfl rfl (by decide) (by decide) ?_
      refine ⟨⟨_, rfl⟩, ⟨_, _, _, _, rfl⟩, ?_⟩
      refine qr_start (d := d + 3) qv_e238 (Nat.le_of_ble_eq_true rfl) ?_
      show qr_W (qe L xs vb) (d + 3) qx_e238 _ (0, [(0, .ref 86), (1, .long (ql x0)), (3, .int (qz x1)), (4, .int (qz x2))], [], _, 0, 0)
      refine qr_iload_n 1 rfl rfl rfl ?_
      refine qy_call 4 rfl rfl rfl ?_
      refine qr_start (d := d + 2) qv_e230 (Nat.le_of_ble_eq_true rfl) ?_
      show qr_W (qe L xs vb) (d + 2) qx_e230 _ (0, [(0, .int (qz x1))], [], _, 0, 0)
      refine qr_iload_n 1 rfl rfl rfl ?_
      refine qr_if_lt 59 4 rfl rfl rfl (by omega) (fun h14 => ?_) (fun h14 => ?_)
      · skip
        refine qr_iconst 60 rfl rfl ?_
        refine qr_retZ rfl rfl (by omega) (by decide) (by decide) ?_
        show qr_W (qe L xs vb) (d + 3) qx_e238 _ (4, [(0, .ref 86), (1, .long (ql x0)), (3, .int (qz x1)), (4, .int (qz x2))], [.int (qz 0)], _, 0, 0)
        refine qr_if_eq 28 7 rfl rfl rfl (by decide) (fun _ => ?_) (fun h => absurd h (by decide))
        refine qr_ldc2 (-1) 31 rfl (by decide) rfl ?_
        refine qr_retL rfl rfl (by decide) (by decide) ?_
        exact rfl
      · skip
        refine qr_iload_n 5 rfl rfl rfl ?_
        refine qr_sipush 8 rfl (by decide) rfl ?_
        refine qr_idiv 9 rfl (by omega) (by omega) rfl ?_
        refine qy_call 12 rfl rfl rfl ?_
        refine qr_start (d := d + 1) qv_e192 (Nat.le_of_ble_eq_true rfl) ?_
        show qr_W (qe L xs vb) (d + 1) qx_e192 _ (0, [(0, .int (qz (x1 / 10000)))], [], _, 0, 0)
        refine qr_iload_n 1 rfl rfl rfl ?_
        refine qr_i2l 2 rfl (by omega) rfl ?_
        refine qr_lconst 3 rfl rfl ?_
        refine qy_vl 0 rfl ?_
        refine qr_ldc2 2399 6 rfl (by decide) rfl ?_
        refine qy_call 9 rfl rfl rfl ?_
        refine qr_start (d := d + 0) qv_e176 (Nat.le_of_ble_eq_true rfl) ?_
        show qr_W (qe L xs vb) (d + 0) qx_e176 _ (0, [(0, .long (ql (x1 / 10000))), (2, .long (ql 0)), (4, .long (ql 2399))], [], _, 0, 0)
        refine qr_lload_n 1 rfl rfl rfl ?_
        refine qr_lload_n 2 rfl rfl rfl ?_
        refine qr_lc_lt 17 6 rfl rfl rfl rfl (by omega) (by decide) (fun h => False.elim (by omega)) (fun h15 => ?_)
        refine qr_lload_n 7 rfl rfl rfl ?_
        refine qr_lload 9 rfl rfl rfl ?_
        refine qr_lc_gt 17 13 rfl rfl rfl rfl (by omega) (by decide) (fun h16 => ?_) (fun h16 => ?_)
        · skip
          refine qr_iconst 18 rfl rfl ?_
          refine qr_retZ rfl rfl (by omega) (by decide) (by decide) ?_
          show qr_W (qe L xs vb) (d + 1) qx_e192 _ (9, [(0, .int (qz (x1 / 10000)))], [.int (qz 0)], _, 0, 0)
          refine qr_retZ rfl rfl (by omega) (by decide) (by decide) ?_
          show qr_W (qe L xs vb) (d + 2) qx_e230 _ (12, [(0, .int (qz x1))], [.int (qz 0)], _, 0, 0)
          refine qr_if_eq 59 15 rfl rfl rfl (by decide) (fun _ => ?_) (fun h => absurd h (by decide))
          refine qr_iconst 60 rfl rfl ?_
          refine qr_retZ rfl rfl (by omega) (by decide) (by decide) ?_
          show qr_W (qe L xs vb) (d + 3) qx_e238 _ (4, [(0, .ref 86), (1, .long (ql x0)), (3, .int (qz x1)), (4, .int (qz x2))], [.int (qz 0)], _, 0, 0)
          refine qr_if_eq 28 7 rfl rfl rfl (by decide) (fun _ => ?_) (fun h => absurd h (by decide))
          refine qr_ldc2 (-1) 31 rfl (by decide) rfl ?_
          refine qr_retL rfl rfl (by decide) (by decide) ?_
          exact rfl
        · skip
          refine qr_iconst 14 rfl rfl ?_
          refine qr_goto 18 rfl rfl ?_
          refine qr_retZ rfl rfl (by omega) (by decide) (by decide) ?_
          show qr_W (qe L xs vb) (d + 1) qx_e192 _ (9, [(0, .int (qz (x1 / 10000)))], [.int (qz 1)], _, 0, 0)
          refine qr_retZ rfl rfl (by omega) (by decide) (by decide) ?_
          show qr_W (qe L xs vb) (d + 2) qx_e230 _ (12, [(0, .int (qz x1))], [.int (qz 1)], _, 0, 0)
          refine qr_if_eq 59 15 rfl rfl rfl (by decide) (fun h => absurd h (by decide)) (fun _ => ?_)
          refine qr_iload_n 16 rfl rfl rfl ?_
          refine qr_sipush 19 rfl (by decide) rfl ?_
          refine qr_irem 20 rfl (by omega) (by omega) rfl ?_
          refine qy_call 23 rfl rfl rfl ?_
          refine qr_start (d := d + 1) qv_e192 (Nat.le_of_ble_eq_true rfl) ?_
          show qr_W (qe L xs vb) (d + 1) qx_e192 _ (0, [(0, .int (qz (x1 % 10000)))], [], _, 0, 0)
          refine qr_iload_n 1 rfl rfl rfl ?_
          refine qr_i2l 2 rfl (by omega) rfl ?_
          refine qr_lconst 3 rfl rfl ?_
          refine qy_vl 0 rfl ?_
          refine qr_ldc2 2399 6 rfl (by decide) rfl ?_
          refine qy_call 9 rfl rfl rfl ?_
          refine qr_start (d := d + 0) qv_e176 (Nat.le_of_ble_eq_true rfl) ?_
          show qr_W (qe L xs vb) (d + 0) qx_e176 _ (0, [(0, .long (ql (x1 % 10000))), (2, .long (ql 0)), (4, .long (ql 2399))], [], _, 0, 0)
          refine qr_lload_n 1 rfl rfl rfl ?_
          refine qr_lload_n 2 rfl rfl rfl ?_
          refine qr_lc_lt 17 6 rfl rfl rfl rfl (by omega) (by decide) (fun h => False.elim (by omega)) (fun h17 => ?_)
          refine qr_lload_n 7 rfl rfl rfl ?_
          refine qr_lload 9 rfl rfl rfl ?_
          refine qr_lc_gt 17 13 rfl rfl rfl rfl (by omega) (by decide) (fun h18 => ?_) (fun h18 => ?_)
          · skip
            refine qr_iconst 18 rfl rfl ?_
            refine qr_retZ rfl rfl (by omega) (by decide) (by decide) ?_
            show qr_W (qe L xs vb) (d + 1) qx_e192 _ (9, [(0, .int (qz (x1 % 10000)))], [.int (qz 0)], _, 0, 0)
            refine qr_retZ rfl rfl (by omega) (by decide) (by decide) ?_
            show qr_W (qe L xs vb) (d + 2) qx_e230 _ (23, [(0, .int (qz x1))], [.int (qz 0)], _, 0, 0)
            as_aux_lemma =>
              refine qr_if_eq 59 26 rfl rfl rfl (by decide) (fun _ => ?_) (fun h => absurd h (by decide))
              refine qr_iconst 60 rfl rfl ?_
              refine qr_retZ rfl rfl (by omega) (by decide) (by decide) ?_
              show qr_W (qe L xs vb) (d + 3) qx_e238 _ (4, [(0, .ref 86), (1, .long (ql x0)), (3, .int (qz x1)), (4, .int (qz x2))], [.int (qz 0)], _, 0, 0)
              refine qr_if_eq 28 7 rfl rfl rfl (by decide) (fun _ => ?_) (fun h => absurd h (by decide))
              refine qr_ldc2 (-1) 31 rfl (by decide) rfl ?_
              refine qr_retL rfl rfl (by decide) (by decide) ?_
              exact rfl
          · skip
            refine qr_iconst 14 rfl rfl ?_
            refine qr_goto 18 rfl rfl ?_
            refine qr_retZ rfl rfl (by omega) (by decide) (by decide) ?_
            show qr_W (qe L xs vb) (d + 1) qx_e192 _ (9, [(0, .int (qz (x1 % 10000)))], [.int (qz 1)], _, 0, 0)
            as_aux_lemma =>
              refine qr_retZ rfl rfl (by omega) (by decide) (by decide) ?_
              show qr_W (qe L xs vb) (d + 2) qx_e230 _ (23, [(0, .int (qz x1))], [.int (qz 1)], _, 0, 0)
              refine qr_if_eq 59 26 rfl rfl rfl (by decide) (fun h => absurd h (by decide)) (fun _ => ?_)
              refine qr_iload_n 27 rfl rfl rfl ?_
              refine qr_sipush 30 rfl (by decide) rfl ?_
              refine qr_idiv 31 rfl (by omega) (by omega) rfl ?_
              refine qr_iload_n 32 rfl rfl rfl ?_
              refine qr_sipush 35 rfl (by decide) rfl ?_
              refine qr_irem 36 rfl (by omega) (by omega) rfl ?_
              refine qr_icmp_gt 59 39 rfl rfl rfl (by omega) (by omega) (fun h19 => ?_) (fun h19 => ?_)
              · skip
                refine qr_iconst 60 rfl rfl ?_
                refine qr_retZ rfl rfl (by omega) (by decide) (by decide) ?_
                show qr_W (qe L xs vb) (d + 3) qx_e238 _ (4, [(0, .ref 86), (1, .long (ql x0)), (3, .int (qz x1)), (4, .int (qz x2))], [.int (qz 0)], _, 0, 0)
                refine qr_if_eq 28 7 rfl rfl rfl (by decide) (fun _ => ?_) (fun h => absurd h (by decide))
                refine qr_ldc2 (-1) 31 rfl (by decide) rfl ?_
                refine qr_retL rfl rfl (by decide) (by decide) ?_
                exact rfl
              · skip
                refine qr_iload_n 40 rfl rfl rfl ?_
                refine qr_sipush 43 rfl (by decide) rfl ?_
                refine qr_irem 44 rfl (by omega) (by omega) rfl ?_
                refine qr_iload_n 45 rfl rfl rfl ?_
                refine qr_sipush 48 rfl (by decide) rfl ?_
                refine qr_idiv 49 rfl (by omega) (by omega) rfl ?_
                refine qr_isub 50 rfl rfl ?_
                refine qr_bipush 52 rfl (by decide) rfl ?_
                refine qr_icmp_ge 59 55 rfl rfl rfl (by omega) (by decide) (fun h20 => ?_) (fun h20 => ?_)
                · skip
                  refine qr_iconst 60 rfl rfl ?_
                  refine qr_retZ rfl rfl (by omega) (by decide) (by decide) ?_
                  show qr_W (qe L xs vb) (d + 3) qx_e238 _ (4, [(0, .ref 86), (1, .long (ql x0)), (3, .int (qz x1)), (4, .int (qz x2))], [.int (qz 0)], _, 0, 0)
                  refine qr_if_eq 28 7 rfl rfl rfl (by decide) (fun _ => ?_) (fun h => absurd h (by decide))
                  refine qr_ldc2 (-1) 31 rfl (by decide) rfl ?_
                  refine qr_retL rfl rfl (by decide) (by decide) ?_
                  exact rfl
                · skip
                  refine qr_iconst 56 rfl rfl ?_
                  refine qr_goto 60 rfl rfl ?_
                  refine qr_retZ rfl rfl (by omega) (by decide) (by decide) ?_
                  show qr_W (qe L xs vb) (d + 3) qx_e238 _ (4, [(0, .ref 86), (1, .long (ql x0)), (3, .int (qz x1)), (4, .int (qz x2))], [.int (qz 1)], _, 0, 0)
                  refine qr_if_eq 28 7 rfl rfl rfl (by decide) (fun h => absurd h (by decide)) (fun _ => ?_)
                  refine qr_iload 9 rfl rfl rfl ?_
                  refine qr_i2l 10 rfl (by omega) rfl ?_
                  refine qr_lconst 11 rfl rfl ?_
                  refine qy_vl 0 rfl ?_
                  refine qr_lconst 12 rfl rfl ?_
                  refine qy_vl 1 rfl ?_
                  refine qy_call 15 rfl rfl rfl ?_
                  refine qr_start (d := d + 2) qv_e176 (Nat.le_of_ble_eq_true rfl) ?_
                  show qr_W (qe L xs vb) (d + 2) qx_e176 _ (0, [(0, .long (ql x2)), (2, .long (ql 0)), (4, .long (ql 1))], [], _, 0, 0)
                  refine qr_lload_n 1 rfl rfl rfl ?_
                  refine qr_lload_n 2 rfl rfl rfl ?_
                  refine qr_lc_lt 17 6 rfl rfl rfl rfl (by omega) (by decide) (fun h21 => ?_) (fun h21 => ?_)
                  · skip
                    refine qr_iconst 18 rfl rfl ?_
                    refine qr_retZ rfl rfl (by omega) (by decide) (by decide) ?_
                    show qr_W (qe L xs vb) (d + 3) qx_e238 _ (15, [(0, .ref 86), (1, .long (ql x0)), (3, .int (qz x1)), (4, .int (qz x2))], [.int (qz 0)], _, 0, 0)
                    refine qr_if_eq 28 18 rfl rfl rfl (by decide) (fun _ => ?_) (fun h => absurd h (by decide))
                    refine qr_ldc2 (-1) 31 rfl (by decide) rfl ?_
                    refine qr_retL rfl rfl (by decide) (by decide) ?_
                    exact rfl
                  · skip
                    refine qr_lload_n 7 rfl rfl rfl ?_
                    refine qr_lload 9 rfl rfl rfl ?_
                    refine qr_lc_gt 17 13 rfl rfl rfl rfl (by omega) (by decide) (fun h22 => ?_) (fun h22 => ?_)
                    · skip
                      refine qr_iconst 18 rfl rfl ?_
                      refine qr_retZ rfl rfl (by omega) (by decide) (by decide) ?_
                      show qr_W (qe L xs vb) (d + 3) qx_e238 _ (15, [(0, .ref 86), (1, .long (ql x0)), (3, .int (qz x1)), (4, .int (qz x2))], [.int (qz 0)], _, 0, 0)
                      refine qr_if_eq 28 18 rfl rfl rfl (by decide) (fun _ => ?_) (fun h => absurd h (by decide))
                      refine qr_ldc2 (-1) 31 rfl (by decide) rfl ?_
                      refine qr_retL rfl rfl (by decide) (by decide) ?_
                      exact rfl
                    · skip
                      refine qr_iconst 14 rfl rfl ?_
                      refine qr_goto 18 rfl rfl ?_
                      refine qr_retZ rfl rfl (by omega) (by decide) (by decide) ?_
                      show qr_W (qe L xs vb) (d + 3) qx_e238 _ (15, [(0, .ref 86), (1, .long (ql x0)), (3, .int (qz x1)), (4, .int (qz x2))], [.int (qz 1)], _, 0, 0)
                      refine qr_if_eq 28 18 rfl rfl rfl (by decide) (fun h => absurd h (by decide)) (fun _ => ?_)
                      refine qr_aload_n 19 rfl rfl rfl ?_
                      refine qr_lload_n 20 rfl rfl rfl ?_
                      refine qr_bipush 22 rfl (by decide) rfl ?_
                      refine qy_call 25 rfl rfl rfl ?_
                      refine qr_start (d := d + 2) qv_e234 (Nat.le_of_ble_eq_true rfl) ?_
                      show qr_W (qe L xs vb) (d + 2) qx_e234 _ (0, [(0, .ref 86), (1, .long (ql x0)), (3, .int (qz 12))], [], _, 0, 0)
                      refine qr_aload_n 1 rfl rfl rfl ?_
                      refine qr_iconst 2 rfl rfl ?_
                      refine qr_put 5 rfl (by decide) rfl (Nat.le_of_ble_eq_true rfl) (Nat.le_of_ble_eq_true rfl) (Or.inl rfl) (qr_fitI rfl _) rfl ?_
                      refine qy_wS (qw_s (qo_s s) 86 43 0) rfl (fun σ23 e23 => ?_)
                      refine qr_iconst 6 rfl rfl ?_
                      refine qr_istore [(4, .int (qz 0)), (0, .ref 86), (1, .long (ql x0)), (3, .int (qz 12))] 8 rfl (by decide) rfl rfl ?_
                      refine qr_iload 10 rfl rfl rfl ?_
                      refine qr_aload_n 11 rfl rfl rfl ?_
                      refine qr_get 14 rfl rfl rfl (by decide) rfl ?_
                      refine qy_v 0 (by subst_vars; rfl) ?_
                      refine qr_icmp_ge 70 17 rfl rfl rfl (by decide) (by decide) (fun _ => ?_) (fun h => absurd h (by decide))
                      refine qr_aload_n 71 rfl rfl rfl ?_
                      refine qr_lload_n 72 rfl rfl rfl ?_
                      refine qy_call 75 rfl rfl rfl ?_
                      refine qr_start (d := d + 1) qv_e225 (Nat.le_of_ble_eq_true rfl) ?_
                      show qr_W (qe L xs vb) (d + 1) qx_e225 _ (0, [(0, .ref 86), (1, .long (ql x0))], [], _, 0, 0)
                      refine qr_lload_n 1 rfl rfl rfl ?_
                      refine qr_lconst 2 rfl rfl ?_
                      refine qy_vl 0 rfl ?_
                      refine qr_lc_lt 21 6 rfl rfl rfl rfl (by omega) (by decide) (fun h => False.elim (by omega)) (fun h24 => ?_)
                      refine qr_lload_n 7 rfl rfl rfl ?_
                      refine qr_aload_n 8 rfl rfl rfl ?_
                      refine qr_get 11 rfl rfl rfl (by decide) rfl ?_
                      refine qy_v 0 (by subst_vars; rfl) ?_
                      refine qr_lshr 12 rfl rfl ?_
                      refine qy_vl x0 (ql_shr0 (by omega)) ?_
                      refine qr_lconst 13 rfl rfl ?_
                      refine qy_vl 0 rfl ?_
                      as_aux_lemma =>
                        refine qr_lc_ne 21 17 rfl rfl rfl rfl (by omega) (by decide) (fun h25 => ?_) (fun h => False.elim (by omega))
                        refine qr_iconst 22 rfl rfl ?_
                        refine qr_retZ rfl rfl (by omega) (by decide) (by decide) ?_
                        show qr_W (qe L xs vb) (d + 2) qx_e234 _ (75, [(4, .int (qz 0)), (0, .ref 86), (1, .long (ql x0)), (3, .int (qz 12))], [.int (qz 0)], _, 0, 0)
                        refine qr_if_eq 96 78 rfl rfl rfl (by decide) (fun _ => ?_) (fun h => absurd h (by decide))
                        refine qr_iconst 97 rfl rfl ?_
                        refine qr_retZ rfl rfl (by omega) (by decide) (by decide) ?_
                        show qr_W (qe L xs vb) (d + 3) qx_e238 _ (25, [(0, .ref 86), (1, .long (ql x0)), (3, .int (qz x1)), (4, .int (qz x2))], [.int (qz 0)], _, 0, 0)
                        refine qr_if_ne 32 28 rfl rfl rfl (by decide) (fun h => absurd h (by decide)) (fun _ => ?_)
                        refine qr_ldc2 (-1) 31 rfl (by decide) rfl ?_
                        refine qr_retL rfl rfl (by decide) (by decide) ?_
                        exact rfl
    · skip
      subst h13
      refine qr_iconst 18 rfl rfl ?_
      refine qr_goto 22 rfl rfl ?_
      refine qr_retZ rfl rfl (by omega) (by decide) (by decide) ?_
      show qr_W (qe L xs vb) (d + 3) qx_e117 _ (8, [(0, .ref 16), (1, .long (ql 0)), (3, .int (qz x1)), (4, .int (qz x2))], [.int (qz 1)], _, 0, 0)
      refine qr_if_eq 26 11 rfl rfl rfl (by decide) (fun h => absurd h (by decide)) (fun _ => ?_)
      refine qr_iload_n 12 rfl rfl rfl ?_
      refine qy_call 15 rfl rfl rfl ?_
      refine qr_start (d := d + 2) qv_e100 (Nat.le_of_ble_eq_true rfl) ?_
      show qr_W (qe L xs vb) (d + 2) qx_e100 _ (0, [(0, .int (qz x1))], [], _, 0, 0)
      refine qr_iload_n 1 rfl rfl rfl ?_
      refine qy_call 4 rfl rfl rfl ?_
      refine qr_start (d := d + 1) qv_e70 (Nat.le_of_ble_eq_true rfl) ?_
      show qr_W (qe L xs vb) (d + 1) qx_e70 _ (0, [(0, .int (qz x1))], [], _, 0, 0)
      refine qr_iload_n 1 rfl rfl rfl ?_
      refine qr_if_lt 32 4 rfl rfl rfl (by omega) (fun h26 => ?_) (fun h26 => ?_)
      · skip
        refine qr_iconst 33 rfl rfl ?_
        refine qr_retZ rfl rfl (by omega) (by decide) (by decide) ?_
        show qr_W (qe L xs vb) (d + 2) qx_e100 _ (4, [(0, .int (qz x1))], [.int (qz 0)], _, 0, 0)
        refine qr_if_eq 27 7 rfl rfl rfl (by decide) (fun _ => ?_) (fun h => absurd h (by decide))
        refine qr_iconst 28 rfl rfl ?_
        refine qr_retZ rfl rfl (by omega) (by decide) (by decide) ?_
        show qr_W (qe L xs vb) (d + 3) qx_e117 _ (15, [(0, .ref 16), (1, .long (ql 0)), (3, .int (qz x1)), (4, .int (qz x2))], [.int (qz 0)], _, 0, 0)
        refine qr_if_eq 26 18 rfl rfl rfl (by decide) (fun _ => ?_) (fun h => absurd h (by decide))
        refine qr_ldc2 (-1) 29 rfl (by decide) rfl ?_
        refine qr_retL rfl rfl (by decide) (by decide) ?_
        refine ⟨⟨_, rfl⟩, ⟨_, _, _, _, rfl⟩, ?_⟩
        refine qr_start (d := d + 3) qv_e238 (Nat.le_of_ble_eq_true rfl) ?_
        show qr_W (qe L xs vb) (d + 3) qx_e238 _ (0, [(0, .ref 86), (1, .long (ql 0)), (3, .int (qz x1)), (4, .int (qz x2))], [], _, 0, 0)
        refine qr_iload_n 1 rfl rfl rfl ?_
        refine qy_call 4 rfl rfl rfl ?_
        refine qr_start (d := d + 2) qv_e230 (Nat.le_of_ble_eq_true rfl) ?_
        show qr_W (qe L xs vb) (d + 2) qx_e230 _ (0, [(0, .int (qz x1))], [], _, 0, 0)
        refine qr_iload_n 1 rfl rfl rfl ?_
        refine qr_if_lt 59 4 rfl rfl rfl (by omega) (fun h27 => ?_) (fun h => False.elim (by omega))
        refine qr_iconst 60 rfl rfl ?_
        refine qr_retZ rfl rfl (by omega) (by decide) (by decide) ?_
        show qr_W (qe L xs vb) (d + 3) qx_e238 _ (4, [(0, .ref 86), (1, .long (ql 0)), (3, .int (qz x1)), (4, .int (qz x2))], [.int (qz 0)], _, 0, 0)
        refine qr_if_eq 28 7 rfl rfl rfl (by decide) (fun _ => ?_) (fun h => absurd h (by decide))
        refine qr_ldc2 (-1) 31 rfl (by decide) rfl ?_
        refine qr_retL rfl rfl (by decide) (by decide) ?_
        exact rfl
      · skip
        refine qr_iload_n 5 rfl rfl rfl ?_
        refine qr_sipush 8 rfl (by decide) rfl ?_
        refine qr_idiv 9 rfl (by omega) (by omega) rfl ?_
        refine qr_iload_n 10 rfl rfl rfl ?_
        refine qr_sipush 13 rfl (by decide) rfl ?_
        refine qr_irem 14 rfl (by omega) (by omega) rfl ?_
        refine qr_icmp_gt 32 17 rfl rfl rfl (by omega) (by omega) (fun h28 => ?_) (fun h28 => ?_)
        · skip
          refine qr_iconst 33 rfl rfl ?_
          refine qr_retZ rfl rfl (by omega) (by decide) (by decide) ?_
          show qr_W (qe L xs vb) (d + 2) qx_e100 _ (4, [(0, .int (qz x1))], [.int (qz 0)], _, 0, 0)
          refine qr_if_eq 27 7 rfl rfl rfl (by decide) (fun _ => ?_) (fun h => absurd h (by decide))
          refine qr_iconst 28 rfl rfl ?_
          refine qr_retZ rfl rfl (by omega) (by decide) (by decide) ?_
          show qr_W (qe L xs vb) (d + 3) qx_e117 _ (15, [(0, .ref 16), (1, .long (ql 0)), (3, .int (qz x1)), (4, .int (qz x2))], [.int (qz 0)], _, 0, 0)
          refine qr_if_eq 26 18 rfl rfl rfl (by decide) (fun _ => ?_) (fun h => absurd h (by decide))
          refine qr_ldc2 (-1) 29 rfl (by decide) rfl ?_
          refine qr_retL rfl rfl (by decide) (by decide) ?_
          refine ⟨⟨_, rfl⟩, ⟨_, _, _, _, rfl⟩, ?_⟩
          refine qr_start (d := d + 3) qv_e238 (Nat.le_of_ble_eq_true rfl) ?_
          show qr_W (qe L xs vb) (d + 3) qx_e238 _ (0, [(0, .ref 86), (1, .long (ql 0)), (3, .int (qz x1)), (4, .int (qz x2))], [], _, 0, 0)
          refine qr_iload_n 1 rfl rfl rfl ?_
          refine qy_call 4 rfl rfl rfl ?_
          refine qr_start (d := d + 2) qv_e230 (Nat.le_of_ble_eq_true rfl) ?_
          show qr_W (qe L xs vb) (d + 2) qx_e230 _ (0, [(0, .int (qz x1))], [], _, 0, 0)
          refine qr_iload_n 1 rfl rfl rfl ?_
          refine qr_if_lt 59 4 rfl rfl rfl (by omega) (fun h => False.elim (by omega)) (fun h29 => ?_)
          refine qr_iload_n 5 rfl rfl rfl ?_
          refine qr_sipush 8 rfl (by decide) rfl ?_
          refine qr_idiv 9 rfl (by omega) (by omega) rfl ?_
          refine qy_call 12 rfl rfl rfl ?_
          refine qr_start (d := d + 1) qv_e192 (Nat.le_of_ble_eq_true rfl) ?_
          show qr_W (qe L xs vb) (d + 1) qx_e192 _ (0, [(0, .int (qz (x1 / 10000)))], [], _, 0, 0)
          refine qr_iload_n 1 rfl rfl rfl ?_
          refine qr_i2l 2 rfl (by omega) rfl ?_
          refine qr_lconst 3 rfl rfl ?_
          refine qy_vl 0 rfl ?_
          refine qr_ldc2 2399 6 rfl (by decide) rfl ?_
          refine qy_call 9 rfl rfl rfl ?_
          refine qr_start (d := d + 0) qv_e176 (Nat.le_of_ble_eq_true rfl) ?_
          show qr_W (qe L xs vb) (d + 0) qx_e176 _ (0, [(0, .long (ql (x1 / 10000))), (2, .long (ql 0)), (4, .long (ql 2399))], [], _, 0, 0)
          refine qr_lload_n 1 rfl rfl rfl ?_
          refine qr_lload_n 2 rfl rfl rfl ?_
          refine qr_lc_lt 17 6 rfl rfl rfl rfl (by omega) (by decide) (fun h => False.elim (by omega)) (fun h30 => ?_)
          refine qr_lload_n 7 rfl rfl rfl ?_
          refine qr_lload 9 rfl rfl rfl ?_
          refine qr_lc_gt 17 13 rfl rfl rfl rfl (by omega) (by decide) (fun h31 => ?_) (fun h31 => ?_)
          · skip
            refine qr_iconst 18 rfl rfl ?_
            refine qr_retZ rfl rfl (by omega) (by decide) (by decide) ?_
            show qr_W (qe L xs vb) (d + 1) qx_e192 _ (9, [(0, .int (qz (x1 / 10000)))], [.int (qz 0)], _, 0, 0)
            refine qr_retZ rfl rfl (by omega) (by decide) (by decide) ?_
            show qr_W (qe L xs vb) (d + 2) qx_e230 _ (12, [(0, .int (qz x1))], [.int (qz 0)], _, 0, 0)
            as_aux_lemma =>
              refine qr_if_eq 59 15 rfl rfl rfl (by decide) (fun _ => ?_) (fun h => absurd h (by decide))
              refine qr_iconst 60 rfl rfl ?_
              refine qr_retZ rfl rfl (by omega) (by decide) (by decide) ?_
              show qr_W (qe L xs vb) (d + 3) qx_e238 _ (4, [(0, .ref 86), (1, .long (ql 0)), (3, .int (qz x1)), (4, .int (qz x2))], [.int (qz 0)], _, 0, 0)
              refine qr_if_eq 28 7 rfl rfl rfl (by decide) (fun _ => ?_) (fun h => absurd h (by decide))
              refine qr_ldc2 (-1) 31 rfl (by decide) rfl ?_
              refine qr_retL rfl rfl (by decide) (by decide) ?_
              exact rfl
          · skip
            refine qr_iconst 14 rfl rfl ?_
            refine qr_goto 18 rfl rfl ?_
            refine qr_retZ rfl rfl (by omega) (by decide) (by decide) ?_
            show qr_W (qe L xs vb) (d + 1) qx_e192 _ (9, [(0, .int (qz (x1 / 10000)))], [.int (qz 1)], _, 0, 0)
            as_aux_lemma =>
              refine qr_retZ rfl rfl (by omega) (by decide) (by decide) ?_
              show qr_W (qe L xs vb) (d + 2) qx_e230 _ (12, [(0, .int (qz x1))], [.int (qz 1)], _, 0, 0)
              refine qr_if_eq 59 15 rfl rfl rfl (by decide) (fun h => absurd h (by decide)) (fun _ => ?_)
              refine qr_iload_n 16 rfl rfl rfl ?_
              refine qr_sipush 19 rfl (by decide) rfl ?_
              refine qr_irem 20 rfl (by omega) (by omega) rfl ?_
              refine qy_call 23 rfl rfl rfl ?_
              refine qr_start (d := d + 1) qv_e192 (Nat.le_of_ble_eq_true rfl) ?_
              show qr_W (qe L xs vb) (d + 1) qx_e192 _ (0, [(0, .int (qz (x1 % 10000)))], [], _, 0, 0)
              refine qr_iload_n 1 rfl rfl rfl ?_
              refine qr_i2l 2 rfl (by omega) rfl ?_
              refine qr_lconst 3 rfl rfl ?_
              refine qy_vl 0 rfl ?_
              refine qr_ldc2 2399 6 rfl (by decide) rfl ?_
              refine qy_call 9 rfl rfl rfl ?_
              refine qr_start (d := d + 0) qv_e176 (Nat.le_of_ble_eq_true rfl) ?_
              show qr_W (qe L xs vb) (d + 0) qx_e176 _ (0, [(0, .long (ql (x1 % 10000))), (2, .long (ql 0)), (4, .long (ql 2399))], [], _, 0, 0)
              refine qr_lload_n 1 rfl rfl rfl ?_
              refine qr_lload_n 2 rfl rfl rfl ?_
              refine qr_lc_lt 17 6 rfl rfl rfl rfl (by omega) (by decide) (fun h => False.elim (by omega)) (fun h32 => ?_)
              refine qr_lload_n 7 rfl rfl rfl ?_
              refine qr_lload 9 rfl rfl rfl ?_
              refine qr_lc_gt 17 13 rfl rfl rfl rfl (by omega) (by decide) (fun h => False.elim (by omega)) (fun h33 => ?_)
              refine qr_iconst 14 rfl rfl ?_
              refine qr_goto 18 rfl rfl ?_
              refine qr_retZ rfl rfl (by omega) (by decide) (by decide) ?_
              show qr_W (qe L xs vb) (d + 1) qx_e192 _ (9, [(0, .int (qz (x1 % 10000)))], [.int (qz 1)], _, 0, 0)
              refine qr_retZ rfl rfl (by omega) (by decide) (by decide) ?_
              show qr_W (qe L xs vb) (d + 2) qx_e230 _ (23, [(0, .int (qz x1))], [.int (qz 1)], _, 0, 0)
              refine qr_if_eq 59 26 rfl rfl rfl (by decide) (fun h => absurd h (by decide)) (fun _ => ?_)
              refine qr_iload_n 27 rfl rfl rfl ?_
              refine qr_sipush 30 rfl (by decide) rfl ?_
              refine qr_idiv 31 rfl (by omega) (by omega) rfl ?_
              refine qr_iload_n 32 rfl rfl rfl ?_
              refine qr_sipush 35 rfl (by decide) rfl ?_
              refine qr_irem 36 rfl (by omega) (by omega) rfl ?_
              refine qr_icmp_gt 59 39 rfl rfl rfl (by omega) (by omega) (fun h34 => ?_) (fun h => False.elim (by omega))
              refine qr_iconst 60 rfl rfl ?_
              refine qr_retZ rfl rfl (by omega) (by decide) (by decide) ?_
              show qr_W (qe L xs vb) (d + 3) qx_e238 _ (4, [(0, .ref 86), (1, .long (ql 0)), (3, .int (qz x1)), (4, .int (qz x2))], [.int (qz 0)], _, 0, 0)
              refine qr_if_eq 28 7 rfl rfl rfl (by decide) (fun _ => ?_) (fun h => absurd h (by decide))
              refine qr_ldc2 (-1) 31 rfl (by decide) rfl ?_
              refine qr_retL rfl rfl (by decide) (by decide) ?_
              exact rfl
        · skip
          refine qr_iload_n 18 rfl rfl rfl ?_
          refine qr_sipush 21 rfl (by decide) rfl ?_
          refine qr_irem 22 rfl (by omega) (by omega) rfl ?_
          refine qy_call 25 rfl rfl rfl ?_
          refine qr_start (d := d + 0) qv_e62 (Nat.le_of_ble_eq_true rfl) ?_
          show qr_W (qe L xs vb) (d + 0) qx_e62 _ (0, [(0, .int (qz (x1 % 10000)))], [], _, 0, 0)
          refine qr_iload_n 1 rfl rfl rfl ?_
          refine qr_if_lt 15 4 rfl rfl rfl (by omega) (fun h => False.elim (by omega)) (fun h35 => ?_)
          refine qr_iload_n 5 rfl rfl rfl ?_
          refine qr_sipush 8 rfl (by decide) rfl ?_
          refine qr_icmp_gt 15 11 rfl rfl rfl (by omega) (by decide) (fun h36 => ?_) (fun h36 => ?_)
          · skip
            refine qr_iconst 16 rfl rfl ?_
            refine qr_retZ rfl rfl (by omega) (by decide) (by decide) ?_
            show qr_W (qe L xs vb) (d + 1) qx_e70 _ (25, [(0, .int (qz x1))], [.int (qz 0)], _, 0, 0)
            refine qr_if_eq 32 28 rfl rfl rfl (by decide) (fun _ => ?_) (fun h => absurd h (by decide))
            refine qr_iconst 33 rfl rfl ?_
            refine qr_retZ rfl rfl (by omega) (by decide) (by decide) ?_
            show qr_W (qe L xs vb) (d + 2) qx_e100 _ (4, [(0, .int (qz x1))], [.int (qz 0)], _, 0, 0)
            refine qr_if_eq 27 7 rfl rfl rfl (by decide) (fun _ => ?_) (fun h => absurd h (by decide))
            refine qr_iconst 28 rfl rfl ?_
            refine qr_retZ rfl rfl (by omega) (by decide) (by decide) ?_
            show qr_W (qe L xs vb) (d + 3) qx_e117 _ (15, [(0, .ref 16), (1, .long (ql 0)), (3, .int (qz x1)), (4, .int (qz x2))], [.int (qz 0)], _, 0, 0)
            refine qr_if_eq 26 18 rfl rfl rfl (by decide) (fun _ => ?_) (fun h => absurd h (by decide))
            refine qr_ldc2 (-1) 29 rfl (by decide) rfl ?_
            refine qr_retL rfl rfl (by decide) (by decide) ?_
            refine ⟨⟨_, rfl⟩, ⟨_, _, _, _, rfl⟩, ?_⟩
            refine qr_start (d := d + 3) qv_e238 (Nat.le_of_ble_eq_true rfl) ?_
            show qr_W (qe L xs vb) (d + 3) qx_e238 _ (0, [(0, .ref 86), (1, .long (ql 0)), (3, .int (qz x1)), (4, .int (qz x2))], [], _, 0, 0)
            refine qr_iload_n 1 rfl rfl rfl ?_
            refine qy_call 4 rfl rfl rfl ?_
            refine qr_start (d := d + 2) qv_e230 (Nat.le_of_ble_eq_true rfl) ?_
            show qr_W (qe L xs vb) (d + 2) qx_e230 _ (0, [(0, .int (qz x1))], [], _, 0, 0)
            refine qr_iload_n 1 rfl rfl rfl ?_
            refine qr_if_lt 59 4 rfl rfl rfl (by omega) (fun h => False.elim (by omega)) (fun h37 => ?_)
            refine qr_iload_n 5 rfl rfl rfl ?_
            refine qr_sipush 8 rfl (by decide) rfl ?_
            refine qr_idiv 9 rfl (by omega) (by omega) rfl ?_
            refine qy_call 12 rfl rfl rfl ?_
            refine qr_start (d := d + 1) qv_e192 (Nat.le_of_ble_eq_true rfl) ?_
            show qr_W (qe L xs vb) (d + 1) qx_e192 _ (0, [(0, .int (qz (x1 / 10000)))], [], _, 0, 0)
            refine qr_iload_n 1 rfl rfl rfl ?_
            refine qr_i2l 2 rfl (by omega) rfl ?_
            as_aux_lemma =>
              refine qr_lconst 3 rfl rfl ?_
              refine qy_vl 0 rfl ?_
              refine qr_ldc2 2399 6 rfl (by decide) rfl ?_
              refine qy_call 9 rfl rfl rfl ?_
              refine qr_start (d := d + 0) qv_e176 (Nat.le_of_ble_eq_true rfl) ?_
              show qr_W (qe L xs vb) (d + 0) qx_e176 _ (0, [(0, .long (ql (x1 / 10000))), (2, .long (ql 0)), (4, .long (ql 2399))], [], _, 0, 0)
              refine qr_lload_n 1 rfl rfl rfl ?_
              refine qr_lload_n 2 rfl rfl rfl ?_
              refine qr_lc_lt 17 6 rfl rfl rfl rfl (by omega) (by decide) (fun h => False.elim (by omega)) (fun h38 => ?_)
              refine qr_lload_n 7 rfl rfl rfl ?_
              refine qr_lload 9 rfl rfl rfl ?_
              refine qr_lc_gt 17 13 rfl rfl rfl rfl (by omega) (by decide) (fun h39 => ?_) (fun h39 => ?_)
              · skip
                refine qr_iconst 18 rfl rfl ?_
                refine qr_retZ rfl rfl (by omega) (by decide) (by decide) ?_
                show qr_W (qe L xs vb) (d + 1) qx_e192 _ (9, [(0, .int (qz (x1 / 10000)))], [.int (qz 0)], _, 0, 0)
                refine qr_retZ rfl rfl (by omega) (by decide) (by decide) ?_
                show qr_W (qe L xs vb) (d + 2) qx_e230 _ (12, [(0, .int (qz x1))], [.int (qz 0)], _, 0, 0)
                refine qr_if_eq 59 15 rfl rfl rfl (by decide) (fun _ => ?_) (fun h => absurd h (by decide))
                refine qr_iconst 60 rfl rfl ?_
                refine qr_retZ rfl rfl (by omega) (by decide) (by decide) ?_
                show qr_W (qe L xs vb) (d + 3) qx_e238 _ (4, [(0, .ref 86), (1, .long (ql 0)), (3, .int (qz x1)), (4, .int (qz x2))], [.int (qz 0)], _, 0, 0)
                refine qr_if_eq 28 7 rfl rfl rfl (by decide) (fun _ => ?_) (fun h => absurd h (by decide))
                refine qr_ldc2 (-1) 31 rfl (by decide) rfl ?_
                refine qr_retL rfl rfl (by decide) (by decide) ?_
                exact rfl
              · skip
                refine qr_iconst 14 rfl rfl ?_
                refine qr_goto 18 rfl rfl ?_
                refine qr_retZ rfl rfl (by omega) (by decide) (by decide) ?_
                show qr_W (qe L xs vb) (d + 1) qx_e192 _ (9, [(0, .int (qz (x1 / 10000)))], [.int (qz 1)], _, 0, 0)
                refine qr_retZ rfl rfl (by omega) (by decide) (by decide) ?_
                show qr_W (qe L xs vb) (d + 2) qx_e230 _ (12, [(0, .int (qz x1))], [.int (qz 1)], _, 0, 0)
                refine qr_if_eq 59 15 rfl rfl rfl (by decide) (fun h => absurd h (by decide)) (fun _ => ?_)
                refine qr_iload_n 16 rfl rfl rfl ?_
                refine qr_sipush 19 rfl (by decide) rfl ?_
                refine qr_irem 20 rfl (by omega) (by omega) rfl ?_
                refine qy_call 23 rfl rfl rfl ?_
                refine qr_start (d := d + 1) qv_e192 (Nat.le_of_ble_eq_true rfl) ?_
                show qr_W (qe L xs vb) (d + 1) qx_e192 _ (0, [(0, .int (qz (x1 % 10000)))], [], _, 0, 0)
                refine qr_iload_n 1 rfl rfl rfl ?_
                refine qr_i2l 2 rfl (by omega) rfl ?_
                refine qr_lconst 3 rfl rfl ?_
                refine qy_vl 0 rfl ?_
                refine qr_ldc2 2399 6 rfl (by decide) rfl ?_
                refine qy_call 9 rfl rfl rfl ?_
                refine qr_start (d := d + 0) qv_e176 (Nat.le_of_ble_eq_true rfl) ?_
                show qr_W (qe L xs vb) (d + 0) qx_e176 _ (0, [(0, .long (ql (x1 % 10000))), (2, .long (ql 0)), (4, .long (ql 2399))], [], _, 0, 0)
                refine qr_lload_n 1 rfl rfl rfl ?_
                refine qr_lload_n 2 rfl rfl rfl ?_
                refine qr_lc_lt 17 6 rfl rfl rfl rfl (by omega) (by decide) (fun h => False.elim (by omega)) (fun h40 => ?_)
                refine qr_lload_n 7 rfl rfl rfl ?_
                refine qr_lload 9 rfl rfl rfl ?_
                refine qr_lc_gt 17 13 rfl rfl rfl rfl (by omega) (by decide) (fun h41 => ?_) (fun h => False.elim (by omega))
                refine qr_iconst 18 rfl rfl ?_
                refine qr_retZ rfl rfl (by omega) (by decide) (by decide) ?_
                show qr_W (qe L xs vb) (d + 1) qx_e192 _ (9, [(0, .int (qz (x1 % 10000)))], [.int (qz 0)], _, 0, 0)
                refine qr_retZ rfl rfl (by omega) (by decide) (by decide) ?_
                show qr_W (qe L xs vb) (d + 2) qx_e230 _ (23, [(0, .int (qz x1))], [.int (qz 0)], _, 0, 0)
                refine qr_if_eq 59 26 rfl rfl rfl (by decide) (fun _ => ?_) (fun h => absurd h (by decide))
                refine qr_iconst 60 rfl rfl ?_
                refine qr_retZ rfl rfl (by omega) (by decide) (by decide) ?_
                show qr_W (qe L xs vb) (d + 3) qx_e238 _ (4, [(0, .ref 86), (1, .long (ql 0)), (3, .int (qz x1)), (4, .int (qz x2))], [.int (qz 0)], _, 0, 0)
                refine qr_if_eq 28 7 rfl rfl rfl (by decide) (fun _ => ?_) (fun h => absurd h (by decide))
                refine qr_ldc2 (-1) 31 rfl (by decide) rfl ?_
                refine qr_retL rfl rfl (by decide) (by decide) ?_
                exact rfl
          · skip
            refine qr_iconst 12 rfl rfl ?_
            refine qr_goto 16 rfl rfl ?_
            refine qr_retZ rfl rfl (by omega) (by decide) (by decide) ?_
            show qr_W (qe L xs vb) (d + 1) qx_e70 _ (25, [(0, .int (qz x1))], [.int (qz 1)], _, 0, 0)
            refine qr_if_eq 32 28 rfl rfl rfl (by decide) (fun h => absurd h (by decide)) (fun _ => ?_)
            refine qr_iconst 29 rfl rfl ?_
            refine qr_goto 33 rfl rfl ?_
            refine qr_retZ rfl rfl (by omega) (by decide) (by decide) ?_
            show qr_W (qe L xs vb) (d + 2) qx_e100 _ (4, [(0, .int (qz x1))], [.int (qz 1)], _, 0, 0)
            refine qr_if_eq 27 7 rfl rfl rfl (by decide) (fun h => absurd h (by decide)) (fun _ => ?_)
            refine qr_iload_n 8 rfl rfl rfl ?_
            refine qr_sipush 11 rfl (by decide) rfl ?_
            refine qr_irem 12 rfl (by omega) (by omega) rfl ?_
            refine qr_iload_n 13 rfl rfl rfl ?_
            refine qr_sipush 16 rfl (by decide) rfl ?_
            refine qr_idiv 17 rfl (by omega) (by omega) rfl ?_
            refine qr_isub 18 rfl rfl ?_
            refine qr_bipush 20 rfl (by decide) rfl ?_
            refine qr_icmp_ge 27 23 rfl rfl rfl (by omega) (by decide) (fun h42 => ?_) (fun h42 => ?_)
            · skip
              refine qr_iconst 28 rfl rfl ?_
              refine qr_retZ rfl rfl (by omega) (by decide) (by decide) ?_
              show qr_W (qe L xs vb) (d + 3) qx_e117 _ (15, [(0, .ref 16), (1, .long (ql 0)), (3, .int (qz x1)), (4, .int (qz x2))], [.int (qz 0)], _, 0, 0)
              refine qr_if_eq 26 18 rfl rfl rfl (by decide) (fun _ => ?_) (fun h => absurd h (by decide))
              refine qr_ldc2 (-1) 29 rfl (by decide) rfl ?_
              as_aux_lemma =>
                refine qr_retL rfl rfl (by decide) (by decide) ?_
                refine ⟨⟨_, rfl⟩, ⟨_, _, _, _, rfl⟩, ?_⟩
                refine qr_start (d := d + 3) qv_e238 (Nat.le_of_ble_eq_true rfl) ?_
                show qr_W (qe L xs vb) (d + 3) qx_e238 _ (0, [(0, .ref 86), (1, .long (ql 0)), (3, .int (qz x1)), (4, .int (qz x2))], [], _, 0, 0)
                refine qr_iload_n 1 rfl rfl rfl ?_
                refine qy_call 4 rfl rfl rfl ?_
                refine qr_start (d := d + 2) qv_e230 (Nat.le_of_ble_eq_true rfl) ?_
                show qr_W (qe L xs vb) (d + 2) qx_e230 _ (0, [(0, .int (qz x1))], [], _, 0, 0)
                refine qr_iload_n 1 rfl rfl rfl ?_
                refine qr_if_lt 59 4 rfl rfl rfl (by omega) (fun h => False.elim (by omega)) (fun h43 => ?_)
                refine qr_iload_n 5 rfl rfl rfl ?_
                refine qr_sipush 8 rfl (by decide) rfl ?_
                refine qr_idiv 9 rfl (by omega) (by omega) rfl ?_
                refine qy_call 12 rfl rfl rfl ?_
                refine qr_start (d := d + 1) qv_e192 (Nat.le_of_ble_eq_true rfl) ?_
                show qr_W (qe L xs vb) (d + 1) qx_e192 _ (0, [(0, .int (qz (x1 / 10000)))], [], _, 0, 0)
                refine qr_iload_n 1 rfl rfl rfl ?_
                refine qr_i2l 2 rfl (by omega) rfl ?_
                refine qr_lconst 3 rfl rfl ?_
                refine qy_vl 0 rfl ?_
                refine qr_ldc2 2399 6 rfl (by decide) rfl ?_
                refine qy_call 9 rfl rfl rfl ?_
                refine qr_start (d := d + 0) qv_e176 (Nat.le_of_ble_eq_true rfl) ?_
                show qr_W (qe L xs vb) (d + 0) qx_e176 _ (0, [(0, .long (ql (x1 / 10000))), (2, .long (ql 0)), (4, .long (ql 2399))], [], _, 0, 0)
                refine qr_lload_n 1 rfl rfl rfl ?_
                refine qr_lload_n 2 rfl rfl rfl ?_
                refine qr_lc_lt 17 6 rfl rfl rfl rfl (by omega) (by decide) (fun h => False.elim (by omega)) (fun h44 => ?_)
                refine qr_lload_n 7 rfl rfl rfl ?_
                refine qr_lload 9 rfl rfl rfl ?_
                refine qr_lc_gt 17 13 rfl rfl rfl rfl (by omega) (by decide) (fun h => False.elim (by omega)) (fun h45 => ?_)
                refine qr_iconst 14 rfl rfl ?_
                refine qr_goto 18 rfl rfl ?_
                refine qr_retZ rfl rfl (by omega) (by decide) (by decide) ?_
                show qr_W (qe L xs vb) (d + 1) qx_e192 _ (9, [(0, .int (qz (x1 / 10000)))], [.int (qz 1)], _, 0, 0)
                refine qr_retZ rfl rfl (by omega) (by decide) (by decide) ?_
                show qr_W (qe L xs vb) (d + 2) qx_e230 _ (12, [(0, .int (qz x1))], [.int (qz 1)], _, 0, 0)
                refine qr_if_eq 59 15 rfl rfl rfl (by decide) (fun h => absurd h (by decide)) (fun _ => ?_)
                refine qr_iload_n 16 rfl rfl rfl ?_
                refine qr_sipush 19 rfl (by decide) rfl ?_
                refine qr_irem 20 rfl (by omega) (by omega) rfl ?_
                refine qy_call 23 rfl rfl rfl ?_
                refine qr_start (d := d + 1) qv_e192 (Nat.le_of_ble_eq_true rfl) ?_
                show qr_W (qe L xs vb) (d + 1) qx_e192 _ (0, [(0, .int (qz (x1 % 10000)))], [], _, 0, 0)
                refine qr_iload_n 1 rfl rfl rfl ?_
                refine qr_i2l 2 rfl (by omega) rfl ?_
                refine qr_lconst 3 rfl rfl ?_
                refine qy_vl 0 rfl ?_
                refine qr_ldc2 2399 6 rfl (by decide) rfl ?_
                refine qy_call 9 rfl rfl rfl ?_
                refine qr_start (d := d + 0) qv_e176 (Nat.le_of_ble_eq_true rfl) ?_
                show qr_W (qe L xs vb) (d + 0) qx_e176 _ (0, [(0, .long (ql (x1 % 10000))), (2, .long (ql 0)), (4, .long (ql 2399))], [], _, 0, 0)
                refine qr_lload_n 1 rfl rfl rfl ?_
                refine qr_lload_n 2 rfl rfl rfl ?_
                refine qr_lc_lt 17 6 rfl rfl rfl rfl (by omega) (by decide) (fun h => False.elim (by omega)) (fun h46 => ?_)
                refine qr_lload_n 7 rfl rfl rfl ?_
                refine qr_lload 9 rfl rfl rfl ?_
                refine qr_lc_gt 17 13 rfl rfl rfl rfl (by omega) (by decide) (fun h => False.elim (by omega)) (fun h47 => ?_)
                refine qr_iconst 14 rfl rfl ?_
                refine qr_goto 18 rfl rfl ?_
                refine qr_retZ rfl rfl (by omega) (by decide) (by decide) ?_
                show qr_W (qe L xs vb) (d + 1) qx_e192 _ (9, [(0, .int (qz (x1 % 10000)))], [.int (qz 1)], _, 0, 0)
                refine qr_retZ rfl rfl (by omega) (by decide) (by decide) ?_
                show qr_W (qe L xs vb) (d + 2) qx_e230 _ (23, [(0, .int (qz x1))], [.int (qz 1)], _, 0, 0)
                refine qr_if_eq 59 26 rfl rfl rfl (by decide) (fun h => absurd h (by decide)) (fun _ => ?_)
                refine qr_iload_n 27 rfl rfl rfl ?_
                refine qr_sipush 30 rfl (by decide) rfl ?_
                refine qr_idiv 31 rfl (by omega) (by omega) rfl ?_
                refine qr_iload_n 32 rfl rfl rfl ?_
                refine qr_sipush 35 rfl (by decide) rfl ?_
                refine qr_irem 36 rfl (by omega) (by omega) rfl ?_
                refine qr_icmp_gt 59 39 rfl rfl rfl (by omega) (by omega) (fun h => False.elim (by omega)) (fun h48 => ?_)
                refine qr_iload_n 40 rfl rfl rfl ?_
                refine qr_sipush 43 rfl (by decide) rfl ?_
                refine qr_irem 44 rfl (by omega) (by omega) rfl ?_
                refine qr_iload_n 45 rfl rfl rfl ?_
                refine qr_sipush 48 rfl (by decide) rfl ?_
                refine qr_idiv 49 rfl (by omega) (by omega) rfl ?_
                refine qr_isub 50 rfl rfl ?_
                refine qr_bipush 52 rfl (by decide) rfl ?_
                refine qr_icmp_ge 59 55 rfl rfl rfl (by omega) (by decide) (fun h49 => ?_) (fun h => False.elim (by omega))
                as_aux_lemma =>
                  refine qr_iconst 60 rfl rfl ?_
                  refine qr_retZ rfl rfl (by omega) (by decide) (by decide) ?_
                  show qr_W (qe L xs vb) (d + 3) qx_e238 _ (4, [(0, .ref 86), (1, .long (ql 0)), (3, .int (qz x1)), (4, .int (qz x2))], [.int (qz 0)], _, 0, 0)
                  refine qr_if_eq 28 7 rfl rfl rfl (by decide) (fun _ => ?_) (fun h => absurd h (by decide))
                  refine qr_ldc2 (-1) 31 rfl (by decide) rfl ?_
                  refine qr_retL rfl rfl (by decide) (by decide) ?_
                  exact rfl
            · skip
              refine qr_iconst 24 rfl rfl ?_
              refine qr_goto 28 rfl rfl ?_
              refine qr_retZ rfl rfl (by omega) (by decide) (by decide) ?_
              show qr_W (qe L xs vb) (d + 3) qx_e117 _ (15, [(0, .ref 16), (1, .long (ql 0)), (3, .int (qz x1)), (4, .int (qz x2))], [.int (qz 1)], _, 0, 0)
              refine qr_if_eq 26 18 rfl rfl rfl (by decide) (fun h => absurd h (by decide)) (fun _ => ?_)
              as_aux_lemma =>
                refine qr_iload 20 rfl rfl rfl ?_
                refine qy_call 23 rfl rfl rfl ?_
                refine qr_start (d := d + 2) qv_e41 (Nat.le_of_ble_eq_true rfl) ?_
                show qr_W (qe L xs vb) (d + 2) qx_e41 _ (0, [(0, .int (qz x2))], [], _, 0, 0)
                refine qr_iload_n 1 rfl rfl rfl ?_
                refine qr_if_eq 9 4 rfl rfl rfl (by omega) (fun h50 => ?_) (fun h50 => ?_)
                · skip
                  subst h50
                  refine qr_iconst 10 rfl rfl ?_
                  refine qr_goto 14 rfl rfl ?_
                  refine qr_retZ rfl rfl (by omega) (by decide) (by decide) ?_
                  show qr_W (qe L xs vb) (d + 3) qx_e117 _ (23, [(0, .ref 16), (1, .long (ql 0)), (3, .int (qz x1)), (4, .int (qz 0))], [.int (qz 1)], _, 0, 0)
                  refine qr_if_ne 30 26 rfl rfl rfl (by decide) (fun _ => ?_) (fun h => absurd h (by decide))
                  refine qr_lload_n 31 rfl rfl rfl ?_
                  refine qr_aload_n 32 rfl rfl rfl ?_
                  refine qr_get 35 rfl rfl rfl (by decide) rfl ?_
                  refine qr_get 38 rfl rfl rfl (by decide) rfl ?_
                  refine qy_vl 0 rfl ?_
                  refine qr_ldc2 (-1) 41 rfl (by decide) rfl ?_
                  refine qr_lxor 42 rfl rfl ?_
                  refine qy_vl (-1) rfl ?_
                  refine qr_land 43 rfl rfl ?_
                  refine qy_vl 0 rfl ?_
                  refine qr_lstore [(5, .long (ql 0)), (0, .ref 16), (1, .long (ql 0)), (3, .int (qz x1)), (4, .int (qz 0))] 45 rfl (by decide) rfl rfl ?_
                  refine qr_lload 47 rfl rfl rfl ?_
                  refine qr_bipush 49 rfl (by decide) rfl ?_
                  refine qy_call 52 rfl rfl rfl ?_
                  refine qr_start (d := d + 2) qv_e109 (Nat.le_of_ble_eq_true rfl) ?_
                  show qr_W (qe L xs vb) (d + 2) qx_e109 _ (0, [(0, .long (ql 0)), (2, .int (qz 12))], [], _, 0, 0)
                  refine qr_lload_n 1 rfl rfl rfl ?_
                  refine qr_lconst 2 rfl rfl ?_
                  refine qy_vl 0 rfl ?_
                  refine qr_lc_eq 18 6 rfl rfl rfl rfl (by decide) (by decide) (fun _ => ?_) (fun h => absurd h (by decide))
                  refine qr_iconst 19 rfl rfl ?_
                  refine qr_retZ rfl rfl (by omega) (by decide) (by decide) ?_
                  show qr_W (qe L xs vb) (d + 3) qx_e117 _ (52, [(5, .long (ql 0)), (0, .ref 16), (1, .long (ql 0)), (3, .int (qz x1)), (4, .int (qz 0))], [.int (qz 0)], _, 0, 0)
                  refine qr_if_ne 59 55 rfl rfl rfl (by decide) (fun h => absurd h (by decide)) (fun _ => ?_)
                  refine qr_ldc2 (-1) 58 rfl (by decide) rfl ?_
                  refine qr_retL rfl rfl (by decide) (by decide) ?_
                  refine ⟨⟨_, rfl⟩, ⟨_, _, _, _, rfl⟩, ?_⟩
                  refine qr_start (d := d + 3) qv_e238 (Nat.le_of_ble_eq_true rfl) ?_
                  show qr_W (qe L xs vb) (d + 3) qx_e238 _ (0, [(0, .ref 86), (1, .long (ql 0)), (3, .int (qz x1)), (4, .int (qz 0))], [], _, 0, 0)
                  refine qr_iload_n 1 rfl rfl rfl ?_
                  refine qy_call 4 rfl rfl rfl ?_
                  refine qr_start (d := d + 2) qv_e230 (Nat.le_of_ble_eq_true rfl) ?_
                  show qr_W (qe L xs vb) (d + 2) qx_e230 _ (0, [(0, .int (qz x1))], [], _, 0, 0)
                  refine qr_iload_n 1 rfl rfl rfl ?_
                  refine qr_if_lt 59 4 rfl rfl rfl (by omega) (fun h => False.elim (by omega)) (fun h51 => ?_)
                  refine qr_iload_n 5 rfl rfl rfl ?_
                  refine qr_sipush 8 rfl (by decide) rfl ?_
                  refine qr_idiv 9 rfl (by omega) (by omega) rfl ?_
                  refine qy_call 12 rfl rfl rfl ?_
                  refine qr_start (d := d + 1) qv_e192 (Nat.le_of_ble_eq_true rfl) ?_
                  show qr_W (qe L xs vb) (d + 1) qx_e192 _ (0, [(0, .int (qz (x1 / 10000)))], [], _, 0, 0)
                  refine qr_iload_n 1 rfl rfl rfl ?_
                  refine qr_i2l 2 rfl (by omega) rfl ?_
                  refine qr_lconst 3 rfl rfl ?_
                  refine qy_vl 0 rfl ?_
                  refine qr_ldc2 2399 6 rfl (by decide) rfl ?_
                  refine qy_call 9 rfl rfl rfl ?_
                  refine qr_start (d := d + 0) qv_e176 (Nat.le_of_ble_eq_true rfl) ?_
                  show qr_W (qe L xs vb) (d + 0) qx_e176 _ (0, [(0, .long (ql (x1 / 10000))), (2, .long (ql 0)), (4, .long (ql 2399))], [], _, 0, 0)
                  refine qr_lload_n 1 rfl rfl rfl ?_
                  refine qr_lload_n 2 rfl rfl rfl ?_
                  refine qr_lc_lt 17 6 rfl rfl rfl rfl (by omega) (by decide) (fun h => False.elim (by omega)) (fun h52 => ?_)
                  refine qr_lload_n 7 rfl rfl rfl ?_
                  refine qr_lload 9 rfl rfl rfl ?_
                  refine qr_lc_gt 17 13 rfl rfl rfl rfl (by omega) (by decide) (fun h => False.elim (by omega)) (fun h53 => ?_)
                  refine qr_iconst 14 rfl rfl ?_
                  refine qr_goto 18 rfl rfl ?_
                  refine qr_retZ rfl rfl (by omega) (by decide) (by decide) ?_
                  show qr_W (qe L xs vb) (d + 1) qx_e192 _ (9, [(0, .int (qz (x1 / 10000)))], [.int (qz 1)], _, 0, 0)
                  refine qr_retZ rfl rfl (by omega) (by decide) (by decide) ?_
                  show qr_W (qe L xs vb) (d + 2) qx_e230 _ (12, [(0, .int (qz x1))], [.int (qz 1)], _, 0, 0)
                  refine qr_if_eq 59 15 rfl rfl rfl (by decide) (fun h => absurd h (by decide)) (fun _ => ?_)
                  refine qr_iload_n 16 rfl rfl rfl ?_
                  refine qr_sipush 19 rfl (by decide) rfl ?_
                  refine qr_irem 20 rfl (by omega) (by omega) rfl ?_
                  refine qy_call 23 rfl rfl rfl ?_
                  refine qr_start (d := d + 1) qv_e192 (Nat.le_of_ble_eq_true rfl) ?_
                  show qr_W (qe L xs vb) (d + 1) qx_e192 _ (0, [(0, .int (qz (x1 % 10000)))], [], _, 0, 0)
                  refine qr_iload_n 1 rfl rfl rfl ?_
                  refine qr_i2l 2 rfl (by omega) rfl ?_
                  refine qr_lconst 3 rfl rfl ?_
                  refine qy_vl 0 rfl ?_
                  refine qr_ldc2 2399 6 rfl (by decide) rfl ?_
                  refine qy_call 9 rfl rfl rfl ?_
                  refine qr_start (d := d + 0) qv_e176 (Nat.le_of_ble_eq_true rfl) ?_
                  show qr_W (qe L xs vb) (d + 0) qx_e176 _ (0, [(0, .long (ql (x1 % 10000))), (2, .long (ql 0)), (4, .long (ql 2399))], [], _, 0, 0)
                  refine qr_lload_n 1 rfl rfl rfl ?_
                  as_aux_lemma =>
                    refine qr_lload_n 2 rfl rfl rfl ?_
                    refine qr_lc_lt 17 6 rfl rfl rfl rfl (by omega) (by decide) (fun h => False.elim (by omega)) (fun h54 => ?_)
                    refine qr_lload_n 7 rfl rfl rfl ?_
                    refine qr_lload 9 rfl rfl rfl ?_
                    refine qr_lc_gt 17 13 rfl rfl rfl rfl (by omega) (by decide) (fun h => False.elim (by omega)) (fun h55 => ?_)
                    refine qr_iconst 14 rfl rfl ?_
                    refine qr_goto 18 rfl rfl ?_
                    refine qr_retZ rfl rfl (by omega) (by decide) (by decide) ?_
                    show qr_W (qe L xs vb) (d + 1) qx_e192 _ (9, [(0, .int (qz (x1 % 10000)))], [.int (qz 1)], _, 0, 0)
                    refine qr_retZ rfl rfl (by omega) (by decide) (by decide) ?_
                    show qr_W (qe L xs vb) (d + 2) qx_e230 _ (23, [(0, .int (qz x1))], [.int (qz 1)], _, 0, 0)
                    refine qr_if_eq 59 26 rfl rfl rfl (by decide) (fun h => absurd h (by decide)) (fun _ => ?_)
                    refine qr_iload_n 27 rfl rfl rfl ?_
                    refine qr_sipush 30 rfl (by decide) rfl ?_
                    refine qr_idiv 31 rfl (by omega) (by omega) rfl ?_
                    refine qr_iload_n 32 rfl rfl rfl ?_
                    refine qr_sipush 35 rfl (by decide) rfl ?_
                    refine qr_irem 36 rfl (by omega) (by omega) rfl ?_
                    refine qr_icmp_gt 59 39 rfl rfl rfl (by omega) (by omega) (fun h => False.elim (by omega)) (fun h56 => ?_)
                    refine qr_iload_n 40 rfl rfl rfl ?_
                    refine qr_sipush 43 rfl (by decide) rfl ?_
                    refine qr_irem 44 rfl (by omega) (by omega) rfl ?_
                    refine qr_iload_n 45 rfl rfl rfl ?_
                    refine qr_sipush 48 rfl (by decide) rfl ?_
                    refine qr_idiv 49 rfl (by omega) (by omega) rfl ?_
                    refine qr_isub 50 rfl rfl ?_
                    refine qr_bipush 52 rfl (by decide) rfl ?_
                    refine qr_icmp_ge 59 55 rfl rfl rfl (by omega) (by decide) (fun h => False.elim (by omega)) (fun h57 => ?_)
                    refine qr_iconst 56 rfl rfl ?_
                    refine qr_goto 60 rfl rfl ?_
                    refine qr_retZ rfl rfl (by omega) (by decide) (by decide) ?_
                    show qr_W (qe L xs vb) (d + 3) qx_e238 _ (4, [(0, .ref 86), (1, .long (ql 0)), (3, .int (qz x1)), (4, .int (qz 0))], [.int (qz 1)], _, 0, 0)
                    refine qr_if_eq 28 7 rfl rfl rfl (by decide) (fun h => absurd h (by decide)) (fun _ => ?_)
                    refine qr_iload 9 rfl rfl rfl ?_
                    refine qr_i2l 10 rfl (by omega) rfl ?_
                    refine qy_vl 0 rfl ?_
                    refine qr_lconst 11 rfl rfl ?_
                    refine qy_vl 0 rfl ?_
                    refine qr_lconst 12 rfl rfl ?_
                    refine qy_vl 1 rfl ?_
                    refine qy_call 15 rfl rfl rfl ?_
                    refine qr_start (d := d + 2) qv_e176 (Nat.le_of_ble_eq_true rfl) ?_
                    show qr_W (qe L xs vb) (d + 2) qx_e176 _ (0, [(0, .long (ql 0)), (2, .long (ql 0)), (4, .long (ql 1))], [], _, 0, 0)
                    refine qr_lload_n 1 rfl rfl rfl ?_
                    refine qr_lload_n 2 rfl rfl rfl ?_
                    refine qr_lc_lt 17 6 rfl rfl rfl rfl (by decide) (by decide) (fun h => absurd h (by decide)) (fun _ => ?_)
                    refine qr_lload_n 7 rfl rfl rfl ?_
                    refine qr_lload 9 rfl rfl rfl ?_
                    refine qr_lc_gt 17 13 rfl rfl rfl rfl (by decide) (by decide) (fun h => absurd h (by decide)) (fun _ => ?_)
                    refine qr_iconst 14 rfl rfl ?_
                    refine qr_goto 18 rfl rfl ?_
                    refine qr_retZ rfl rfl (by omega) (by decide) (by decide) ?_
                    show qr_W (qe L xs vb) (d + 3) qx_e238 _ (15, [(0, .ref 86), (1, .long (ql 0)), (3, .int (qz x1)), (4, .int (qz 0))], [.int (qz 1)], _, 0, 0)
                    refine qr_if_eq 28 18 rfl rfl rfl (by decide) (fun h => absurd h (by decide)) (fun _ => ?_)
                    refine qr_aload_n 19 rfl rfl rfl ?_
                    refine qr_lload_n 20 rfl rfl rfl ?_
                    refine qr_bipush 22 rfl (by decide) rfl ?_
                    refine qy_call 25 rfl rfl rfl ?_
                    refine qr_start (d := d + 2) qv_e234 (Nat.le_of_ble_eq_true rfl) ?_
                    show qr_W (qe L xs vb) (d + 2) qx_e234 _ (0, [(0, .ref 86), (1, .long (ql 0)), (3, .int (qz 12))], [], _, 0, 0)
                    refine qr_aload_n 1 rfl rfl rfl ?_
                    refine qr_iconst 2 rfl rfl ?_
                    refine qr_put 5 rfl (by decide) rfl (Nat.le_of_ble_eq_true rfl) (Nat.le_of_ble_eq_true rfl) (Or.inl rfl) (qr_fitI rfl _) rfl ?_
                    refine qy_wS (qw_s (qo_s s) 86 43 0) rfl (fun σ58 e58 => ?_)
                    refine qr_iconst 6 rfl rfl ?_
                    refine qr_istore [(4, .int (qz 0)), (0, .ref 86), (1, .long (ql 0)), (3, .int (qz 12))] 8 rfl (by decide) rfl rfl ?_
                    refine qr_iload 10 rfl rfl rfl ?_
                    refine qr_aload_n 11 rfl rfl rfl ?_
                    refine qr_get 14 rfl rfl rfl (by decide) rfl ?_
                    refine qy_v 0 (by subst_vars; rfl) ?_
                    refine qr_icmp_ge 70 17 rfl rfl rfl (by decide) (by decide) (fun _ => ?_) (fun h => absurd h (by decide))
                    refine qr_aload_n 71 rfl rfl rfl ?_
                    refine qr_lload_n 72 rfl rfl rfl ?_
                    refine qy_call 75 rfl rfl rfl ?_
                    refine qr_start (d := d + 1) qv_e225 (Nat.le_of_ble_eq_true rfl) ?_
                    show qr_W (qe L xs vb) (d + 1) qx_e225 _ (0, [(0, .ref 86), (1, .long (ql 0))], [], _, 0, 0)
                    as_aux_lemma =>
                      refine qr_lload_n 1 rfl rfl rfl ?_
                      refine qr_lconst 2 rfl rfl ?_
                      refine qy_vl 0 rfl ?_
                      refine qr_lc_lt 21 6 rfl rfl rfl rfl (by decide) (by decide) (fun h => absurd h (by decide)) (fun _ => ?_)
                      refine qr_lload_n 7 rfl rfl rfl ?_
                      refine qr_aload_n 8 rfl rfl rfl ?_
                      refine qr_get 11 rfl rfl rfl (by decide) rfl ?_
                      refine qy_v 0 (by subst_vars; rfl) ?_
                      refine qr_lshr 12 rfl rfl ?_
                      refine qy_vl 0 rfl ?_
                      refine qr_lconst 13 rfl rfl ?_
                      refine qy_vl 0 rfl ?_
                      refine qr_lc_ne 21 17 rfl rfl rfl rfl (by decide) (by decide) (fun h => absurd h (by decide)) (fun _ => ?_)
                      refine qr_iconst 18 rfl rfl ?_
                      refine qr_goto 22 rfl rfl ?_
                      refine qr_retZ rfl rfl (by omega) (by decide) (by decide) ?_
                      show qr_W (qe L xs vb) (d + 2) qx_e234 _ (75, [(4, .int (qz 0)), (0, .ref 86), (1, .long (ql 0)), (3, .int (qz 12))], [.int (qz 1)], _, 0, 0)
                      refine qr_if_eq 96 78 rfl rfl rfl (by decide) (fun h => absurd h (by decide)) (fun _ => ?_)
                      refine qr_aload_n 79 rfl rfl rfl ?_
                      refine qr_get 82 rfl rfl rfl (by decide) rfl ?_
                      refine qy_v 0 (by subst_vars; rfl) ?_
                      refine qr_i2l 83 rfl (by omega) rfl ?_
                      refine qy_vl 0 rfl ?_
                      refine qr_lconst 84 rfl rfl ?_
                      refine qy_vl 1 rfl ?_
                      refine qr_iload_n 85 rfl rfl rfl ?_
                      refine qr_i2l 86 rfl (by omega) rfl ?_
                      refine qy_vl 12 rfl ?_
                      refine qy_call 89 rfl rfl rfl ?_
                      refine qr_start (d := d + 1) qv_e176 (Nat.le_of_ble_eq_true rfl) ?_
                      show qr_W (qe L xs vb) (d + 1) qx_e176 _ (0, [(0, .long (ql 0)), (2, .long (ql 1)), (4, .long (ql 12))], [], _, 0, 0)
                      refine qr_lload_n 1 rfl rfl rfl ?_
                      refine qr_lload_n 2 rfl rfl rfl ?_
                      refine qr_lc_lt 17 6 rfl rfl rfl rfl (by decide) (by decide) (fun _ => ?_) (fun h => absurd h (by decide))
                      refine qr_iconst 18 rfl rfl ?_
                      refine qr_retZ rfl rfl (by omega) (by decide) (by decide) ?_
                      show qr_W (qe L xs vb) (d + 2) qx_e234 _ (89, [(4, .int (qz 0)), (0, .ref 86), (1, .long (ql 0)), (3, .int (qz 12))], [.int (qz 0)], _, 0, 0)
                      refine qr_if_eq 96 92 rfl rfl rfl (by decide) (fun _ => ?_) (fun h => absurd h (by decide))
                      refine qr_iconst 97 rfl rfl ?_
                      refine qr_retZ rfl rfl (by omega) (by decide) (by decide) ?_
                      show qr_W (qe L xs vb) (d + 3) qx_e238 _ (25, [(0, .ref 86), (1, .long (ql 0)), (3, .int (qz x1)), (4, .int (qz 0))], [.int (qz 0)], _, 0, 0)
                      refine qr_if_ne 32 28 rfl rfl rfl (by decide) (fun h => absurd h (by decide)) (fun _ => ?_)
                      refine qr_ldc2 (-1) 31 rfl (by decide) rfl ?_
                      refine qr_retL rfl rfl (by decide) (by decide) ?_
                      exact rfl
                · skip
                  refine qr_iload_n 5 rfl rfl rfl ?_
                  refine qr_iconst 6 rfl rfl ?_
                  refine qr_icmp_ne 13 9 rfl rfl rfl (by omega) (by decide) (fun h59 => ?_) (fun h59 => ?_)
                  · skip
                    refine qr_iconst 14 rfl rfl ?_
                    refine qr_retZ rfl rfl (by omega) (by decide) (by decide) ?_
                    show qr_W (qe L xs vb) (d + 3) qx_e117 _ (23, [(0, .ref 16), (1, .long (ql 0)), (3, .int (qz x1)), (4, .int (qz x2))], [.int (qz 0)], _, 0, 0)
                    refine qr_if_ne 30 26 rfl rfl rfl (by decide) (fun h => absurd h (by decide)) (fun _ => ?_)
                    refine qr_ldc2 (-1) 29 rfl (by decide) rfl ?_
                    refine qr_retL rfl rfl (by decide) (by decide) ?_
                    refine ⟨⟨_, rfl⟩, ⟨_, _, _, _, rfl⟩, ?_⟩
                    refine qr_start (d := d + 3) qv_e238 (Nat.le_of_ble_eq_true rfl) ?_
                    show qr_W (qe L xs vb) (d + 3) qx_e238 _ (0, [(0, .ref 86), (1, .long (ql 0)), (3, .int (qz x1)), (4, .int (qz x2))], [], _, 0, 0)
                    refine qr_iload_n 1 rfl rfl rfl ?_
                    refine qy_call 4 rfl rfl rfl ?_
                    refine qr_start (d := d + 2) qv_e230 (Nat.le_of_ble_eq_true rfl) ?_
                    show qr_W (qe L xs vb) (d + 2) qx_e230 _ (0, [(0, .int (qz x1))], [], _, 0, 0)
                    refine qr_iload_n 1 rfl rfl rfl ?_
                    refine qr_if_lt 59 4 rfl rfl rfl (by omega) (fun h => False.elim (by omega)) (fun h60 => ?_)
                    refine qr_iload_n 5 rfl rfl rfl ?_
                    refine qr_sipush 8 rfl (by decide) rfl ?_
                    refine qr_idiv 9 rfl (by omega) (by omega) rfl ?_
                    refine qy_call 12 rfl rfl rfl ?_
                    refine qr_start (d := d + 1) qv_e192 (Nat.le_of_ble_eq_true rfl) ?_
                    show qr_W (qe L xs vb) (d + 1) qx_e192 _ (0, [(0, .int (qz (x1 / 10000)))], [], _, 0, 0)
                    refine qr_iload_n 1 rfl rfl rfl ?_
                    refine qr_i2l 2 rfl (by omega) rfl ?_
                    refine qr_lconst 3 rfl rfl ?_
                    refine qy_vl 0 rfl ?_
                    refine qr_ldc2 2399 6 rfl (by decide) rfl ?_
                    refine qy_call 9 rfl rfl rfl ?_
                    refine qr_start (d := d + 0) qv_e176 (Nat.le_of_ble_eq_true rfl) ?_
                    show qr_W (qe L xs vb) (d + 0) qx_e176 _ (0, [(0, .long (ql (x1 / 10000))), (2, .long (ql 0)), (4, .long (ql 2399))], [], _, 0, 0)
                    refine qr_lload_n 1 rfl rfl rfl ?_
                    refine qr_lload_n 2 rfl rfl rfl ?_
                    refine qr_lc_lt 17 6 rfl rfl rfl rfl (by omega) (by decide) (fun h => False.elim (by omega)) (fun h61 => ?_)
                    refine qr_lload_n 7 rfl rfl rfl ?_
                    refine qr_lload 9 rfl rfl rfl ?_
                    refine qr_lc_gt 17 13 rfl rfl rfl rfl (by omega) (by decide) (fun h => False.elim (by omega)) (fun h62 => ?_)
                    refine qr_iconst 14 rfl rfl ?_
                    refine qr_goto 18 rfl rfl ?_
                    refine qr_retZ rfl rfl (by omega) (by decide) (by decide) ?_
                    show qr_W (qe L xs vb) (d + 1) qx_e192 _ (9, [(0, .int (qz (x1 / 10000)))], [.int (qz 1)], _, 0, 0)
                    refine qr_retZ rfl rfl (by omega) (by decide) (by decide) ?_
                    show qr_W (qe L xs vb) (d + 2) qx_e230 _ (12, [(0, .int (qz x1))], [.int (qz 1)], _, 0, 0)
                    refine qr_if_eq 59 15 rfl rfl rfl (by decide) (fun h => absurd h (by decide)) (fun _ => ?_)
                    refine qr_iload_n 16 rfl rfl rfl ?_
                    refine qr_sipush 19 rfl (by decide) rfl ?_
                    refine qr_irem 20 rfl (by omega) (by omega) rfl ?_
                    refine qy_call 23 rfl rfl rfl ?_
                    refine qr_start (d := d + 1) qv_e192 (Nat.le_of_ble_eq_true rfl) ?_
                    show qr_W (qe L xs vb) (d + 1) qx_e192 _ (0, [(0, .int (qz (x1 % 10000)))], [], _, 0, 0)
                    refine qr_iload_n 1 rfl rfl rfl ?_
                    refine qr_i2l 2 rfl (by omega) rfl ?_
                    refine qr_lconst 3 rfl rfl ?_
                    refine qy_vl 0 rfl ?_
                    refine qr_ldc2 2399 6 rfl (by decide) rfl ?_
                    refine qy_call 9 rfl rfl rfl ?_
                    refine qr_start (d := d + 0) qv_e176 (Nat.le_of_ble_eq_true rfl) ?_
                    show qr_W (qe L xs vb) (d + 0) qx_e176 _ (0, [(0, .long (ql (x1 % 10000))), (2, .long (ql 0)), (4, .long (ql 2399))], [], _, 0, 0)
                    refine qr_lload_n 1 rfl rfl rfl ?_
                    refine qr_lload_n 2 rfl rfl rfl ?_
                    refine qr_lc_lt 17 6 rfl rfl rfl rfl (by omega) (by decide) (fun h => False.elim (by omega)) (fun h63 => ?_)
                    refine qr_lload_n 7 rfl rfl rfl ?_
                    refine qr_lload 9 rfl rfl rfl ?_
                    refine qr_lc_gt 17 13 rfl rfl rfl rfl (by omega) (by decide) (fun h => False.elim (by omega)) (fun h64 => ?_)
                    refine qr_iconst 14 rfl rfl ?_
                    refine qr_goto 18 rfl rfl ?_
                    refine qr_retZ rfl rfl (by omega) (by decide) (by decide) ?_
                    show qr_W (qe L xs vb) (d + 1) qx_e192 _ (9, [(0, .int (qz (x1 % 10000)))], [.int (qz 1)], _, 0, 0)
                    refine qr_retZ rfl rfl (by omega) (by decide) (by decide) ?_
                    show qr_W (qe L xs vb) (d + 2) qx_e230 _ (23, [(0, .int (qz x1))], [.int (qz 1)], _, 0, 0)
                    refine qr_if_eq 59 26 rfl rfl rfl (by decide) (fun h => absurd h (by decide)) (fun _ => ?_)
                    refine qr_iload_n 27 rfl rfl rfl ?_
                    refine qr_sipush 30 rfl (by decide) rfl ?_
                    refine qr_idiv 31 rfl (by omega) (by omega) rfl ?_
                    refine qr_iload_n 32 rfl rfl rfl ?_
                    refine qr_sipush 35 rfl (by decide) rfl ?_
                    as_aux_lemma =>
                      refine qr_irem 36 rfl (by omega) (by omega) rfl ?_
                      refine qr_icmp_gt 59 39 rfl rfl rfl (by omega) (by omega) (fun h => False.elim (by omega)) (fun h65 => ?_)
                      refine qr_iload_n 40 rfl rfl rfl ?_
                      refine qr_sipush 43 rfl (by decide) rfl ?_
                      refine qr_irem 44 rfl (by omega) (by omega) rfl ?_
                      refine qr_iload_n 45 rfl rfl rfl ?_
                      refine qr_sipush 48 rfl (by decide) rfl ?_
                      refine qr_idiv 49 rfl (by omega) (by omega) rfl ?_
                      refine qr_isub 50 rfl rfl ?_
                      refine qr_bipush 52 rfl (by decide) rfl ?_
                      refine qr_icmp_ge 59 55 rfl rfl rfl (by omega) (by decide) (fun h => False.elim (by omega)) (fun h66 => ?_)
                      refine qr_iconst 56 rfl rfl ?_
                      refine qr_goto 60 rfl rfl ?_
                      refine qr_retZ rfl rfl (by omega) (by decide) (by decide) ?_
                      show qr_W (qe L xs vb) (d + 3) qx_e238 _ (4, [(0, .ref 86), (1, .long (ql 0)), (3, .int (qz x1)), (4, .int (qz x2))], [.int (qz 1)], _, 0, 0)
                      refine qr_if_eq 28 7 rfl rfl rfl (by decide) (fun h => absurd h (by decide)) (fun _ => ?_)
                      refine qr_iload 9 rfl rfl rfl ?_
                      refine qr_i2l 10 rfl (by omega) rfl ?_
                      refine qr_lconst 11 rfl rfl ?_
                      refine qy_vl 0 rfl ?_
                      refine qr_lconst 12 rfl rfl ?_
                      refine qy_vl 1 rfl ?_
                      refine qy_call 15 rfl rfl rfl ?_
                      refine qr_start (d := d + 2) qv_e176 (Nat.le_of_ble_eq_true rfl) ?_
                      show qr_W (qe L xs vb) (d + 2) qx_e176 _ (0, [(0, .long (ql x2)), (2, .long (ql 0)), (4, .long (ql 1))], [], _, 0, 0)
                      refine qr_lload_n 1 rfl rfl rfl ?_
                      refine qr_lload_n 2 rfl rfl rfl ?_
                      refine qr_lc_lt 17 6 rfl rfl rfl rfl (by omega) (by decide) (fun h67 => ?_) (fun h67 => ?_)
                      · skip
                        refine qr_iconst 18 rfl rfl ?_
                        refine qr_retZ rfl rfl (by omega) (by decide) (by decide) ?_
                        show qr_W (qe L xs vb) (d + 3) qx_e238 _ (15, [(0, .ref 86), (1, .long (ql 0)), (3, .int (qz x1)), (4, .int (qz x2))], [.int (qz 0)], _, 0, 0)
                        refine qr_if_eq 28 18 rfl rfl rfl (by decide) (fun _ => ?_) (fun h => absurd h (by decide))
                        refine qr_ldc2 (-1) 31 rfl (by decide) rfl ?_
                        refine qr_retL rfl rfl (by decide) (by decide) ?_
                        exact rfl
                      · skip
                        refine qr_lload_n 7 rfl rfl rfl ?_
                        refine qr_lload 9 rfl rfl rfl ?_
                        refine qr_lc_gt 17 13 rfl rfl rfl rfl (by omega) (by decide) (fun h68 => ?_) (fun h => False.elim (by omega))
                        refine qr_iconst 18 rfl rfl ?_
                        refine qr_retZ rfl rfl (by omega) (by decide) (by decide) ?_
                        show qr_W (qe L xs vb) (d + 3) qx_e238 _ (15, [(0, .ref 86), (1, .long (ql 0)), (3, .int (qz x1)), (4, .int (qz x2))], [.int (qz 0)], _, 0, 0)
                        refine qr_if_eq 28 18 rfl rfl rfl (by decide) (fun _ => ?_) (fun h => absurd h (by decide))
                        refine qr_ldc2 (-1) 31 rfl (by decide) rfl ?_
                        refine qr_retL rfl rfl (by decide) (by decide) ?_
                        exact rfl
                  · skip
                    subst h59
                    refine qr_iconst 10 rfl rfl ?_
                    refine qr_goto 14 rfl rfl ?_
                    refine qr_retZ rfl rfl (by omega) (by decide) (by decide) ?_
                    show qr_W (qe L xs vb) (d + 3) qx_e117 _ (23, [(0, .ref 16), (1, .long (ql 0)), (3, .int (qz x1)), (4, .int (qz 1))], [.int (qz 1)], _, 0, 0)
                    refine qr_if_ne 30 26 rfl rfl rfl (by decide) (fun _ => ?_) (fun h => absurd h (by decide))
                    refine qr_lload_n 31 rfl rfl rfl ?_
                    refine qr_aload_n 32 rfl rfl rfl ?_
                    refine qr_get 35 rfl rfl rfl (by decide) rfl ?_
                    refine qr_get 38 rfl rfl rfl (by decide) rfl ?_
                    refine qy_vl 0 rfl ?_
                    refine qr_ldc2 (-1) 41 rfl (by decide) rfl ?_
                    refine qr_lxor 42 rfl rfl ?_
                    refine qy_vl (-1) rfl ?_
                    refine qr_land 43 rfl rfl ?_
                    refine qy_vl 0 rfl ?_
                    refine qr_lstore [(5, .long (ql 0)), (0, .ref 16), (1, .long (ql 0)), (3, .int (qz x1)), (4, .int (qz 1))] 45 rfl (by decide) rfl rfl ?_
                    refine qr_lload 47 rfl rfl rfl ?_
                    refine qr_bipush 49 rfl (by decide) rfl ?_
                    refine qy_call 52 rfl rfl rfl ?_
                    refine qr_start (d := d + 2) qv_e109 (Nat.le_of_ble_eq_true rfl) ?_
                    show qr_W (qe L xs vb) (d + 2) qx_e109 _ (0, [(0, .long (ql 0)), (2, .int (qz 12))], [], _, 0, 0)
                    refine qr_lload_n 1 rfl rfl rfl ?_
                    refine qr_lconst 2 rfl rfl ?_
                    refine qy_vl 0 rfl ?_
                    refine qr_lc_eq 18 6 rfl rfl rfl rfl (by decide) (by decide) (fun _ => ?_) (fun h => absurd h (by decide))
                    refine qr_iconst 19 rfl rfl ?_
                    refine qr_retZ rfl rfl (by omega) (by decide) (by decide) ?_
                    show qr_W (qe L xs vb) (d + 3) qx_e117 _ (52, [(5, .long (ql 0)), (0, .ref 16), (1, .long (ql 0)), (3, .int (qz x1)), (4, .int (qz 1))], [.int (qz 0)], _, 0, 0)
                    refine qr_if_ne 59 55 rfl rfl rfl (by decide) (fun h => absurd h (by decide)) (fun _ => ?_)
                    refine qr_ldc2 (-1) 58 rfl (by decide) rfl ?_
                    refine qr_retL rfl rfl (by decide) (by decide) ?_
                    refine ⟨⟨_, rfl⟩, ⟨_, _, _, _, rfl⟩, ?_⟩
                    refine qr_start (d := d + 3) qv_e238 (Nat.le_of_ble_eq_true rfl) ?_
                    show qr_W (qe L xs vb) (d + 3) qx_e238 _ (0, [(0, .ref 86), (1, .long (ql 0)), (3, .int (qz x1)), (4, .int (qz 1))], [], _, 0, 0)
                    refine qr_iload_n 1 rfl rfl rfl ?_
                    refine qy_call 4 rfl rfl rfl ?_
                    refine qr_start (d := d + 2) qv_e230 (Nat.le_of_ble_eq_true rfl) ?_
                    show qr_W (qe L xs vb) (d + 2) qx_e230 _ (0, [(0, .int (qz x1))], [], _, 0, 0)
                    refine qr_iload_n 1 rfl rfl rfl ?_
                    refine qr_if_lt 59 4 rfl rfl rfl (by omega) (fun h => False.elim (by omega)) (fun h69 => ?_)
                    refine qr_iload_n 5 rfl rfl rfl ?_
                    refine qr_sipush 8 rfl (by decide) rfl ?_
                    refine qr_idiv 9 rfl (by omega) (by omega) rfl ?_
                    refine qy_call 12 rfl rfl rfl ?_
                    refine qr_start (d := d + 1) qv_e192 (Nat.le_of_ble_eq_true rfl) ?_
                    show qr_W (qe L xs vb) (d + 1) qx_e192 _ (0, [(0, .int (qz (x1 / 10000)))], [], _, 0, 0)
                    refine qr_iload_n 1 rfl rfl rfl ?_
                    refine qr_i2l 2 rfl (by omega) rfl ?_
                    refine qr_lconst 3 rfl rfl ?_
                    refine qy_vl 0 rfl ?_
                    refine qr_ldc2 2399 6 rfl (by decide) rfl ?_
                    refine qy_call 9 rfl rfl rfl ?_
                    refine qr_start (d := d + 0) qv_e176 (Nat.le_of_ble_eq_true rfl) ?_
                    show qr_W (qe L xs vb) (d + 0) qx_e176 _ (0, [(0, .long (ql (x1 / 10000))), (2, .long (ql 0)), (4, .long (ql 2399))], [], _, 0, 0)
                    refine qr_lload_n 1 rfl rfl rfl ?_
                    refine qr_lload_n 2 rfl rfl rfl ?_
                    refine qr_lc_lt 17 6 rfl rfl rfl rfl (by omega) (by decide) (fun h => False.elim (by omega)) (fun h70 => ?_)
                    refine qr_lload_n 7 rfl rfl rfl ?_
                    refine qr_lload 9 rfl rfl rfl ?_
                    refine qr_lc_gt 17 13 rfl rfl rfl rfl (by omega) (by decide) (fun h => False.elim (by omega)) (fun h71 => ?_)
                    refine qr_iconst 14 rfl rfl ?_
                    refine qr_goto 18 rfl rfl ?_
                    refine qr_retZ rfl rfl (by omega) (by decide) (by decide) ?_
                    show qr_W (qe L xs vb) (d + 1) qx_e192 _ (9, [(0, .int (qz (x1 / 10000)))], [.int (qz 1)], _, 0, 0)
                    refine qr_retZ rfl rfl (by omega) (by decide) (by decide) ?_
                    show qr_W (qe L xs vb) (d + 2) qx_e230 _ (12, [(0, .int (qz x1))], [.int (qz 1)], _, 0, 0)
                    refine qr_if_eq 59 15 rfl rfl rfl (by decide) (fun h => absurd h (by decide)) (fun _ => ?_)
                    refine qr_iload_n 16 rfl rfl rfl ?_
                    refine qr_sipush 19 rfl (by decide) rfl ?_
                    refine qr_irem 20 rfl (by omega) (by omega) rfl ?_
                    refine qy_call 23 rfl rfl rfl ?_
                    refine qr_start (d := d + 1) qv_e192 (Nat.le_of_ble_eq_true rfl) ?_
                    show qr_W (qe L xs vb) (d + 1) qx_e192 _ (0, [(0, .int (qz (x1 % 10000)))], [], _, 0, 0)
                    refine qr_iload_n 1 rfl rfl rfl ?_
                    refine qr_i2l 2 rfl (by omega) rfl ?_
                    refine qr_lconst 3 rfl rfl ?_
                    refine qy_vl 0 rfl ?_
                    as_aux_lemma =>
                      refine qr_ldc2 2399 6 rfl (by decide) rfl ?_
                      refine qy_call 9 rfl rfl rfl ?_
                      refine qr_start (d := d + 0) qv_e176 (Nat.le_of_ble_eq_true rfl) ?_
                      show qr_W (qe L xs vb) (d + 0) qx_e176 _ (0, [(0, .long (ql (x1 % 10000))), (2, .long (ql 0)), (4, .long (ql 2399))], [], _, 0, 0)
                      refine qr_lload_n 1 rfl rfl rfl ?_
                      refine qr_lload_n 2 rfl rfl rfl ?_
                      refine qr_lc_lt 17 6 rfl rfl rfl rfl (by omega) (by decide) (fun h => False.elim (by omega)) (fun h72 => ?_)
                      refine qr_lload_n 7 rfl rfl rfl ?_
                      refine qr_lload 9 rfl rfl rfl ?_
                      refine qr_lc_gt 17 13 rfl rfl rfl rfl (by omega) (by decide) (fun h => False.elim (by omega)) (fun h73 => ?_)
                      refine qr_iconst 14 rfl rfl ?_
                      refine qr_goto 18 rfl rfl ?_
                      refine qr_retZ rfl rfl (by omega) (by decide) (by decide) ?_
                      show qr_W (qe L xs vb) (d + 1) qx_e192 _ (9, [(0, .int (qz (x1 % 10000)))], [.int (qz 1)], _, 0, 0)
                      refine qr_retZ rfl rfl (by omega) (by decide) (by decide) ?_
                      show qr_W (qe L xs vb) (d + 2) qx_e230 _ (23, [(0, .int (qz x1))], [.int (qz 1)], _, 0, 0)
                      refine qr_if_eq 59 26 rfl rfl rfl (by decide) (fun h => absurd h (by decide)) (fun _ => ?_)
                      refine qr_iload_n 27 rfl rfl rfl ?_
                      refine qr_sipush 30 rfl (by decide) rfl ?_
                      refine qr_idiv 31 rfl (by omega) (by omega) rfl ?_
                      refine qr_iload_n 32 rfl rfl rfl ?_
                      refine qr_sipush 35 rfl (by decide) rfl ?_
                      refine qr_irem 36 rfl (by omega) (by omega) rfl ?_
                      refine qr_icmp_gt 59 39 rfl rfl rfl (by omega) (by omega) (fun h => False.elim (by omega)) (fun h74 => ?_)
                      refine qr_iload_n 40 rfl rfl rfl ?_
                      refine qr_sipush 43 rfl (by decide) rfl ?_
                      refine qr_irem 44 rfl (by omega) (by omega) rfl ?_
                      refine qr_iload_n 45 rfl rfl rfl ?_
                      refine qr_sipush 48 rfl (by decide) rfl ?_
                      refine qr_idiv 49 rfl (by omega) (by omega) rfl ?_
                      refine qr_isub 50 rfl rfl ?_
                      refine qr_bipush 52 rfl (by decide) rfl ?_
                      refine qr_icmp_ge 59 55 rfl rfl rfl (by omega) (by decide) (fun h => False.elim (by omega)) (fun h75 => ?_)
                      refine qr_iconst 56 rfl rfl ?_
                      refine qr_goto 60 rfl rfl ?_
                      refine qr_retZ rfl rfl (by omega) (by decide) (by decide) ?_
                      show qr_W (qe L xs vb) (d + 3) qx_e238 _ (4, [(0, .ref 86), (1, .long (ql 0)), (3, .int (qz x1)), (4, .int (qz 1))], [.int (qz 1)], _, 0, 0)
                      refine qr_if_eq 28 7 rfl rfl rfl (by decide) (fun h => absurd h (by decide)) (fun _ => ?_)
                      refine qr_iload 9 rfl rfl rfl ?_
                      refine qr_i2l 10 rfl (by omega) rfl ?_
                      refine qy_vl 1 rfl ?_
                      refine qr_lconst 11 rfl rfl ?_
                      refine qy_vl 0 rfl ?_
                      refine qr_lconst 12 rfl rfl ?_
                      refine qy_vl 1 rfl ?_
                      refine qy_call 15 rfl rfl rfl ?_
                      refine qr_start (d := d + 2) qv_e176 (Nat.le_of_ble_eq_true rfl) ?_
                      show qr_W (qe L xs vb) (d + 2) qx_e176 _ (0, [(0, .long (ql 1)), (2, .long (ql 0)), (4, .long (ql 1))], [], _, 0, 0)
                      refine qr_lload_n 1 rfl rfl rfl ?_
                      refine qr_lload_n 2 rfl rfl rfl ?_
                      refine qr_lc_lt 17 6 rfl rfl rfl rfl (by decide) (by decide) (fun h => absurd h (by decide)) (fun _ => ?_)
                      refine qr_lload_n 7 rfl rfl rfl ?_
                      refine qr_lload 9 rfl rfl rfl ?_
                      refine qr_lc_gt 17 13 rfl rfl rfl rfl (by decide) (by decide) (fun h => absurd h (by decide)) (fun _ => ?_)
                      refine qr_iconst 14 rfl rfl ?_
                      refine qr_goto 18 rfl rfl ?_
                      refine qr_retZ rfl rfl (by omega) (by decide) (by decide) ?_
                      show qr_W (qe L xs vb) (d + 3) qx_e238 _ (15, [(0, .ref 86), (1, .long (ql 0)), (3, .int (qz x1)), (4, .int (qz 1))], [.int (qz 1)], _, 0, 0)
                      refine qr_if_eq 28 18 rfl rfl rfl (by decide) (fun h => absurd h (by decide)) (fun _ => ?_)
                      refine qr_aload_n 19 rfl rfl rfl ?_
                      refine qr_lload_n 20 rfl rfl rfl ?_
                      refine qr_bipush 22 rfl (by decide) rfl ?_
                      refine qy_call 25 rfl rfl rfl ?_
                      refine qr_start (d := d + 2) qv_e234 (Nat.le_of_ble_eq_true rfl) ?_
                      show qr_W (qe L xs vb) (d + 2) qx_e234 _ (0, [(0, .ref 86), (1, .long (ql 0)), (3, .int (qz 12))], [], _, 0, 0)
                      refine qr_aload_n 1 rfl rfl rfl ?_
                      refine qr_iconst 2 rfl rfl ?_
                      refine qr_put 5 rfl (by decide) rfl (Nat.le_of_ble_eq_true rfl) (Nat.le_of_ble_eq_true rfl) (Or.inl rfl) (qr_fitI rfl _) rfl ?_
                      refine qy_wS (qw_s (qo_s s) 86 43 0) rfl (fun σ76 e76 => ?_)
                      refine qr_iconst 6 rfl rfl ?_
                      refine qr_istore [(4, .int (qz 0)), (0, .ref 86), (1, .long (ql 0)), (3, .int (qz 12))] 8 rfl (by decide) rfl rfl ?_
                      refine qr_iload 10 rfl rfl rfl ?_
                      refine qr_aload_n 11 rfl rfl rfl ?_
                      refine qr_get 14 rfl rfl rfl (by decide) rfl ?_
                      refine qy_v 0 (by subst_vars; rfl) ?_
                      refine qr_icmp_ge 70 17 rfl rfl rfl (by decide) (by decide) (fun _ => ?_) (fun h => absurd h (by decide))
                      as_aux_lemma =>
                        refine qr_aload_n 71 rfl rfl rfl ?_
                        refine qr_lload_n 72 rfl rfl rfl ?_
                        refine qy_call 75 rfl rfl rfl ?_
                        refine qr_start (d := d + 1) qv_e225 (Nat.le_of_ble_eq_true rfl) ?_
                        show qr_W (qe L xs vb) (d + 1) qx_e225 _ (0, [(0, .ref 86), (1, .long (ql 0))], [], _, 0, 0)
                        refine qr_lload_n 1 rfl rfl rfl ?_
                        refine qr_lconst 2 rfl rfl ?_
                        refine qy_vl 0 rfl ?_
                        refine qr_lc_lt 21 6 rfl rfl rfl rfl (by decide) (by decide) (fun h => absurd h (by decide)) (fun _ => ?_)
                        refine qr_lload_n 7 rfl rfl rfl ?_
                        refine qr_aload_n 8 rfl rfl rfl ?_
                        refine qr_get 11 rfl rfl rfl (by decide) rfl ?_
                        refine qy_v 0 (by subst_vars; rfl) ?_
                        refine qr_lshr 12 rfl rfl ?_
                        refine qy_vl 0 rfl ?_
                        refine qr_lconst 13 rfl rfl ?_
                        refine qy_vl 0 rfl ?_
                        refine qr_lc_ne 21 17 rfl rfl rfl rfl (by decide) (by decide) (fun h => absurd h (by decide)) (fun _ => ?_)
                        refine qr_iconst 18 rfl rfl ?_
                        refine qr_goto 22 rfl rfl ?_
                        refine qr_retZ rfl rfl (by omega) (by decide) (by decide) ?_
                        show qr_W (qe L xs vb) (d + 2) qx_e234 _ (75, [(4, .int (qz 0)), (0, .ref 86), (1, .long (ql 0)), (3, .int (qz 12))], [.int (qz 1)], _, 0, 0)
                        refine qr_if_eq 96 78 rfl rfl rfl (by decide) (fun h => absurd h (by decide)) (fun _ => ?_)
                        refine qr_aload_n 79 rfl rfl rfl ?_
                        refine qr_get 82 rfl rfl rfl (by decide) rfl ?_
                        refine qy_v 0 (by subst_vars; rfl) ?_
                        refine qr_i2l 83 rfl (by omega) rfl ?_
                        refine qy_vl 0 rfl ?_
                        refine qr_lconst 84 rfl rfl ?_
                        refine qy_vl 1 rfl ?_
                        refine qr_iload_n 85 rfl rfl rfl ?_
                        refine qr_i2l 86 rfl (by omega) rfl ?_
                        refine qy_vl 12 rfl ?_
                        refine qy_call 89 rfl rfl rfl ?_
                        refine qr_start (d := d + 1) qv_e176 (Nat.le_of_ble_eq_true rfl) ?_
                        show qr_W (qe L xs vb) (d + 1) qx_e176 _ (0, [(0, .long (ql 0)), (2, .long (ql 1)), (4, .long (ql 12))], [], _, 0, 0)
                        refine qr_lload_n 1 rfl rfl rfl ?_
                        refine qr_lload_n 2 rfl rfl rfl ?_
                        refine qr_lc_lt 17 6 rfl rfl rfl rfl (by decide) (by decide) (fun _ => ?_) (fun h => absurd h (by decide))
                        refine qr_iconst 18 rfl rfl ?_
                        refine qr_retZ rfl rfl (by omega) (by decide) (by decide) ?_
                        show qr_W (qe L xs vb) (d + 2) qx_e234 _ (89, [(4, .int (qz 0)), (0, .ref 86), (1, .long (ql 0)), (3, .int (qz 12))], [.int (qz 0)], _, 0, 0)
                        refine qr_if_eq 96 92 rfl rfl rfl (by decide) (fun _ => ?_) (fun h => absurd h (by decide))
                        refine qr_iconst 97 rfl rfl ?_
                        refine qr_retZ rfl rfl (by omega) (by decide) (by decide) ?_
                        show qr_W (qe L xs vb) (d + 3) qx_e238 _ (25, [(0, .ref 86), (1, .long (ql 0)), (3, .int (qz x1)), (4, .int (qz 1))], [.int (qz 0)], _, 0, 0)
                        refine qr_if_ne 32 28 rfl rfl rfl (by decide) (fun h => absurd h (by decide)) (fun _ => ?_)
                        refine qr_ldc2 (-1) 31 rfl (by decide) rfl ?_
                        refine qr_retL rfl rfl (by decide) (by decide) ?_
                        exact rfl

set_option maxHeartbeats 8000000 in
set_option maxRecDepth 20000 in
/-- buy on the fresh objects: both answer alike -/
theorem sx_buy {L : Nat} {xs : Nat → Int} {vb : Bool} {d : Nat} {s g : Nat → Nat → Int} {x0 : Int} {x1 : Int} {x2 : Int} (hok : qo_ok s g) (rx0 : -9223372036854775808 ≤ x0 ∧ x0 ≤ 9223372036854775807) (rx1 : -2147483648 ≤ x1 ∧ x1 ≤ 2147483647) (rx2 : -2147483648 ≤ x2 ∧ x2 ≤ 2147483647) : qm_T (qe L xs vb) (d + 4) 120 [.ref 16, .long (ql x0), .int (qz x1), .int (qz x2)] (qw (qo_s s) (qo_r g) qo_k 82) (fun r w => (∃ y : Int, r = some (.long (ql y))) ∧ (∃ σ α κ ρ, w = qw σ α κ ρ) ∧ qm_T (qe L xs vb) (d + 4) 239 [.ref 86, .long (ql x0), .int (qz x1), .int (qz x2)] w (fun r' _ => r' = r)) := by
  refine qr_start (d := d + 3) qv_e120 (Nat.le_of_ble_eq_true rfl) ?_
  show qr_W (qe L xs vb) (d + 3) qx_e120 _ (0, [(0, .ref 16), (1, .long (ql x0)), (3, .int (qz x1)), (4, .int (qz x2))], [], _, 0, 0)
  refine qr_aload_n 1 rfl rfl rfl ?_
  refine qr_get 4 rfl rfl rfl (by decide) rfl ?_
  refine qr_lload_n 5 rfl rfl rfl ?_
  refine qy_call 8 rfl rfl rfl ?_
  refine qr_start (d := d + 2) qv_e88 (Nat.le_of_ble_eq_true rfl) ?_
  show qr_W (qe L xs vb) (d + 2) qx_e88 _ (0, [(0, .ref 17), (1, .long (ql x0))], [], _, 0, 0)
  refine qr_lload_n 1 rfl rfl rfl ?_
  refine qr_lconst 2 rfl rfl ?_
  refine qy_vl 0 rfl ?_
  refine qr_lc_lt 21 6 rfl rfl rfl rfl (by omega) (by decide) (fun h1 => ?_) (fun h1 => ?_)
  · skip
    refine qr_iconst 22 rfl rfl ?_
    refine qr_retZ rfl rfl (by omega) (by decide) (by decide) ?_
    show qr_W (qe L xs vb) (d + 3) qx_e120 _ (8, [(0, .ref 16), (1, .long (ql x0)), (3, .int (qz x1)), (4, .int (qz x2))], [.int (qz 0)], _, 0, 0)
    refine qr_if_eq 26 11 rfl rfl rfl (by decide) (fun _ => ?_) (fun h => absurd h (by decide))
    refine qr_ldc2 (-1) 29 rfl (by decide) rfl ?_
    refine qr_retL rfl rfl (by decide) (by decide) ?_
    refine ⟨⟨_, rfl⟩, ⟨_, _, _, _, rfl⟩, ?_⟩
    refine qr_start (d := d + 3) qv_e239 (Nat.le_of_ble_eq_true rfl) ?_
    show qr_W (qe L xs vb) (d + 3) qx_e239 _ (0, [(0, .ref 86), (1, .long (ql x0)), (3, .int (qz x1)), (4, .int (qz x2))], [], _, 0, 0)
    refine qr_iload_n 1 rfl rfl rfl ?_
    refine qy_call 4 rfl rfl rfl ?_
    refine qr_start (d := d + 2) qv_e230 (Nat.le_of_ble_eq_true rfl) ?_
    show qr_W (qe L xs vb) (d + 2) qx_e230 _ (0, [(0, .int (qz x1))], [], _, 0, 0)
    refine qr_iload_n 1 rfl rfl rfl ?_
    refine qr_if_lt 59 4 rfl rfl rfl (by omega) (fun h2 => ?_) (fun h2 => ?_)
    · skip
      refine qr_iconst 60 rfl rfl ?_
      refine qr_retZ rfl rfl (by omega) (by decide) (by decide) ?_
      show qr_W (qe L xs vb) (d + 3) qx_e239 _ (4, [(0, .ref 86), (1, .long (ql x0)), (3, .int (qz x1)), (4, .int (qz x2))], [.int (qz 0)], _, 0, 0)
      refine qr_if_eq 28 7 rfl rfl rfl (by decide) (fun _ => ?_) (fun h => absurd h (by decide))
      refine qr_ldc2 (-1) 31 rfl (by decide) rfl ?_
      refine qr_retL rfl rfl (by decide) (by decide) ?_
      exact rfl
    · skip
      refine qr_iload_n 5 rfl rfl rfl ?_
      refine qr_sipush 8 rfl (by decide) rfl ?_
      refine qr_idiv 9 rfl (by omega) (by omega) rfl ?_
      refine qy_call 12 rfl rfl rfl ?_
      refine qr_start (d := d + 1) qv_e192 (Nat.le_of_ble_eq_true rfl) ?_
      show qr_W (qe L xs vb) (d + 1) qx_e192 _ (0, [(0, .int (qz (x1 / 10000)))], [], _, 0, 0)
      refine qr_iload_n 1 rfl rfl rfl ?_
      refine qr_i2l 2 rfl (by omega) rfl ?_
      refine qr_lconst 3 rfl rfl ?_
      refine qy_vl 0 rfl ?_
      refine qr_ldc2 2399 6 rfl (by decide) rfl ?_
      refine qy_call 9 rfl rfl rfl ?_
      refine qr_start (d := d + 0) qv_e176 (Nat.le_of_ble_eq_true rfl) ?_
      show qr_W (qe L xs vb) (d + 0) qx_e176 _ (0, [(0, .long (ql (x1 / 10000))), (2, .long (ql 0)), (4, .long (ql 2399))], [], _, 0, 0)
      refine qr_lload_n 1 rfl rfl rfl ?_
      refine qr_lload_n 2 rfl rfl rfl ?_
      refine qr_lc_lt 17 6 rfl rfl rfl rfl (by omega) (by decide) (fun h => False.elim (by omega)) (fun h3 => ?_)
      refine qr_lload_n 7 rfl rfl rfl ?_
      refine qr_lload 9 rfl rfl rfl ?_
      refine qr_lc_gt 17 13 rfl rfl rfl rfl (by omega) (by decide) (fun h4 => ?_) (fun h4 => ?_)
      · skip
        refine qr_iconst 18 rfl rfl ?_
        refine qr_retZ rfl rfl (by omega) (by decide) (by decide) ?_
        show qr_W (qe L xs vb) (d + 1) qx_e192 _ (9, [(0, .int (qz (x1 / 10000)))], [.int (qz 0)], _, 0, 0)
        refine qr_retZ rfl rfl (by omega) (by decide) (by decide) ?_
        show qr_W (qe L xs vb) (d + 2) qx_e230 _ (12, [(0, .int (qz x1))], [.int (qz 0)], _, 0, 0)
        refine qr_if_eq 59 15 rfl rfl rfl (by decide) (fun _ => ?_) (fun h => absurd h (by decide))
        refine qr_iconst 60 rfl rfl ?_
        refine qr_retZ rfl rfl (by omega) (by decide) (by decide) ?_
        show qr_W (qe L xs vb) (d + 3) qx_e239 _ (4, [(0, .ref 86), (1, .long (ql x0)), (3, .int (qz x1)), (4, .int (qz x2))], [.int (qz 0)], _, 0, 0)
        refine qr_if_eq 28 7 rfl rfl rfl (by decide) (fun _ => ?_) (fun h => absurd h (by decide))
        refine qr_ldc2 (-1) 31 rfl (by decide) rfl ?_
        refine qr_retL rfl rfl (by decide) (by decide) ?_
        exact rfl
      · skip
        refine qr_iconst 14 rfl rfl ?_
        refine qr_goto 18 rfl rfl ?_
        refine qr_retZ rfl rfl (by omega) (by decide) (by decide) ?_
        show qr_W (qe L xs vb) (d + 1) qx_e192 _ (9, [(0, .int (qz (x1 / 10000)))], [.int (qz 1)], _, 0, 0)
        refine qr_retZ rfl rfl (by omega) (by decide) (by decide) ?_
        show qr_W (qe L xs vb) (d + 2) qx_e230 _ (12, [(0, .int (qz x1))], [.int (qz 1)], _, 0, 0)
        refine qr_if_eq 59 15 rfl rfl rfl (by decide) (fun h => absurd h (by decide)) (fun _ => ?_)
        refine qr_iload_n 16 rfl rfl rfl ?_
        refine qr_sipush 19 rfl (by decide) rfl ?_
        refine qr_irem 20 rfl (by omega) (by omega) rfl ?_
        refine qy_call 23 rfl rfl rfl ?_
        refine qr_start (d := d + 1) qv_e192 (Nat.le_of_ble_eq_true rfl) ?_
        show qr_W (qe L xs vb) (d + 1) qx_e192 _ (0, [(0, .int (qz (x1 % 10000)))], [], _, 0, 0)
        refine qr_iload_n 1 rfl rfl rfl ?_
        refine qr_i2l 2 rfl (by omega) rfl ?_
        refine qr_lconst 3 rfl rfl ?_
        refine qy_vl 0 rfl ?_
        refine qr_ldc2 2399 6 rfl (by decide) rfl ?_
        refine qy_call 9 rfl rfl rfl ?_
        refine qr_start (d := d + 0) qv_e176 (Nat.le_of_ble_eq_true rfl) ?_
        show qr_W (qe L xs vb) (d + 0) qx_e176 _ (0, [(0, .long (ql (x1 % 10000))), (2, .long (ql 0)), (4, .long (ql 2399))], [], _, 0, 0)
        refine qr_lload_n 1 rfl rfl rfl ?_
        refine qr_lload_n 2 rfl rfl rfl ?_
        refine qr_lc_lt 17 6 rfl rfl rfl rfl (by omega) (by decide) (fun h => False.elim (by omega)) (fun h5 => ?_)
        refine qr_lload_n 7 rfl rfl rfl ?_
        refine qr_lload 9 rfl rfl rfl ?_
        refine qr_lc_gt 17 13 rfl rfl rfl rfl (by omega) (by decide) (fun h6 => ?_) (fun h6 => ?_)
        · skip
          refine qr_iconst 18 rfl rfl ?_
          refine qr_retZ rfl rfl (by omega) (by decide) (by decide) ?_
          show qr_W (qe L xs vb) (d + 1) qx_e192 _ (9, [(0, .int (qz (x1 % 10000)))], [.int (qz 0)], _, 0, 0)
          refine qr_retZ rfl rfl (by omega) (by decide) (by decide) ?_
          show qr_W (qe L xs vb) (d + 2) qx_e230 _ (23, [(0, .int (qz x1))], [.int (qz 0)], _, 0, 0)
          refine qr_if_eq 59 26 rfl rfl rfl (by decide) (fun _ => ?_) (fun h => absurd h (by decide))
          refine qr_iconst 60 rfl rfl ?_
          refine qr_retZ rfl rfl (by omega) (by decide) (by decide) ?_
          show qr_W (qe L xs vb) (d + 3) qx_e239 _ (4, [(0, .ref 86), (1, .long (ql x0)), (3, .int (qz x1)), (4, .int (qz x2))], [.int (qz 0)], _, 0, 0)
          refine qr_if_eq 28 7 rfl rfl rfl (by decide) (fun _ => ?_) (fun h => absurd h (by decide))
          refine qr_ldc2 (-1) 31 rfl (by decide) rfl ?_
          refine qr_retL rfl rfl (by decide) (by decide) ?_
          exact rfl
        · skip
          refine qr_iconst 14 rfl rfl ?_
          refine qr_goto 18 rfl rfl ?_
          refine qr_retZ rfl rfl (by omega) (by decide) (by decide) ?_
          show qr_W (qe L xs vb) (d + 1) qx_e192 _ (9, [(0, .int (qz (x1 % 10000)))], [.int (qz 1)], _, 0, 0)
          refine qr_retZ rfl rfl (by omega) (by decide) (by decide) ?_
          show qr_W (qe L xs vb) (d + 2) qx_e230 _ (23, [(0, .int (qz x1))], [.int (qz 1)], _, 0, 0)
          refine qr_if_eq 59 26 rfl rfl rfl (by decide) (fun h => absurd h (by decide)) (fun _ => ?_)
          refine qr_iload_n 27 rfl rfl rfl ?_
          refine qr_sipush 30 rfl (by decide) rfl ?_
          refine qr_idiv 31 rfl (by omega) (by omega) rfl ?_
          refine qr_iload_n 32 rfl rfl rfl ?_
          as_aux_lemma =>
            refine qr_sipush 35 rfl (by decide) rfl ?_
            refine qr_irem 36 rfl (by omega) (by omega) rfl ?_
            refine qr_icmp_gt 59 39 rfl rfl rfl (by omega) (by omega) (fun h7 => ?_) (fun h7 => ?_)
            · skip
              refine qr_iconst 60 rfl rfl ?_
              refine qr_retZ rfl rfl (by omega) (by decide) (by decide) ?_
              show qr_W (qe L xs vb) (d + 3) qx_e239 _ (4, [(0, .ref 86), (1, .long (ql x0)), (3, .int (qz x1)), (4, .int (qz x2))], [.int (qz 0)], _, 0, 0)
              refine qr_if_eq 28 7 rfl rfl rfl (by decide) (fun _ => ?_) (fun h => absurd h (by decide))
              refine qr_ldc2 (-1) 31 rfl (by decide) rfl ?_
              refine qr_retL rfl rfl (by decide) (by decide) ?_
              exact rfl
            · skip
              refine qr_iload_n 40 rfl rfl rfl ?_
              refine qr_sipush 43 rfl (by decide) rfl ?_
              refine qr_irem 44 rfl (by omega) (by omega) rfl ?_
              refine qr_iload_n 45 rfl rfl rfl ?_
              refine qr_sipush 48 rfl (by decide) rfl ?_
              refine qr_idiv 49 rfl (by omega) (by omega) rfl ?_
              refine qr_isub 50 rfl rfl ?_
              refine qr_bipush 52 rfl (by decide) rfl ?_
              refine qr_icmp_ge 59 55 rfl rfl rfl (by omega) (by decide) (fun h8 => ?_) (fun h8 => ?_)
              · skip
                refine qr_iconst 60 rfl rfl ?_
                refine qr_retZ rfl rfl (by omega) (by decide) (by decide) ?_
                show qr_W (qe L xs vb) (d + 3) qx_e239 _ (4, [(0, .ref 86), (1, .long (ql x0)), (3, .int (qz x1)), (4, .int (qz x2))], [.int (qz 0)], _, 0, 0)
                refine qr_if_eq 28 7 rfl rfl rfl (by decide) (fun _ => ?_) (fun h => absurd h (by decide))
                refine qr_ldc2 (-1) 31 rfl (by decide) rfl ?_
                refine qr_retL rfl rfl (by decide) (by decide) ?_
                exact rfl
              · skip
                refine qr_iconst 56 rfl rfl ?_
                refine qr_goto 60 rfl rfl ?_
                refine qr_retZ rfl rfl (by omega) (by decide) (by decide) ?_
                show qr_W (qe L xs vb) (d + 3) qx_e239 _ (4, [(0, .ref 86), (1, .long (ql x0)), (3, .int (qz x1)), (4, .int (qz x2))], [.int (qz 1)], _, 0, 0)
                refine qr_if_eq 28 7 rfl rfl rfl (by decide) (fun h => absurd h (by decide)) (fun _ => ?_)
                refine qr_iload 9 rfl rfl rfl ?_
                refine qr_i2l 10 rfl (by omega) rfl ?_
                refine qr_lconst 11 rfl rfl ?_
                refine qy_vl 0 rfl ?_
                refine qr_lconst 12 rfl rfl ?_
                refine qy_vl 1 rfl ?_
                refine qy_call 15 rfl rfl rfl ?_
                refine qr_start (d := d + 2) qv_e176 (Nat.le_of_ble_eq_true rfl) ?_
                show qr_W (qe L xs vb) (d + 2) qx_e176 _ (0, [(0, .long (ql x2)), (2, .long (ql 0)), (4, .long (ql 1))], [], _, 0, 0)
                refine qr_lload_n 1 rfl rfl rfl ?_
                refine qr_lload_n 2 rfl rfl rfl ?_
                refine qr_lc_lt 17 6 rfl rfl rfl rfl (by omega) (by decide) (fun h9 => ?_) (fun h9 => ?_)
                · skip
                  refine qr_iconst 18 rfl rfl ?_
                  refine qr_retZ rfl rfl (by omega) (by decide) (by decide) ?_
                  show qr_W (qe L xs vb) (d + 3) qx_e239 _ (15, [(0, .ref 86), (1, .long (ql x0)), (3, .int (qz x1)), (4, .int (qz x2))], [.int (qz 0)], _, 0, 0)
                  refine qr_if_eq 28 18 rfl rfl rfl (by decide) (fun _ => ?_) (fun h => absurd h (by decide))
                  refine qr_ldc2 (-1) 31 rfl (by decide) rfl ?_
                  refine qr_retL rfl rfl (by decide) (by decide) ?_
                  exact rfl
                · skip
                  refine qr_lload_n 7 rfl rfl rfl ?_
                  refine qr_lload 9 rfl rfl rfl ?_
                  refine qr_lc_gt 17 13 rfl rfl rfl rfl (by omega) (by decide) (fun h10 => ?_) (fun h10 => ?_)
                  · skip
                    refine qr_iconst 18 rfl rfl ?_
                    refine qr_retZ rfl rfl (by omega) (by decide) (by decide) ?_
                    show qr_W (qe L xs vb) (d + 3) qx_e239 _ (15, [(0, .ref 86), (1, .long (ql x0)), (3, .int (qz x1)), (4, .int (qz x2))], [.int (qz 0)], _, 0, 0)
                    refine qr_if_eq 28 18 rfl rfl rfl (by decide) (fun _ => ?_) (fun h => absurd h (by decide))
                    refine qr_ldc2 (-1) 31 rfl (by decide) rfl ?_
                    refine qr_retL rfl rfl (by decide) (by decide) ?_
                    exact rfl
                  · skip
                    refine qr_iconst 14 rfl rfl ?_
                    refine qr_goto 18 rfl rfl ?_
                    refine qr_retZ rfl rfl (by omega) (by decide) (by decide) ?_
                    show qr_W (qe L xs vb) (d + 3) qx_e239 _ (15, [(0, .ref 86), (1, .long (ql x0)), (3, .int (qz x1)), (4, .int (qz x2))], [.int (qz 1)], _, 0, 0)
                    refine qr_if_eq 28 18 rfl rfl rfl (by decide) (fun h => absurd h (by decide)) (fun _ => ?_)
                    refine qr_aload_n 19 rfl rfl rfl ?_
                    refine qr_lload_n 20 rfl rfl rfl ?_
                    refine qr_bipush 22 rfl (by decide) rfl ?_
                    refine qy_call 25 rfl rfl rfl ?_
                    refine qr_start (d := d + 2) qv_e234 (Nat.le_of_ble_eq_true rfl) ?_
                    show qr_W (qe L xs vb) (d + 2) qx_e234 _ (0, [(0, .ref 86), (1, .long (ql x0)), (3, .int (qz 12))], [], _, 0, 0)
                    refine qr_aload_n 1 rfl rfl rfl ?_
                    refine qr_iconst 2 rfl rfl ?_
                    refine qr_put 5 rfl (by decide) rfl (Nat.le_of_ble_eq_true rfl) (Nat.le_of_ble_eq_true rfl) (Or.inl rfl) (qr_fitI rfl _) rfl ?_
                    refine qy_wS (qw_s (qo_s s) 86 43 0) rfl (fun σ11 e11 => ?_)
                    refine qr_iconst 6 rfl rfl ?_
                    refine qr_istore [(4, .int (qz 0)), (0, .ref 86), (1, .long (ql x0)), (3, .int (qz 12))] 8 rfl (by decide) rfl rfl ?_
                    refine qr_iload 10 rfl rfl rfl ?_
                    refine qr_aload_n 11 rfl rfl rfl ?_
                    refine qr_get 14 rfl rfl rfl (by decide) rfl ?_
                    refine qy_v 0 (by subst_vars; rfl) ?_
                    refine qr_icmp_ge 70 17 rfl rfl rfl (by decide) (by decide) (fun _ => ?_) (fun h => absurd h (by decide))
                    refine qr_aload_n 71 rfl rfl rfl ?_
                    refine qr_lload_n 72 rfl rfl rfl ?_
                    refine qy_call 75 rfl rfl rfl ?_
                    refine qr_start (d := d + 1) qv_e225 (Nat.le_of_ble_eq_true rfl) ?_
                    show qr_W (qe L xs vb) (d + 1) qx_e225 _ (0, [(0, .ref 86), (1, .long (ql x0))], [], _, 0, 0)
                    refine qr_lload_n 1 rfl rfl rfl ?_
                    refine qr_lconst 2 rfl rfl ?_
                    refine qy_vl 0 rfl ?_
                    refine qr_lc_lt 21 6 rfl rfl rfl rfl (by omega) (by decide) (fun h12 => ?_) (fun h => False.elim (by omega))
                    refine qr_iconst 22 rfl rfl ?_
                    refine qr_retZ rfl rfl (by omega) (by decide) (by decide) ?_
                    show qr_W (qe L xs vb) (d + 2) qx_e234 _ (75, [(4, .int (qz 0)), (0, .ref 86), (1, .long (ql x0)), (3, .int (qz 12))], [.int (qz 0)], _, 0, 0)
                    refine qr_if_eq 96 78 rfl rfl rfl (by decide) (fun _ => ?_) (fun h => absurd h (by decide))
                    refine qr_iconst 97 rfl rfl ?_
                    refine qr_retZ rfl rfl (by omega) (by decide) (by decide) ?_
                    show qr_W (qe L xs vb) (d + 3) qx_e239 _ (25, [(0, .ref 86), (1, .long (ql x0)), (3, .int (qz x1)), (4, .int (qz x2))], [.int (qz 0)], _, 0, 0)
                    refine qr_if_ne 32 28 rfl rfl rfl (by decide) (fun h => absurd h (by decide)) (fun _ => ?_)
                    refine qr_ldc2 (-1) 31 rfl (by decide) rfl ?_
                    refine qr_retL rfl rfl (by decide) (by decide) ?_
                    exact rfl
  · skip
    refine qr_lload_n 7 rfl rfl rfl ?_
    refine qr_aload_n 8 rfl rfl rfl ?_
    refine qr_get 11 rfl rfl rfl (by decide) rfl ?_
    refine qy_v 0 rfl ?_
    refine qr_lushr 12 rfl rfl ?_
    refine qy_vl x0 (ql_ushr0 (by omega)) ?_
    refine qr_lconst 13 rfl rfl ?_
    refine qy_vl 0 rfl ?_
    refine qr_lc_ne 21 17 rfl rfl rfl rfl (by omega) (by decide) (fun h13 => ?_) (fun h13 => ?_)
    · skip
      refine qr_iconst 22 rfl rfl ?_
      refine qr_retZ rfl rfl (by omega) (by decide) (by decide) ?_
      show qr_W (qe L xs vb) (d + 3) qx_e120 _ (8, [(0, .ref 16), (1, .long (ql x0)), (3, .int (qz x1)), (4, .int (qz x2))], [.int (qz 0)], _, 0, 0)
      refine qr_if_eq 26 11 rfl rfl rfl (by decide) (fun _ => ?_) (fun h => absurd h (by decide))
      refine qr_ldc2 (-1) 29 rfl (by decide) rfl ?_
      refine qr_retL rfl rfl (by decide) (by decide) ?_
      refine ⟨⟨_, rfl⟩, ⟨_, _, _, _, rfl⟩, ?_⟩
      refine qr_start (d := d + 3) qv_e239 (Nat.le_of_ble_eq_true rfl) ?_
      show qr_W (qe L xs vb) (d + 3) qx_e239 _ (0, [(0, .ref 86), (1, .long (ql x0)), (3, .int (qz x1)), (4, .int (qz x2))], [], _, 0, 0)
      refine qr_iload_n 1 rfl rfl rfl ?_
      refine qy_call 4 rfl rfl rfl ?_
      refine qr_start (d := d + 2) qv_e230 (Nat.le_of_ble_eq_true rfl) ?_
      show qr_W (qe L xs vb) (d + 2) qx_e230 _ (0, [(0, .int (qz x1))], [], _, 0, 0)
      refine qr_iload_n 1 rfl rfl rfl ?_
      refine qr_if_lt 59 4 rfl rfl rfl (by omega) (fun h14 => ?_) (fun h14 => ?_)
      · skip
        refine qr_iconst 60 rfl rfl ?_
        refine qr_retZ rfl rfl (by omega) (by decide) (by decide) ?_
        show qr_W (qe L xs vb) (d + 3) qx_e239 _ (4, [(0, .ref 86), (1, .long (ql x0)), (3, .int (qz x1)), (4, .int (qz x2))], [.int (qz 0)], _, 0, 0)
        refine qr_if_eq 28 7 rfl rfl rfl (by decide) (fun _ => ?_) (fun h => absurd h (by decide))
        refine qr_ldc2 (-1) 31 rfl (by decide) rfl ?_
        refine qr_retL rfl rfl (by decide) (by decide) ?_
        exact rfl
      · skip
        refine qr_iload_n 5 rfl rfl rfl ?_
        refine qr_sipush 8 rfl (by decide) rfl ?_
        refine qr_idiv 9 rfl (by omega) (by omega) rfl ?_
        refine qy_call 12 rfl rfl rfl ?_
        refine qr_start (d := d + 1) qv_e192 (Nat.le_of_ble_eq_true rfl) ?_
        show qr_W (qe L xs vb) (d + 1) qx_e192 _ (0, [(0, .int (qz (x1 / 10000)))], [], _, 0, 0)
        refine qr_iload_n 1 rfl rfl rfl ?_
        refine qr_i2l 2 rfl (by omega) rfl ?_
        refine qr_lconst 3 rfl rfl ?_
        refine qy_vl 0 rfl ?_
        refine qr_ldc2 2399 6 rfl (by decide) rfl ?_
        refine qy_call 9 rfl rfl rfl ?_
        refine qr_start (d := d + 0) qv_e176 (Nat.le_of_ble_eq_true rfl) ?_
        show qr_W (qe L xs vb) (d + 0) qx_e176 _ (0, [(0, .long (ql (x1 / 10000))), (2, .long (ql 0)), (4, .long (ql 2399))], [], _, 0, 0)
        refine qr_lload_n 1 rfl rfl rfl ?_
        refine qr_lload_n 2 rfl rfl rfl ?_
        refine qr_lc_lt 17 6 rfl rfl rfl rfl (by omega) (by decide) (fun h => False.elim (by omega)) (fun h15 => ?_)
        refine qr_lload_n 7 rfl rfl rfl ?_
        refine qr_lload 9 rfl rfl rfl ?_
        refine qr_lc_gt 17 13 rfl rfl rfl rfl (by omega) (by decide) (fun h16 => ?_) (fun h16 => ?_)
        · skip
          refine qr_iconst 18 rfl rfl ?_
          refine qr_retZ rfl rfl (by omega) (by decide) (by decide) ?_
          show qr_W (qe L xs vb) (d + 1) qx_e192 _ (9, [(0, .int (qz (x1 / 10000)))], [.int (qz 0)], _, 0, 0)
          refine qr_retZ rfl rfl (by omega) (by decide) (by decide) ?_
          show qr_W (qe L xs vb) (d + 2) qx_e230 _ (12, [(0, .int (qz x1))], [.int (qz 0)], _, 0, 0)
          refine qr_if_eq 59 15 rfl rfl rfl (by decide) (fun _ => ?_) (fun h => absurd h (by decide))
          refine qr_iconst 60 rfl rfl ?_
          refine qr_retZ rfl rfl (by omega) (by decide) (by decide) ?_
          show qr_W (qe L xs vb) (d + 3) qx_e239 _ (4, [(0, .ref 86), (1, .long (ql x0)), (3, .int (qz x1)), (4, .int (qz x2))], [.int (qz 0)], _, 0, 0)
          refine qr_if_eq 28 7 rfl rfl rfl (by decide) (fun _ => ?_) (fun h => absurd h (by decide))
          refine qr_ldc2 (-1) 31 rfl (by decide) rfl ?_
          refine qr_retL rfl rfl (by decide) (by decide) ?_
          exact rfl
        · skip
          refine qr_iconst 14 rfl rfl ?_
          refine qr_goto 18 rfl rfl ?_
          refine qr_retZ rfl rfl (by omega) (by decide) (by decide) ?_
          show qr_W (qe L xs vb) (d + 1) qx_e192 _ (9, [(0, .int (qz (x1 / 10000)))], [.int (qz 1)], _, 0, 0)
          refine qr_retZ rfl rfl (by omega) (by decide) (by decide) ?_
          show qr_W (qe L xs vb) (d + 2) qx_e230 _ (12, [(0, .int (qz x1))], [.int (qz 1)], _, 0, 0)
          refine qr_if_eq 59 15 rfl rfl rfl (by decide) (fun h => absurd h (by decide)) (fun _ => ?_)
          refine qr_iload_n 16 rfl rfl rfl ?_
          refine qr_sipush 19 rfl (by decide) rfl ?_
          refine qr_irem 20 rfl (by omega) (by omega) rfl ?_
          refine qy_call 23 rfl rfl rfl ?_
          refine qr_start (d := d + 1) qv_e192 (Nat.le_of_ble_eq_true rfl) ?_
          show qr_W (qe L xs vb) (d + 1) qx_e192 _ (0, [(0, .int (qz (x1 % 10000)))], [], _, 0, 0)
          refine qr_iload_n 1 rfl rfl rfl ?_
          refine qr_i2l 2 rfl (by omega) rfl ?_
          refine qr_lconst 3 rfl rfl ?_
          refine qy_vl 0 rfl ?_
          refine qr_ldc2 2399 6 rfl (by decide) rfl ?_
          refine qy_call 9 rfl rfl rfl ?_
          refine qr_start (d := d + 0) qv_e176 (Nat.le_of_ble_eq_true rfl) ?_
          show qr_W (qe L xs vb) (d + 0) qx_e176 _ (0, [(0, .long (ql (x1 % 10000))), (2, .long (ql 0)), (4, .long (ql 2399))], [], _, 0, 0)
          refine qr_lload_n 1 rfl rfl rfl ?_
          refine qr_lload_n 2 rfl rfl rfl ?_
          refine qr_lc_lt 17 6 rfl rfl rfl rfl (by omega) (by decide) (fun h => False.elim (by omega)) (fun h17 => ?_)
          refine qr_lload_n 7 rfl rfl rfl ?_
          refine qr_lload 9 rfl rfl rfl ?_
          refine qr_lc_gt 17 13 rfl rfl rfl rfl (by omega) (by decide) (fun h18 => ?_) (fun h18 => ?_)
          · skip
            refine qr_iconst 18 rfl rfl ?_
            refine qr_retZ rfl rfl (by omega) (by decide) (by decide) ?_
            show qr_W (qe L xs vb) (d + 1) qx_e192 _ (9, [(0, .int (qz (x1 % 10000)))], [.int (qz 0)], _, 0, 0)
            refine qr_retZ rfl rfl (by omega) (by decide) (by decide) ?_
            show qr_W (qe L xs vb) (d + 2) qx_e230 _ (23, [(0, .int (qz x1))], [.int (qz 0)], _, 0, 0)
            as_aux_lemma =>
              refine qr_if_eq 59 26 rfl rfl rfl (by decide) (fun _ => ?_) (fun h => absurd h (by decide))
              refine qr_iconst 60 rfl rfl ?_
              refine qr_retZ rfl rfl (by omega) (by decide) (by decide) ?_
              show qr_W (qe L xs vb) (d + 3) qx_e239 _ (4, [(0, .ref 86), (1, .long (ql x0)), (3, .int (qz x1)), (4, .int (qz x2))], [.int (qz 0)], _, 0, 0)
              refine qr_if_eq 28 7 rfl rfl rfl (by decide) (fun _ => ?_) (fun h => absurd h (by decide))
              refine qr_ldc2 (-1) 31 rfl (by decide) rfl ?_
              refine qr_retL rfl rfl (by decide) (by decide) ?_
              exact rfl
          · skip
            refine qr_iconst 14 rfl rfl ?_
            refine qr_goto 18 rfl rfl ?_
            refine qr_retZ rfl rfl (by omega) (by decide) (by decide) ?_
            show qr_W (qe L xs vb) (d + 1) qx_e192 _ (9, [(0, .int (qz (x1 % 10000)))], [.int (qz 1)], _, 0, 0)
            as_aux_lemma =>
              refine qr_retZ rfl rfl (by omega) (by decide) (by decide) ?_
              show qr_W (qe L xs vb) (d + 2) qx_e230 _ (23, [(0, .int (qz x1))], [.int (qz 1)], _, 0, 0)
              refine qr_if_eq 59 26 rfl rfl rfl (by decide) (fun h => absurd h (by decide)) (fun _ => ?_)
              refine qr_iload_n 27 rfl rfl rfl ?_
              refine qr_sipush 30 rfl (by decide) rfl ?_
              refine qr_idiv 31 rfl (by omega) (by omega) rfl ?_
              refine qr_iload_n 32 rfl rfl rfl ?_
              refine qr_sipush 35 rfl (by decide) rfl ?_
              refine qr_irem 36 rfl (by omega) (by omega) rfl ?_
              refine qr_icmp_gt 59 39 rfl rfl rfl (by omega) (by omega) (fun h19 => ?_) (fun h19 => ?_)
              · skip
                refine qr_iconst 60 rfl rfl ?_
                refine qr_retZ rfl rfl (by omega) (by decide) (by decide) ?_
                show qr_W (qe L xs vb) (d + 3) qx_e239 _ (4, [(0, .ref 86), (1, .long (ql x0)), (3, .int (qz x1)), (4, .int (qz x2))], [.int (qz 0)], _, 0, 0)
                refine qr_if_eq 28 7 rfl rfl rfl (by decide) (fun _ => ?_) (fun h => absurd h (by decide))
                refine qr_ldc2 (-1) 31 rfl (by decide) rfl ?_
                refine qr_retL rfl rfl (by decide) (by decide) ?_
                exact rfl
              · skip
                refine qr_iload_n 40 rfl rfl rfl ?_
                refine qr_sipush 43 rfl (by decide) rfl ?_
                refine qr_irem 44 rfl (by omega) (by omega) rfl ?_
                refine qr_iload_n 45 rfl rfl rfl ?_
                refine qr_sipush 48 rfl (by decide) rfl ?_
                refine qr_idiv 49 rfl (by omega) (by omega) rfl ?_
                refine qr_isub 50 rfl rfl ?_
                refine qr_bipush 52 rfl (by decide) rfl ?_
                refine qr_icmp_ge 59 55 rfl rfl rfl (by omega) (by decide) (fun h20 => ?_) (fun h20 => ?_)
                · skip
                  refine qr_iconst 60 rfl rfl ?_
                  refine qr_retZ rfl rfl (by omega) (by decide) (by decide) ?_
                  show qr_W (qe L xs vb) (d + 3) qx_e239 _ (4, [(0, .ref 86), (1, .long (ql x0)), (3, .int (qz x1)), (4, .int (qz x2))], [.int (qz 0)], _, 0, 0)
                  refine qr_if_eq 28 7 rfl rfl rfl (by decide) (fun _ => ?_) (fun h => absurd h (by decide))
                  refine qr_ldc2 (-1) 31 rfl (by decide) rfl ?_
                  refine qr_retL rfl rfl (by decide) (by decide) ?_
                  exact rfl
                · skip
                  refine qr_iconst 56 rfl rfl ?_
                  refine qr_goto 60 rfl rfl ?_
                  refine qr_retZ rfl rfl (by omega) (by decide) (by decide) ?_
                  show qr_W (qe L xs vb) (d + 3) qx_e239 _ (4, [(0, .ref 86), (1, .long (ql x0)), (3, .int (qz x1)), (4, .int (qz x2))], [.int (qz 1)], _, 0, 0)
                  refine qr_if_eq 28 7 rfl rfl rfl (by decide) (fun h => absurd h (by decide)) (fun _ => ?_)
                  refine qr_iload 9 rfl rfl rfl ?_
                  refine qr_i2l 10 rfl (by omega) rfl ?_
                  refine qr_lconst 11 rfl rfl ?_
                  refine qy_vl 0 rfl ?_
                  refine qr_lconst 12 rfl rfl ?_
                  refine qy_vl 1 rfl ?_
                  refine qy_call 15 rfl rfl rfl ?_
                  refine qr_start (d := d + 2) qv_e176 (Nat.le_of_ble_eq_true rfl) ?_
                  show qr_W (qe L xs vb) (d + 2) qx_e176 _ (0, [(0, .long (ql x2)), (2, .long (ql 0)), (4, .long (ql 1))], [], _, 0, 0)
                  refine qr_lload_n 1 rfl rfl rfl ?_
                  refine qr_lload_n 2 rfl rfl rfl ?_
                  refine qr_lc_lt 17 6 rfl rfl rfl rfl (by omega) (by decide) (fun h21 => ?_) (fun h21 => ?_)
                  · skip
                    refine qr_iconst 18 rfl rfl ?_
                    refine qr_retZ rfl rfl (by omega) (by decide) (by decide) ?_
                    show qr_W (qe L xs vb) (d + 3) qx_e239 _ (15, [(0, .ref 86), (1, .long (ql x0)), (3, .int (qz x1)), (4, .int (qz x2))], [.int (qz 0)], _, 0, 0)
                    refine qr_if_eq 28 18 rfl rfl rfl (by decide) (fun _ => ?_) (fun h => absurd h (by decide))
                    refine qr_ldc2 (-1) 31 rfl (by decide) rfl ?_
                    refine qr_retL rfl rfl (by decide) (by decide) ?_
                    exact rfl
                  · skip
                    refine qr_lload_n 7 rfl rfl rfl ?_
                    refine qr_lload 9 rfl rfl rfl ?_
                    refine qr_lc_gt 17 13 rfl rfl rfl rfl (by omega) (by decide) (fun h22 => ?_) (fun h22 => ?_)
                    · skip
                      refine qr_iconst 18 rfl rfl ?_
                      refine qr_retZ rfl rfl (by omega) (by decide) (by decide) ?_
                      show qr_W (qe L xs vb) (d + 3) qx_e239 _ (15, [(0, .ref 86), (1, .long (ql x0)), (3, .int (qz x1)), (4, .int (qz x2))], [.int (qz 0)], _, 0, 0)
                      refine qr_if_eq 28 18 rfl rfl rfl (by decide) (fun _ => ?_) (fun h => absurd h (by decide))
                      refine qr_ldc2 (-1) 31 rfl (by decide) rfl ?_
                      refine qr_retL rfl rfl (by decide) (by decide) ?_
                      exact rfl
                    · skip
                      refine qr_iconst 14 rfl rfl ?_
                      refine qr_goto 18 rfl rfl ?_
                      refine qr_retZ rfl rfl (by omega) (by decide) (by decide) ?_
                      show qr_W (qe L xs vb) (d + 3) qx_e239 _ (15, [(0, .ref 86), (1, .long (ql x0)), (3, .int (qz x1)), (4, .int (qz x2))], [.int (qz 1)], _, 0, 0)
                      refine qr_if_eq 28 18 rfl rfl rfl (by decide) (fun h => absurd h (by decide)) (fun _ => ?_)
                      refine qr_aload_n 19 rfl rfl rfl ?_
                      refine qr_lload_n 20 rfl rfl rfl ?_
                      refine qr_bipush 22 rfl (by decide) rfl ?_
                      refine qy_call 25 rfl rfl rfl ?_
                      refine qr_start (d := d + 2) qv_e234 (Nat.le_of_ble_eq_true rfl) ?_
                      show qr_W (qe L xs vb) (d + 2) qx_e234 _ (0, [(0, .ref 86), (1, .long (ql x0)), (3, .int (qz 12))], [], _, 0, 0)
                      refine qr_aload_n 1 rfl rfl rfl ?_
                      refine qr_iconst 2 rfl rfl ?_
                      refine qr_put 5 rfl (by decide) rfl (Nat.le_of_ble_eq_true rfl) (Nat.le_of_ble_eq_true rfl) (Or.inl rfl) (qr_fitI rfl _) rfl ?_
                      refine qy_wS (qw_s (qo_s s) 86 43 0) rfl (fun σ23 e23 => ?_)
                      refine qr_iconst 6 rfl rfl ?_
                      refine qr_istore [(4, .int (qz 0)), (0, .ref 86), (1, .long (ql x0)), (3, .int (qz 12))] 8 rfl (by decide) rfl rfl ?_
                      refine qr_iload 10 rfl rfl rfl ?_
                      refine qr_aload_n 11 rfl rfl rfl ?_
                      refine qr_get 14 rfl rfl rfl (by decide) rfl ?_
                      refine qy_v 0 (by subst_vars; rfl) ?_
                      refine qr_icmp_ge 70 17 rfl rfl rfl (by decide) (by decide) (fun _ => ?_) (fun h => absurd h (by decide))
                      refine qr_aload_n 71 rfl rfl rfl ?_
                      refine qr_lload_n 72 rfl rfl rfl ?_
                      refine qy_call 75 rfl rfl rfl ?_
                      refine qr_start (d := d + 1) qv_e225 (Nat.le_of_ble_eq_true rfl) ?_
                      show qr_W (qe L xs vb) (d + 1) qx_e225 _ (0, [(0, .ref 86), (1, .long (ql x0))], [], _, 0, 0)
                      refine qr_lload_n 1 rfl rfl rfl ?_
                      refine qr_lconst 2 rfl rfl ?_
                      refine qy_vl 0 rfl ?_
                      refine qr_lc_lt 21 6 rfl rfl rfl rfl (by omega) (by decide) (fun h => False.elim (by omega)) (fun h24 => ?_)
                      refine qr_lload_n 7 rfl rfl rfl ?_
                      refine qr_aload_n 8 rfl rfl rfl ?_
                      refine qr_get 11 rfl rfl rfl (by decide) rfl ?_
                      refine qy_v 0 (by subst_vars; rfl) ?_
                      refine qr_lshr 12 rfl rfl ?_
                      refine qy_vl x0 (ql_shr0 (by omega)) ?_
                      refine qr_lconst 13 rfl rfl ?_
                      refine qy_vl 0 rfl ?_
                      as_aux_lemma =>
                        refine qr_lc_ne 21 17 rfl rfl rfl rfl (by omega) (by decide) (fun h25 => ?_) (fun h => False.elim (by omega))
                        refine qr_iconst 22 rfl rfl ?_
                        refine qr_retZ rfl rfl (by omega) (by decide) (by decide) ?_
                        show qr_W (qe L xs vb) (d + 2) qx_e234 _ (75, [(4, .int (qz 0)), (0, .ref 86), (1, .long (ql x0)), (3, .int (qz 12))], [.int (qz 0)], _, 0, 0)
                        refine qr_if_eq 96 78 rfl rfl rfl (by decide) (fun _ => ?_) (fun h => absurd h (by decide))
                        refine qr_iconst 97 rfl rfl ?_
                        refine qr_retZ rfl rfl (by omega) (by decide) (by decide) ?_
                        show qr_W (qe L xs vb) (d + 3) qx_e239 _ (25, [(0, .ref 86), (1, .long (ql x0)), (3, .int (qz x1)), (4, .int (qz x2))], [.int (qz 0)], _, 0, 0)
                        refine qr_if_ne 32 28 rfl rfl rfl (by decide) (fun h => absurd h (by decide)) (fun _ => ?_)
                        refine qr_ldc2 (-1) 31 rfl (by decide) rfl ?_
                        refine qr_retL rfl rfl (by decide) (by decide) ?_
                        exact rfl
    · skip
      subst h13
      refine qr_iconst 18 rfl rfl ?_
      refine qr_goto 22 rfl rfl ?_
      refine qr_retZ rfl rfl (by omega) (by decide) (by decide) ?_
      show qr_W (qe L xs vb) (d + 3) qx_e120 _ (8, [(0, .ref 16), (1, .long (ql 0)), (3, .int (qz x1)), (4, .int (qz x2))], [.int (qz 1)], _, 0, 0)
      refine qr_if_eq 26 11 rfl rfl rfl (by decide) (fun h => absurd h (by decide)) (fun _ => ?_)
      refine qr_iload_n 12 rfl rfl rfl ?_
      refine qy_call 15 rfl rfl rfl ?_
      refine qr_start (d := d + 2) qv_e100 (Nat.le_of_ble_eq_true rfl) ?_
      show qr_W (qe L xs vb) (d + 2) qx_e100 _ (0, [(0, .int (qz x1))], [], _, 0, 0)
      refine qr_iload_n 1 rfl rfl rfl ?_
      refine qy_call 4 rfl rfl rfl ?_
      refine qr_start (d := d + 1) qv_e70 (Nat.le_of_ble_eq_true rfl) ?_
      show qr_W (qe L xs vb) (d + 1) qx_e70 _ (0, [(0, .int (qz x1))], [], _, 0, 0)
      refine qr_iload_n 1 rfl rfl rfl ?_
      refine qr_if_lt 32 4 rfl rfl rfl (by omega) (fun h26 => ?_) (fun h26 => ?_)
      · skip
        refine qr_iconst 33 rfl rfl ?_
        refine qr_retZ rfl rfl (by omega) (by decide) (by decide) ?_
        show qr_W (qe L xs vb) (d + 2) qx_e100 _ (4, [(0, .int (qz x1))], [.int (qz 0)], _, 0, 0)
        refine qr_if_eq 27 7 rfl rfl rfl (by decide) (fun _ => ?_) (fun h => absurd h (by decide))
        refine qr_iconst 28 rfl rfl ?_
        refine qr_retZ rfl rfl (by omega) (by decide) (by decide) ?_
        show qr_W (qe L xs vb) (d + 3) qx_e120 _ (15, [(0, .ref 16), (1, .long (ql 0)), (3, .int (qz x1)), (4, .int (qz x2))], [.int (qz 0)], _, 0, 0)
        refine qr_if_eq 26 18 rfl rfl rfl (by decide) (fun _ => ?_) (fun h => absurd h (by decide))
        refine qr_ldc2 (-1) 29 rfl (by decide) rfl ?_
        refine qr_retL rfl rfl (by decide) (by decide) ?_
        refine ⟨⟨_, rfl⟩, ⟨_, _, _, _, rfl⟩, ?_⟩
        refine qr_start (d := d + 3) qv_e239 (Nat.le_of_ble_eq_true rfl) ?_
        show qr_W (qe L xs vb) (d + 3) qx_e239 _ (0, [(0, .ref 86), (1, .long (ql 0)), (3, .int (qz x1)), (4, .int (qz x2))], [], _, 0, 0)
        refine qr_iload_n 1 rfl rfl rfl ?_
        refine qy_call 4 rfl rfl rfl ?_
        refine qr_start (d := d + 2) qv_e230 (Nat.le_of_ble_eq_true rfl) ?_
        show qr_W (qe L xs vb) (d + 2) qx_e230 _ (0, [(0, .int (qz x1))], [], _, 0, 0)
        refine qr_iload_n 1 rfl rfl rfl ?_
        refine qr_if_lt 59 4 rfl rfl rfl (by omega) (fun h27 => ?_) (fun h => False.elim (by omega))
        refine qr_iconst 60 rfl rfl ?_
        refine qr_retZ rfl rfl (by omega) (by decide) (by decide) ?_
        show qr_W (qe L xs vb) (d + 3) qx_e239 _ (4, [(0, .ref 86), (1, .long (ql 0)), (3, .int (qz x1)), (4, .int (qz x2))], [.int (qz 0)], _, 0, 0)
        refine qr_if_eq 28 7 rfl rfl rfl (by decide) (fun _ => ?_) (fun h => absurd h (by decide))
        refine qr_ldc2 (-1) 31 rfl (by decide) rfl ?_
        refine qr_retL rfl rfl (by decide) (by decide) ?_
        exact rfl
      · skip
        refine qr_iload_n 5 rfl rfl rfl ?_
        refine qr_sipush 8 rfl (by decide) rfl ?_
        refine qr_idiv 9 rfl (by omega) (by omega) rfl ?_
        refine qr_iload_n 10 rfl rfl rfl ?_
        refine qr_sipush 13 rfl (by decide) rfl ?_
        refine qr_irem 14 rfl (by omega) (by omega) rfl ?_
        refine qr_icmp_gt 32 17 rfl rfl rfl (by omega) (by omega) (fun h28 => ?_) (fun h28 => ?_)
        · skip
          refine qr_iconst 33 rfl rfl ?_
          refine qr_retZ rfl rfl (by omega) (by decide) (by decide) ?_
          show qr_W (qe L xs vb) (d + 2) qx_e100 _ (4, [(0, .int (qz x1))], [.int (qz 0)], _, 0, 0)
          refine qr_if_eq 27 7 rfl rfl rfl (by decide) (fun _ => ?_) (fun h => absurd h (by decide))
          refine qr_iconst 28 rfl rfl ?_
          refine qr_retZ rfl rfl (by omega) (by decide) (by decide) ?_
          show qr_W (qe L xs vb) (d + 3) qx_e120 _ (15, [(0, .ref 16), (1, .long (ql 0)), (3, .int (qz x1)), (4, .int (qz x2))], [.int (qz 0)], _, 0, 0)
          refine qr_if_eq 26 18 rfl rfl rfl (by decide) (fun _ => ?_) (fun h => absurd h (by decide))
          refine qr_ldc2 (-1) 29 rfl (by decide) rfl ?_
          refine qr_retL rfl rfl (by decide) (by decide) ?_
          refine ⟨⟨_, rfl⟩, ⟨_, _, _, _, rfl⟩, ?_⟩
          refine qr_start (d := d + 3) qv_e239 (Nat.le_of_ble_eq_true rfl) ?_
          show qr_W (qe L xs vb) (d + 3) qx_e239 _ (0, [(0, .ref 86), (1, .long (ql 0)), (3, .int (qz x1)), (4, .int (qz x2))], [], _, 0, 0)
          refine qr_iload_n 1 rfl rfl rfl ?_
          refine qy_call 4 rfl rfl rfl ?_
          refine qr_start (d := d + 2) qv_e230 (Nat.le_of_ble_eq_true rfl) ?_
          show qr_W (qe L xs vb) (d + 2) qx_e230 _ (0, [(0, .int (qz x1))], [], _, 0, 0)
          refine qr_iload_n 1 rfl rfl rfl ?_
          refine qr_if_lt 59 4 rfl rfl rfl (by omega) (fun h => False.elim (by omega)) (fun h29 => ?_)
          refine qr_iload_n 5 rfl rfl rfl ?_
          refine qr_sipush 8 rfl (by decide) rfl ?_
          refine qr_idiv 9 rfl (by omega) (by omega) rfl ?_
          refine qy_call 12 rfl rfl rfl ?_
          refine qr_start (d := d + 1) qv_e192 (Nat.le_of_ble_eq_true rfl) ?_
          show qr_W (qe L xs vb) (d + 1) qx_e192 _ (0, [(0, .int (qz (x1 / 10000)))], [], _, 0, 0)
          refine qr_iload_n 1 rfl rfl rfl ?_
          refine qr_i2l 2 rfl (by omega) rfl ?_
          refine qr_lconst 3 rfl rfl ?_
          refine qy_vl 0 rfl ?_
          refine qr_ldc2 2399 6 rfl (by decide) rfl ?_
          refine qy_call 9 rfl rfl rfl ?_
          refine qr_start (d := d + 0) qv_e176 (Nat.le_of_ble_eq_true rfl) ?_
          show qr_W (qe L xs vb) (d + 0) qx_e176 _ (0, [(0, .long (ql (x1 / 10000))), (2, .long (ql 0)), (4, .long (ql 2399))], [], _, 0, 0)
          refine qr_lload_n 1 rfl rfl rfl ?_
          refine qr_lload_n 2 rfl rfl rfl ?_
          refine qr_lc_lt 17 6 rfl rfl rfl rfl (by omega) (by decide) (fun h => False.elim (by omega)) (fun h30 => ?_)
          refine qr_lload_n 7 rfl rfl rfl ?_
          refine qr_lload 9 rfl rfl rfl ?_
          refine qr_lc_gt 17 13 rfl rfl rfl rfl (by omega) (by decide) (fun h31 => ?_) (fun h31 => ?_)
          · skip
            refine qr_iconst 18 rfl rfl ?_
            refine qr_retZ rfl rfl (by omega) (by decide) (by decide) ?_
            show qr_W (qe L xs vb) (d + 1) qx_e192 _ (9, [(0, .int (qz (x1 / 10000)))], [.int (qz 0)], _, 0, 0)
            refine qr_retZ rfl rfl (by omega) (by decide) (by decide) ?_
            show qr_W (qe L xs vb) (d + 2) qx_e230 _ (12, [(0, .int (qz x1))], [.int (qz 0)], _, 0, 0)
            as_aux_lemma =>
              refine qr_if_eq 59 15 rfl rfl rfl (by decide) (fun _ => ?_) (fun h => absurd h (by decide))
              refine qr_iconst 60 rfl rfl ?_
              refine qr_retZ rfl rfl (by omega) (by decide) (by decide) ?_
              show qr_W (qe L xs vb) (d + 3) qx_e239 _ (4, [(0, .ref 86), (1, .long (ql 0)), (3, .int (qz x1)), (4, .int (qz x2))], [.int (qz 0)], _, 0, 0)
              refine qr_if_eq 28 7 rfl rfl rfl (by decide) (fun _ => ?_) (fun h => absurd h (by decide))
              refine qr_ldc2 (-1) 31 rfl (by decide) rfl ?_
              refine qr_retL rfl rfl (by decide) (by decide) ?_
              exact rfl
          · skip
            refine qr_iconst 14 rfl rfl ?_
            refine qr_goto 18 rfl rfl ?_
            refine qr_retZ rfl rfl (by omega) (by decide) (by decide) ?_
            show qr_W (qe L xs vb) (d + 1) qx_e192 _ (9, [(0, .int (qz (x1 / 10000)))], [.int (qz 1)], _, 0, 0)
            as_aux_lemma =>
              refine qr_retZ rfl rfl (by omega) (by decide) (by decide) ?_
              show qr_W (qe L xs vb) (d + 2) qx_e230 _ (12, [(0, .int (qz x1))], [.int (qz 1)], _, 0, 0)
              refine qr_if_eq 59 15 rfl rfl rfl (by decide) (fun h => absurd h (by decide)) (fun _ => ?_)
              refine qr_iload_n 16 rfl rfl rfl ?_
              refine qr_sipush 19 rfl (by decide) rfl ?_
              refine qr_irem 20 rfl (by omega) (by omega) rfl ?_
              refine qy_call 23 rfl rfl rfl ?_
              refine qr_start (d := d + 1) qv_e192 (Nat.le_of_ble_eq_true rfl) ?_
              show qr_W (qe L xs vb) (d + 1) qx_e192 _ (0, [(0, .int (qz (x1 % 10000)))], [], _, 0, 0)
              refine qr_iload_n 1 rfl rfl rfl ?_
              refine qr_i2l 2 rfl (by omega) rfl ?_
              refine qr_lconst 3 rfl rfl ?_
              refine qy_vl 0 rfl ?_
              refine qr_ldc2 2399 6 rfl (by decide) rfl ?_
              refine qy_call 9 rfl rfl rfl ?_
              refine qr_start (d := d + 0) qv_e176 (Nat.le_of_ble_eq_true rfl) ?_
              show qr_W (qe L xs vb) (d + 0) qx_e176 _ (0, [(0, .long (ql (x1 % 10000))), (2, .long (ql 0)), (4, .long (ql 2399))], [], _, 0, 0)
              refine qr_lload_n 1 rfl rfl rfl ?_
              refine qr_lload_n 2 rfl rfl rfl ?_
              refine qr_lc_lt 17 6 rfl rfl rfl rfl (by omega) (by decide) (fun h => False.elim (by omega)) (fun h32 => ?_)
              refine qr_lload_n 7 rfl rfl rfl ?_
              refine qr_lload 9 rfl rfl rfl ?_
              refine qr_lc_gt 17 13 rfl rfl rfl rfl (by omega) (by decide) (fun h => False.elim (by omega)) (fun h33 => ?_)
              refine qr_iconst 14 rfl rfl ?_
              refine qr_goto 18 rfl rfl ?_
              refine qr_retZ rfl rfl (by omega) (by decide) (by decide) ?_
              show qr_W (qe L xs vb) (d + 1) qx_e192 _ (9, [(0, .int (qz (x1 % 10000)))], [.int (qz 1)], _, 0, 0)
              refine qr_retZ rfl rfl (by omega) (by decide) (by decide) ?_
              show qr_W (qe L xs vb) (d + 2) qx_e230 _ (23, [(0, .int (qz x1))], [.int (qz 1)], _, 0, 0)
              refine qr_if_eq 59 26 rfl rfl rfl (by decide) (fun h => absurd h (by decide)) (fun _ => ?_)
              refine qr_iload_n 27 rfl rfl rfl ?_
              refine qr_sipush 30 rfl (by decide) rfl ?_
              refine qr_idiv 31 rfl (by omega) (by omega) rfl ?_
              refine qr_iload_n 32 rfl rfl rfl ?_
              refine qr_sipush 35 rfl (by decide) rfl ?_
              refine qr_irem 36 rfl (by omega) (by omega) rfl ?_
              refine qr_icmp_gt 59 39 rfl rfl rfl (by omega) (by omega) (fun h34 => ?_) (fun h => False.elim (by omega))
              refine qr_iconst 60 rfl rfl ?_
              refine qr_retZ rfl rfl (by omega) (by decide) (by decide) ?_
              show qr_W (qe L xs vb) (d + 3) qx_e239 _ (4, [(0, .ref 86), (1, .long (ql 0)), (3, .int (qz x1)), (4, .int (qz x2))], [.int (qz 0)], _, 0, 0)
              refine qr_if_eq 28 7 rfl rfl rfl (by decide) (fun _ => ?_) (fun h => absurd h (by decide))
              refine qr_ldc2 (-1) 31 rfl (by decide) rfl ?_
              refine qr_retL rfl rfl (by decide) (by decide) ?_
              exact rfl
        · skip
          refine qr_iload_n 18 rfl rfl rfl ?_
          refine qr_sipush 21 rfl (by decide) rfl ?_
          refine qr_irem 22 rfl (by omega) (by omega) rfl ?_
          refine qy_call 25 rfl rfl rfl ?_
          refine qr_start (d := d + 0) qv_e62 (Nat.le_of_ble_eq_true rfl) ?_
          show qr_W (qe L xs vb) (d + 0) qx_e62 _ (0, [(0, .int (qz (x1 % 10000)))], [], _, 0, 0)
          refine qr_iload_n 1 rfl rfl rfl ?_
          refine qr_if_lt 15 4 rfl rfl rfl (by omega) (fun h => False.elim (by omega)) (fun h35 => ?_)
          refine qr_iload_n 5 rfl rfl rfl ?_
          refine qr_sipush 8 rfl (by decide) rfl ?_
          refine qr_icmp_gt 15 11 rfl rfl rfl (by omega) (by decide) (fun h36 => ?_) (fun h36 => ?_)
          · skip
            refine qr_iconst 16 rfl rfl ?_
            refine qr_retZ rfl rfl (by omega) (by decide) (by decide) ?_
            show qr_W (qe L xs vb) (d + 1) qx_e70 _ (25, [(0, .int (qz x1))], [.int (qz 0)], _, 0, 0)
            refine qr_if_eq 32 28 rfl rfl rfl (by decide) (fun _ => ?_) (fun h => absurd h (by decide))
            refine qr_iconst 33 rfl rfl ?_
            refine qr_retZ rfl rfl (by omega) (by decide) (by decide) ?_
            show qr_W (qe L xs vb) (d + 2) qx_e100 _ (4, [(0, .int (qz x1))], [.int (qz 0)], _, 0, 0)
            refine qr_if_eq 27 7 rfl rfl rfl (by decide) (fun _ => ?_) (fun h => absurd h (by decide))
            refine qr_iconst 28 rfl rfl ?_
            refine qr_retZ rfl rfl (by omega) (by decide) (by decide) ?_
            show qr_W (qe L xs vb) (d + 3) qx_e120 _ (15, [(0, .ref 16), (1, .long (ql 0)), (3, .int (qz x1)), (4, .int (qz x2))], [.int (qz 0)], _, 0, 0)
            refine qr_if_eq 26 18 rfl rfl rfl (by decide) (fun _ => ?_) (fun h => absurd h (by decide))
            refine qr_ldc2 (-1) 29 rfl (by decide) rfl ?_
            refine qr_retL rfl rfl (by decide) (by decide) ?_
            refine ⟨⟨_, rfl⟩, ⟨_, _, _, _, rfl⟩, ?_⟩
            refine qr_start (d := d + 3) qv_e239 (Nat.le_of_ble_eq_true rfl) ?_
            show qr_W (qe L xs vb) (d + 3) qx_e239 _ (0, [(0, .ref 86), (1, .long (ql 0)), (3, .int (qz x1)), (4, .int (qz x2))], [], _, 0, 0)
            refine qr_iload_n 1 rfl rfl rfl ?_
            refine qy_call 4 rfl rfl rfl ?_
            refine qr_start (d := d + 2) qv_e230 (Nat.le_of_ble_eq_true rfl) ?_
            show qr_W (qe L xs vb) (d + 2) qx_e230 _ (0, [(0, .int (qz x1))], [], _, 0, 0)
            refine qr_iload_n 1 rfl rfl rfl ?_
            refine qr_if_lt 59 4 rfl rfl rfl (by omega) (fun h => False.elim (by omega)) (fun h37 => ?_)
            refine qr_iload_n 5 rfl rfl rfl ?_
            refine qr_sipush 8 rfl (by decide) rfl ?_
            refine qr_idiv 9 rfl (by omega) (by omega) rfl ?_
            refine qy_call 12 rfl rfl rfl ?_
            refine qr_start (d := d + 1) qv_e192 (Nat.le_of_ble_eq_true rfl) ?_
            show qr_W (qe L xs vb) (d + 1) qx_e192 _ (0, [(0, .int (qz (x1 / 10000)))], [], _, 0, 0)
            refine qr_iload_n 1 rfl rfl rfl ?_
            refine qr_i2l 2 rfl (by omega) rfl ?_
            as_aux_lemma =>
              refine qr_lconst 3 rfl rfl ?_
              refine qy_vl 0 rfl ?_
              refine qr_ldc2 2399 6 rfl (by decide) rfl ?_
              refine qy_call 9 rfl rfl rfl ?_
              refine qr_start (d := d + 0) qv_e176 (Nat.le_of_ble_eq_true rfl) ?_
              show qr_W (qe L xs vb) (d + 0) qx_e176 _ (0, [(0, .long (ql (x1 / 10000))), (2, .long (ql 0)), (4, .long (ql 2399))], [], _, 0, 0)
              refine qr_lload_n 1 rfl rfl rfl ?_
              refine qr_lload_n 2 rfl rfl rfl ?_
              refine qr_lc_lt 17 6 rfl rfl rfl rfl (by omega) (by decide) (fun h => False.elim (by omega)) (fun h38 => ?_)
              refine qr_lload_n 7 rfl rfl rfl ?_
              refine qr_lload 9 rfl rfl rfl ?_
              refine qr_lc_gt 17 13 rfl rfl rfl rfl (by omega) (by decide) (fun h39 => ?_) (fun h39 => ?_)
              · skip
                refine qr_iconst 18 rfl rfl ?_
                refine qr_retZ rfl rfl (by omega) (by decide) (by decide) ?_
                show qr_W (qe L xs vb) (d + 1) qx_e192 _ (9, [(0, .int (qz (x1 / 10000)))], [.int (qz 0)], _, 0, 0)
                refine qr_retZ rfl rfl (by omega) (by decide) (by decide) ?_
                show qr_W (qe L xs vb) (d + 2) qx_e230 _ (12, [(0, .int (qz x1))], [.int (qz 0)], _, 0, 0)
                refine qr_if_eq 59 15 rfl rfl rfl (by decide) (fun _ => ?_) (fun h => absurd h (by decide))
                refine qr_iconst 60 rfl rfl ?_
                refine qr_retZ rfl rfl (by omega) (by decide) (by decide) ?_
                show qr_W (qe L xs vb) (d + 3) qx_e239 _ (4, [(0, .ref 86), (1, .long (ql 0)), (3, .int (qz x1)), (4, .int (qz x2))], [.int (qz 0)], _, 0, 0)
                refine qr_if_eq 28 7 rfl rfl rfl (by decide) (fun _ => ?_) (fun h => absurd h (by decide))
                refine qr_ldc2 (-1) 31 rfl (by decide) rfl ?_
                refine qr_retL rfl rfl (by decide) (by decide) ?_
                exact rfl
              · skip
                refine qr_iconst 14 rfl rfl ?_
                refine qr_goto 18 rfl rfl ?_
                refine qr_retZ rfl rfl (by omega) (by decide) (by decide) ?_
                show qr_W (qe L xs vb) (d + 1) qx_e192 _ (9, [(0, .int (qz (x1 / 10000)))], [.int (qz 1)], _, 0, 0)
                refine qr_retZ rfl rfl (by omega) (by decide) (by decide) ?_
                show qr_W (qe L xs vb) (d + 2) qx_e230 _ (12, [(0, .int (qz x1))], [.int (qz 1)], _, 0, 0)
                refine qr_if_eq 59 15 rfl rfl rfl (by decide) (fun h => absurd h (by decide)) (fun _ => ?_)
                refine qr_iload_n 16 rfl rfl rfl ?_
                refine qr_sipush 19 rfl (by decide) rfl ?_
                refine qr_irem 20 rfl (by omega) (by omega) rfl ?_
                refine qy_call 23 rfl rfl rfl ?_
                refine qr_start (d := d + 1) qv_e192 (Nat.le_of_ble_eq_true rfl) ?_
                show qr_W (qe L xs vb) (d + 1) qx_e192 _ (0, [(0, .int (qz (x1 % 10000)))], [], _, 0, 0)
                refine qr_iload_n 1 rfl rfl rfl ?_
                refine qr_i2l 2 rfl (by omega) rfl ?_
                refine qr_lconst 3 rfl rfl ?_
                refine qy_vl 0 rfl ?_
                refine qr_ldc2 2399 6 rfl (by decide) rfl ?_
                refine qy_call 9 rfl rfl rfl ?_
                refine qr_start (d := d + 0) qv_e176 (Nat.le_of_ble_eq_true rfl) ?_
                show qr_W (qe L xs vb) (d + 0) qx_e176 _ (0, [(0, .long (ql (x1 % 10000))), (2, .long (ql 0)), (4, .long (ql 2399))], [], _, 0, 0)
                refine qr_lload_n 1 rfl rfl rfl ?_
                refine qr_lload_n 2 rfl rfl rfl ?_
                refine qr_lc_lt 17 6 rfl rfl rfl rfl (by omega) (by decide) (fun h => False.elim (by omega)) (fun h40 => ?_)
                refine qr_lload_n 7 rfl rfl rfl ?_
                refine qr_lload 9 rfl rfl rfl ?_
                refine qr_lc_gt 17 13 rfl rfl rfl rfl (by omega) (by decide) (fun h41 => ?_) (fun h => False.elim (by omega))
                refine qr_iconst 18 rfl rfl ?_
                refine qr_retZ rfl rfl (by omega) (by decide) (by decide) ?_
                show qr_W (qe L xs vb) (d + 1) qx_e192 _ (9, [(0, .int (qz (x1 % 10000)))], [.int (qz 0)], _, 0, 0)
                refine qr_retZ rfl rfl (by omega) (by decide) (by decide) ?_
                show qr_W (qe L xs vb) (d + 2) qx_e230 _ (23, [(0, .int (qz x1))], [.int (qz 0)], _, 0, 0)
                refine qr_if_eq 59 26 rfl rfl rfl (by decide) (fun _ => ?_) (fun h => absurd h (by decide))
                refine qr_iconst 60 rfl rfl ?_
                refine qr_retZ rfl rfl (by omega) (by decide) (by decide) ?_
                show qr_W (qe L xs vb) (d + 3) qx_e239 _ (4, [(0, .ref 86), (1, .long (ql 0)), (3, .int (qz x1)), (4, .int (qz x2))], [.int (qz 0)], _, 0, 0)
                refine qr_if_eq 28 7 rfl rfl rfl (by decide) (fun _ => ?_) (fun h => absurd h (by decide))
                refine qr_ldc2 (-1) 31 rfl (by decide) rfl ?_
                refine qr_retL rfl rfl (by decide) (by decide) ?_
                exact rfl
          · skip
            refine qr_iconst 12 rfl rfl ?_
            refine qr_goto 16 rfl rfl ?_
            refine qr_retZ rfl rfl (by omega) (by decide) (by decide) ?_
            show qr_W (qe L xs vb) (d + 1) qx_e70 _ (25, [(0, .int (qz x1))], [.int (qz 1)], _, 0, 0)
            refine qr_if_eq 32 28 rfl rfl rfl (by decide) (fun h => absurd h (by decide)) (fun _ => ?_)
            refine qr_iconst 29 rfl rfl ?_
            refine qr_goto 33 rfl rfl ?_
            refine qr_retZ rfl rfl (by omega) (by decide) (by decide) ?_
            show qr_W (qe L xs vb) (d + 2) qx_e100 _ (4, [(0, .int (qz x1))], [.int (qz 1)], _, 0, 0)
            refine qr_if_eq 27 7 rfl rfl rfl (by decide) (fun h => absurd h (by decide)) (fun _ => ?_)
            refine qr_iload_n 8 rfl rfl rfl ?_
            refine qr_sipush 11 rfl (by decide) rfl ?_
            refine qr_irem 12 rfl (by omega) (by omega) rfl ?_
            refine qr_iload_n 13 rfl rfl rfl ?_
            refine qr_sipush 16 rfl (by decide) rfl ?_
            refine qr_idiv 17 rfl (by omega) (by omega) rfl ?_
            refine qr_isub 18 rfl rfl ?_
            refine qr_bipush 20 rfl (by decide) rfl ?_
            refine qr_icmp_ge 27 23 rfl rfl rfl (by omega) (by decide) (fun h42 => ?_) (fun h42 => ?_)
            · skip
              refine qr_iconst 28 rfl rfl ?_
              refine qr_retZ rfl rfl (by omega) (by decide) (by decide) ?_
              show qr_W (qe L xs vb) (d + 3) qx_e120 _ (15, [(0, .ref 16), (1, .long (ql 0)), (3, .int (qz x1)), (4, .int (qz x2))], [.int (qz 0)], _, 0, 0)
              refine qr_if_eq 26 18 rfl rfl rfl (by decide) (fun _ => ?_) (fun h => absurd h (by decide))
              refine qr_ldc2 (-1) 29 rfl (by decide) rfl ?_
              as_aux_lemma =>
                refine qr_retL rfl rfl (by decide) (by decide) ?_
                refine ⟨⟨_, rfl⟩, ⟨_, _, _, _, rfl⟩, ?_⟩
                refine qr_start (d := d + 3) qv_e239 (Nat.le_of_ble_eq_true rfl) ?_
                show qr_W (qe L xs vb) (d + 3) qx_e239 _ (0, [(0, .ref 86), (1, .long (ql 0)), (3, .int (qz x1)), (4, .int (qz x2))], [], _, 0, 0)
                refine qr_iload_n 1 rfl rfl rfl ?_
                refine qy_call 4 rfl rfl rfl ?_
                refine qr_start (d := d + 2) qv_e230 (Nat.le_of_ble_eq_true rfl) ?_
                show qr_W (qe L xs vb) (d + 2) qx_e230 _ (0, [(0, .int (qz x1))], [], _, 0, 0)
                refine qr_iload_n 1 rfl rfl rfl ?_
                refine qr_if_lt 59 4 rfl rfl rfl (by omega) (fun h => False.elim (by omega)) (fun h43 => ?_)
                refine qr_iload_n 5 rfl rfl rfl ?_
                refine qr_sipush 8 rfl (by decide) rfl ?_
                refine qr_idiv 9 rfl (by omega) (by omega) rfl ?_
                refine qy_call 12 rfl rfl rfl ?_
                refine qr_start (d := d + 1) qv_e192 (Nat.le_of_ble_eq_true rfl) ?_
                show qr_W (qe L xs vb) (d + 1) qx_e192 _ (0, [(0, .int (qz (x1 / 10000)))], [], _, 0, 0)
                refine qr_iload_n 1 rfl rfl rfl ?_
                refine qr_i2l 2 rfl (by omega) rfl ?_
                refine qr_lconst 3 rfl rfl ?_
                refine qy_vl 0 rfl ?_
                refine qr_ldc2 2399 6 rfl (by decide) rfl ?_
                refine qy_call 9 rfl rfl rfl ?_
                refine qr_start (d := d + 0) qv_e176 (Nat.le_of_ble_eq_true rfl) ?_
                show qr_W (qe L xs vb) (d + 0) qx_e176 _ (0, [(0, .long (ql (x1 / 10000))), (2, .long (ql 0)), (4, .long (ql 2399))], [], _, 0, 0)
                refine qr_lload_n 1 rfl rfl rfl ?_
                refine qr_lload_n 2 rfl rfl rfl ?_
                refine qr_lc_lt 17 6 rfl rfl rfl rfl (by omega) (by decide) (fun h => False.elim (by omega)) (fun h44 => ?_)
                refine qr_lload_n 7 rfl rfl rfl ?_
                refine qr_lload 9 rfl rfl rfl ?_
                refine qr_lc_gt 17 13 rfl rfl rfl rfl (by omega) (by decide) (fun h => False.elim (by omega)) (fun h45 => ?_)
                refine qr_iconst 14 rfl rfl ?_
                refine qr_goto 18 rfl rfl ?_
                refine qr_retZ rfl rfl (by omega) (by decide) (by decide) ?_
                show qr_W (qe L xs vb) (d + 1) qx_e192 _ (9, [(0, .int (qz (x1 / 10000)))], [.int (qz 1)], _, 0, 0)
                refine qr_retZ rfl rfl (by omega) (by decide) (by decide) ?_
                show qr_W (qe L xs vb) (d + 2) qx_e230 _ (12, [(0, .int (qz x1))], [.int (qz 1)], _, 0, 0)
                refine qr_if_eq 59 15 rfl rfl rfl (by decide) (fun h => absurd h (by decide)) (fun _ => ?_)
                refine qr_iload_n 16 rfl rfl rfl ?_
                refine qr_sipush 19 rfl (by decide) rfl ?_
                refine qr_irem 20 rfl (by omega) (by omega) rfl ?_
                refine qy_call 23 rfl rfl rfl ?_
                refine qr_start (d := d + 1) qv_e192 (Nat.le_of_ble_eq_true rfl) ?_
                show qr_W (qe L xs vb) (d + 1) qx_e192 _ (0, [(0, .int (qz (x1 % 10000)))], [], _, 0, 0)
                refine qr_iload_n 1 rfl rfl rfl ?_
                refine qr_i2l 2 rfl (by omega) rfl ?_
                refine qr_lconst 3 rfl rfl ?_
                refine qy_vl 0 rfl ?_
                refine qr_ldc2 2399 6 rfl (by decide) rfl ?_
                refine qy_call 9 rfl rfl rfl ?_
                refine qr_start (d := d + 0) qv_e176 (Nat.le_of_ble_eq_true rfl) ?_
                show qr_W (qe L xs vb) (d + 0) qx_e176 _ (0, [(0, .long (ql (x1 % 10000))), (2, .long (ql 0)), (4, .long (ql 2399))], [], _, 0, 0)
                refine qr_lload_n 1 rfl rfl rfl ?_
                refine qr_lload_n 2 rfl rfl rfl ?_
                refine qr_lc_lt 17 6 rfl rfl rfl rfl (by omega) (by decide) (fun h => False.elim (by omega)) (fun h46 => ?_)
                refine qr_lload_n 7 rfl rfl rfl ?_
                refine qr_lload 9 rfl rfl rfl ?_
                refine qr_lc_gt 17 13 rfl rfl rfl rfl (by omega) (by decide) (fun h => False.elim (by omega)) (fun h47 => ?_)
                refine qr_iconst 14 rfl rfl ?_
                refine qr_goto 18 rfl rfl ?_
                refine qr_retZ rfl rfl (by omega) (by decide) (by decide) ?_
                show qr_W (qe L xs vb) (d + 1) qx_e192 _ (9, [(0, .int (qz (x1 % 10000)))], [.int (qz 1)], _, 0, 0)
                refine qr_retZ rfl rfl (by omega) (by decide) (by decide) ?_
                show qr_W (qe L xs vb) (d + 2) qx_e230 _ (23, [(0, .int (qz x1))], [.int (qz 1)], _, 0, 0)
                refine qr_if_eq 59 26 rfl rfl rfl (by decide) (fun h => absurd h (by decide)) (fun _ => ?_)
                refine qr_iload_n 27 rfl rfl rfl ?_
                refine qr_sipush 30 rfl (by decide) rfl ?_
                refine qr_idiv 31 rfl (by omega) (by omega) rfl ?_
                refine qr_iload_n 32 rfl rfl rfl ?_
                refine qr_sipush 35 rfl (by decide) rfl ?_
                refine qr_irem 36 rfl (by omega) (by omega) rfl ?_
                refine qr_icmp_gt 59 39 rfl rfl rfl (by omega) (by omega) (fun h => False.elim (by omega)) (fun h48 => ?_)
                refine qr_iload_n 40 rfl rfl rfl ?_
                refine qr_sipush 43 rfl (by decide) rfl ?_
                refine qr_irem 44 rfl (by omega) (by omega) rfl ?_
                refine qr_iload_n 45 rfl rfl rfl ?_
                refine qr_sipush 48 rfl (by decide) rfl ?_
                refine qr_idiv 49 rfl (by omega) (by omega) rfl ?_
                refine qr_isub 50 rfl rfl ?_
                refine qr_bipush 52 rfl (by decide) rfl ?_
                refine qr_icmp_ge 59 55 rfl rfl rfl (by omega) (by decide) (fun h49 => ?_) (fun h => False.elim (by omega))
                as_aux_lemma =>
                  refine qr_iconst 60 rfl rfl ?_
                  refine qr_retZ rfl rfl (by omega) (by decide) (by decide) ?_
                  show qr_W (qe L xs vb) (d + 3) qx_e239 _ (4, [(0, .ref 86), (1, .long (ql 0)), (3, .int (qz x1)), (4, .int (qz x2))], [.int (qz 0)], _, 0, 0)
                  refine qr_if_eq 28 7 rfl rfl rfl (by decide) (fun _ => ?_) (fun h => absurd h (by decide))
                  refine qr_ldc2 (-1) 31 rfl (by decide) rfl ?_
                  refine qr_retL rfl rfl (by decide) (by decide) ?_
                  exact rfl
            · skip
              refine qr_iconst 24 rfl rfl ?_
              refine qr_goto 28 rfl rfl ?_
              refine qr_retZ rfl rfl (by omega) (by decide) (by decide) ?_
              show qr_W (qe L xs vb) (d + 3) qx_e120 _ (15, [(0, .ref 16), (1, .long (ql 0)), (3, .int (qz x1)), (4, .int (qz x2))], [.int (qz 1)], _, 0, 0)
              refine qr_if_eq 26 18 rfl rfl rfl (by decide) (fun h => absurd h (by decide)) (fun _ => ?_)
              as_aux_lemma =>
                refine qr_iload 20 rfl rfl rfl ?_
                refine qy_call 23 rfl rfl rfl ?_
                refine qr_start (d := d + 2) qv_e41 (Nat.le_of_ble_eq_true rfl) ?_
                show qr_W (qe L xs vb) (d + 2) qx_e41 _ (0, [(0, .int (qz x2))], [], _, 0, 0)
                refine qr_iload_n 1 rfl rfl rfl ?_
                refine qr_if_eq 9 4 rfl rfl rfl (by omega) (fun h50 => ?_) (fun h50 => ?_)
                · skip
                  subst h50
                  refine qr_iconst 10 rfl rfl ?_
                  refine qr_goto 14 rfl rfl ?_
                  refine qr_retZ rfl rfl (by omega) (by decide) (by decide) ?_
                  show qr_W (qe L xs vb) (d + 3) qx_e120 _ (23, [(0, .ref 16), (1, .long (ql 0)), (3, .int (qz x1)), (4, .int (qz 0))], [.int (qz 1)], _, 0, 0)
                  refine qr_if_ne 30 26 rfl rfl rfl (by decide) (fun _ => ?_) (fun h => absurd h (by decide))
                  refine qr_lload_n 31 rfl rfl rfl ?_
                  refine qr_aload_n 32 rfl rfl rfl ?_
                  refine qr_get 35 rfl rfl rfl (by decide) rfl ?_
                  refine qr_get 38 rfl rfl rfl (by decide) rfl ?_
                  refine qy_vl 0 rfl ?_
                  refine qr_ldc2 (-1) 41 rfl (by decide) rfl ?_
                  refine qr_lxor 42 rfl rfl ?_
                  refine qy_vl (-1) rfl ?_
                  refine qr_land 43 rfl rfl ?_
                  refine qy_vl 0 rfl ?_
                  refine qr_lstore [(5, .long (ql 0)), (0, .ref 16), (1, .long (ql 0)), (3, .int (qz x1)), (4, .int (qz 0))] 45 rfl (by decide) rfl rfl ?_
                  refine qr_lload 47 rfl rfl rfl ?_
                  refine qr_bipush 49 rfl (by decide) rfl ?_
                  refine qy_call 52 rfl rfl rfl ?_
                  refine qr_start (d := d + 2) qv_e109 (Nat.le_of_ble_eq_true rfl) ?_
                  show qr_W (qe L xs vb) (d + 2) qx_e109 _ (0, [(0, .long (ql 0)), (2, .int (qz 12))], [], _, 0, 0)
                  refine qr_lload_n 1 rfl rfl rfl ?_
                  refine qr_lconst 2 rfl rfl ?_
                  refine qy_vl 0 rfl ?_
                  refine qr_lc_eq 18 6 rfl rfl rfl rfl (by decide) (by decide) (fun _ => ?_) (fun h => absurd h (by decide))
                  refine qr_iconst 19 rfl rfl ?_
                  refine qr_retZ rfl rfl (by omega) (by decide) (by decide) ?_
                  show qr_W (qe L xs vb) (d + 3) qx_e120 _ (52, [(5, .long (ql 0)), (0, .ref 16), (1, .long (ql 0)), (3, .int (qz x1)), (4, .int (qz 0))], [.int (qz 0)], _, 0, 0)
                  refine qr_if_ne 59 55 rfl rfl rfl (by decide) (fun h => absurd h (by decide)) (fun _ => ?_)
                  refine qr_ldc2 (-1) 58 rfl (by decide) rfl ?_
                  refine qr_retL rfl rfl (by decide) (by decide) ?_
                  refine ⟨⟨_, rfl⟩, ⟨_, _, _, _, rfl⟩, ?_⟩
                  refine qr_start (d := d + 3) qv_e239 (Nat.le_of_ble_eq_true rfl) ?_
                  show qr_W (qe L xs vb) (d + 3) qx_e239 _ (0, [(0, .ref 86), (1, .long (ql 0)), (3, .int (qz x1)), (4, .int (qz 0))], [], _, 0, 0)
                  refine qr_iload_n 1 rfl rfl rfl ?_
                  refine qy_call 4 rfl rfl rfl ?_
                  refine qr_start (d := d + 2) qv_e230 (Nat.le_of_ble_eq_true rfl) ?_
                  show qr_W (qe L xs vb) (d + 2) qx_e230 _ (0, [(0, .int (qz x1))], [], _, 0, 0)
                  refine qr_iload_n 1 rfl rfl rfl ?_
                  refine qr_if_lt 59 4 rfl rfl rfl (by omega) (fun h => False.elim (by omega)) (fun h51 => ?_)
                  refine qr_iload_n 5 rfl rfl rfl ?_
                  refine qr_sipush 8 rfl (by decide) rfl ?_
                  refine qr_idiv 9 rfl (by omega) (by omega) rfl ?_
                  refine qy_call 12 rfl rfl rfl ?_
                  refine qr_start (d := d + 1) qv_e192 (Nat.le_of_ble_eq_true rfl) ?_
                  show qr_W (qe L xs vb) (d + 1) qx_e192 _ (0, [(0, .int (qz (x1 / 10000)))], [], _, 0, 0)
                  refine qr_iload_n 1 rfl rfl rfl ?_
                  refine qr_i2l 2 rfl (by omega) rfl ?_
                  refine qr_lconst 3 rfl rfl ?_
                  refine qy_vl 0 rfl ?_
                  refine qr_ldc2 2399 6 rfl (by decide) rfl ?_
                  refine qy_call 9 rfl rfl rfl ?_
                  refine qr_start (d := d + 0) qv_e176 (Nat.le_of_ble_eq_true rfl) ?_
                  show qr_W (qe L xs vb) (d + 0) qx_e176 _ (0, [(0, .long (ql (x1 / 10000))), (2, .long (ql 0)), (4, .long (ql 2399))], [], _, 0, 0)
                  refine qr_lload_n 1 rfl rfl rfl ?_
                  refine qr_lload_n 2 rfl rfl rfl ?_
                  refine qr_lc_lt 17 6 rfl rfl rfl rfl (by omega) (by decide) (fun h => False.elim (by omega)) (fun h52 => ?_)
                  refine qr_lload_n 7 rfl rfl rfl ?_
                  refine qr_lload 9 rfl rfl rfl ?_
                  refine qr_lc_gt 17 13 rfl rfl rfl rfl (by omega) (by decide) (fun h => False.elim (by omega)) (fun h53 => ?_)
                  refine qr_iconst 14 rfl rfl ?_
                  refine qr_goto 18 rfl rfl ?_
                  refine qr_retZ rfl rfl (by omega) (by decide) (by decide) ?_
                  show qr_W (qe L xs vb) (d + 1) qx_e192 _ (9, [(0, .int (qz (x1 / 10000)))], [.int (qz 1)], _, 0, 0)
                  refine qr_retZ rfl rfl (by omega) (by decide) (by decide) ?_
                  show qr_W (qe L xs vb) (d + 2) qx_e230 _ (12, [(0, .int (qz x1))], [.int (qz 1)], _, 0, 0)
                  refine qr_if_eq 59 15 rfl rfl rfl (by decide) (fun h => absurd h (by decide)) (fun _ => ?_)
                  refine qr_iload_n 16 rfl rfl rfl ?_
                  refine qr_sipush 19 rfl (by decide) rfl ?_
                  refine qr_irem 20 rfl (by omega) (by omega) rfl ?_
                  refine qy_call 23 rfl rfl rfl ?_
                  refine qr_start (d := d + 1) qv_e192 (Nat.le_of_ble_eq_true rfl) ?_
                  show qr_W (qe L xs vb) (d + 1) qx_e192 _ (0, [(0, .int (qz (x1 % 10000)))], [], _, 0, 0)
                  refine qr_iload_n 1 rfl rfl rfl ?_
                  refine qr_i2l 2 rfl (by omega) rfl ?_
                  refine qr_lconst 3 rfl rfl ?_
                  refine qy_vl 0 rfl ?_
                  refine qr_ldc2 2399 6 rfl (by decide) rfl ?_
                  refine qy_call 9 rfl rfl rfl ?_
                  refine qr_start (d := d + 0) qv_e176 (Nat.le_of_ble_eq_true rfl) ?_
                  show qr_W (qe L xs vb) (d + 0) qx_e176 _ (0, [(0, .long (ql (x1 % 10000))), (2, .long (ql 0)), (4, .long (ql 2399))], [], _, 0, 0)
                  refine qr_lload_n 1 rfl rfl rfl ?_
                  as_aux_lemma =>
                    refine qr_lload_n 2 rfl rfl rfl ?_
                    refine qr_lc_lt 17 6 rfl rfl rfl rfl (by omega) (by decide) (fun h => False.elim (by omega)) (fun h54 => ?_)
                    refine qr_lload_n 7 rfl rfl rfl ?_
                    refine qr_lload 9 rfl rfl rfl ?_
                    refine qr_lc_gt 17 13 rfl rfl rfl rfl (by omega) (by decide) (fun h => False.elim (by omega)) (fun h55 => ?_)
                    refine qr_iconst 14 rfl rfl ?_
                    refine qr_goto 18 rfl rfl ?_
                    refine qr_retZ rfl rfl (by omega) (by decide) (by decide) ?_
                    show qr_W (qe L xs vb) (d + 1) qx_e192 _ (9, [(0, .int (qz (x1 % 10000)))], [.int (qz 1)], _, 0, 0)
                    refine qr_retZ rfl rfl (by omega) (by decide) (by decide) ?_
                    show qr_W (qe L xs vb) (d + 2) qx_e230 _ (23, [(0, .int (qz x1))], [.int (qz 1)], _, 0, 0)
                    refine qr_if_eq 59 26 rfl rfl rfl (by decide) (fun h => absurd h (by decide)) (fun _ => ?_)
                    refine qr_iload_n 27 rfl rfl rfl ?_
                    refine qr_sipush 30 rfl (by decide) rfl ?_
                    refine qr_idiv 31 rfl (by omega) (by omega) rfl ?_
                    refine qr_iload_n 32 rfl rfl rfl ?_
                    refine qr_sipush 35 rfl (by decide) rfl ?_
                    refine qr_irem 36 rfl (by omega) (by omega) rfl ?_
                    refine qr_icmp_gt 59 39 rfl rfl rfl (by omega) (by omega) (fun h => False.elim (by omega)) (fun h56 => ?_)
                    refine qr_iload_n 40 rfl rfl rfl ?_
                    refine qr_sipush 43 rfl (by decide) rfl ?_
                    refine qr_irem 44 rfl (by omega) (by omega) rfl ?_
                    refine qr_iload_n 45 rfl rfl rfl ?_
                    refine qr_sipush 48 rfl (by decide) rfl ?_
                    refine qr_idiv 49 rfl (by omega) (by omega) rfl ?_
                    refine qr_isub 50 rfl rfl ?_
                    refine qr_bipush 52 rfl (by decide) rfl ?_
                    refine qr_icmp_ge 59 55 rfl rfl rfl (by omega) (by decide) (fun h => False.elim (by omega)) (fun h57 => ?_)
                    refine qr_iconst 56 rfl rfl ?_
                    refine qr_goto 60 rfl rfl ?_
                    refine qr_retZ rfl rfl (by omega) (by decide) (by decide) ?_
                    show qr_W (qe L xs vb) (d + 3) qx_e239 _ (4, [(0, .ref 86), (1, .long (ql 0)), (3, .int (qz x1)), (4, .int (qz 0))], [.int (qz 1)], _, 0, 0)
                    refine qr_if_eq 28 7 rfl rfl rfl (by decide) (fun h => absurd h (by decide)) (fun _ => ?_)
                    refine qr_iload 9 rfl rfl rfl ?_
                    refine qr_i2l 10 rfl (by omega) rfl ?_
                    refine qy_vl 0 rfl ?_
                    refine qr_lconst 11 rfl rfl ?_
                    refine qy_vl 0 rfl ?_
                    refine qr_lconst 12 rfl rfl ?_
                    refine qy_vl 1 rfl ?_
                    refine qy_call 15 rfl rfl rfl ?_
                    refine qr_start (d := d + 2) qv_e176 (Nat.le_of_ble_eq_true rfl) ?_
                    show qr_W (qe L xs vb) (d + 2) qx_e176 _ (0, [(0, .long (ql 0)), (2, .long (ql 0)), (4, .long (ql 1))], [], _, 0, 0)
                    refine qr_lload_n 1 rfl rfl rfl ?_
                    refine qr_lload_n 2 rfl rfl rfl ?_
                    refine qr_lc_lt 17 6 rfl rfl rfl rfl (by decide) (by decide) (fun h => absurd h (by decide)) (fun _ => ?_)
                    refine qr_lload_n 7 rfl rfl rfl ?_
                    refine qr_lload 9 rfl rfl rfl ?_
                    refine qr_lc_gt 17 13 rfl rfl rfl rfl (by decide) (by decide) (fun h => absurd h (by decide)) (fun _ => ?_)
                    refine qr_iconst 14 rfl rfl ?_
                    refine qr_goto 18 rfl rfl ?_
                    refine qr_retZ rfl rfl (by omega) (by decide) (by decide) ?_
                    show qr_W (qe L xs vb) (d + 3) qx_e239 _ (15, [(0, .ref 86), (1, .long (ql 0)), (3, .int (qz x1)), (4, .int (qz 0))], [.int (qz 1)], _, 0, 0)
                    refine qr_if_eq 28 18 rfl rfl rfl (by decide) (fun h => absurd h (by decide)) (fun _ => ?_)
                    refine qr_aload_n 19 rfl rfl rfl ?_
                    refine qr_lload_n 20 rfl rfl rfl ?_
                    refine qr_bipush 22 rfl (by decide) rfl ?_
                    refine qy_call 25 rfl rfl rfl ?_
                    refine qr_start (d := d + 2) qv_e234 (Nat.le_of_ble_eq_true rfl) ?_
                    show qr_W (qe L xs vb) (d + 2) qx_e234 _ (0, [(0, .ref 86), (1, .long (ql 0)), (3, .int (qz 12))], [], _, 0, 0)
                    refine qr_aload_n 1 rfl rfl rfl ?_
                    refine qr_iconst 2 rfl rfl ?_
                    refine qr_put 5 rfl (by decide) rfl (Nat.le_of_ble_eq_true rfl) (Nat.le_of_ble_eq_true rfl) (Or.inl rfl) (qr_fitI rfl _) rfl ?_
                    refine qy_wS (qw_s (qo_s s) 86 43 0) rfl (fun σ58 e58 => ?_)
                    refine qr_iconst 6 rfl rfl ?_
                    refine qr_istore [(4, .int (qz 0)), (0, .ref 86), (1, .long (ql 0)), (3, .int (qz 12))] 8 rfl (by decide) rfl rfl ?_
                    refine qr_iload 10 rfl rfl rfl ?_
                    refine qr_aload_n 11 rfl rfl rfl ?_
                    refine qr_get 14 rfl rfl rfl (by decide) rfl ?_
                    refine qy_v 0 (by subst_vars; rfl) ?_
                    refine qr_icmp_ge 70 17 rfl rfl rfl (by decide) (by decide) (fun _ => ?_) (fun h => absurd h (by decide))
                    refine qr_aload_n 71 rfl rfl rfl ?_
                    refine qr_lload_n 72 rfl rfl rfl ?_
                    refine qy_call 75 rfl rfl rfl ?_
                    refine qr_start (d := d + 1) qv_e225 (Nat.le_of_ble_eq_true rfl) ?_
                    show qr_W (qe L xs vb) (d + 1) qx_e225 _ (0, [(0, .ref 86), (1, .long (ql 0))], [], _, 0, 0)
                    as_aux_lemma =>
                      refine qr_lload_n 1 rfl rfl rfl ?_
                      refine qr_lconst 2 rfl rfl ?_
                      refine qy_vl 0 rfl ?_
                      refine qr_lc_lt 21 6 rfl rfl rfl rfl (by decide) (by decide) (fun h => absurd h (by decide)) (fun _ => ?_)
                      refine qr_lload_n 7 rfl rfl rfl ?_
                      refine qr_aload_n 8 rfl rfl rfl ?_
                      refine qr_get 11 rfl rfl rfl (by decide) rfl ?_
                      refine qy_v 0 (by subst_vars; rfl) ?_
                      refine qr_lshr 12 rfl rfl ?_
                      refine qy_vl 0 rfl ?_
                      refine qr_lconst 13 rfl rfl ?_
                      refine qy_vl 0 rfl ?_
                      refine qr_lc_ne 21 17 rfl rfl rfl rfl (by decide) (by decide) (fun h => absurd h (by decide)) (fun _ => ?_)
                      refine qr_iconst 18 rfl rfl ?_
                      refine qr_goto 22 rfl rfl ?_
                      refine qr_retZ rfl rfl (by omega) (by decide) (by decide) ?_
                      show qr_W (qe L xs vb) (d + 2) qx_e234 _ (75, [(4, .int (qz 0)), (0, .ref 86), (1, .long (ql 0)), (3, .int (qz 12))], [.int (qz 1)], _, 0, 0)
                      refine qr_if_eq 96 78 rfl rfl rfl (by decide) (fun h => absurd h (by decide)) (fun _ => ?_)
                      refine qr_aload_n 79 rfl rfl rfl ?_
                      refine qr_get 82 rfl rfl rfl (by decide) rfl ?_
                      refine qy_v 0 (by subst_vars; rfl) ?_
                      refine qr_i2l 83 rfl (by omega) rfl ?_
                      refine qy_vl 0 rfl ?_
                      refine qr_lconst 84 rfl rfl ?_
                      refine qy_vl 1 rfl ?_
                      refine qr_iload_n 85 rfl rfl rfl ?_
                      refine qr_i2l 86 rfl (by omega) rfl ?_
                      refine qy_vl 12 rfl ?_
                      refine qy_call 89 rfl rfl rfl ?_
                      refine qr_start (d := d + 1) qv_e176 (Nat.le_of_ble_eq_true rfl) ?_
                      show qr_W (qe L xs vb) (d + 1) qx_e176 _ (0, [(0, .long (ql 0)), (2, .long (ql 1)), (4, .long (ql 12))], [], _, 0, 0)
                      refine qr_lload_n 1 rfl rfl rfl ?_
                      refine qr_lload_n 2 rfl rfl rfl ?_
                      refine qr_lc_lt 17 6 rfl rfl rfl rfl (by decide) (by decide) (fun _ => ?_) (fun h => absurd h (by decide))
                      refine qr_iconst 18 rfl rfl ?_
                      refine qr_retZ rfl rfl (by omega) (by decide) (by decide) ?_
                      show qr_W (qe L xs vb) (d + 2) qx_e234 _ (89, [(4, .int (qz 0)), (0, .ref 86), (1, .long (ql 0)), (3, .int (qz 12))], [.int (qz 0)], _, 0, 0)
                      refine qr_if_eq 96 92 rfl rfl rfl (by decide) (fun _ => ?_) (fun h => absurd h (by decide))
                      refine qr_iconst 97 rfl rfl ?_
                      refine qr_retZ rfl rfl (by omega) (by decide) (by decide) ?_
                      show qr_W (qe L xs vb) (d + 3) qx_e239 _ (25, [(0, .ref 86), (1, .long (ql 0)), (3, .int (qz x1)), (4, .int (qz 0))], [.int (qz 0)], _, 0, 0)
                      refine qr_if_ne 32 28 rfl rfl rfl (by decide) (fun h => absurd h (by decide)) (fun _ => ?_)
                      refine qr_ldc2 (-1) 31 rfl (by decide) rfl ?_
                      refine qr_retL rfl rfl (by decide) (by decide) ?_
                      exact rfl
                · skip
                  refine qr_iload_n 5 rfl rfl rfl ?_
                  refine qr_iconst 6 rfl rfl ?_
                  refine qr_icmp_ne 13 9 rfl rfl rfl (by omega) (by decide) (fun h59 => ?_) (fun h59 => ?_)
                  · skip
                    refine qr_iconst 14 rfl rfl ?_
                    refine qr_retZ rfl rfl (by omega) (by decide) (by decide) ?_
                    show qr_W (qe L xs vb) (d + 3) qx_e120 _ (23, [(0, .ref 16), (1, .long (ql 0)), (3, .int (qz x1)), (4, .int (qz x2))], [.int (qz 0)], _, 0, 0)
                    refine qr_if_ne 30 26 rfl rfl rfl (by decide) (fun h => absurd h (by decide)) (fun _ => ?_)
                    refine qr_ldc2 (-1) 29 rfl (by decide) rfl ?_
                    refine qr_retL rfl rfl (by decide) (by decide) ?_
                    refine ⟨⟨_, rfl⟩, ⟨_, _, _, _, rfl⟩, ?_⟩
                    refine qr_start (d := d + 3) qv_e239 (Nat.le_of_ble_eq_true rfl) ?_
                    show qr_W (qe L xs vb) (d + 3) qx_e239 _ (0, [(0, .ref 86), (1, .long (ql 0)), (3, .int (qz x1)), (4, .int (qz x2))], [], _, 0, 0)
                    refine qr_iload_n 1 rfl rfl rfl ?_
                    refine qy_call 4 rfl rfl rfl ?_
                    refine qr_start (d := d + 2) qv_e230 (Nat.le_of_ble_eq_true rfl) ?_
                    show qr_W (qe L xs vb) (d + 2) qx_e230 _ (0, [(0, .int (qz x1))], [], _, 0, 0)
                    refine qr_iload_n 1 rfl rfl rfl ?_
                    refine qr_if_lt 59 4 rfl rfl rfl (by omega) (fun h => False.elim (by omega)) (fun h60 => ?_)
                    refine qr_iload_n 5 rfl rfl rfl ?_
                    refine qr_sipush 8 rfl (by decide) rfl ?_
                    refine qr_idiv 9 rfl (by omega) (by omega) rfl ?_
                    refine qy_call 12 rfl rfl rfl ?_
                    refine qr_start (d := d + 1) qv_e192 (Nat.le_of_ble_eq_true rfl) ?_
                    show qr_W (qe L xs vb) (d + 1) qx_e192 _ (0, [(0, .int (qz (x1 / 10000)))], [], _, 0, 0)
                    refine qr_iload_n 1 rfl rfl rfl ?_
                    refine qr_i2l 2 rfl (by omega) rfl ?_
                    refine qr_lconst 3 rfl rfl ?_
                    refine qy_vl 0 rfl ?_
                    refine qr_ldc2 2399 6 rfl (by decide) rfl ?_
                    refine qy_call 9 rfl rfl rfl ?_
                    refine qr_start (d := d + 0) qv_e176 (Nat.le_of_ble_eq_true rfl) ?_
                    show qr_W (qe L xs vb) (d + 0) qx_e176 _ (0, [(0, .long (ql (x1 / 10000))), (2, .long (ql 0)), (4, .long (ql 2399))], [], _, 0, 0)
                    refine qr_lload_n 1 rfl rfl rfl ?_
                    refine qr_lload_n 2 rfl rfl rfl ?_
                    refine qr_lc_lt 17 6 rfl rfl rfl rfl (by omega) (by decide) (fun h => False.elim (by omega)) (fun h61 => ?_)
                    refine qr_lload_n 7 rfl rfl rfl ?_
                    refine qr_lload 9 rfl rfl rfl ?_
                    refine qr_lc_gt 17 13 rfl rfl rfl rfl (by omega) (by decide) (fun h => False.elim (by omega)) (fun h62 => ?_)
                    refine qr_iconst 14 rfl rfl ?_
                    refine qr_goto 18 rfl rfl ?_
                    refine qr_retZ rfl rfl (by omega) (by decide) (by decide) ?_
                    show qr_W (qe L xs vb) (d + 1) qx_e192 _ (9, [(0, .int (qz (x1 / 10000)))], [.int (qz 1)], _, 0, 0)
                    refine qr_retZ rfl rfl (by omega) (by decide) (by decide) ?_
                    show qr_W (qe L xs vb) (d + 2) qx_e230 _ (12, [(0, .int (qz x1))], [.int (qz 1)], _, 0, 0)
                    refine qr_if_eq 59 15 rfl rfl rfl (by decide) (fun h => absurd h (by decide)) (fun _ => ?_)
                    refine qr_iload_n 16 rfl rfl rfl ?_
                    refine qr_sipush 19 rfl (by decide) rfl ?_
                    refine qr_irem 20 rfl (by omega) (by omega) rfl ?_
                    refine qy_call 23 rfl rfl rfl ?_
                    refine qr_start (d := d + 1) qv_e192 (Nat.le_of_ble_eq_true rfl) ?_
                    show qr_W (qe L xs vb) (d + 1) qx_e192 _ (0, [(0, .int (qz (x1 % 10000)))], [], _, 0, 0)
                    refine qr_iload_n 1 rfl rfl rfl ?_
                    refine qr_i2l 2 rfl (by omega) rfl ?_
                    refine qr_lconst 3 rfl rfl ?_
                    refine qy_vl 0 rfl ?_
                    refine qr_ldc2 2399 6 rfl (by decide) rfl ?_
                    refine qy_call 9 rfl rfl rfl ?_
                    refine qr_start (d := d + 0) qv_e176 (Nat.le_of_ble_eq_true rfl) ?_
                    show qr_W (qe L xs vb) (d + 0) qx_e176 _ (0, [(0, .long (ql (x1 % 10000))), (2, .long (ql 0)), (4, .long (ql 2399))], [], _, 0, 0)
                    refine qr_lload_n 1 rfl rfl rfl ?_
                    refine qr_lload_n 2 rfl rfl rfl ?_
                    refine qr_lc_lt 17 6 rfl rfl rfl rfl (by omega) (by decide) (fun h => False.elim (by omega)) (fun h63 => ?_)
                    refine qr_lload_n 7 rfl rfl rfl ?_
                    refine qr_lload 9 rfl rfl rfl ?_
                    refine qr_lc_gt 17 13 rfl rfl rfl rfl (by omega) (by decide) (fun h => False.elim (by omega)) (fun h64 => ?_)
                    refine qr_iconst 14 rfl rfl ?_
                    refine qr_goto 18 rfl rfl ?_
                    refine qr_retZ rfl rfl (by omega) (by decide) (by decide) ?_
                    show qr_W (qe L xs vb) (d + 1) qx_e192 _ (9, [(0, .int (qz (x1 % 10000)))], [.int (qz 1)], _, 0, 0)
                    refine qr_retZ rfl rfl (by omega) (by decide) (by decide) ?_
                    show qr_W (qe L xs vb) (d + 2) qx_e230 _ (23, [(0, .int (qz x1))], [.int (qz 1)], _, 0, 0)
                    refine qr_if_eq 59 26 rfl rfl rfl (by decide) (fun h => absurd h (by decide)) (fun _ => ?_)
                    refine qr_iload_n 27 rfl rfl rfl ?_
                    refine qr_sipush 30 rfl (by decide) rfl ?_
                    refine qr_idiv 31 rfl (by omega) (by omega) rfl ?_
                    refine qr_iload_n 32 rfl rfl rfl ?_
                    refine qr_sipush 35 rfl (by decide) rfl ?_
                    as_aux_lemma =>
                      refine qr_irem 36 rfl (by omega) (by omega) rfl ?_
                      refine qr_icmp_gt 59 39 rfl rfl rfl (by omega) (by omega) (fun h => False.elim (by omega)) (fun h65 => ?_)
                      refine qr_iload_n 40 rfl rfl rfl ?_
                      refine qr_sipush 43 rfl (by decide) rfl ?_
                      refine qr_irem 44 rfl (by omega) (by omega) rfl ?_
                      refine qr_iload_n 45 rfl rfl rfl ?_
                      refine qr_sipush 48 rfl (by decide) rfl ?_
                      refine qr_idiv 49 rfl (by omega) (by omega) rfl ?_
                      refine qr_isub 50 rfl rfl ?_
                      refine qr_bipush 52 rfl (by decide) rfl ?_
                      refine qr_icmp_ge 59 55 rfl rfl rfl (by omega) (by decide) (fun h => False.elim (by omega)) (fun h66 => ?_)
                      refine qr_iconst 56 rfl rfl ?_
                      refine qr_goto 60 rfl rfl ?_
                      refine qr_retZ rfl rfl (by omega) (by decide) (by decide) ?_
                      show qr_W (qe L xs vb) (d + 3) qx_e239 _ (4, [(0, .ref 86), (1, .long (ql 0)), (3, .int (qz x1)), (4, .int (qz x2))], [.int (qz 1)], _, 0, 0)
                      refine qr_if_eq 28 7 rfl rfl rfl (by decide) (fun h => absurd h (by decide)) (fun _ => ?_)
                      refine qr_iload 9 rfl rfl rfl ?_
                      refine qr_i2l 10 rfl (by omega) rfl ?_
                      refine qr_lconst 11 rfl rfl ?_
                      refine qy_vl 0 rfl ?_
                      refine qr_lconst 12 rfl rfl ?_
                      refine qy_vl 1 rfl ?_
                      refine qy_call 15 rfl rfl rfl ?_
                      refine qr_start (d := d + 2) qv_e176 (Nat.le_of_ble_eq_true rfl) ?_
                      show qr_W (qe L xs vb) (d + 2) qx_e176 _ (0, [(0, .long (ql x2)), (2, .long (ql 0)), (4, .long (ql 1))], [], _, 0, 0)
                      refine qr_lload_n 1 rfl rfl rfl ?_
                      refine qr_lload_n 2 rfl rfl rfl ?_
                      refine qr_lc_lt 17 6 rfl rfl rfl rfl (by omega) (by decide) (fun h67 => ?_) (fun h67 => ?_)
                      · skip
                        refine qr_iconst 18 rfl rfl ?_
                        refine qr_retZ rfl rfl (by omega) (by decide) (by decide) ?_
                        show qr_W (qe L xs vb) (d + 3) qx_e239 _ (15, [(0, .ref 86), (1, .long (ql 0)), (3, .int (qz x1)), (4, .int (qz x2))], [.int (qz 0)], _, 0, 0)
                        refine qr_if_eq 28 18 rfl rfl rfl (by decide) (fun _ => ?_) (fun h => absurd h (by decide))
                        refine qr_ldc2 (-1) 31 rfl (by decide) rfl ?_
                        refine qr_retL rfl rfl (by decide) (by decide) ?_
                        exact rfl
                      · skip
                        refine qr_lload_n 7 rfl rfl rfl ?_
                        refine qr_lload 9 rfl rfl rfl ?_
                        refine qr_lc_gt 17 13 rfl rfl rfl rfl (by omega) (by decide) (fun h68 => ?_) (fun h => False.elim (by omega))
                        refine qr_iconst 18 rfl rfl ?_
                        refine qr_retZ rfl rfl (by omega) (by decide) (by decide) ?_
                        show qr_W (qe L xs vb) (d + 3) qx_e239 _ (15, [(0, .ref 86), (1, .long (ql 0)), (3, .int (qz x1)), (4, .int (qz x2))], [.int (qz 0)], _, 0, 0)
                        refine qr_if_eq 28 18 rfl rfl rfl (by decide) (fun _ => ?_) (fun h => absurd h (by decide))
                        refine qr_ldc2 (-1) 31 rfl (by decide) rfl ?_
                        refine qr_retL rfl rfl (by decide) (by decide) ?_
                        exact rfl
                  · skip
                    subst h59
                    refine qr_iconst 10 rfl rfl ?_
                    refine qr_goto 14 rfl rfl ?_
                    refine qr_retZ rfl rfl (by omega) (by decide) (by decide) ?_
                    show qr_W (qe L xs vb) (d + 3) qx_e120 _ (23, [(0, .ref 16), (1, .long (ql 0)), (3, .int (qz x1)), (4, .int (qz 1))], [.int (qz 1)], _, 0, 0)
                    refine qr_if_ne 30 26 rfl rfl rfl (by decide) (fun _ => ?_) (fun h => absurd h (by decide))
                    refine qr_lload_n 31 rfl rfl rfl ?_
                    refine qr_aload_n 32 rfl rfl rfl ?_
                    refine qr_get 35 rfl rfl rfl (by decide) rfl ?_
                    refine qr_get 38 rfl rfl rfl (by decide) rfl ?_
                    refine qy_vl 0 rfl ?_
                    refine qr_ldc2 (-1) 41 rfl (by decide) rfl ?_
                    refine qr_lxor 42 rfl rfl ?_
                    refine qy_vl (-1) rfl ?_
                    refine qr_land 43 rfl rfl ?_
                    refine qy_vl 0 rfl ?_
                    refine qr_lstore [(5, .long (ql 0)), (0, .ref 16), (1, .long (ql 0)), (3, .int (qz x1)), (4, .int (qz 1))] 45 rfl (by decide) rfl rfl ?_
                    refine qr_lload 47 rfl rfl rfl ?_
                    refine qr_bipush 49 rfl (by decide) rfl ?_
                    refine qy_call 52 rfl rfl rfl ?_
                    refine qr_start (d := d + 2) qv_e109 (Nat.le_of_ble_eq_true rfl) ?_
                    show qr_W (qe L xs vb) (d + 2) qx_e109 _ (0, [(0, .long (ql 0)), (2, .int (qz 12))], [], _, 0, 0)
                    refine qr_lload_n 1 rfl rfl rfl ?_
                    refine qr_lconst 2 rfl rfl ?_
                    refine qy_vl 0 rfl ?_
                    refine qr_lc_eq 18 6 rfl rfl rfl rfl (by decide) (by decide) (fun _ => ?_) (fun h => absurd h (by decide))
                    refine qr_iconst 19 rfl rfl ?_
                    refine qr_retZ rfl rfl (by omega) (by decide) (by decide) ?_
                    show qr_W (qe L xs vb) (d + 3) qx_e120 _ (52, [(5, .long (ql 0)), (0, .ref 16), (1, .long (ql 0)), (3, .int (qz x1)), (4, .int (qz 1))], [.int (qz 0)], _, 0, 0)
                    refine qr_if_ne 59 55 rfl rfl rfl (by decide) (fun h => absurd h (by decide)) (fun _ => ?_)
                    refine qr_ldc2 (-1) 58 rfl (by decide) rfl ?_
                    refine qr_retL rfl rfl (by decide) (by decide) ?_
                    refine ⟨⟨_, rfl⟩, ⟨_, _, _, _, rfl⟩, ?_⟩
                    refine qr_start (d := d + 3) qv_e239 (Nat.le_of_ble_eq_true rfl) ?_
                    show qr_W (qe L xs vb) (d + 3) qx_e239 _ (0, [(0, .ref 86), (1, .long (ql 0)), (3, .int (qz x1)), (4, .int (qz 1))], [], _, 0, 0)
                    refine qr_iload_n 1 rfl rfl rfl ?_
                    refine qy_call 4 rfl rfl rfl ?_
                    refine qr_start (d := d + 2) qv_e230 (Nat.le_of_ble_eq_true rfl) ?_
                    show qr_W (qe L xs vb) (d + 2) qx_e230 _ (0, [(0, .int (qz x1))], [], _, 0, 0)
                    refine qr_iload_n 1 rfl rfl rfl ?_
                    refine qr_if_lt 59 4 rfl rfl rfl (by omega) (fun h => False.elim (by omega)) (fun h69 => ?_)
                    refine qr_iload_n 5 rfl rfl rfl ?_
                    refine qr_sipush 8 rfl (by decide) rfl ?_
                    refine qr_idiv 9 rfl (by omega) (by omega) rfl ?_
                    refine qy_call 12 rfl rfl rfl ?_
                    refine qr_start (d := d + 1) qv_e192 (Nat.le_of_ble_eq_true rfl) ?_
                    show qr_W (qe L xs vb) (d + 1) qx_e192 _ (0, [(0, .int (qz (x1 / 10000)))], [], _, 0, 0)
                    refine qr_iload_n 1 rfl rfl rfl ?_
                    refine qr_i2l 2 rfl (by omega) rfl ?_
                    refine qr_lconst 3 rfl rfl ?_
                    refine qy_vl 0 rfl ?_
                    refine qr_ldc2 2399 6 rfl (by decide) rfl ?_
                    refine qy_call 9 rfl rfl rfl ?_
                    refine qr_start (d := d + 0) qv_e176 (Nat.le_of_ble_eq_true rfl) ?_
                    show qr_W (qe L xs vb) (d + 0) qx_e176 _ (0, [(0, .long (ql (x1 / 10000))), (2, .long (ql 0)), (4, .long (ql 2399))], [], _, 0, 0)
                    refine qr_lload_n 1 rfl rfl rfl ?_
                    refine qr_lload_n 2 rfl rfl rfl ?_
                    refine qr_lc_lt 17 6 rfl rfl rfl rfl (by omega) (by decide) (fun h => False.elim (by omega)) (fun h70 => ?_)
                    refine qr_lload_n 7 rfl rfl rfl ?_
                    refine qr_lload 9 rfl rfl rfl ?_
                    refine qr_lc_gt 17 13 rfl rfl rfl rfl (by omega) (by decide) (fun h => False.elim (by omega)) (fun h71 => ?_)
                    refine qr_iconst 14 rfl rfl ?_
                    refine qr_goto 18 rfl rfl ?_
                    refine qr_retZ rfl rfl (by omega) (by decide) (by decide) ?_
                    show qr_W (qe L xs vb) (d + 1) qx_e192 _ (9, [(0, .int (qz (x1 / 10000)))], [.int (qz 1)], _, 0, 0)
                    refine qr_retZ rfl rfl (by omega) (by decide) (by decide) ?_
                    show qr_W (qe L xs vb) (d + 2) qx_e230 _ (12, [(0, .int (qz x1))], [.int (qz 1)], _, 0, 0)
                    refine qr_if_eq 59 15 rfl rfl rfl (by decide) (fun h => absurd h (by decide)) (fun _ => ?_)
                    refine qr_iload_n 16 rfl rfl rfl ?_
                    refine qr_sipush 19 rfl (by decide) rfl ?_
                    refine qr_irem 20 rfl (by omega) (by omega) rfl ?_
                    refine qy_call 23 rfl rfl rfl ?_
                    refine qr_start (d := d + 1) qv_e192 (Nat.le_of_ble_eq_true rfl) ?_
                    show qr_W (qe L xs vb) (d + 1) qx_e192 _ (0, [(0, .int (qz (x1 % 10000)))], [], _, 0, 0)
                    refine qr_iload_n 1 rfl rfl rfl ?_
                    refine qr_i2l 2 rfl (by omega) rfl ?_
                    refine qr_lconst 3 rfl rfl ?_
                    refine qy_vl 0 rfl ?_
                    as_aux_lemma =>
                      refine qr_ldc2 2399 6 rfl (by decide) rfl ?_
                      refine qy_call 9 rfl rfl rfl ?_
                      refine qr_start (d := d + 0) qv_e176 (Nat.le_of_ble_eq_true rfl) ?_
                      show qr_W (qe L xs vb) (d + 0) qx_e176 _ (0, [(0, .long (ql (x1 % 10000))), (2, .long (ql 0)), (4, .long (ql 2399))], [], _, 0, 0)
                      refine qr_lload_n 1 rfl rfl rfl ?_
                      refine qr_lload_n 2 rfl rfl rfl ?_
                      refine qr_lc_lt 17 6 rfl rfl rfl rfl (by omega) (by decide) (fun h => False.elim (by omega)) (fun h72 => ?_)
                      refine qr_lload_n 7 rfl rfl rfl ?_
                      refine qr_lload 9 rfl rfl rfl ?_
                      refine qr_lc_gt 17 13 rfl rfl rfl rfl (by omega) (by decide) (fun h => False.elim (by omega)) (fun h73 => ?_)
                      refine qr_iconst 14 rfl rfl ?_
                      refine qr_goto 18 rfl rfl ?_
                      refine qr_retZ rfl rfl (by omega) (by decide) (by decide) ?_
                      show qr_W (qe L xs vb) (d + 1) qx_e192 _ (9, [(0, .int (qz (x1 % 10000)))], [.int (qz 1)], _, 0, 0)
                      refine qr_retZ rfl rfl (by omega) (by decide) (by decide) ?_
                      show qr_W (qe L xs vb) (d + 2) qx_e230 _ (23, [(0, .int (qz x1))], [.int (qz 1)], _, 0, 0)
                      refine qr_if_eq 59 26 rfl rfl rfl (by decide) (fun h => absurd h (by decide)) (fun _ => ?_)
                      refine qr_iload_n 27 rfl rfl rfl ?_
                      refine qr_sipush 30 rfl (by decide) rfl ?_
                      refine qr_idiv 31 rfl (by omega) (by omega) rfl ?_
                      refine qr_iload_n 32 rfl rfl rfl ?_
                      refine qr_sipush 35 rfl (by decide) rfl ?_
                      refine qr_irem 36 rfl (by omega) (by omega) rfl ?_
                      refine qr_icmp_gt 59 39 rfl rfl rfl (by omega) (by omega) (fun h => False.elim (by omega)) (fun h74 => ?_)
                      refine qr_iload_n 40 rfl rfl rfl ?_
                      refine qr_sipush 43 rfl (by decide) rfl ?_
                      refine qr_irem 44 rfl (by omega) (by omega) rfl ?_
                      refine qr_iload_n 45 rfl rfl rfl ?_
                      refine qr_sipush 48 rfl (by decide) rfl ?_
                      refine qr_idiv 49 rfl (by omega) (by omega) rfl ?_
                      refine qr_isub 50 rfl rfl ?_
                      refine qr_bipush 52 rfl (by decide) rfl ?_
                      refine qr_icmp_ge 59 55 rfl rfl rfl (by omega) (by decide) (fun h => False.elim (by omega)) (fun h75 => ?_)
                      refine qr_iconst 56 rfl rfl ?_
                      refine qr_goto 60 rfl rfl ?_
                      refine qr_retZ rfl rfl (by omega) (by decide) (by decide) ?_
                      show qr_W (qe L xs vb) (d + 3) qx_e239 _ (4, [(0, .ref 86), (1, .long (ql 0)), (3, .int (qz x1)), (4, .int (qz 1))], [.int (qz 1)], _, 0, 0)
                      refine qr_if_eq 28 7 rfl rfl rfl (by decide) (fun h => absurd h (by decide)) (fun _ => ?_)
                      refine qr_iload 9 rfl rfl rfl ?_
                      refine qr_i2l 10 rfl (by omega) rfl ?_
                      refine qy_vl 1 rfl ?_
                      refine qr_lconst 11 rfl rfl ?_
                      refine qy_vl 0 rfl ?_
                      refine qr_lconst 12 rfl rfl ?_
                      refine qy_vl 1 rfl ?_
                      refine qy_call 15 rfl rfl rfl ?_
                      refine qr_start (d := d + 2) qv_e176 (Nat.le_of_ble_eq_true rfl) ?_
                      show qr_W (qe L xs vb) (d + 2) qx_e176 _ (0, [(0, .long (ql 1)), (2, .long (ql 0)), (4, .long (ql 1))], [], _, 0, 0)
                      refine qr_lload_n 1 rfl rfl rfl ?_
                      refine qr_lload_n 2 rfl rfl rfl ?_
                      refine qr_lc_lt 17 6 rfl rfl rfl rfl (by decide) (by decide) (fun h => absurd h (by decide)) (fun _ => ?_)
                      refine qr_lload_n 7 rfl rfl rfl ?_
                      refine qr_lload 9 rfl rfl rfl ?_
                      refine qr_lc_gt 17 13 rfl rfl rfl rfl (by decide) (by decide) (fun h => absurd h (by decide)) (fun _ => ?_)
                      refine qr_iconst 14 rfl rfl ?_
                      refine qr_goto 18 rfl rfl ?_
                      refine qr_retZ rfl rfl (by omega) (by decide) (by decide) ?_
                      show qr_W (qe L xs vb) (d + 3) qx_e239 _ (15, [(0, .ref 86), (1, .long (ql 0)), (3, .int (qz x1)), (4, .int (qz 1))], [.int (qz 1)], _, 0, 0)
                      refine qr_if_eq 28 18 rfl rfl rfl (by decide) (fun h => absurd h (by decide)) (fun _ => ?_)
                      refine qr_aload_n 19 rfl rfl rfl ?_
                      refine qr_lload_n 20 rfl rfl rfl ?_
                      refine qr_bipush 22 rfl (by decide) rfl ?_
                      refine qy_call 25 rfl rfl rfl ?_
                      refine qr_start (d := d + 2) qv_e234 (Nat.le_of_ble_eq_true rfl) ?_
                      show qr_W (qe L xs vb) (d + 2) qx_e234 _ (0, [(0, .ref 86), (1, .long (ql 0)), (3, .int (qz 12))], [], _, 0, 0)
                      refine qr_aload_n 1 rfl rfl rfl ?_
                      refine qr_iconst 2 rfl rfl ?_
                      refine qr_put 5 rfl (by decide) rfl (Nat.le_of_ble_eq_true rfl) (Nat.le_of_ble_eq_true rfl) (Or.inl rfl) (qr_fitI rfl _) rfl ?_
                      refine qy_wS (qw_s (qo_s s) 86 43 0) rfl (fun σ76 e76 => ?_)
                      refine qr_iconst 6 rfl rfl ?_
                      refine qr_istore [(4, .int (qz 0)), (0, .ref 86), (1, .long (ql 0)), (3, .int (qz 12))] 8 rfl (by decide) rfl rfl ?_
                      refine qr_iload 10 rfl rfl rfl ?_
                      refine qr_aload_n 11 rfl rfl rfl ?_
                      refine qr_get 14 rfl rfl rfl (by decide) rfl ?_
                      refine qy_v 0 (by subst_vars; rfl) ?_
                      refine qr_icmp_ge 70 17 rfl rfl rfl (by decide) (by decide) (fun _ => ?_) (fun h => absurd h (by decide))
                      as_aux_lemma =>
                        refine qr_aload_n 71 rfl rfl rfl ?_
                        refine qr_lload_n 72 rfl rfl rfl ?_
                        refine qy_call 75 rfl rfl rfl ?_
                        refine qr_start (d := d + 1) qv_e225 (Nat.le_of_ble_eq_true rfl) ?_
                        show qr_W (qe L xs vb) (d + 1) qx_e225 _ (0, [(0, .ref 86), (1, .long (ql 0))], [], _, 0, 0)
                        refine qr_lload_n 1 rfl rfl rfl ?_
                        refine qr_lconst 2 rfl rfl ?_
                        refine qy_vl 0 rfl ?_
                        refine qr_lc_lt 21 6 rfl rfl rfl rfl (by decide) (by decide) (fun h => absurd h (by decide)) (fun _ => ?_)
                        refine qr_lload_n 7 rfl rfl rfl ?_
                        refine qr_aload_n 8 rfl rfl rfl ?_
                        refine qr_get 11 rfl rfl rfl (by decide) rfl ?_
                        refine qy_v 0 (by subst_vars; rfl) ?_
                        refine qr_lshr 12 rfl rfl ?_
                        refine qy_vl 0 rfl ?_
                        refine qr_lconst 13 rfl rfl ?_
                        refine qy_vl 0 rfl ?_
                        refine qr_lc_ne 21 17 rfl rfl rfl rfl (by decide) (by decide) (fun h => absurd h (by decide)) (fun _ => ?_)
                        refine qr_iconst 18 rfl rfl ?_
                        refine qr_goto 22 rfl rfl ?_
                        refine qr_retZ rfl rfl (by omega) (by decide) (by decide) ?_
                        show qr_W (qe L xs vb) (d + 2) qx_e234 _ (75, [(4, .int (qz 0)), (0, .ref 86), (1, .long (ql 0)), (3, .int (qz 12))], [.int (qz 1)], _, 0, 0)
                        refine qr_if_eq 96 78 rfl rfl rfl (by decide) (fun h => absurd h (by decide)) (fun _ => ?_)
                        refine qr_aload_n 79 rfl rfl rfl ?_
                        refine qr_get 82 rfl rfl rfl (by decide) rfl ?_
                        refine qy_v 0 (by subst_vars; rfl) ?_
                        refine qr_i2l 83 rfl (by omega) rfl ?_
                        refine qy_vl 0 rfl ?_
                        refine qr_lconst 84 rfl rfl ?_
                        refine qy_vl 1 rfl ?_
                        refine qr_iload_n 85 rfl rfl rfl ?_
                        refine qr_i2l 86 rfl (by omega) rfl ?_
                        refine qy_vl 12 rfl ?_
                        refine qy_call 89 rfl rfl rfl ?_
                        refine qr_start (d := d + 1) qv_e176 (Nat.le_of_ble_eq_true rfl) ?_
                        show qr_W (qe L xs vb) (d + 1) qx_e176 _ (0, [(0, .long (ql 0)), (2, .long (ql 1)), (4, .long (ql 12))], [], _, 0, 0)
                        refine qr_lload_n 1 rfl rfl rfl ?_
                        refine qr_lload_n 2 rfl rfl rfl ?_
                        refine qr_lc_lt 17 6 rfl rfl rfl rfl (by decide) (by decide) (fun _ => ?_) (fun h => absurd h (by decide))
                        refine qr_iconst 18 rfl rfl ?_
                        refine qr_retZ rfl rfl (by omega) (by decide) (by decide) ?_
                        show qr_W (qe L xs vb) (d + 2) qx_e234 _ (89, [(4, .int (qz 0)), (0, .ref 86), (1, .long (ql 0)), (3, .int (qz 12))], [.int (qz 0)], _, 0, 0)
                        refine qr_if_eq 96 92 rfl rfl rfl (by decide) (fun _ => ?_) (fun h => absurd h (by decide))
                        refine qr_iconst 97 rfl rfl ?_
                        refine qr_retZ rfl rfl (by omega) (by decide) (by decide) ?_
                        show qr_W (qe L xs vb) (d + 3) qx_e239 _ (25, [(0, .ref 86), (1, .long (ql 0)), (3, .int (qz x1)), (4, .int (qz 1))], [.int (qz 0)], _, 0, 0)
                        refine qr_if_ne 32 28 rfl rfl rfl (by decide) (fun h => absurd h (by decide)) (fun _ => ?_)
                        refine qr_ldc2 (-1) 31 rfl (by decide) rfl ?_
                        refine qr_retL rfl rfl (by decide) (by decide) ?_
                        exact rfl

set_option maxHeartbeats 8000000 in
set_option maxRecDepth 20000 in
/-- leave on the fresh objects: both answer alike -/
theorem sx_leave {L : Nat} {xs : Nat → Int} {vb : Bool} {d : Nat} {s g : Nat → Nat → Int} {x0 : Int} {x1 : Int} {x2 : Int} (hok : qo_ok s g) (rx0 : -9223372036854775808 ≤ x0 ∧ x0 ≤ 9223372036854775807) (rx1 : -2147483648 ≤ x1 ∧ x1 ≤ 2147483647) (rx2 : -2147483648 ≤ x2 ∧ x2 ≤ 2147483647) : qm_T (qe L xs vb) (d + 3) 127 [.ref 16, .long (ql x0), .int (qz x1), .int (qz x2)] (qw (qo_s s) (qo_r g) qo_k 82) (fun r w => (∃ y : Int, r = some (.int (qz y))) ∧ (∃ σ α κ ρ, w = qw σ α κ ρ) ∧ qm_T (qe L xs vb) (d + 3) 242 [.ref 86, .long (ql x0), .int (qz x1), .int (qz x2)] w (fun r' _ => r' = r)) := by
  refine qr_start (d := d + 2) qv_e127 (Nat.le_of_ble_eq_true rfl) ?_
  show qr_W (qe L xs vb) (d + 2) qx_e127 _ (0, [(0, .ref 16), (1, .long (ql x0)), (3, .int (qz x1)), (4, .int (qz x2))], [], _, 0, 0)
  refine qr_aload_n 1 rfl rfl rfl ?_
  refine qr_get 4 rfl rfl rfl (by decide) rfl ?_
  refine qr_lload_n 5 rfl rfl rfl ?_
  refine qy_call 8 rfl rfl rfl ?_
  refine qr_start (d := d + 1) qv_e88 (Nat.le_of_ble_eq_true rfl) ?_
  show qr_W (qe L xs vb) (d + 1) qx_e88 _ (0, [(0, .ref 17), (1, .long (ql x0))], [], _, 0, 0)
  refine qr_lload_n 1 rfl rfl rfl ?_
  refine qr_lconst 2 rfl rfl ?_
  refine qy_vl 0 rfl ?_
  refine qr_lc_lt 21 6 rfl rfl rfl rfl (by omega) (by decide) (fun h1 => ?_) (fun h1 => ?_)
  · skip
    refine qr_iconst 22 rfl rfl ?_
    refine qr_retZ rfl rfl (by omega) (by decide) (by decide) ?_
    show qr_W (qe L xs vb) (d + 2) qx_e127 _ (8, [(0, .ref 16), (1, .long (ql x0)), (3, .int (qz x1)), (4, .int (qz x2))], [.int (qz 0)], _, 0, 0)
    refine qr_if_eq 33 11 rfl rfl rfl (by decide) (fun _ => ?_) (fun h => absurd h (by decide))
    refine qr_iconst 34 rfl rfl ?_
    refine qr_retI rfl rfl (by decide) (by decide) ?_
    refine ⟨⟨_, rfl⟩, ⟨_, _, _, _, rfl⟩, ?_⟩
    refine qr_start (d := d + 2) qv_e242 (Nat.le_of_ble_eq_true rfl) ?_
    show qr_W (qe L xs vb) (d + 2) qx_e242 _ (0, [(0, .ref 86), (1, .long (ql x0)), (3, .int (qz x1)), (4, .int (qz x2))], [], _, 0, 0)
    refine qr_iload_n 1 rfl rfl rfl ?_
    refine qy_call 4 rfl rfl rfl ?_
    refine qr_start (d := d + 1) qv_e192 (Nat.le_of_ble_eq_true rfl) ?_
    show qr_W (qe L xs vb) (d + 1) qx_e192 _ (0, [(0, .int (qz x1))], [], _, 0, 0)
    refine qr_iload_n 1 rfl rfl rfl ?_
    refine qr_i2l 2 rfl (by omega) rfl ?_
    refine qr_lconst 3 rfl rfl ?_
    refine qy_vl 0 rfl ?_
    refine qr_ldc2 2399 6 rfl (by decide) rfl ?_
    refine qy_call 9 rfl rfl rfl ?_
    refine qr_start (d := d + 0) qv_e176 (Nat.le_of_ble_eq_true rfl) ?_
    show qr_W (qe L xs vb) (d + 0) qx_e176 _ (0, [(0, .long (ql x1)), (2, .long (ql 0)), (4, .long (ql 2399))], [], _, 0, 0)
    refine qr_lload_n 1 rfl rfl rfl ?_
    refine qr_lload_n 2 rfl rfl rfl ?_
    refine qr_lc_lt 17 6 rfl rfl rfl rfl (by omega) (by decide) (fun h2 => ?_) (fun h2 => ?_)
    · skip
      refine qr_iconst 18 rfl rfl ?_
      refine qr_retZ rfl rfl (by omega) (by decide) (by decide) ?_
      show qr_W (qe L xs vb) (d + 1) qx_e192 _ (9, [(0, .int (qz x1))], [.int (qz 0)], _, 0, 0)
      refine qr_retZ rfl rfl (by omega) (by decide) (by decide) ?_
      show qr_W (qe L xs vb) (d + 2) qx_e242 _ (4, [(0, .ref 86), (1, .long (ql x0)), (3, .int (qz x1)), (4, .int (qz x2))], [.int (qz 0)], _, 0, 0)
      refine qr_if_eq 32 7 rfl rfl rfl (by decide) (fun _ => ?_) (fun h => absurd h (by decide))
      refine qr_iconst 33 rfl rfl ?_
      refine qr_retI rfl rfl (by decide) (by decide) ?_
      exact rfl
    · skip
      refine qr_lload_n 7 rfl rfl rfl ?_
      refine qr_lload 9 rfl rfl rfl ?_
      refine qr_lc_gt 17 13 rfl rfl rfl rfl (by omega) (by decide) (fun h3 => ?_) (fun h3 => ?_)
      · skip
        refine qr_iconst 18 rfl rfl ?_
        refine qr_retZ rfl rfl (by omega) (by decide) (by decide) ?_
        show qr_W (qe L xs vb) (d + 1) qx_e192 _ (9, [(0, .int (qz x1))], [.int (qz 0)], _, 0, 0)
        refine qr_retZ rfl rfl (by omega) (by decide) (by decide) ?_
        show qr_W (qe L xs vb) (d + 2) qx_e242 _ (4, [(0, .ref 86), (1, .long (ql x0)), (3, .int (qz x1)), (4, .int (qz x2))], [.int (qz 0)], _, 0, 0)
        refine qr_if_eq 32 7 rfl rfl rfl (by decide) (fun _ => ?_) (fun h => absurd h (by decide))
        refine qr_iconst 33 rfl rfl ?_
        refine qr_retI rfl rfl (by decide) (by decide) ?_
        exact rfl
      · skip
        refine qr_iconst 14 rfl rfl ?_
        refine qr_goto 18 rfl rfl ?_
        refine qr_retZ rfl rfl (by omega) (by decide) (by decide) ?_
        show qr_W (qe L xs vb) (d + 1) qx_e192 _ (9, [(0, .int (qz x1))], [.int (qz 1)], _, 0, 0)
        refine qr_retZ rfl rfl (by omega) (by decide) (by decide) ?_
        show qr_W (qe L xs vb) (d + 2) qx_e242 _ (4, [(0, .ref 86), (1, .long (ql x0)), (3, .int (qz x1)), (4, .int (qz x2))], [.int (qz 1)], _, 0, 0)
        refine qr_if_eq 32 7 rfl rfl rfl (by decide) (fun h => absurd h (by decide)) (fun _ => ?_)
        refine qr_iload 9 rfl rfl rfl ?_
        refine qr_i2l 10 rfl (by omega) rfl ?_
        refine qr_ldc2 100 13 rfl (by decide) rfl ?_
        refine qr_ldc2 2499 16 rfl (by decide) rfl ?_
        refine qy_call 19 rfl rfl rfl ?_
        refine qr_start (d := d + 1) qv_e176 (Nat.le_of_ble_eq_true rfl) ?_
        show qr_W (qe L xs vb) (d + 1) qx_e176 _ (0, [(0, .long (ql x2)), (2, .long (ql 100)), (4, .long (ql 2499))], [], _, 0, 0)
        refine qr_lload_n 1 rfl rfl rfl ?_
        refine qr_lload_n 2 rfl rfl rfl ?_
        refine qr_lc_lt 17 6 rfl rfl rfl rfl (by omega) (by decide) (fun h4 => ?_) (fun h4 => ?_)
        · skip
          refine qr_iconst 18 rfl rfl ?_
          refine qr_retZ rfl rfl (by omega) (by decide) (by decide) ?_
          show qr_W (qe L xs vb) (d + 2) qx_e242 _ (19, [(0, .ref 86), (1, .long (ql x0)), (3, .int (qz x1)), (4, .int (qz x2))], [.int (qz 0)], _, 0, 0)
          refine qr_if_eq 32 22 rfl rfl rfl (by decide) (fun _ => ?_) (fun h => absurd h (by decide))
          refine qr_iconst 33 rfl rfl ?_
          refine qr_retI rfl rfl (by decide) (by decide) ?_
          exact rfl
        · skip
          refine qr_lload_n 7 rfl rfl rfl ?_
          refine qr_lload 9 rfl rfl rfl ?_
          refine qr_lc_gt 17 13 rfl rfl rfl rfl (by omega) (by decide) (fun h5 => ?_) (fun h5 => ?_)
          · skip
            refine qr_iconst 18 rfl rfl ?_
            refine qr_retZ rfl rfl (by omega) (by decide) (by decide) ?_
            show qr_W (qe L xs vb) (d + 2) qx_e242 _ (19, [(0, .ref 86), (1, .long (ql x0)), (3, .int (qz x1)), (4, .int (qz x2))], [.int (qz 0)], _, 0, 0)
            refine qr_if_eq 32 22 rfl rfl rfl (by decide) (fun _ => ?_) (fun h => absurd h (by decide))
            refine qr_iconst 33 rfl rfl ?_
            refine qr_retI rfl rfl (by decide) (by decide) ?_
            exact rfl
          · skip
            refine qr_iconst 14 rfl rfl ?_
            refine qr_goto 18 rfl rfl ?_
            refine qr_retZ rfl rfl (by omega) (by decide) (by decide) ?_
            show qr_W (qe L xs vb) (d + 2) qx_e242 _ (19, [(0, .ref 86), (1, .long (ql x0)), (3, .int (qz x1)), (4, .int (qz x2))], [.int (qz 1)], _, 0, 0)
            refine qr_if_eq 32 22 rfl rfl rfl (by decide) (fun h => absurd h (by decide)) (fun _ => ?_)
            refine qr_aload_n 23 rfl rfl rfl ?_
            refine qr_lload_n 24 rfl rfl rfl ?_
            refine qr_bipush 26 rfl (by decide) rfl ?_
            refine qy_call 29 rfl rfl rfl ?_
            refine qr_start (d := d + 1) qv_e234 (Nat.le_of_ble_eq_true rfl) ?_
            show qr_W (qe L xs vb) (d + 1) qx_e234 _ (0, [(0, .ref 86), (1, .long (ql x0)), (3, .int (qz 6))], [], _, 0, 0)
            refine qr_aload_n 1 rfl rfl rfl ?_
            refine qr_iconst 2 rfl rfl ?_
            refine qr_put 5 rfl (by decide) rfl (Nat.le_of_ble_eq_true rfl) (Nat.le_of_ble_eq_true rfl) (Or.inl rfl) (qr_fitI rfl _) rfl ?_
            refine qy_wS (qw_s (qo_s s) 86 43 0) rfl (fun σ6 e6 => ?_)
            refine qr_iconst 6 rfl rfl ?_
            refine qr_istore [(4, .int (qz 0)), (0, .ref 86), (1, .long (ql x0)), (3, .int (qz 6))] 8 rfl (by decide) rfl rfl ?_
            refine qr_iload 10 rfl rfl rfl ?_
            refine qr_aload_n 11 rfl rfl rfl ?_
            refine qr_get 14 rfl rfl rfl (by decide) rfl ?_
            refine qy_v 0 (by subst_vars; rfl) ?_
            refine qr_icmp_ge 70 17 rfl rfl rfl (by decide) (by decide) (fun _ => ?_) (fun h => absurd h (by decide))
            refine qr_aload_n 71 rfl rfl rfl ?_
            refine qr_lload_n 72 rfl rfl rfl ?_
            as_aux_lemma =>
              refine qy_call 75 rfl rfl rfl ?_
              refine qr_start (d := d + 0) qv_e225 (Nat.le_of_ble_eq_true rfl) ?_
              show qr_W (qe L xs vb) (d + 0) qx_e225 _ (0, [(0, .ref 86), (1, .long (ql x0))], [], _, 0, 0)
              refine qr_lload_n 1 rfl rfl rfl ?_
              refine qr_lconst 2 rfl rfl ?_
              refine qy_vl 0 rfl ?_
              refine qr_lc_lt 21 6 rfl rfl rfl rfl (by omega) (by decide) (fun h7 => ?_) (fun h => False.elim (by omega))
              refine qr_iconst 22 rfl rfl ?_
              refine qr_retZ rfl rfl (by omega) (by decide) (by decide) ?_
              show qr_W (qe L xs vb) (d + 1) qx_e234 _ (75, [(4, .int (qz 0)), (0, .ref 86), (1, .long (ql x0)), (3, .int (qz 6))], [.int (qz 0)], _, 0, 0)
              refine qr_if_eq 96 78 rfl rfl rfl (by decide) (fun _ => ?_) (fun h => absurd h (by decide))
              refine qr_iconst 97 rfl rfl ?_
              refine qr_retZ rfl rfl (by omega) (by decide) (by decide) ?_
              show qr_W (qe L xs vb) (d + 2) qx_e242 _ (29, [(0, .ref 86), (1, .long (ql x0)), (3, .int (qz x1)), (4, .int (qz x2))], [.int (qz 0)], _, 0, 0)
              refine qr_if_ne 34 32 rfl rfl rfl (by decide) (fun h => absurd h (by decide)) (fun _ => ?_)
              refine qr_iconst 33 rfl rfl ?_
              refine qr_retI rfl rfl (by decide) (by decide) ?_
              exact rfl
  · skip
    refine qr_lload_n 7 rfl rfl rfl ?_
    refine qr_aload_n 8 rfl rfl rfl ?_
    refine qr_get 11 rfl rfl rfl (by decide) rfl ?_
    refine qy_v 0 rfl ?_
    refine qr_lushr 12 rfl rfl ?_
    refine qy_vl x0 (ql_ushr0 (by omega)) ?_
    refine qr_lconst 13 rfl rfl ?_
    refine qy_vl 0 rfl ?_
    refine qr_lc_ne 21 17 rfl rfl rfl rfl (by omega) (by decide) (fun h8 => ?_) (fun h8 => ?_)
    · skip
      refine qr_iconst 22 rfl rfl ?_
      refine qr_retZ rfl rfl (by omega) (by decide) (by decide) ?_
      show qr_W (qe L xs vb) (d + 2) qx_e127 _ (8, [(0, .ref 16), (1, .long (ql x0)), (3, .int (qz x1)), (4, .int (qz x2))], [.int (qz 0)], _, 0, 0)
      refine qr_if_eq 33 11 rfl rfl rfl (by decide) (fun _ => ?_) (fun h => absurd h (by decide))
      refine qr_iconst 34 rfl rfl ?_
      refine qr_retI rfl rfl (by decide) (by decide) ?_
      refine ⟨⟨_, rfl⟩, ⟨_, _, _, _, rfl⟩, ?_⟩
      refine qr_start (d := d + 2) qv_e242 (Nat.le_of_ble_eq_true rfl) ?_
      show qr_W (qe L xs vb) (d + 2) qx_e242 _ (0, [(0, .ref 86), (1, .long (ql x0)), (3, .int (qz x1)), (4, .int (qz x2))], [], _, 0, 0)
      refine qr_iload_n 1 rfl rfl rfl ?_
      refine qy_call 4 rfl rfl rfl ?_
      refine qr_start (d := d + 1) qv_e192 (Nat.le_of_ble_eq_true rfl) ?_
      show qr_W (qe L xs vb) (d + 1) qx_e192 _ (0, [(0, .int (qz x1))], [], _, 0, 0)
      refine qr_iload_n 1 rfl rfl rfl ?_
      refine qr_i2l 2 rfl (by omega) rfl ?_
      refine qr_lconst 3 rfl rfl ?_
      refine qy_vl 0 rfl ?_
      refine qr_ldc2 2399 6 rfl (by decide) rfl ?_
      refine qy_call 9 rfl rfl rfl ?_
      refine qr_start (d := d + 0) qv_e176 (Nat.le_of_ble_eq_true rfl) ?_
      show qr_W (qe L xs vb) (d + 0) qx_e176 _ (0, [(0, .long (ql x1)), (2, .long (ql 0)), (4, .long (ql 2399))], [], _, 0, 0)
      refine qr_lload_n 1 rfl rfl rfl ?_
      refine qr_lload_n 2 rfl rfl rfl ?_
      refine qr_lc_lt 17 6 rfl rfl rfl rfl (by omega) (by decide) (fun h9 => ?_) (fun h9 => ?_)
      · skip
        refine qr_iconst 18 rfl rfl ?_
        refine qr_retZ rfl rfl (by omega) (by decide) (by decide) ?_
        show qr_W (qe L xs vb) (d + 1) qx_e192 _ (9, [(0, .int (qz x1))], [.int (qz 0)], _, 0, 0)
        refine qr_retZ rfl rfl (by omega) (by decide) (by decide) ?_
        show qr_W (qe L xs vb) (d + 2) qx_e242 _ (4, [(0, .ref 86), (1, .long (ql x0)), (3, .int (qz x1)), (4, .int (qz x2))], [.int (qz 0)], _, 0, 0)
        refine qr_if_eq 32 7 rfl rfl rfl (by decide) (fun _ => ?_) (fun h => absurd h (by decide))
        refine qr_iconst 33 rfl rfl ?_
        refine qr_retI rfl rfl (by decide) (by decide) ?_
        exact rfl
      · skip
        refine qr_lload_n 7 rfl rfl rfl ?_
        refine qr_lload 9 rfl rfl rfl ?_
        refine qr_lc_gt 17 13 rfl rfl rfl rfl (by omega) (by decide) (fun h10 => ?_) (fun h10 => ?_)
        · skip
          refine qr_iconst 18 rfl rfl ?_
          refine qr_retZ rfl rfl (by omega) (by decide) (by decide) ?_
          show qr_W (qe L xs vb) (d + 1) qx_e192 _ (9, [(0, .int (qz x1))], [.int (qz 0)], _, 0, 0)
          refine qr_retZ rfl rfl (by omega) (by decide) (by decide) ?_
          show qr_W (qe L xs vb) (d + 2) qx_e242 _ (4, [(0, .ref 86), (1, .long (ql x0)), (3, .int (qz x1)), (4, .int (qz x2))], [.int (qz 0)], _, 0, 0)
          refine qr_if_eq 32 7 rfl rfl rfl (by decide) (fun _ => ?_) (fun h => absurd h (by decide))
          refine qr_iconst 33 rfl rfl ?_
          refine qr_retI rfl rfl (by decide) (by decide) ?_
          exact rfl
        · skip
          refine qr_iconst 14 rfl rfl ?_
          refine qr_goto 18 rfl rfl ?_
          refine qr_retZ rfl rfl (by omega) (by decide) (by decide) ?_
          show qr_W (qe L xs vb) (d + 1) qx_e192 _ (9, [(0, .int (qz x1))], [.int (qz 1)], _, 0, 0)
          refine qr_retZ rfl rfl (by omega) (by decide) (by decide) ?_
          show qr_W (qe L xs vb) (d + 2) qx_e242 _ (4, [(0, .ref 86), (1, .long (ql x0)), (3, .int (qz x1)), (4, .int (qz x2))], [.int (qz 1)], _, 0, 0)
          refine qr_if_eq 32 7 rfl rfl rfl (by decide) (fun h => absurd h (by decide)) (fun _ => ?_)
          refine qr_iload 9 rfl rfl rfl ?_
          refine qr_i2l 10 rfl (by omega) rfl ?_
          refine qr_ldc2 100 13 rfl (by decide) rfl ?_
          refine qr_ldc2 2499 16 rfl (by decide) rfl ?_
          refine qy_call 19 rfl rfl rfl ?_
          refine qr_start (d := d + 1) qv_e176 (Nat.le_of_ble_eq_true rfl) ?_
          show qr_W (qe L xs vb) (d + 1) qx_e176 _ (0, [(0, .long (ql x2)), (2, .long (ql 100)), (4, .long (ql 2499))], [], _, 0, 0)
          refine qr_lload_n 1 rfl rfl rfl ?_
          refine qr_lload_n 2 rfl rfl rfl ?_
          refine qr_lc_lt 17 6 rfl rfl rfl rfl (by omega) (by decide) (fun h11 => ?_) (fun h11 => ?_)
          · skip
            refine qr_iconst 18 rfl rfl ?_
            refine qr_retZ rfl rfl (by omega) (by decide) (by decide) ?_
            show qr_W (qe L xs vb) (d + 2) qx_e242 _ (19, [(0, .ref 86), (1, .long (ql x0)), (3, .int (qz x1)), (4, .int (qz x2))], [.int (qz 0)], _, 0, 0)
            refine qr_if_eq 32 22 rfl rfl rfl (by decide) (fun _ => ?_) (fun h => absurd h (by decide))
            refine qr_iconst 33 rfl rfl ?_
            refine qr_retI rfl rfl (by decide) (by decide) ?_
            exact rfl
          · skip
            refine qr_lload_n 7 rfl rfl rfl ?_
            refine qr_lload 9 rfl rfl rfl ?_
            refine qr_lc_gt 17 13 rfl rfl rfl rfl (by omega) (by decide) (fun h12 => ?_) (fun h12 => ?_)
            · skip
              refine qr_iconst 18 rfl rfl ?_
              refine qr_retZ rfl rfl (by omega) (by decide) (by decide) ?_
              show qr_W (qe L xs vb) (d + 2) qx_e242 _ (19, [(0, .ref 86), (1, .long (ql x0)), (3, .int (qz x1)), (4, .int (qz x2))], [.int (qz 0)], _, 0, 0)
              refine qr_if_eq 32 22 rfl rfl rfl (by decide) (fun _ => ?_) (fun h => absurd h (by decide))
              refine qr_iconst 33 rfl rfl ?_
              refine qr_retI rfl rfl (by decide) (by decide) ?_
              exact rfl
            · skip
              refine qr_iconst 14 rfl rfl ?_
              refine qr_goto 18 rfl rfl ?_
              refine qr_retZ rfl rfl (by omega) (by decide) (by decide) ?_
              show qr_W (qe L xs vb) (d + 2) qx_e242 _ (19, [(0, .ref 86), (1, .long (ql x0)), (3, .int (qz x1)), (4, .int (qz x2))], [.int (qz 1)], _, 0, 0)
              refine qr_if_eq 32 22 rfl rfl rfl (by decide) (fun h => absurd h (by decide)) (fun _ => ?_)
              refine qr_aload_n 23 rfl rfl rfl ?_
              refine qr_lload_n 24 rfl rfl rfl ?_
              refine qr_bipush 26 rfl (by decide) rfl ?_
              refine qy_call 29 rfl rfl rfl ?_
              refine qr_start (d := d + 1) qv_e234 (Nat.le_of_ble_eq_true rfl) ?_
              show qr_W (qe L xs vb) (d + 1) qx_e234 _ (0, [(0, .ref 86), (1, .long (ql x0)), (3, .int (qz 6))], [], _, 0, 0)
              refine qr_aload_n 1 rfl rfl rfl ?_
              refine qr_iconst 2 rfl rfl ?_
              refine qr_put 5 rfl (by decide) rfl (Nat.le_of_ble_eq_true rfl) (Nat.le_of_ble_eq_true rfl) (Or.inl rfl) (qr_fitI rfl _) rfl ?_
              refine qy_wS (qw_s (qo_s s) 86 43 0) rfl (fun σ13 e13 => ?_)
              refine qr_iconst 6 rfl rfl ?_
              refine qr_istore [(4, .int (qz 0)), (0, .ref 86), (1, .long (ql x0)), (3, .int (qz 6))] 8 rfl (by decide) rfl rfl ?_
              as_aux_lemma =>
                refine qr_iload 10 rfl rfl rfl ?_
                refine qr_aload_n 11 rfl rfl rfl ?_
                refine qr_get 14 rfl rfl rfl (by decide) rfl ?_
                refine qy_v 0 (by subst_vars; rfl) ?_
                refine qr_icmp_ge 70 17 rfl rfl rfl (by decide) (by decide) (fun _ => ?_) (fun h => absurd h (by decide))
                refine qr_aload_n 71 rfl rfl rfl ?_
                refine qr_lload_n 72 rfl rfl rfl ?_
                refine qy_call 75 rfl rfl rfl ?_
                refine qr_start (d := d + 0) qv_e225 (Nat.le_of_ble_eq_true rfl) ?_
                show qr_W (qe L xs vb) (d + 0) qx_e225 _ (0, [(0, .ref 86), (1, .long (ql x0))], [], _, 0, 0)
                refine qr_lload_n 1 rfl rfl rfl ?_
                refine qr_lconst 2 rfl rfl ?_
                refine qy_vl 0 rfl ?_
                refine qr_lc_lt 21 6 rfl rfl rfl rfl (by omega) (by decide) (fun h => False.elim (by omega)) (fun h14 => ?_)
                refine qr_lload_n 7 rfl rfl rfl ?_
                refine qr_aload_n 8 rfl rfl rfl ?_
                refine qr_get 11 rfl rfl rfl (by decide) rfl ?_
                refine qy_v 0 (by subst_vars; rfl) ?_
                refine qr_lshr 12 rfl rfl ?_
                refine qy_vl x0 (ql_shr0 (by omega)) ?_
                refine qr_lconst 13 rfl rfl ?_
                refine qy_vl 0 rfl ?_
                refine qr_lc_ne 21 17 rfl rfl rfl rfl (by omega) (by decide) (fun h15 => ?_) (fun h => False.elim (by omega))
                refine qr_iconst 22 rfl rfl ?_
                refine qr_retZ rfl rfl (by omega) (by decide) (by decide) ?_
                show qr_W (qe L xs vb) (d + 1) qx_e234 _ (75, [(4, .int (qz 0)), (0, .ref 86), (1, .long (ql x0)), (3, .int (qz 6))], [.int (qz 0)], _, 0, 0)
                refine qr_if_eq 96 78 rfl rfl rfl (by decide) (fun _ => ?_) (fun h => absurd h (by decide))
                refine qr_iconst 97 rfl rfl ?_
                refine qr_retZ rfl rfl (by omega) (by decide) (by decide) ?_
                show qr_W (qe L xs vb) (d + 2) qx_e242 _ (29, [(0, .ref 86), (1, .long (ql x0)), (3, .int (qz x1)), (4, .int (qz x2))], [.int (qz 0)], _, 0, 0)
                refine qr_if_ne 34 32 rfl rfl rfl (by decide) (fun h => absurd h (by decide)) (fun _ => ?_)
                refine qr_iconst 33 rfl rfl ?_
                refine qr_retI rfl rfl (by decide) (by decide) ?_
                exact rfl
    · skip
      subst h8
      refine qr_iconst 18 rfl rfl ?_
      refine qr_goto 22 rfl rfl ?_
      refine qr_retZ rfl rfl (by omega) (by decide) (by decide) ?_
      show qr_W (qe L xs vb) (d + 2) qx_e127 _ (8, [(0, .ref 16), (1, .long (ql 0)), (3, .int (qz x1)), (4, .int (qz x2))], [.int (qz 1)], _, 0, 0)
      refine qr_if_eq 33 11 rfl rfl rfl (by decide) (fun h => absurd h (by decide)) (fun _ => ?_)
      refine qr_iload_n 12 rfl rfl rfl ?_
      refine qy_call 15 rfl rfl rfl ?_
      refine qr_start (d := d + 1) qv_e62 (Nat.le_of_ble_eq_true rfl) ?_
      show qr_W (qe L xs vb) (d + 1) qx_e62 _ (0, [(0, .int (qz x1))], [], _, 0, 0)
      refine qr_iload_n 1 rfl rfl rfl ?_
      refine qr_if_lt 15 4 rfl rfl rfl (by omega) (fun h16 => ?_) (fun h16 => ?_)
      · skip
        refine qr_iconst 16 rfl rfl ?_
        refine qr_retZ rfl rfl (by omega) (by decide) (by decide) ?_
        show qr_W (qe L xs vb) (d + 2) qx_e127 _ (15, [(0, .ref 16), (1, .long (ql 0)), (3, .int (qz x1)), (4, .int (qz x2))], [.int (qz 0)], _, 0, 0)
        refine qr_if_eq 33 18 rfl rfl rfl (by decide) (fun _ => ?_) (fun h => absurd h (by decide))
        refine qr_iconst 34 rfl rfl ?_
        refine qr_retI rfl rfl (by decide) (by decide) ?_
        refine ⟨⟨_, rfl⟩, ⟨_, _, _, _, rfl⟩, ?_⟩
        refine qr_start (d := d + 2) qv_e242 (Nat.le_of_ble_eq_true rfl) ?_
        show qr_W (qe L xs vb) (d + 2) qx_e242 _ (0, [(0, .ref 86), (1, .long (ql 0)), (3, .int (qz x1)), (4, .int (qz x2))], [], _, 0, 0)
        refine qr_iload_n 1 rfl rfl rfl ?_
        refine qy_call 4 rfl rfl rfl ?_
        refine qr_start (d := d + 1) qv_e192 (Nat.le_of_ble_eq_true rfl) ?_
        show qr_W (qe L xs vb) (d + 1) qx_e192 _ (0, [(0, .int (qz x1))], [], _, 0, 0)
        refine qr_iload_n 1 rfl rfl rfl ?_
        refine qr_i2l 2 rfl (by omega) rfl ?_
        refine qr_lconst 3 rfl rfl ?_
        refine qy_vl 0 rfl ?_
        refine qr_ldc2 2399 6 rfl (by decide) rfl ?_
        refine qy_call 9 rfl rfl rfl ?_
        refine qr_start (d := d + 0) qv_e176 (Nat.le_of_ble_eq_true rfl) ?_
        show qr_W (qe L xs vb) (d + 0) qx_e176 _ (0, [(0, .long (ql x1)), (2, .long (ql 0)), (4, .long (ql 2399))], [], _, 0, 0)
        refine qr_lload_n 1 rfl rfl rfl ?_
        refine qr_lload_n 2 rfl rfl rfl ?_
        refine qr_lc_lt 17 6 rfl rfl rfl rfl (by omega) (by decide) (fun h17 => ?_) (fun h => False.elim (by omega))
        refine qr_iconst 18 rfl rfl ?_
        refine qr_retZ rfl rfl (by omega) (by decide) (by decide) ?_
        show qr_W (qe L xs vb) (d + 1) qx_e192 _ (9, [(0, .int (qz x1))], [.int (qz 0)], _, 0, 0)
        refine qr_retZ rfl rfl (by omega) (by decide) (by decide) ?_
        show qr_W (qe L xs vb) (d + 2) qx_e242 _ (4, [(0, .ref 86), (1, .long (ql 0)), (3, .int (qz x1)), (4, .int (qz x2))], [.int (qz 0)], _, 0, 0)
        refine qr_if_eq 32 7 rfl rfl rfl (by decide) (fun _ => ?_) (fun h => absurd h (by decide))
        refine qr_iconst 33 rfl rfl ?_
        refine qr_retI rfl rfl (by decide) (by decide) ?_
        exact rfl
      · skip
        refine qr_iload_n 5 rfl rfl rfl ?_
        refine qr_sipush 8 rfl (by decide) rfl ?_
        refine qr_icmp_gt 15 11 rfl rfl rfl (by omega) (by decide) (fun h18 => ?_) (fun h18 => ?_)
        · skip
          refine qr_iconst 16 rfl rfl ?_
          refine qr_retZ rfl rfl (by omega) (by decide) (by decide) ?_
          show qr_W (qe L xs vb) (d + 2) qx_e127 _ (15, [(0, .ref 16), (1, .long (ql 0)), (3, .int (qz x1)), (4, .int (qz x2))], [.int (qz 0)], _, 0, 0)
          refine qr_if_eq 33 18 rfl rfl rfl (by decide) (fun _ => ?_) (fun h => absurd h (by decide))
          refine qr_iconst 34 rfl rfl ?_
          refine qr_retI rfl rfl (by decide) (by decide) ?_
          refine ⟨⟨_, rfl⟩, ⟨_, _, _, _, rfl⟩, ?_⟩
          refine qr_start (d := d + 2) qv_e242 (Nat.le_of_ble_eq_true rfl) ?_
          show qr_W (qe L xs vb) (d + 2) qx_e242 _ (0, [(0, .ref 86), (1, .long (ql 0)), (3, .int (qz x1)), (4, .int (qz x2))], [], _, 0, 0)
          refine qr_iload_n 1 rfl rfl rfl ?_
          refine qy_call 4 rfl rfl rfl ?_
          refine qr_start (d := d + 1) qv_e192 (Nat.le_of_ble_eq_true rfl) ?_
          show qr_W (qe L xs vb) (d + 1) qx_e192 _ (0, [(0, .int (qz x1))], [], _, 0, 0)
          refine qr_iload_n 1 rfl rfl rfl ?_
          refine qr_i2l 2 rfl (by omega) rfl ?_
          refine qr_lconst 3 rfl rfl ?_
          refine qy_vl 0 rfl ?_
          refine qr_ldc2 2399 6 rfl (by decide) rfl ?_
          refine qy_call 9 rfl rfl rfl ?_
          refine qr_start (d := d + 0) qv_e176 (Nat.le_of_ble_eq_true rfl) ?_
          show qr_W (qe L xs vb) (d + 0) qx_e176 _ (0, [(0, .long (ql x1)), (2, .long (ql 0)), (4, .long (ql 2399))], [], _, 0, 0)
          refine qr_lload_n 1 rfl rfl rfl ?_
          refine qr_lload_n 2 rfl rfl rfl ?_
          refine qr_lc_lt 17 6 rfl rfl rfl rfl (by omega) (by decide) (fun h => False.elim (by omega)) (fun h19 => ?_)
          refine qr_lload_n 7 rfl rfl rfl ?_
          refine qr_lload 9 rfl rfl rfl ?_
          refine qr_lc_gt 17 13 rfl rfl rfl rfl (by omega) (by decide) (fun h20 => ?_) (fun h => False.elim (by omega))
          refine qr_iconst 18 rfl rfl ?_
          refine qr_retZ rfl rfl (by omega) (by decide) (by decide) ?_
          show qr_W (qe L xs vb) (d + 1) qx_e192 _ (9, [(0, .int (qz x1))], [.int (qz 0)], _, 0, 0)
          refine qr_retZ rfl rfl (by omega) (by decide) (by decide) ?_
          show qr_W (qe L xs vb) (d + 2) qx_e242 _ (4, [(0, .ref 86), (1, .long (ql 0)), (3, .int (qz x1)), (4, .int (qz x2))], [.int (qz 0)], _, 0, 0)
          refine qr_if_eq 32 7 rfl rfl rfl (by decide) (fun _ => ?_) (fun h => absurd h (by decide))
          refine qr_iconst 33 rfl rfl ?_
          refine qr_retI rfl rfl (by decide) (by decide) ?_
          exact rfl
        · skip
          refine qr_iconst 12 rfl rfl ?_
          refine qr_goto 16 rfl rfl ?_
          refine qr_retZ rfl rfl (by omega) (by decide) (by decide) ?_
          show qr_W (qe L xs vb) (d + 2) qx_e127 _ (15, [(0, .ref 16), (1, .long (ql 0)), (3, .int (qz x1)), (4, .int (qz x2))], [.int (qz 1)], _, 0, 0)
          refine qr_if_eq 33 18 rfl rfl rfl (by decide) (fun h => absurd h (by decide)) (fun _ => ?_)
          refine qr_iload 20 rfl rfl rfl ?_
          refine qr_bipush 22 rfl (by decide) rfl ?_
          refine qr_icmp_lt 33 25 rfl rfl rfl (by omega) (by decide) (fun h21 => ?_) (fun h21 => ?_)
          · skip
            refine qr_iconst 34 rfl rfl ?_
            refine qr_retI rfl rfl (by decide) (by decide) ?_
            refine ⟨⟨_, rfl⟩, ⟨_, _, _, _, rfl⟩, ?_⟩
            refine qr_start (d := d + 2) qv_e242 (Nat.le_of_ble_eq_true rfl) ?_
            show qr_W (qe L xs vb) (d + 2) qx_e242 _ (0, [(0, .ref 86), (1, .long (ql 0)), (3, .int (qz x1)), (4, .int (qz x2))], [], _, 0, 0)
            refine qr_iload_n 1 rfl rfl rfl ?_
            refine qy_call 4 rfl rfl rfl ?_
            refine qr_start (d := d + 1) qv_e192 (Nat.le_of_ble_eq_true rfl) ?_
            show qr_W (qe L xs vb) (d + 1) qx_e192 _ (0, [(0, .int (qz x1))], [], _, 0, 0)
            refine qr_iload_n 1 rfl rfl rfl ?_
            refine qr_i2l 2 rfl (by omega) rfl ?_
            refine qr_lconst 3 rfl rfl ?_
            refine qy_vl 0 rfl ?_
            refine qr_ldc2 2399 6 rfl (by decide) rfl ?_
            refine qy_call 9 rfl rfl rfl ?_
            refine qr_start (d := d + 0) qv_e176 (Nat.le_of_ble_eq_true rfl) ?_
            show qr_W (qe L xs vb) (d + 0) qx_e176 _ (0, [(0, .long (ql x1)), (2, .long (ql 0)), (4, .long (ql 2399))], [], _, 0, 0)
            refine qr_lload_n 1 rfl rfl rfl ?_
            refine qr_lload_n 2 rfl rfl rfl ?_
            refine qr_lc_lt 17 6 rfl rfl rfl rfl (by omega) (by decide) (fun h => False.elim (by omega)) (fun h22 => ?_)
            refine qr_lload_n 7 rfl rfl rfl ?_
            refine qr_lload 9 rfl rfl rfl ?_
            refine qr_lc_gt 17 13 rfl rfl rfl rfl (by omega) (by decide) (fun h => False.elim (by omega)) (fun h23 => ?_)
            refine qr_iconst 14 rfl rfl ?_
            refine qr_goto 18 rfl rfl ?_
            refine qr_retZ rfl rfl (by omega) (by decide) (by decide) ?_
            show qr_W (qe L xs vb) (d + 1) qx_e192 _ (9, [(0, .int (qz x1))], [.int (qz 1)], _, 0, 0)
            refine qr_retZ rfl rfl (by omega) (by decide) (by decide) ?_
            show qr_W (qe L xs vb) (d + 2) qx_e242 _ (4, [(0, .ref 86), (1, .long (ql 0)), (3, .int (qz x1)), (4, .int (qz x2))], [.int (qz 1)], _, 0, 0)
            refine qr_if_eq 32 7 rfl rfl rfl (by decide) (fun h => absurd h (by decide)) (fun _ => ?_)
            refine qr_iload 9 rfl rfl rfl ?_
            refine qr_i2l 10 rfl (by omega) rfl ?_
            refine qr_ldc2 100 13 rfl (by decide) rfl ?_
            refine qr_ldc2 2499 16 rfl (by decide) rfl ?_
            refine qy_call 19 rfl rfl rfl ?_
            refine qr_start (d := d + 1) qv_e176 (Nat.le_of_ble_eq_true rfl) ?_
            show qr_W (qe L xs vb) (d + 1) qx_e176 _ (0, [(0, .long (ql x2)), (2, .long (ql 100)), (4, .long (ql 2499))], [], _, 0, 0)
            refine qr_lload_n 1 rfl rfl rfl ?_
            refine qr_lload_n 2 rfl rfl rfl ?_
            refine qr_lc_lt 17 6 rfl rfl rfl rfl (by omega) (by decide) (fun h24 => ?_) (fun h => False.elim (by omega))
            refine qr_iconst 18 rfl rfl ?_
            as_aux_lemma =>
              refine qr_retZ rfl rfl (by omega) (by decide) (by decide) ?_
              show qr_W (qe L xs vb) (d + 2) qx_e242 _ (19, [(0, .ref 86), (1, .long (ql 0)), (3, .int (qz x1)), (4, .int (qz x2))], [.int (qz 0)], _, 0, 0)
              refine qr_if_eq 32 22 rfl rfl rfl (by decide) (fun _ => ?_) (fun h => absurd h (by decide))
              refine qr_iconst 33 rfl rfl ?_
              refine qr_retI rfl rfl (by decide) (by decide) ?_
              exact rfl
          · skip
            refine qr_iload 27 rfl rfl rfl ?_
            refine qr_sipush 30 rfl (by decide) rfl ?_
            refine qr_icmp_le 35 33 rfl rfl rfl (by omega) (by decide) (fun h25 => ?_) (fun h25 => ?_)
            · skip
              refine qr_lload_n 36 rfl rfl rfl ?_
              refine qr_aload_n 37 rfl rfl rfl ?_
              refine qr_get 40 rfl rfl rfl (by decide) rfl ?_
              refine qr_get 43 rfl rfl rfl (by decide) rfl ?_
              refine qy_vl 0 rfl ?_
              refine qr_ldc2 (-1) 46 rfl (by decide) rfl ?_
              refine qr_lxor 47 rfl rfl ?_
              refine qy_vl (-1) rfl ?_
              refine qr_land 48 rfl rfl ?_
              refine qy_vl 0 rfl ?_
              refine qr_lstore [(5, .long (ql 0)), (0, .ref 16), (1, .long (ql 0)), (3, .int (qz x1)), (4, .int (qz x2))] 50 rfl (by decide) rfl rfl ?_
              refine qr_lload 52 rfl rfl rfl ?_
              refine qr_bipush 54 rfl (by decide) rfl ?_
              refine qy_call 57 rfl rfl rfl ?_
              refine qr_start (d := d + 1) qv_e109 (Nat.le_of_ble_eq_true rfl) ?_
              show qr_W (qe L xs vb) (d + 1) qx_e109 _ (0, [(0, .long (ql 0)), (2, .int (qz 6))], [], _, 0, 0)
              refine qr_lload_n 1 rfl rfl rfl ?_
              refine qr_lconst 2 rfl rfl ?_
              refine qy_vl 0 rfl ?_
              refine qr_lc_eq 18 6 rfl rfl rfl rfl (by decide) (by decide) (fun _ => ?_) (fun h => absurd h (by decide))
              refine qr_iconst 19 rfl rfl ?_
              refine qr_retZ rfl rfl (by omega) (by decide) (by decide) ?_
              show qr_W (qe L xs vb) (d + 2) qx_e127 _ (57, [(5, .long (ql 0)), (0, .ref 16), (1, .long (ql 0)), (3, .int (qz x1)), (4, .int (qz x2))], [.int (qz 0)], _, 0, 0)
              refine qr_if_ne 62 60 rfl rfl rfl (by decide) (fun h => absurd h (by decide)) (fun _ => ?_)
              refine qr_iconst 61 rfl rfl ?_
              refine qr_retI rfl rfl (by decide) (by decide) ?_
              refine ⟨⟨_, rfl⟩, ⟨_, _, _, _, rfl⟩, ?_⟩
              refine qr_start (d := d + 2) qv_e242 (Nat.le_of_ble_eq_true rfl) ?_
              show qr_W (qe L xs vb) (d + 2) qx_e242 _ (0, [(0, .ref 86), (1, .long (ql 0)), (3, .int (qz x1)), (4, .int (qz x2))], [], _, 0, 0)
              refine qr_iload_n 1 rfl rfl rfl ?_
              refine qy_call 4 rfl rfl rfl ?_
              refine qr_start (d := d + 1) qv_e192 (Nat.le_of_ble_eq_true rfl) ?_
              show qr_W (qe L xs vb) (d + 1) qx_e192 _ (0, [(0, .int (qz x1))], [], _, 0, 0)
              refine qr_iload_n 1 rfl rfl rfl ?_
              refine qr_i2l 2 rfl (by omega) rfl ?_
              refine qr_lconst 3 rfl rfl ?_
              refine qy_vl 0 rfl ?_
              refine qr_ldc2 2399 6 rfl (by decide) rfl ?_
              refine qy_call 9 rfl rfl rfl ?_
              refine qr_start (d := d + 0) qv_e176 (Nat.le_of_ble_eq_true rfl) ?_
              show qr_W (qe L xs vb) (d + 0) qx_e176 _ (0, [(0, .long (ql x1)), (2, .long (ql 0)), (4, .long (ql 2399))], [], _, 0, 0)
              as_aux_lemma =>
                refine qr_lload_n 1 rfl rfl rfl ?_
                refine qr_lload_n 2 rfl rfl rfl ?_
                refine qr_lc_lt 17 6 rfl rfl rfl rfl (by omega) (by decide) (fun h => False.elim (by omega)) (fun h26 => ?_)
                refine qr_lload_n 7 rfl rfl rfl ?_
                refine qr_lload 9 rfl rfl rfl ?_
                refine qr_lc_gt 17 13 rfl rfl rfl rfl (by omega) (by decide) (fun h => False.elim (by omega)) (fun h27 => ?_)
                refine qr_iconst 14 rfl rfl ?_
                refine qr_goto 18 rfl rfl ?_
                refine qr_retZ rfl rfl (by omega) (by decide) (by decide) ?_
                show qr_W (qe L xs vb) (d + 1) qx_e192 _ (9, [(0, .int (qz x1))], [.int (qz 1)], _, 0, 0)
                refine qr_retZ rfl rfl (by omega) (by decide) (by decide) ?_
                show qr_W (qe L xs vb) (d + 2) qx_e242 _ (4, [(0, .ref 86), (1, .long (ql 0)), (3, .int (qz x1)), (4, .int (qz x2))], [.int (qz 1)], _, 0, 0)
                refine qr_if_eq 32 7 rfl rfl rfl (by decide) (fun h => absurd h (by decide)) (fun _ => ?_)
                refine qr_iload 9 rfl rfl rfl ?_
                refine qr_i2l 10 rfl (by omega) rfl ?_
                refine qr_ldc2 100 13 rfl (by decide) rfl ?_
                refine qr_ldc2 2499 16 rfl (by decide) rfl ?_
                refine qy_call 19 rfl rfl rfl ?_
                refine qr_start (d := d + 1) qv_e176 (Nat.le_of_ble_eq_true rfl) ?_
                show qr_W (qe L xs vb) (d + 1) qx_e176 _ (0, [(0, .long (ql x2)), (2, .long (ql 100)), (4, .long (ql 2499))], [], _, 0, 0)
                refine qr_lload_n 1 rfl rfl rfl ?_
                refine qr_lload_n 2 rfl rfl rfl ?_
                refine qr_lc_lt 17 6 rfl rfl rfl rfl (by omega) (by decide) (fun h => False.elim (by omega)) (fun h28 => ?_)
                refine qr_lload_n 7 rfl rfl rfl ?_
                refine qr_lload 9 rfl rfl rfl ?_
                refine qr_lc_gt 17 13 rfl rfl rfl rfl (by omega) (by decide) (fun h => False.elim (by omega)) (fun h29 => ?_)
                refine qr_iconst 14 rfl rfl ?_
                refine qr_goto 18 rfl rfl ?_
                refine qr_retZ rfl rfl (by omega) (by decide) (by decide) ?_
                show qr_W (qe L xs vb) (d + 2) qx_e242 _ (19, [(0, .ref 86), (1, .long (ql 0)), (3, .int (qz x1)), (4, .int (qz x2))], [.int (qz 1)], _, 0, 0)
                refine qr_if_eq 32 22 rfl rfl rfl (by decide) (fun h => absurd h (by decide)) (fun _ => ?_)
                refine qr_aload_n 23 rfl rfl rfl ?_
                refine qr_lload_n 24 rfl rfl rfl ?_
                refine qr_bipush 26 rfl (by decide) rfl ?_
                refine qy_call 29 rfl rfl rfl ?_
                refine qr_start (d := d + 1) qv_e234 (Nat.le_of_ble_eq_true rfl) ?_
                show qr_W (qe L xs vb) (d + 1) qx_e234 _ (0, [(0, .ref 86), (1, .long (ql 0)), (3, .int (qz 6))], [], _, 0, 0)
                refine qr_aload_n 1 rfl rfl rfl ?_
                refine qr_iconst 2 rfl rfl ?_
                refine qr_put 5 rfl (by decide) rfl (Nat.le_of_ble_eq_true rfl) (Nat.le_of_ble_eq_true rfl) (Or.inl rfl) (qr_fitI rfl _) rfl ?_
                refine qy_wS (qw_s (qo_s s) 86 43 0) rfl (fun σ30 e30 => ?_)
                refine qr_iconst 6 rfl rfl ?_
                refine qr_istore [(4, .int (qz 0)), (0, .ref 86), (1, .long (ql 0)), (3, .int (qz 6))] 8 rfl (by decide) rfl rfl ?_
                refine qr_iload 10 rfl rfl rfl ?_
                refine qr_aload_n 11 rfl rfl rfl ?_
                refine qr_get 14 rfl rfl rfl (by decide) rfl ?_
                refine qy_v 0 (by subst_vars; rfl) ?_
                refine qr_icmp_ge 70 17 rfl rfl rfl (by decide) (by decide) (fun _ => ?_) (fun h => absurd h (by decide))
                refine qr_aload_n 71 rfl rfl rfl ?_
                refine qr_lload_n 72 rfl rfl rfl ?_
                refine qy_call 75 rfl rfl rfl ?_
                refine qr_start (d := d + 0) qv_e225 (Nat.le_of_ble_eq_true rfl) ?_
                show qr_W (qe L xs vb) (d + 0) qx_e225 _ (0, [(0, .ref 86), (1, .long (ql 0))], [], _, 0, 0)
                refine qr_lload_n 1 rfl rfl rfl ?_
                refine qr_lconst 2 rfl rfl ?_
                refine qy_vl 0 rfl ?_
                refine qr_lc_lt 21 6 rfl rfl rfl rfl (by decide) (by decide) (fun h => absurd h (by decide)) (fun _ => ?_)
                refine qr_lload_n 7 rfl rfl rfl ?_
                refine qr_aload_n 8 rfl rfl rfl ?_
                refine qr_get 11 rfl rfl rfl (by decide) rfl ?_
                refine qy_v 0 (by subst_vars; rfl) ?_
                refine qr_lshr 12 rfl rfl ?_
                refine qy_vl 0 rfl ?_
                refine qr_lconst 13 rfl rfl ?_
                refine qy_vl 0 rfl ?_
                refine qr_lc_ne 21 17 rfl rfl rfl rfl (by decide) (by decide) (fun h => absurd h (by decide)) (fun _ => ?_)
                refine qr_iconst 18 rfl rfl ?_
                refine qr_goto 22 rfl rfl ?_
                refine qr_retZ rfl rfl (by omega) (by decide) (by decide) ?_
                show qr_W (qe L xs vb) (d + 1) qx_e234 _ (75, [(4, .int (qz 0)), (0, .ref 86), (1, .long (ql 0)), (3, .int (qz 6))], [.int (qz 1)], _, 0, 0)
                refine qr_if_eq 96 78 rfl rfl rfl (by decide) (fun h => absurd h (by decide)) (fun _ => ?_)
                refine qr_aload_n 79 rfl rfl rfl ?_
                refine qr_get 82 rfl rfl rfl (by decide) rfl ?_
                refine qy_v 0 (by subst_vars; rfl) ?_
                refine qr_i2l 83 rfl (by omega) rfl ?_
                refine qy_vl 0 rfl ?_
                refine qr_lconst 84 rfl rfl ?_
                refine qy_vl 1 rfl ?_
                refine qr_iload_n 85 rfl rfl rfl ?_
                refine qr_i2l 86 rfl (by omega) rfl ?_
                refine qy_vl 6 rfl ?_
                as_aux_lemma =>
                  refine qy_call 89 rfl rfl rfl ?_
                  refine qr_start (d := d + 0) qv_e176 (Nat.le_of_ble_eq_true rfl) ?_
                  show qr_W (qe L xs vb) (d + 0) qx_e176 _ (0, [(0, .long (ql 0)), (2, .long (ql 1)), (4, .long (ql 6))], [], _, 0, 0)
                  refine qr_lload_n 1 rfl rfl rfl ?_
                  refine qr_lload_n 2 rfl rfl rfl ?_
                  refine qr_lc_lt 17 6 rfl rfl rfl rfl (by decide) (by decide) (fun _ => ?_) (fun h => absurd h (by decide))
                  refine qr_iconst 18 rfl rfl ?_
                  refine qr_retZ rfl rfl (by omega) (by decide) (by decide) ?_
                  show qr_W (qe L xs vb) (d + 1) qx_e234 _ (89, [(4, .int (qz 0)), (0, .ref 86), (1, .long (ql 0)), (3, .int (qz 6))], [.int (qz 0)], _, 0, 0)
                  refine qr_if_eq 96 92 rfl rfl rfl (by decide) (fun _ => ?_) (fun h => absurd h (by decide))
                  refine qr_iconst 97 rfl rfl ?_
                  refine qr_retZ rfl rfl (by omega) (by decide) (by decide) ?_
                  show qr_W (qe L xs vb) (d + 2) qx_e242 _ (29, [(0, .ref 86), (1, .long (ql 0)), (3, .int (qz x1)), (4, .int (qz x2))], [.int (qz 0)], _, 0, 0)
                  refine qr_if_ne 34 32 rfl rfl rfl (by decide) (fun h => absurd h (by decide)) (fun _ => ?_)
                  refine qr_iconst 33 rfl rfl ?_
                  refine qr_retI rfl rfl (by decide) (by decide) ?_
                  exact rfl
            · skip
              refine qr_iconst 34 rfl rfl ?_
              refine qr_retI rfl rfl (by decide) (by decide) ?_
              refine ⟨⟨_, rfl⟩, ⟨_, _, _, _, rfl⟩, ?_⟩
              refine qr_start (d := d + 2) qv_e242 (Nat.le_of_ble_eq_true rfl) ?_
              show qr_W (qe L xs vb) (d + 2) qx_e242 _ (0, [(0, .ref 86), (1, .long (ql 0)), (3, .int (qz x1)), (4, .int (qz x2))], [], _, 0, 0)
              refine qr_iload_n 1 rfl rfl rfl ?_
              refine qy_call 4 rfl rfl rfl ?_
              refine qr_start (d := d + 1) qv_e192 (Nat.le_of_ble_eq_true rfl) ?_
              show qr_W (qe L xs vb) (d + 1) qx_e192 _ (0, [(0, .int (qz x1))], [], _, 0, 0)
              refine qr_iload_n 1 rfl rfl rfl ?_
              refine qr_i2l 2 rfl (by omega) rfl ?_
              refine qr_lconst 3 rfl rfl ?_
              refine qy_vl 0 rfl ?_
              refine qr_ldc2 2399 6 rfl (by decide) rfl ?_
              refine qy_call 9 rfl rfl rfl ?_
              refine qr_start (d := d + 0) qv_e176 (Nat.le_of_ble_eq_true rfl) ?_
              show qr_W (qe L xs vb) (d + 0) qx_e176 _ (0, [(0, .long (ql x1)), (2, .long (ql 0)), (4, .long (ql 2399))], [], _, 0, 0)
              refine qr_lload_n 1 rfl rfl rfl ?_
              refine qr_lload_n 2 rfl rfl rfl ?_
              refine qr_lc_lt 17 6 rfl rfl rfl rfl (by omega) (by decide) (fun h => False.elim (by omega)) (fun h31 => ?_)
              refine qr_lload_n 7 rfl rfl rfl ?_
              refine qr_lload 9 rfl rfl rfl ?_
              refine qr_lc_gt 17 13 rfl rfl rfl rfl (by omega) (by decide) (fun h => False.elim (by omega)) (fun h32 => ?_)
              refine qr_iconst 14 rfl rfl ?_
              refine qr_goto 18 rfl rfl ?_
              refine qr_retZ rfl rfl (by omega) (by decide) (by decide) ?_
              show qr_W (qe L xs vb) (d + 1) qx_e192 _ (9, [(0, .int (qz x1))], [.int (qz 1)], _, 0, 0)
              refine qr_retZ rfl rfl (by omega) (by decide) (by decide) ?_
              show qr_W (qe L xs vb) (d + 2) qx_e242 _ (4, [(0, .ref 86), (1, .long (ql 0)), (3, .int (qz x1)), (4, .int (qz x2))], [.int (qz 1)], _, 0, 0)
              refine qr_if_eq 32 7 rfl rfl rfl (by decide) (fun h => absurd h (by decide)) (fun _ => ?_)
              refine qr_iload 9 rfl rfl rfl ?_
              refine qr_i2l 10 rfl (by omega) rfl ?_
              refine qr_ldc2 100 13 rfl (by decide) rfl ?_
              refine qr_ldc2 2499 16 rfl (by decide) rfl ?_
              refine qy_call 19 rfl rfl rfl ?_
              refine qr_start (d := d + 1) qv_e176 (Nat.le_of_ble_eq_true rfl) ?_
              show qr_W (qe L xs vb) (d + 1) qx_e176 _ (0, [(0, .long (ql x2)), (2, .long (ql 100)), (4, .long (ql 2499))], [], _, 0, 0)
              refine qr_lload_n 1 rfl rfl rfl ?_
              as_aux_lemma =>
                refine qr_lload_n 2 rfl rfl rfl ?_
                refine qr_lc_lt 17 6 rfl rfl rfl rfl (by omega) (by decide) (fun h => False.elim (by omega)) (fun h33 => ?_)
                refine qr_lload_n 7 rfl rfl rfl ?_
                refine qr_lload 9 rfl rfl rfl ?_
                refine qr_lc_gt 17 13 rfl rfl rfl rfl (by omega) (by decide) (fun h34 => ?_) (fun h => False.elim (by omega))
                refine qr_iconst 18 rfl rfl ?_
                refine qr_retZ rfl rfl (by omega) (by decide) (by decide) ?_
                show qr_W (qe L xs vb) (d + 2) qx_e242 _ (19, [(0, .ref 86), (1, .long (ql 0)), (3, .int (qz x1)), (4, .int (qz x2))], [.int (qz 0)], _, 0, 0)
                refine qr_if_eq 32 22 rfl rfl rfl (by decide) (fun _ => ?_) (fun h => absurd h (by decide))
                refine qr_iconst 33 rfl rfl ?_
                refine qr_retI rfl rfl (by decide) (by decide) ?_
                exact rfl

set_option maxHeartbeats 8000000 in
set_option maxRecDepth 20000 in
/-- worst on the fresh objects: both answer alike -/
theorem sx_worst {L : Nat} {xs : Nat → Int} {vb : Bool} {d : Nat} {s g : Nat → Nat → Int} {x0 : Int} {x1 : Int} (hok : qo_ok s g) (rx0 : -9223372036854775808 ≤ x0 ∧ x0 ≤ 9223372036854775807) (rx1 : -2147483648 ≤ x1 ∧ x1 ≤ 2147483647) : qm_T (qe L xs vb) (d + 3) 140 [.ref 16, .long (ql x0), .int (qz x1)] (qw (qo_s s) (qo_r g) qo_k 82) (fun r w => (∃ y : Int, r = some (.int (qz y))) ∧ (∃ σ α κ ρ, w = qw σ α κ ρ) ∧ qm_T (qe L xs vb) (d + 3) 252 [.ref 86, .long (ql x0), .int (qz x1)] w (fun r' _ => r' = r)) := by
  refine qr_start (d := d + 2) qv_e140 (Nat.le_of_ble_eq_true rfl) ?_
  show qr_W (qe L xs vb) (d + 2) qx_e140 _ (0, [(0, .ref 16), (1, .long (ql x0)), (3, .int (qz x1))], [], _, 0, 0)
  refine qr_aload_n 1 rfl rfl rfl ?_
  refine qr_get 4 rfl rfl rfl (by decide) rfl ?_
  refine qr_lload_n 5 rfl rfl rfl ?_
  refine qy_call 8 rfl rfl rfl ?_
  refine qr_start (d := d + 1) qv_e88 (Nat.le_of_ble_eq_true rfl) ?_
  show qr_W (qe L xs vb) (d + 1) qx_e88 _ (0, [(0, .ref 17), (1, .long (ql x0))], [], _, 0, 0)
  refine qr_lload_n 1 rfl rfl rfl ?_
  refine qr_lconst 2 rfl rfl ?_
  refine qy_vl 0 rfl ?_
  refine qr_lc_lt 21 6 rfl rfl rfl rfl (by omega) (by decide) (fun h1 => ?_) (fun h1 => ?_)
  · skip
    refine qr_iconst 22 rfl rfl ?_
    refine qr_retZ rfl rfl (by omega) (by decide) (by decide) ?_
    show qr_W (qe L xs vb) (d + 2) qx_e140 _ (8, [(0, .ref 16), (1, .long (ql x0)), (3, .int (qz x1))], [.int (qz 0)], _, 0, 0)
    refine qr_if_eq 18 11 rfl rfl rfl (by decide) (fun _ => ?_) (fun h => absurd h (by decide))
    refine qr_iconst 19 rfl rfl ?_
    refine qr_retI rfl rfl (by decide) (by decide) ?_
    refine ⟨⟨_, rfl⟩, ⟨_, _, _, _, rfl⟩, ?_⟩
    refine qr_start (d := d + 2) qv_e252 (Nat.le_of_ble_eq_true rfl) ?_
    show qr_W (qe L xs vb) (d + 2) qx_e252 _ (0, [(0, .ref 86), (1, .long (ql x0)), (3, .int (qz x1))], [], _, 0, 0)
    refine qr_aload_n 1 rfl rfl rfl ?_
    refine qr_lload_n 2 rfl rfl rfl ?_
    refine qy_call 5 rfl rfl rfl ?_
    refine qr_start (d := d + 1) qv_e225 (Nat.le_of_ble_eq_true rfl) ?_
    show qr_W (qe L xs vb) (d + 1) qx_e225 _ (0, [(0, .ref 86), (1, .long (ql x0))], [], _, 0, 0)
    refine qr_lload_n 1 rfl rfl rfl ?_
    refine qr_lconst 2 rfl rfl ?_
    refine qy_vl 0 rfl ?_
    refine qr_lc_lt 21 6 rfl rfl rfl rfl (by omega) (by decide) (fun h2 => ?_) (fun h => False.elim (by omega))
    refine qr_iconst 22 rfl rfl ?_
    refine qr_retZ rfl rfl (by omega) (by decide) (by decide) ?_
    show qr_W (qe L xs vb) (d + 2) qx_e252 _ (5, [(0, .ref 86), (1, .long (ql x0)), (3, .int (qz x1))], [.int (qz 0)], _, 0, 0)
    refine qr_if_eq 15 8 rfl rfl rfl (by decide) (fun _ => ?_) (fun h => absurd h (by decide))
    refine qr_iconst 16 rfl rfl ?_
    refine qr_retI rfl rfl (by decide) (by decide) ?_
    exact rfl
  · skip
    refine qr_lload_n 7 rfl rfl rfl ?_
    refine qr_aload_n 8 rfl rfl rfl ?_
    refine qr_get 11 rfl rfl rfl (by decide) rfl ?_
    refine qy_v 0 rfl ?_
    refine qr_lushr 12 rfl rfl ?_
    refine qy_vl x0 (ql_ushr0 (by omega)) ?_
    refine qr_lconst 13 rfl rfl ?_
    refine qy_vl 0 rfl ?_
    refine qr_lc_ne 21 17 rfl rfl rfl rfl (by omega) (by decide) (fun h3 => ?_) (fun h3 => ?_)
    · skip
      refine qr_iconst 22 rfl rfl ?_
      refine qr_retZ rfl rfl (by omega) (by decide) (by decide) ?_
      show qr_W (qe L xs vb) (d + 2) qx_e140 _ (8, [(0, .ref 16), (1, .long (ql x0)), (3, .int (qz x1))], [.int (qz 0)], _, 0, 0)
      refine qr_if_eq 18 11 rfl rfl rfl (by decide) (fun _ => ?_) (fun h => absurd h (by decide))
      refine qr_iconst 19 rfl rfl ?_
      refine qr_retI rfl rfl (by decide) (by decide) ?_
      refine ⟨⟨_, rfl⟩, ⟨_, _, _, _, rfl⟩, ?_⟩
      refine qr_start (d := d + 2) qv_e252 (Nat.le_of_ble_eq_true rfl) ?_
      show qr_W (qe L xs vb) (d + 2) qx_e252 _ (0, [(0, .ref 86), (1, .long (ql x0)), (3, .int (qz x1))], [], _, 0, 0)
      refine qr_aload_n 1 rfl rfl rfl ?_
      refine qr_lload_n 2 rfl rfl rfl ?_
      refine qy_call 5 rfl rfl rfl ?_
      refine qr_start (d := d + 1) qv_e225 (Nat.le_of_ble_eq_true rfl) ?_
      show qr_W (qe L xs vb) (d + 1) qx_e225 _ (0, [(0, .ref 86), (1, .long (ql x0))], [], _, 0, 0)
      refine qr_lload_n 1 rfl rfl rfl ?_
      refine qr_lconst 2 rfl rfl ?_
      refine qy_vl 0 rfl ?_
      refine qr_lc_lt 21 6 rfl rfl rfl rfl (by omega) (by decide) (fun h => False.elim (by omega)) (fun h4 => ?_)
      refine qr_lload_n 7 rfl rfl rfl ?_
      refine qr_aload_n 8 rfl rfl rfl ?_
      refine qr_get 11 rfl rfl rfl (by decide) rfl ?_
      refine qy_v 0 rfl ?_
      refine qr_lshr 12 rfl rfl ?_
      refine qy_vl x0 (ql_shr0 (by omega)) ?_
      refine qr_lconst 13 rfl rfl ?_
      refine qy_vl 0 rfl ?_
      refine qr_lc_ne 21 17 rfl rfl rfl rfl (by omega) (by decide) (fun h5 => ?_) (fun h => False.elim (by omega))
      refine qr_iconst 22 rfl rfl ?_
      refine qr_retZ rfl rfl (by omega) (by decide) (by decide) ?_
      show qr_W (qe L xs vb) (d + 2) qx_e252 _ (5, [(0, .ref 86), (1, .long (ql x0)), (3, .int (qz x1))], [.int (qz 0)], _, 0, 0)
      refine qr_if_eq 15 8 rfl rfl rfl (by decide) (fun _ => ?_) (fun h => absurd h (by decide))
      refine qr_iconst 16 rfl rfl ?_
      refine qr_retI rfl rfl (by decide) (by decide) ?_
      exact rfl
    · skip
      subst h3
      refine qr_iconst 18 rfl rfl ?_
      refine qr_goto 22 rfl rfl ?_
      refine qr_retZ rfl rfl (by omega) (by decide) (by decide) ?_
      show qr_W (qe L xs vb) (d + 2) qx_e140 _ (8, [(0, .ref 16), (1, .long (ql 0)), (3, .int (qz x1))], [.int (qz 1)], _, 0, 0)
      refine qr_if_eq 18 11 rfl rfl rfl (by decide) (fun h => absurd h (by decide)) (fun _ => ?_)
      refine qr_iload_n 12 rfl rfl rfl ?_
      refine qy_call 15 rfl rfl rfl ?_
      refine qr_start (d := d + 1) qv_e62 (Nat.le_of_ble_eq_true rfl) ?_
      show qr_W (qe L xs vb) (d + 1) qx_e62 _ (0, [(0, .int (qz x1))], [], _, 0, 0)
      refine qr_iload_n 1 rfl rfl rfl ?_
      refine qr_if_lt 15 4 rfl rfl rfl (by omega) (fun h6 => ?_) (fun h6 => ?_)
      · skip
        refine qr_iconst 16 rfl rfl ?_
        refine qr_retZ rfl rfl (by omega) (by decide) (by decide) ?_
        show qr_W (qe L xs vb) (d + 2) qx_e140 _ (15, [(0, .ref 16), (1, .long (ql 0)), (3, .int (qz x1))], [.int (qz 0)], _, 0, 0)
        refine qr_if_ne 20 18 rfl rfl rfl (by decide) (fun h => absurd h (by decide)) (fun _ => ?_)
        refine qr_iconst 19 rfl rfl ?_
        refine qr_retI rfl rfl (by decide) (by decide) ?_
        refine ⟨⟨_, rfl⟩, ⟨_, _, _, _, rfl⟩, ?_⟩
        refine qr_start (d := d + 2) qv_e252 (Nat.le_of_ble_eq_true rfl) ?_
        show qr_W (qe L xs vb) (d + 2) qx_e252 _ (0, [(0, .ref 86), (1, .long (ql 0)), (3, .int (qz x1))], [], _, 0, 0)
        refine qr_aload_n 1 rfl rfl rfl ?_
        refine qr_lload_n 2 rfl rfl rfl ?_
        refine qy_call 5 rfl rfl rfl ?_
        refine qr_start (d := d + 1) qv_e225 (Nat.le_of_ble_eq_true rfl) ?_
        show qr_W (qe L xs vb) (d + 1) qx_e225 _ (0, [(0, .ref 86), (1, .long (ql 0))], [], _, 0, 0)
        refine qr_lload_n 1 rfl rfl rfl ?_
        refine qr_lconst 2 rfl rfl ?_
        refine qy_vl 0 rfl ?_
        refine qr_lc_lt 21 6 rfl rfl rfl rfl (by decide) (by decide) (fun h => absurd h (by decide)) (fun _ => ?_)
        refine qr_lload_n 7 rfl rfl rfl ?_
        refine qr_aload_n 8 rfl rfl rfl ?_
        refine qr_get 11 rfl rfl rfl (by decide) rfl ?_
        refine qy_v 0 rfl ?_
        refine qr_lshr 12 rfl rfl ?_
        refine qy_vl 0 rfl ?_
        refine qr_lconst 13 rfl rfl ?_
        refine qy_vl 0 rfl ?_
        refine qr_lc_ne 21 17 rfl rfl rfl rfl (by decide) (by decide) (fun h => absurd h (by decide)) (fun _ => ?_)
        refine qr_iconst 18 rfl rfl ?_
        refine qr_goto 22 rfl rfl ?_
        refine qr_retZ rfl rfl (by omega) (by decide) (by decide) ?_
        show qr_W (qe L xs vb) (d + 2) qx_e252 _ (5, [(0, .ref 86), (1, .long (ql 0)), (3, .int (qz x1))], [.int (qz 1)], _, 0, 0)
        refine qr_if_eq 15 8 rfl rfl rfl (by decide) (fun h => absurd h (by decide)) (fun _ => ?_)
        refine qr_iload_n 9 rfl rfl rfl ?_
        refine qy_call 12 rfl rfl rfl ?_
        refine qr_start (d := d + 1) qv_e192 (Nat.le_of_ble_eq_true rfl) ?_
        show qr_W (qe L xs vb) (d + 1) qx_e192 _ (0, [(0, .int (qz x1))], [], _, 0, 0)
        refine qr_iload_n 1 rfl rfl rfl ?_
        refine qr_i2l 2 rfl (by omega) rfl ?_
        refine qr_lconst 3 rfl rfl ?_
        refine qy_vl 0 rfl ?_
        refine qr_ldc2 2399 6 rfl (by decide) rfl ?_
        refine qy_call 9 rfl rfl rfl ?_
        refine qr_start (d := d + 0) qv_e176 (Nat.le_of_ble_eq_true rfl) ?_
        show qr_W (qe L xs vb) (d + 0) qx_e176 _ (0, [(0, .long (ql x1)), (2, .long (ql 0)), (4, .long (ql 2399))], [], _, 0, 0)
        refine qr_lload_n 1 rfl rfl rfl ?_
        refine qr_lload_n 2 rfl rfl rfl ?_
        refine qr_lc_lt 17 6 rfl rfl rfl rfl (by omega) (by decide) (fun h7 => ?_) (fun h => False.elim (by omega))
        refine qr_iconst 18 rfl rfl ?_
        refine qr_retZ rfl rfl (by omega) (by decide) (by decide) ?_
        show qr_W (qe L xs vb) (d + 1) qx_e192 _ (9, [(0, .int (qz x1))], [.int (qz 0)], _, 0, 0)
        refine qr_retZ rfl rfl (by omega) (by decide) (by decide) ?_
        show qr_W (qe L xs vb) (d + 2) qx_e252 _ (12, [(0, .ref 86), (1, .long (ql 0)), (3, .int (qz x1))], [.int (qz 0)], _, 0, 0)
        refine qr_if_ne 17 15 rfl rfl rfl (by decide) (fun h => absurd h (by decide)) (fun _ => ?_)
        refine qr_iconst 16 rfl rfl ?_
        refine qr_retI rfl rfl (by decide) (by decide) ?_
        exact rfl
      · skip
        refine qr_iload_n 5 rfl rfl rfl ?_
        refine qr_sipush 8 rfl (by decide) rfl ?_
        refine qr_icmp_gt 15 11 rfl rfl rfl (by omega) (by decide) (fun h8 => ?_) (fun h8 => ?_)
        · skip
          refine qr_iconst 16 rfl rfl ?_
          refine qr_retZ rfl rfl (by omega) (by decide) (by decide) ?_
          show qr_W (qe L xs vb) (d + 2) qx_e140 _ (15, [(0, .ref 16), (1, .long (ql 0)), (3, .int (qz x1))], [.int (qz 0)], _, 0, 0)
          refine qr_if_ne 20 18 rfl rfl rfl (by decide) (fun h => absurd h (by decide)) (fun _ => ?_)
          refine qr_iconst 19 rfl rfl ?_
          refine qr_retI rfl rfl (by decide) (by decide) ?_
          refine ⟨⟨_, rfl⟩, ⟨_, _, _, _, rfl⟩, ?_⟩
          refine qr_start (d := d + 2) qv_e252 (Nat.le_of_ble_eq_true rfl) ?_
          show qr_W (qe L xs vb) (d + 2) qx_e252 _ (0, [(0, .ref 86), (1, .long (ql 0)), (3, .int (qz x1))], [], _, 0, 0)
          refine qr_aload_n 1 rfl rfl rfl ?_
          refine qr_lload_n 2 rfl rfl rfl ?_
          refine qy_call 5 rfl rfl rfl ?_
          refine qr_start (d := d + 1) qv_e225 (Nat.le_of_ble_eq_true rfl) ?_
          show qr_W (qe L xs vb) (d + 1) qx_e225 _ (0, [(0, .ref 86), (1, .long (ql 0))], [], _, 0, 0)
          refine qr_lload_n 1 rfl rfl rfl ?_
          refine qr_lconst 2 rfl rfl ?_
          refine qy_vl 0 rfl ?_
          refine qr_lc_lt 21 6 rfl rfl rfl rfl (by decide) (by decide) (fun h => absurd h (by decide)) (fun _ => ?_)
          refine qr_lload_n 7 rfl rfl rfl ?_
          refine qr_aload_n 8 rfl rfl rfl ?_
          refine qr_get 11 rfl rfl rfl (by decide) rfl ?_
          refine qy_v 0 rfl ?_
          refine qr_lshr 12 rfl rfl ?_
          refine qy_vl 0 rfl ?_
          refine qr_lconst 13 rfl rfl ?_
          refine qy_vl 0 rfl ?_
          refine qr_lc_ne 21 17 rfl rfl rfl rfl (by decide) (by decide) (fun h => absurd h (by decide)) (fun _ => ?_)
          refine qr_iconst 18 rfl rfl ?_
          refine qr_goto 22 rfl rfl ?_
          refine qr_retZ rfl rfl (by omega) (by decide) (by decide) ?_
          show qr_W (qe L xs vb) (d + 2) qx_e252 _ (5, [(0, .ref 86), (1, .long (ql 0)), (3, .int (qz x1))], [.int (qz 1)], _, 0, 0)
          refine qr_if_eq 15 8 rfl rfl rfl (by decide) (fun h => absurd h (by decide)) (fun _ => ?_)
          refine qr_iload_n 9 rfl rfl rfl ?_
          refine qy_call 12 rfl rfl rfl ?_
          refine qr_start (d := d + 1) qv_e192 (Nat.le_of_ble_eq_true rfl) ?_
          show qr_W (qe L xs vb) (d + 1) qx_e192 _ (0, [(0, .int (qz x1))], [], _, 0, 0)
          refine qr_iload_n 1 rfl rfl rfl ?_
          refine qr_i2l 2 rfl (by omega) rfl ?_
          refine qr_lconst 3 rfl rfl ?_
          refine qy_vl 0 rfl ?_
          refine qr_ldc2 2399 6 rfl (by decide) rfl ?_
          refine qy_call 9 rfl rfl rfl ?_
          refine qr_start (d := d + 0) qv_e176 (Nat.le_of_ble_eq_true rfl) ?_
          show qr_W (qe L xs vb) (d + 0) qx_e176 _ (0, [(0, .long (ql x1)), (2, .long (ql 0)), (4, .long (ql 2399))], [], _, 0, 0)
          refine qr_lload_n 1 rfl rfl rfl ?_
          refine qr_lload_n 2 rfl rfl rfl ?_
          refine qr_lc_lt 17 6 rfl rfl rfl rfl (by omega) (by decide) (fun h => False.elim (by omega)) (fun h9 => ?_)
          refine qr_lload_n 7 rfl rfl rfl ?_
          refine qr_lload 9 rfl rfl rfl ?_
          refine qr_lc_gt 17 13 rfl rfl rfl rfl (by omega) (by decide) (fun h10 => ?_) (fun h => False.elim (by omega))
          refine qr_iconst 18 rfl rfl ?_
          refine qr_retZ rfl rfl (by omega) (by decide) (by decide) ?_
          show qr_W (qe L xs vb) (d + 1) qx_e192 _ (9, [(0, .int (qz x1))], [.int (qz 0)], _, 0, 0)
          as_aux_lemma =>
            refine qr_retZ rfl rfl (by omega) (by decide) (by decide) ?_
            show qr_W (qe L xs vb) (d + 2) qx_e252 _ (12, [(0, .ref 86), (1, .long (ql 0)), (3, .int (qz x1))], [.int (qz 0)], _, 0, 0)
            refine qr_if_ne 17 15 rfl rfl rfl (by decide) (fun h => absurd h (by decide)) (fun _ => ?_)
            refine qr_iconst 16 rfl rfl ?_
            refine qr_retI rfl rfl (by decide) (by decide) ?_
            exact rfl
        · skip
          refine qr_iconst 12 rfl rfl ?_
          refine qr_goto 16 rfl rfl ?_
          refine qr_retZ rfl rfl (by omega) (by decide) (by decide) ?_
          show qr_W (qe L xs vb) (d + 2) qx_e140 _ (15, [(0, .ref 16), (1, .long (ql 0)), (3, .int (qz x1))], [.int (qz 1)], _, 0, 0)
          refine qr_if_ne 20 18 rfl rfl rfl (by decide) (fun _ => ?_) (fun h => absurd h (by decide))
          refine qr_lload_n 21 rfl rfl rfl ?_
          refine qr_aload_n 22 rfl rfl rfl ?_
          refine qr_get 25 rfl rfl rfl (by decide) rfl ?_
          refine qr_get 28 rfl rfl rfl (by decide) rfl ?_
          refine qy_vl 0 rfl ?_
          refine qr_ldc2 (-1) 31 rfl (by decide) rfl ?_
          refine qr_lxor 32 rfl rfl ?_
          refine qy_vl (-1) rfl ?_
          refine qr_land 33 rfl rfl ?_
          refine qy_vl 0 rfl ?_
          refine qr_lstore [(4, .long (ql 0)), (0, .ref 16), (1, .long (ql 0)), (3, .int (qz x1))] 35 rfl (by decide) rfl rfl ?_
          refine qr_aload_n 36 rfl rfl rfl ?_
          refine qr_get 39 rfl rfl rfl (by decide) rfl ?_
          refine qr_iload_n 40 rfl rfl rfl ?_
          refine qy_call 43 rfl rfl rfl ?_
          refine qr_start (d := d + 1) qv_e89 (Nat.le_of_ble_eq_true rfl) ?_
          show qr_W (qe L xs vb) (d + 1) qx_e89 _ (0, [(0, .ref 58), (1, .int (qz x1))], [], _, 0, 0)
          refine qr_aload_n 1 rfl rfl rfl ?_
          refine qr_iload_n 2 rfl rfl rfl ?_
          refine qr_put 5 rfl (by decide) rfl (Nat.le_of_ble_eq_true rfl) (Nat.le_of_ble_eq_true rfl) (Or.inl rfl) (qr_fitI rfl _) rfl ?_
          refine qy_wS (qw_s (qo_s s) 58 11 x1) rfl (fun σ11 e11 => ?_)
          refine qr_aload_n 6 rfl rfl rfl ?_
          refine qr_dup 7 rfl rfl rfl ?_
          refine qr_get 10 rfl rfl rfl (by decide) rfl ?_
          refine qy_v 0 (by subst_vars; rfl) ?_
          refine qr_iconst 11 rfl rfl ?_
          refine qr_iadd 12 rfl rfl ?_
          refine qy_v 1 rfl ?_
          refine qr_put 15 rfl (by decide) rfl (Nat.le_of_ble_eq_true rfl) (Nat.le_of_ble_eq_true rfl) (Or.inl rfl) (qr_fitI rfl _) rfl ?_
          refine qy_wS (qw_s σ11 58 12 1) rfl (fun σ12 e12 => ?_)
          refine qr_retV rfl rfl (by decide) (by decide) ?_
          show qr_W (qe L xs vb) (d + 2) qx_e140 _ (43, [(4, .long (ql 0)), (0, .ref 16), (1, .long (ql 0)), (3, .int (qz x1))], [], _, 0, 0)
          refine qr_bipush 45 rfl (by decide) rfl ?_
          refine qr_istore [(6, .int (qz (-2))), (4, .long (ql 0)), (0, .ref 16), (1, .long (ql 0)), (3, .int (qz x1))] 47 rfl (by decide) rfl rfl ?_
          refine qr_bipush 49 rfl (by decide) rfl ?_
          refine qr_istore [(7, .int (qz 33)), (6, .int (qz (-2))), (4, .long (ql 0)), (0, .ref 16), (1, .long (ql 0)), (3, .int (qz x1))] 51 rfl (by decide) rfl rfl ?_
          refine qr_iconst 52 rfl rfl ?_
          refine qr_istore [(8, .int (qz 0)), (7, .int (qz 33)), (6, .int (qz (-2))), (4, .long (ql 0)), (0, .ref 16), (1, .long (ql 0)), (3, .int (qz x1))] 54 rfl (by decide) rfl rfl ?_
          refine qr_iload 56 rfl rfl rfl ?_
          refine qr_aload_n 57 rfl rfl rfl ?_
          refine qr_get 60 rfl rfl rfl (by decide) rfl ?_
          refine qr_get 63 rfl rfl rfl (by decide) rfl ?_
          refine qy_v 0 (by subst_vars; rfl) ?_
          as_aux_lemma =>
            refine qr_icmp_ge 185 66 rfl rfl rfl (by decide) (by decide) (fun _ => ?_) (fun h => absurd h (by decide))
            refine qr_iload 187 rfl rfl rfl ?_
            refine qr_retI rfl rfl (by decide) (by decide) ?_
            refine ⟨⟨_, rfl⟩, ⟨_, _, _, _, rfl⟩, ?_⟩
            refine qr_start (d := d + 2) qv_e252 (Nat.le_of_ble_eq_true rfl) ?_
            show qr_W (qe L xs vb) (d + 2) qx_e252 _ (0, [(0, .ref 86), (1, .long (ql 0)), (3, .int (qz x1))], [], _, 0, 0)
            refine qr_aload_n 1 rfl rfl rfl ?_
            refine qr_lload_n 2 rfl rfl rfl ?_
            refine qy_call 5 rfl rfl rfl ?_
            refine qr_start (d := d + 1) qv_e225 (Nat.le_of_ble_eq_true rfl) ?_
            show qr_W (qe L xs vb) (d + 1) qx_e225 _ (0, [(0, .ref 86), (1, .long (ql 0))], [], _, 0, 0)
            refine qr_lload_n 1 rfl rfl rfl ?_
            refine qr_lconst 2 rfl rfl ?_
            refine qy_vl 0 rfl ?_
            refine qr_lc_lt 21 6 rfl rfl rfl rfl (by decide) (by decide) (fun h => absurd h (by decide)) (fun _ => ?_)
            refine qr_lload_n 7 rfl rfl rfl ?_
            refine qr_aload_n 8 rfl rfl rfl ?_
            refine qr_get 11 rfl rfl rfl (by decide) rfl ?_
            refine qy_v 0 (by subst_vars; rfl) ?_
            refine qr_lshr 12 rfl rfl ?_
            refine qy_vl 0 rfl ?_
            refine qr_lconst 13 rfl rfl ?_
            refine qy_vl 0 rfl ?_
            refine qr_lc_ne 21 17 rfl rfl rfl rfl (by decide) (by decide) (fun h => absurd h (by decide)) (fun _ => ?_)
            refine qr_iconst 18 rfl rfl ?_
            refine qr_goto 22 rfl rfl ?_
            refine qr_retZ rfl rfl (by omega) (by decide) (by decide) ?_
            show qr_W (qe L xs vb) (d + 2) qx_e252 _ (5, [(0, .ref 86), (1, .long (ql 0)), (3, .int (qz x1))], [.int (qz 1)], _, 0, 0)
            refine qr_if_eq 15 8 rfl rfl rfl (by decide) (fun h => absurd h (by decide)) (fun _ => ?_)
            refine qr_iload_n 9 rfl rfl rfl ?_
            refine qy_call 12 rfl rfl rfl ?_
            refine qr_start (d := d + 1) qv_e192 (Nat.le_of_ble_eq_true rfl) ?_
            show qr_W (qe L xs vb) (d + 1) qx_e192 _ (0, [(0, .int (qz x1))], [], _, 0, 0)
            refine qr_iload_n 1 rfl rfl rfl ?_
            refine qr_i2l 2 rfl (by omega) rfl ?_
            refine qr_lconst 3 rfl rfl ?_
            refine qy_vl 0 rfl ?_
            refine qr_ldc2 2399 6 rfl (by decide) rfl ?_
            refine qy_call 9 rfl rfl rfl ?_
            refine qr_start (d := d + 0) qv_e176 (Nat.le_of_ble_eq_true rfl) ?_
            show qr_W (qe L xs vb) (d + 0) qx_e176 _ (0, [(0, .long (ql x1)), (2, .long (ql 0)), (4, .long (ql 2399))], [], _, 0, 0)
            refine qr_lload_n 1 rfl rfl rfl ?_
            refine qr_lload_n 2 rfl rfl rfl ?_
            refine qr_lc_lt 17 6 rfl rfl rfl rfl (by omega) (by decide) (fun h => False.elim (by omega)) (fun h13 => ?_)
            refine qr_lload_n 7 rfl rfl rfl ?_
            refine qr_lload 9 rfl rfl rfl ?_
            refine qr_lc_gt 17 13 rfl rfl rfl rfl (by omega) (by decide) (fun h => False.elim (by omega)) (fun h14 => ?_)
            refine qr_iconst 14 rfl rfl ?_
            refine qr_goto 18 rfl rfl ?_
            refine qr_retZ rfl rfl (by omega) (by decide) (by decide) ?_
            show qr_W (qe L xs vb) (d + 1) qx_e192 _ (9, [(0, .int (qz x1))], [.int (qz 1)], _, 0, 0)
            refine qr_retZ rfl rfl (by omega) (by decide) (by decide) ?_
            show qr_W (qe L xs vb) (d + 2) qx_e252 _ (12, [(0, .ref 86), (1, .long (ql 0)), (3, .int (qz x1))], [.int (qz 1)], _, 0, 0)
            refine qr_if_ne 17 15 rfl rfl rfl (by decide) (fun _ => ?_) (fun h => absurd h (by decide))
            refine qr_lload_n 18 rfl rfl rfl ?_
            refine qr_aload_n 19 rfl rfl rfl ?_
            refine qr_get 22 rfl rfl rfl (by decide) rfl ?_
            refine qy_vl 0 (by subst_vars; rfl) ?_
            refine qr_ldc2 (-1) 25 rfl (by decide) rfl ?_
            refine qr_lxor 26 rfl rfl ?_
            refine qy_vl (-1) rfl ?_
            refine qr_land 27 rfl rfl ?_
            refine qy_vl 0 rfl ?_
            refine qr_lstore [(4, .long (ql 0)), (0, .ref 86), (1, .long (ql 0)), (3, .int (qz x1))] 29 rfl (by decide) rfl rfl ?_
            refine qr_aload_n 30 rfl rfl rfl ?_
            refine qr_get 33 rfl rfl rfl (by decide) rfl ?_
            refine qy_vl 0 (by subst_vars; rfl) ?_
            refine qr_lstore [(6, .long (ql 0)), (4, .long (ql 0)), (0, .ref 86), (1, .long (ql 0)), (3, .int (qz x1))] 35 rfl (by decide) rfl rfl ?_
            refine qr_aload_n 36 rfl rfl rfl ?_
            refine qr_get 39 rfl rfl rfl (by decide) rfl ?_
            refine qy_vl (-1) (by subst_vars; rfl) ?_
            refine qr_lstore [(8, .long (ql (-1))), (6, .long (ql 0)), (4, .long (ql 0)), (0, .ref 86), (1, .long (ql 0)), (3, .int (qz x1))] 41 rfl (by decide) rfl rfl ?_
            refine qr_aload_n 42 rfl rfl rfl ?_
            refine qr_get 45 rfl rfl rfl (by decide) rfl ?_
            refine qy_v 0 (by subst_vars; rfl) ?_
            refine qr_istore [(10, .int (qz 0)), (8, .long (ql (-1))), (6, .long (ql 0)), (4, .long (ql 0)), (0, .ref 86), (1, .long (ql 0)), (3, .int (qz x1))] 47 rfl (by decide) rfl rfl ?_
            refine qr_iconst 48 rfl rfl ?_
            refine qr_istore [(11, .int (qz 0)), (10, .int (qz 0)), (8, .long (ql (-1))), (6, .long (ql 0)), (4, .long (ql 0)), (0, .ref 86), (1, .long (ql 0)), (3, .int (qz x1))] 50 rfl (by decide) rfl rfl ?_
            refine qr_iload 52 rfl rfl rfl ?_
            refine qr_bipush 54 rfl (by decide) rfl ?_
            refine qr_icmp_ge 91 57 rfl rfl rfl (by decide) (by decide) (fun h => absurd h (by decide)) (fun _ => ?_)
            refine qr_aload_n 58 rfl rfl rfl ?_
            refine qr_get 61 rfl rfl rfl (by decide) rfl ?_
            refine qr_iload 63 rfl rfl rfl ?_
            as_aux_lemma =>
              refine qr_aload_n 64 rfl rfl rfl ?_
              refine qr_get 67 rfl rfl rfl (by decide) rfl ?_
              refine qr_iload 69 rfl rfl rfl ?_
              refine qr_iaload 70 rfl rfl (by omega) (by decide) rfl ?_
              refine qy_v 0 (by subst_vars; rfl) ?_
              refine qr_iastore 71 rfl (by decide) rfl (by omega) (by decide) rfl ?_
              refine qy_wA (qw_r (qo_r g) 117 (qzu ((qo_r g) 117) (0 : Int).toNat 0)) rfl (fun α15 e15 => ?_)
              refine qr_aload_n 72 rfl rfl rfl ?_
              refine qr_get 75 rfl rfl rfl (by decide) rfl ?_
              refine qr_iload 77 rfl rfl rfl ?_
              refine qr_aload_n 78 rfl rfl rfl ?_
              refine qr_get 81 rfl rfl rfl (by decide) rfl ?_
              refine qr_iload 83 rfl rfl rfl ?_
              refine qr_iaload 84 rfl rfl (by omega) (by decide) rfl ?_
              refine qy_v 0 (by subst_vars; rfl) ?_
              refine qr_iastore 85 rfl (by decide) rfl (by omega) (by decide) rfl ?_
              refine qy_wA (qw_r α15 118 (qzu (α15 118) (0 : Int).toNat 0)) rfl (fun α16 e16 => ?_)
              refine qr_iinc [(11, .int (qz 1)), (10, .int (qz 0)), (8, .long (ql (-1))), (6, .long (ql 0)), (4, .long (ql 0)), (0, .ref 86), (1, .long (ql 0)), (3, .int (qz x1))] 88 rfl rfl (by decide) rfl rfl ?_
              refine qr_goto 50 rfl rfl ?_
              refine qr_iload 52 rfl rfl rfl ?_
              refine qr_bipush 54 rfl (by decide) rfl ?_
              refine qr_icmp_ge 91 57 rfl rfl rfl (by decide) (by decide) (fun h => absurd h (by decide)) (fun _ => ?_)
              refine qr_aload_n 58 rfl rfl rfl ?_
              refine qr_get 61 rfl rfl rfl (by decide) rfl ?_
              refine qr_iload 63 rfl rfl rfl ?_
              refine qr_aload_n 64 rfl rfl rfl ?_
              refine qr_get 67 rfl rfl rfl (by decide) rfl ?_
              refine qr_iload 69 rfl rfl rfl ?_
              refine qr_iaload 70 rfl rfl (by omega) (by decide) rfl ?_
              refine qy_v 0 (by subst_vars; rfl) ?_
              refine qr_iastore 71 rfl (by decide) rfl (by omega) (by decide) rfl ?_
              refine qy_wA (qw_r α16 117 (qzu (α16 117) (1 : Int).toNat 0)) rfl (fun α17 e17 => ?_)
              refine qr_aload_n 72 rfl rfl rfl ?_
              refine qr_get 75 rfl rfl rfl (by decide) rfl ?_
              refine qr_iload 77 rfl rfl rfl ?_
              refine qr_aload_n 78 rfl rfl rfl ?_
              refine qr_get 81 rfl rfl rfl (by decide) rfl ?_
              refine qr_iload 83 rfl rfl rfl ?_
              refine qr_iaload 84 rfl rfl (by omega) (by decide) rfl ?_
              refine qy_v 0 (by subst_vars; rfl) ?_
              refine qr_iastore 85 rfl (by decide) rfl (by omega) (by decide) rfl ?_
              refine qy_wA (qw_r α17 118 (qzu (α17 118) (1 : Int).toNat 0)) rfl (fun α18 e18 => ?_)
              refine qr_iinc [(11, .int (qz 2)), (10, .int (qz 0)), (8, .long (ql (-1))), (6, .long (ql 0)), (4, .long (ql 0)), (0, .ref 86), (1, .long (ql 0)), (3, .int (qz x1))] 88 rfl rfl (by decide) rfl rfl ?_
              refine qr_goto 50 rfl rfl ?_
              refine qr_iload 52 rfl rfl rfl ?_
              refine qr_bipush 54 rfl (by decide) rfl ?_
              refine qr_icmp_ge 91 57 rfl rfl rfl (by decide) (by decide) (fun h => absurd h (by decide)) (fun _ => ?_)
              refine qr_aload_n 58 rfl rfl rfl ?_
              refine qr_get 61 rfl rfl rfl (by decide) rfl ?_
              refine qr_iload 63 rfl rfl rfl ?_
              refine qr_aload_n 64 rfl rfl rfl ?_
              refine qr_get 67 rfl rfl rfl (by decide) rfl ?_
              refine qr_iload 69 rfl rfl rfl ?_
              refine qr_iaload 70 rfl rfl (by omega) (by decide) rfl ?_
              refine qy_v 0 (by subst_vars; rfl) ?_
              refine qr_iastore 71 rfl (by decide) rfl (by omega) (by decide) rfl ?_
              refine qy_wA (qw_r α18 117 (qzu (α18 117) (2 : Int).toNat 0)) rfl (fun α19 e19 => ?_)
              refine qr_aload_n 72 rfl rfl rfl ?_
              refine qr_get 75 rfl rfl rfl (by decide) rfl ?_
              refine qr_iload 77 rfl rfl rfl ?_
              refine qr_aload_n 78 rfl rfl rfl ?_
              refine qr_get 81 rfl rfl rfl (by decide) rfl ?_
              refine qr_iload 83 rfl rfl rfl ?_
              refine qr_iaload 84 rfl rfl (by omega) (by decide) rfl ?_
              refine qy_v 0 (by subst_vars; rfl) ?_
              refine qr_iastore 85 rfl (by decide) rfl (by omega) (by decide) rfl ?_
              refine qy_wA (qw_r α19 118 (qzu (α19 118) (2 : Int).toNat 0)) rfl (fun α20 e20 => ?_)
              refine qr_iinc [(11, .int (qz 3)), (10, .int (qz 0)), (8, .long (ql (-1))), (6, .long (ql 0)), (4, .long (ql 0)), (0, .ref 86), (1, .long (ql 0)), (3, .int (qz x1))] 88 rfl rfl (by decide) rfl rfl ?_
              refine qr_goto 50 rfl rfl ?_
              refine qr_iload 52 rfl rfl rfl ?_
              refine qr_bipush 54 rfl (by decide) rfl ?_
              refine qr_icmp_ge 91 57 rfl rfl rfl (by decide) (by decide) (fun h => absurd h (by decide)) (fun _ => ?_)
              refine qr_aload_n 58 rfl rfl rfl ?_
              as_aux_lemma =>
                refine qr_get 61 rfl rfl rfl (by decide) rfl ?_
                refine qr_iload 63 rfl rfl rfl ?_
                refine qr_aload_n 64 rfl rfl rfl ?_
                refine qr_get 67 rfl rfl rfl (by decide) rfl ?_
                refine qr_iload 69 rfl rfl rfl ?_
                refine qr_iaload 70 rfl rfl (by omega) (by decide) rfl ?_
                refine qy_v 0 (by subst_vars; rfl) ?_
                refine qr_iastore 71 rfl (by decide) rfl (by omega) (by decide) rfl ?_
                refine qy_wA (qw_r α20 117 (qzu (α20 117) (3 : Int).toNat 0)) rfl (fun α21 e21 => ?_)
                refine qr_aload_n 72 rfl rfl rfl ?_
                refine qr_get 75 rfl rfl rfl (by decide) rfl ?_
                refine qr_iload 77 rfl rfl rfl ?_
                refine qr_aload_n 78 rfl rfl rfl ?_
                refine qr_get 81 rfl rfl rfl (by decide) rfl ?_
                refine qr_iload 83 rfl rfl rfl ?_
                refine qr_iaload 84 rfl rfl (by omega) (by decide) rfl ?_
                refine qy_v 0 (by subst_vars; rfl) ?_
                refine qr_iastore 85 rfl (by decide) rfl (by omega) (by decide) rfl ?_
                refine qy_wA (qw_r α21 118 (qzu (α21 118) (3 : Int).toNat 0)) rfl (fun α22 e22 => ?_)
                refine qr_iinc [(11, .int (qz 4)), (10, .int (qz 0)), (8, .long (ql (-1))), (6, .long (ql 0)), (4, .long (ql 0)), (0, .ref 86), (1, .long (ql 0)), (3, .int (qz x1))] 88 rfl rfl (by decide) rfl rfl ?_
                refine qr_goto 50 rfl rfl ?_
                refine qr_iload 52 rfl rfl rfl ?_
                refine qr_bipush 54 rfl (by decide) rfl ?_
                refine qr_icmp_ge 91 57 rfl rfl rfl (by decide) (by decide) (fun h => absurd h (by decide)) (fun _ => ?_)
                refine qr_aload_n 58 rfl rfl rfl ?_
                refine qr_get 61 rfl rfl rfl (by decide) rfl ?_
                refine qr_iload 63 rfl rfl rfl ?_
                refine qr_aload_n 64 rfl rfl rfl ?_
                refine qr_get 67 rfl rfl rfl (by decide) rfl ?_
                refine qr_iload 69 rfl rfl rfl ?_
                refine qr_iaload 70 rfl rfl (by omega) (by decide) rfl ?_
                refine qy_v 0 (by subst_vars; rfl) ?_
                refine qr_iastore 71 rfl (by decide) rfl (by omega) (by decide) rfl ?_
                refine qy_wA (qw_r α22 117 (qzu (α22 117) (4 : Int).toNat 0)) rfl (fun α23 e23 => ?_)
                refine qr_aload_n 72 rfl rfl rfl ?_
                refine qr_get 75 rfl rfl rfl (by decide) rfl ?_
                refine qr_iload 77 rfl rfl rfl ?_
                refine qr_aload_n 78 rfl rfl rfl ?_
                refine qr_get 81 rfl rfl rfl (by decide) rfl ?_
                refine qr_iload 83 rfl rfl rfl ?_
                refine qr_iaload 84 rfl rfl (by omega) (by decide) rfl ?_
                refine qy_v 0 (by subst_vars; rfl) ?_
                refine qr_iastore 85 rfl (by decide) rfl (by omega) (by decide) rfl ?_
                refine qy_wA (qw_r α23 118 (qzu (α23 118) (4 : Int).toNat 0)) rfl (fun α24 e24 => ?_)
                refine qr_iinc [(11, .int (qz 5)), (10, .int (qz 0)), (8, .long (ql (-1))), (6, .long (ql 0)), (4, .long (ql 0)), (0, .ref 86), (1, .long (ql 0)), (3, .int (qz x1))] 88 rfl rfl (by decide) rfl rfl ?_
                refine qr_goto 50 rfl rfl ?_
                refine qr_iload 52 rfl rfl rfl ?_
                refine qr_bipush 54 rfl (by decide) rfl ?_
                refine qr_icmp_ge 91 57 rfl rfl rfl (by decide) (by decide) (fun h => absurd h (by decide)) (fun _ => ?_)
                refine qr_aload_n 58 rfl rfl rfl ?_
                refine qr_get 61 rfl rfl rfl (by decide) rfl ?_
                refine qr_iload 63 rfl rfl rfl ?_
                refine qr_aload_n 64 rfl rfl rfl ?_
                refine qr_get 67 rfl rfl rfl (by decide) rfl ?_
                refine qr_iload 69 rfl rfl rfl ?_
                refine qr_iaload 70 rfl rfl (by omega) (by decide) rfl ?_
                refine qy_v 0 (by subst_vars; rfl) ?_
                refine qr_iastore 71 rfl (by decide) rfl (by omega) (by decide) rfl ?_
                refine qy_wA (qw_r α24 117 (qzu (α24 117) (5 : Int).toNat 0)) rfl (fun α25 e25 => ?_)
                refine qr_aload_n 72 rfl rfl rfl ?_
                refine qr_get 75 rfl rfl rfl (by decide) rfl ?_
                refine qr_iload 77 rfl rfl rfl ?_
                refine qr_aload_n 78 rfl rfl rfl ?_
                refine qr_get 81 rfl rfl rfl (by decide) rfl ?_
                refine qr_iload 83 rfl rfl rfl ?_
                refine qr_iaload 84 rfl rfl (by omega) (by decide) rfl ?_
                refine qy_v 0 (by subst_vars; rfl) ?_
                refine qr_iastore 85 rfl (by decide) rfl (by omega) (by decide) rfl ?_
                refine qy_wA (qw_r α25 118 (qzu (α25 118) (5 : Int).toNat 0)) rfl (fun α26 e26 => ?_)
                refine qr_iinc [(11, .int (qz 6)), (10, .int (qz 0)), (8, .long (ql (-1))), (6, .long (ql 0)), (4, .long (ql 0)), (0, .ref 86), (1, .long (ql 0)), (3, .int (qz x1))] 88 rfl rfl (by decide) rfl rfl ?_
                refine qr_goto 50 rfl rfl ?_
                refine qr_iload 52 rfl rfl rfl ?_
                refine qr_bipush 54 rfl (by decide) rfl ?_
                as_aux_lemma =>
                  refine qr_icmp_ge 91 57 rfl rfl rfl (by decide) (by decide) (fun h => absurd h (by decide)) (fun _ => ?_)
                  refine qr_aload_n 58 rfl rfl rfl ?_
                  refine qr_get 61 rfl rfl rfl (by decide) rfl ?_
                  refine qr_iload 63 rfl rfl rfl ?_
                  refine qr_aload_n 64 rfl rfl rfl ?_
                  refine qr_get 67 rfl rfl rfl (by decide) rfl ?_
                  refine qr_iload 69 rfl rfl rfl ?_
                  refine qr_iaload 70 rfl rfl (by omega) (by decide) rfl ?_
                  refine qy_v 0 (by subst_vars; rfl) ?_
                  refine qr_iastore 71 rfl (by decide) rfl (by omega) (by decide) rfl ?_
                  refine qy_wA (qw_r α26 117 (qzu (α26 117) (6 : Int).toNat 0)) rfl (fun α27 e27 => ?_)
                  refine qr_aload_n 72 rfl rfl rfl ?_
                  refine qr_get 75 rfl rfl rfl (by decide) rfl ?_
                  refine qr_iload 77 rfl rfl rfl ?_
                  refine qr_aload_n 78 rfl rfl rfl ?_
                  refine qr_get 81 rfl rfl rfl (by decide) rfl ?_
                  refine qr_iload 83 rfl rfl rfl ?_
                  refine qr_iaload 84 rfl rfl (by omega) (by decide) rfl ?_
                  refine qy_v 0 (by subst_vars; rfl) ?_
                  refine qr_iastore 85 rfl (by decide) rfl (by omega) (by decide) rfl ?_
                  refine qy_wA (qw_r α27 118 (qzu (α27 118) (6 : Int).toNat 0)) rfl (fun α28 e28 => ?_)
                  refine qr_iinc [(11, .int (qz 7)), (10, .int (qz 0)), (8, .long (ql (-1))), (6, .long (ql 0)), (4, .long (ql 0)), (0, .ref 86), (1, .long (ql 0)), (3, .int (qz x1))] 88 rfl rfl (by decide) rfl rfl ?_
                  refine qr_goto 50 rfl rfl ?_
                  refine qr_iload 52 rfl rfl rfl ?_
                  refine qr_bipush 54 rfl (by decide) rfl ?_
                  refine qr_icmp_ge 91 57 rfl rfl rfl (by decide) (by decide) (fun h => absurd h (by decide)) (fun _ => ?_)
                  refine qr_aload_n 58 rfl rfl rfl ?_
                  refine qr_get 61 rfl rfl rfl (by decide) rfl ?_
                  refine qr_iload 63 rfl rfl rfl ?_
                  refine qr_aload_n 64 rfl rfl rfl ?_
                  refine qr_get 67 rfl rfl rfl (by decide) rfl ?_
                  refine qr_iload 69 rfl rfl rfl ?_
                  refine qr_iaload 70 rfl rfl (by omega) (by decide) rfl ?_
                  refine qy_v 0 (by subst_vars; rfl) ?_
                  refine qr_iastore 71 rfl (by decide) rfl (by omega) (by decide) rfl ?_
                  refine qy_wA (qw_r α28 117 (qzu (α28 117) (7 : Int).toNat 0)) rfl (fun α29 e29 => ?_)
                  refine qr_aload_n 72 rfl rfl rfl ?_
                  refine qr_get 75 rfl rfl rfl (by decide) rfl ?_
                  refine qr_iload 77 rfl rfl rfl ?_
                  refine qr_aload_n 78 rfl rfl rfl ?_
                  refine qr_get 81 rfl rfl rfl (by decide) rfl ?_
                  refine qr_iload 83 rfl rfl rfl ?_
                  refine qr_iaload 84 rfl rfl (by omega) (by decide) rfl ?_
                  refine qy_v 0 (by subst_vars; rfl) ?_
                  refine qr_iastore 85 rfl (by decide) rfl (by omega) (by decide) rfl ?_
                  refine qy_wA (qw_r α29 118 (qzu (α29 118) (7 : Int).toNat 0)) rfl (fun α30 e30 => ?_)
                  refine qr_iinc [(11, .int (qz 8)), (10, .int (qz 0)), (8, .long (ql (-1))), (6, .long (ql 0)), (4, .long (ql 0)), (0, .ref 86), (1, .long (ql 0)), (3, .int (qz x1))] 88 rfl rfl (by decide) rfl rfl ?_
                  refine qr_goto 50 rfl rfl ?_
                  refine qr_iload 52 rfl rfl rfl ?_
                  refine qr_bipush 54 rfl (by decide) rfl ?_
                  refine qr_icmp_ge 91 57 rfl rfl rfl (by decide) (by decide) (fun h => absurd h (by decide)) (fun _ => ?_)
                  refine qr_aload_n 58 rfl rfl rfl ?_
                  refine qr_get 61 rfl rfl rfl (by decide) rfl ?_
                  refine qr_iload 63 rfl rfl rfl ?_
                  refine qr_aload_n 64 rfl rfl rfl ?_
                  refine qr_get 67 rfl rfl rfl (by decide) rfl ?_
                  refine qr_iload 69 rfl rfl rfl ?_
                  refine qr_iaload 70 rfl rfl (by omega) (by decide) rfl ?_
                  refine qy_v 0 (by subst_vars; rfl) ?_
                  refine qr_iastore 71 rfl (by decide) rfl (by omega) (by decide) rfl ?_
                  refine qy_wA (qw_r α30 117 (qzu (α30 117) (8 : Int).toNat 0)) rfl (fun α31 e31 => ?_)
                  refine qr_aload_n 72 rfl rfl rfl ?_
                  refine qr_get 75 rfl rfl rfl (by decide) rfl ?_
                  refine qr_iload 77 rfl rfl rfl ?_
                  refine qr_aload_n 78 rfl rfl rfl ?_
                  refine qr_get 81 rfl rfl rfl (by decide) rfl ?_
                  refine qr_iload 83 rfl rfl rfl ?_
                  refine qr_iaload 84 rfl rfl (by omega) (by decide) rfl ?_
                  refine qy_v 0 (by subst_vars; rfl) ?_
                  refine qr_iastore 85 rfl (by decide) rfl (by omega) (by decide) rfl ?_
                  refine qy_wA (qw_r α31 118 (qzu (α31 118) (8 : Int).toNat 0)) rfl (fun α32 e32 => ?_)
                  refine qr_iinc [(11, .int (qz 9)), (10, .int (qz 0)), (8, .long (ql (-1))), (6, .long (ql 0)), (4, .long (ql 0)), (0, .ref 86), (1, .long (ql 0)), (3, .int (qz x1))] 88 rfl rfl (by decide) rfl rfl ?_
                  refine qr_goto 50 rfl rfl ?_
                  as_aux_lemma =>
                    refine qr_iload 52 rfl rfl rfl ?_
                    refine qr_bipush 54 rfl (by decide) rfl ?_
                    refine qr_icmp_ge 91 57 rfl rfl rfl (by decide) (by decide) (fun h => absurd h (by decide)) (fun _ => ?_)
                    refine qr_aload_n 58 rfl rfl rfl ?_
                    refine qr_get 61 rfl rfl rfl (by decide) rfl ?_
                    refine qr_iload 63 rfl rfl rfl ?_
                    refine qr_aload_n 64 rfl rfl rfl ?_
                    refine qr_get 67 rfl rfl rfl (by decide) rfl ?_
                    refine qr_iload 69 rfl rfl rfl ?_
                    refine qr_iaload 70 rfl rfl (by omega) (by decide) rfl ?_
                    refine qy_v 0 (by subst_vars; rfl) ?_
                    refine qr_iastore 71 rfl (by decide) rfl (by omega) (by decide) rfl ?_
                    refine qy_wA (qw_r α32 117 (qzu (α32 117) (9 : Int).toNat 0)) rfl (fun α33 e33 => ?_)
                    refine qr_aload_n 72 rfl rfl rfl ?_
                    refine qr_get 75 rfl rfl rfl (by decide) rfl ?_
                    refine qr_iload 77 rfl rfl rfl ?_
                    refine qr_aload_n 78 rfl rfl rfl ?_
                    refine qr_get 81 rfl rfl rfl (by decide) rfl ?_
                    refine qr_iload 83 rfl rfl rfl ?_
                    refine qr_iaload 84 rfl rfl (by omega) (by decide) rfl ?_
                    refine qy_v 0 (by subst_vars; rfl) ?_
                    refine qr_iastore 85 rfl (by decide) rfl (by omega) (by decide) rfl ?_
                    refine qy_wA (qw_r α33 118 (qzu (α33 118) (9 : Int).toNat 0)) rfl (fun α34 e34 => ?_)
                    refine qr_iinc [(11, .int (qz 10)), (10, .int (qz 0)), (8, .long (ql (-1))), (6, .long (ql 0)), (4, .long (ql 0)), (0, .ref 86), (1, .long (ql 0)), (3, .int (qz x1))] 88 rfl rfl (by decide) rfl rfl ?_
                    refine qr_goto 50 rfl rfl ?_
                    refine qr_iload 52 rfl rfl rfl ?_
                    refine qr_bipush 54 rfl (by decide) rfl ?_
                    refine qr_icmp_ge 91 57 rfl rfl rfl (by decide) (by decide) (fun h => absurd h (by decide)) (fun _ => ?_)
                    refine qr_aload_n 58 rfl rfl rfl ?_
                    refine qr_get 61 rfl rfl rfl (by decide) rfl ?_
                    refine qr_iload 63 rfl rfl rfl ?_
                    refine qr_aload_n 64 rfl rfl rfl ?_
                    refine qr_get 67 rfl rfl rfl (by decide) rfl ?_
                    refine qr_iload 69 rfl rfl rfl ?_
                    refine qr_iaload 70 rfl rfl (by omega) (by decide) rfl ?_
                    refine qy_v 0 (by subst_vars; rfl) ?_
                    refine qr_iastore 71 rfl (by decide) rfl (by omega) (by decide) rfl ?_
                    refine qy_wA (qw_r α34 117 (qzu (α34 117) (10 : Int).toNat 0)) rfl (fun α35 e35 => ?_)
                    refine qr_aload_n 72 rfl rfl rfl ?_
                    refine qr_get 75 rfl rfl rfl (by decide) rfl ?_
                    refine qr_iload 77 rfl rfl rfl ?_
                    refine qr_aload_n 78 rfl rfl rfl ?_
                    refine qr_get 81 rfl rfl rfl (by decide) rfl ?_
                    refine qr_iload 83 rfl rfl rfl ?_
                    refine qr_iaload 84 rfl rfl (by omega) (by decide) rfl ?_
                    refine qy_v 0 (by subst_vars; rfl) ?_
                    refine qr_iastore 85 rfl (by decide) rfl (by omega) (by decide) rfl ?_
                    refine qy_wA (qw_r α35 118 (qzu (α35 118) (10 : Int).toNat 0)) rfl (fun α36 e36 => ?_)
                    refine qr_iinc [(11, .int (qz 11)), (10, .int (qz 0)), (8, .long (ql (-1))), (6, .long (ql 0)), (4, .long (ql 0)), (0, .ref 86), (1, .long (ql 0)), (3, .int (qz x1))] 88 rfl rfl (by decide) rfl rfl ?_
                    refine qr_goto 50 rfl rfl ?_
                    refine qr_iload 52 rfl rfl rfl ?_
                    refine qr_bipush 54 rfl (by decide) rfl ?_
                    refine qr_icmp_ge 91 57 rfl rfl rfl (by decide) (by decide) (fun h => absurd h (by decide)) (fun _ => ?_)
                    refine qr_aload_n 58 rfl rfl rfl ?_
                    refine qr_get 61 rfl rfl rfl (by decide) rfl ?_
                    refine qr_iload 63 rfl rfl rfl ?_
                    refine qr_aload_n 64 rfl rfl rfl ?_
                    refine qr_get 67 rfl rfl rfl (by decide) rfl ?_
                    refine qr_iload 69 rfl rfl rfl ?_
                    refine qr_iaload 70 rfl rfl (by omega) (by decide) rfl ?_
                    refine qy_v 0 (by subst_vars; rfl) ?_
                    refine qr_iastore 71 rfl (by decide) rfl (by omega) (by decide) rfl ?_
                    refine qy_wA (qw_r α36 117 (qzu (α36 117) (11 : Int).toNat 0)) rfl (fun α37 e37 => ?_)
                    refine qr_aload_n 72 rfl rfl rfl ?_
                    refine qr_get 75 rfl rfl rfl (by decide) rfl ?_
                    refine qr_iload 77 rfl rfl rfl ?_
                    refine qr_aload_n 78 rfl rfl rfl ?_
                    refine qr_get 81 rfl rfl rfl (by decide) rfl ?_
                    refine qr_iload 83 rfl rfl rfl ?_
                    refine qr_iaload 84 rfl rfl (by omega) (by decide) rfl ?_
                    refine qy_v 0 (by subst_vars; rfl) ?_
                    refine qr_iastore 85 rfl (by decide) rfl (by omega) (by decide) rfl ?_
                    refine qy_wA (qw_r α37 118 (qzu (α37 118) (11 : Int).toNat 0)) rfl (fun α38 e38 => ?_)
                    as_aux_lemma =>
                      refine qr_iinc [(11, .int (qz 12)), (10, .int (qz 0)), (8, .long (ql (-1))), (6, .long (ql 0)), (4, .long (ql 0)), (0, .ref 86), (1, .long (ql 0)), (3, .int (qz x1))] 88 rfl rfl (by decide) rfl rfl ?_
                      refine qr_goto 50 rfl rfl ?_
                      refine qr_iload 52 rfl rfl rfl ?_
                      refine qr_bipush 54 rfl (by decide) rfl ?_
                      refine qr_icmp_ge 91 57 rfl rfl rfl (by decide) (by decide) (fun h => absurd h (by decide)) (fun _ => ?_)
                      refine qr_aload_n 58 rfl rfl rfl ?_
                      refine qr_get 61 rfl rfl rfl (by decide) rfl ?_
                      refine qr_iload 63 rfl rfl rfl ?_
                      refine qr_aload_n 64 rfl rfl rfl ?_
                      refine qr_get 67 rfl rfl rfl (by decide) rfl ?_
                      refine qr_iload 69 rfl rfl rfl ?_
                      refine qr_iaload 70 rfl rfl (by omega) (by decide) rfl ?_
                      refine qy_v 0 (by subst_vars; rfl) ?_
                      refine qr_iastore 71 rfl (by decide) rfl (by omega) (by decide) rfl ?_
                      refine qy_wA (qw_r α38 117 (qzu (α38 117) (12 : Int).toNat 0)) rfl (fun α39 e39 => ?_)
                      refine qr_aload_n 72 rfl rfl rfl ?_
                      refine qr_get 75 rfl rfl rfl (by decide) rfl ?_
                      refine qr_iload 77 rfl rfl rfl ?_
                      refine qr_aload_n 78 rfl rfl rfl ?_
                      refine qr_get 81 rfl rfl rfl (by decide) rfl ?_
                      refine qr_iload 83 rfl rfl rfl ?_
                      refine qr_iaload 84 rfl rfl (by omega) (by decide) rfl ?_
                      refine qy_v 0 (by subst_vars; rfl) ?_
                      refine qr_iastore 85 rfl (by decide) rfl (by omega) (by decide) rfl ?_
                      refine qy_wA (qw_r α39 118 (qzu (α39 118) (12 : Int).toNat 0)) rfl (fun α40 e40 => ?_)
                      refine qr_iinc [(11, .int (qz 13)), (10, .int (qz 0)), (8, .long (ql (-1))), (6, .long (ql 0)), (4, .long (ql 0)), (0, .ref 86), (1, .long (ql 0)), (3, .int (qz x1))] 88 rfl rfl (by decide) rfl rfl ?_
                      refine qr_goto 50 rfl rfl ?_
                      refine qr_iload 52 rfl rfl rfl ?_
                      refine qr_bipush 54 rfl (by decide) rfl ?_
                      refine qr_icmp_ge 91 57 rfl rfl rfl (by decide) (by decide) (fun h => absurd h (by decide)) (fun _ => ?_)
                      refine qr_aload_n 58 rfl rfl rfl ?_
                      refine qr_get 61 rfl rfl rfl (by decide) rfl ?_
                      refine qr_iload 63 rfl rfl rfl ?_
                      refine qr_aload_n 64 rfl rfl rfl ?_
                      refine qr_get 67 rfl rfl rfl (by decide) rfl ?_
                      refine qr_iload 69 rfl rfl rfl ?_
                      refine qr_iaload 70 rfl rfl (by omega) (by decide) rfl ?_
                      refine qy_v 0 (by subst_vars; rfl) ?_
                      refine qr_iastore 71 rfl (by decide) rfl (by omega) (by decide) rfl ?_
                      refine qy_wA (qw_r α40 117 (qzu (α40 117) (13 : Int).toNat 0)) rfl (fun α41 e41 => ?_)
                      refine qr_aload_n 72 rfl rfl rfl ?_
                      refine qr_get 75 rfl rfl rfl (by decide) rfl ?_
                      refine qr_iload 77 rfl rfl rfl ?_
                      refine qr_aload_n 78 rfl rfl rfl ?_
                      refine qr_get 81 rfl rfl rfl (by decide) rfl ?_
                      refine qr_iload 83 rfl rfl rfl ?_
                      refine qr_iaload 84 rfl rfl (by omega) (by decide) rfl ?_
                      refine qy_v 0 (by subst_vars; rfl) ?_
                      refine qr_iastore 85 rfl (by decide) rfl (by omega) (by decide) rfl ?_
                      refine qy_wA (qw_r α41 118 (qzu (α41 118) (13 : Int).toNat 0)) rfl (fun α42 e42 => ?_)
                      refine qr_iinc [(11, .int (qz 14)), (10, .int (qz 0)), (8, .long (ql (-1))), (6, .long (ql 0)), (4, .long (ql 0)), (0, .ref 86), (1, .long (ql 0)), (3, .int (qz x1))] 88 rfl rfl (by decide) rfl rfl ?_
                      refine qr_goto 50 rfl rfl ?_
                      refine qr_iload 52 rfl rfl rfl ?_
                      refine qr_bipush 54 rfl (by decide) rfl ?_
                      refine qr_icmp_ge 91 57 rfl rfl rfl (by decide) (by decide) (fun h => absurd h (by decide)) (fun _ => ?_)
                      refine qr_aload_n 58 rfl rfl rfl ?_
                      refine qr_get 61 rfl rfl rfl (by decide) rfl ?_
                      refine qr_iload 63 rfl rfl rfl ?_
                      refine qr_aload_n 64 rfl rfl rfl ?_
                      refine qr_get 67 rfl rfl rfl (by decide) rfl ?_
                      refine qr_iload 69 rfl rfl rfl ?_
                      refine qr_iaload 70 rfl rfl (by omega) (by decide) rfl ?_
                      refine qy_v 0 (by subst_vars; rfl) ?_
                      refine qr_iastore 71 rfl (by decide) rfl (by omega) (by decide) rfl ?_
                      refine qy_wA (qw_r α42 117 (qzu (α42 117) (14 : Int).toNat 0)) rfl (fun α43 e43 => ?_)
                      refine qr_aload_n 72 rfl rfl rfl ?_
                      refine qr_get 75 rfl rfl rfl (by decide) rfl ?_
                      refine qr_iload 77 rfl rfl rfl ?_
                      refine qr_aload_n 78 rfl rfl rfl ?_
                      refine qr_get 81 rfl rfl rfl (by decide) rfl ?_
                      refine qr_iload 83 rfl rfl rfl ?_
                      as_aux_lemma =>
                        refine qr_iaload 84 rfl rfl (by omega) (by decide) rfl ?_
                        refine qy_v 0 (by subst_vars; rfl) ?_
                        refine qr_iastore 85 rfl (by decide) rfl (by omega) (by decide) rfl ?_
                        refine qy_wA (qw_r α43 118 (qzu (α43 118) (14 : Int).toNat 0)) rfl (fun α44 e44 => ?_)
                        refine qr_iinc [(11, .int (qz 15)), (10, .int (qz 0)), (8, .long (ql (-1))), (6, .long (ql 0)), (4, .long (ql 0)), (0, .ref 86), (1, .long (ql 0)), (3, .int (qz x1))] 88 rfl rfl (by decide) rfl rfl ?_
                        refine qr_goto 50 rfl rfl ?_
                        refine qr_iload 52 rfl rfl rfl ?_
                        refine qr_bipush 54 rfl (by decide) rfl ?_
                        refine qr_icmp_ge 91 57 rfl rfl rfl (by decide) (by decide) (fun h => absurd h (by decide)) (fun _ => ?_)
                        refine qr_aload_n 58 rfl rfl rfl ?_
                        refine qr_get 61 rfl rfl rfl (by decide) rfl ?_
                        refine qr_iload 63 rfl rfl rfl ?_
                        refine qr_aload_n 64 rfl rfl rfl ?_
                        refine qr_get 67 rfl rfl rfl (by decide) rfl ?_
                        refine qr_iload 69 rfl rfl rfl ?_
                        refine qr_iaload 70 rfl rfl (by omega) (by decide) rfl ?_
                        refine qy_v 0 (by subst_vars; rfl) ?_
                        refine qr_iastore 71 rfl (by decide) rfl (by omega) (by decide) rfl ?_
                        refine qy_wA (qw_r α44 117 (qzu (α44 117) (15 : Int).toNat 0)) rfl (fun α45 e45 => ?_)
                        refine qr_aload_n 72 rfl rfl rfl ?_
                        refine qr_get 75 rfl rfl rfl (by decide) rfl ?_
                        refine qr_iload 77 rfl rfl rfl ?_
                        refine qr_aload_n 78 rfl rfl rfl ?_
                        refine qr_get 81 rfl rfl rfl (by decide) rfl ?_
                        refine qr_iload 83 rfl rfl rfl ?_
                        refine qr_iaload 84 rfl rfl (by omega) (by decide) rfl ?_
                        refine qy_v 0 (by subst_vars; rfl) ?_
                        refine qr_iastore 85 rfl (by decide) rfl (by omega) (by decide) rfl ?_
                        refine qy_wA (qw_r α45 118 (qzu (α45 118) (15 : Int).toNat 0)) rfl (fun α46 e46 => ?_)
                        refine qr_iinc [(11, .int (qz 16)), (10, .int (qz 0)), (8, .long (ql (-1))), (6, .long (ql 0)), (4, .long (ql 0)), (0, .ref 86), (1, .long (ql 0)), (3, .int (qz x1))] 88 rfl rfl (by decide) rfl rfl ?_
                        refine qr_goto 50 rfl rfl ?_
                        refine qr_iload 52 rfl rfl rfl ?_
                        refine qr_bipush 54 rfl (by decide) rfl ?_
                        refine qr_icmp_ge 91 57 rfl rfl rfl (by decide) (by decide) (fun h => absurd h (by decide)) (fun _ => ?_)
                        refine qr_aload_n 58 rfl rfl rfl ?_
                        refine qr_get 61 rfl rfl rfl (by decide) rfl ?_
                        refine qr_iload 63 rfl rfl rfl ?_
                        refine qr_aload_n 64 rfl rfl rfl ?_
                        refine qr_get 67 rfl rfl rfl (by decide) rfl ?_
                        refine qr_iload 69 rfl rfl rfl ?_
                        refine qr_iaload 70 rfl rfl (by omega) (by decide) rfl ?_
                        refine qy_v 0 (by subst_vars; rfl) ?_
                        refine qr_iastore 71 rfl (by decide) rfl (by omega) (by decide) rfl ?_
                        refine qy_wA (qw_r α46 117 (qzu (α46 117) (16 : Int).toNat 0)) rfl (fun α47 e47 => ?_)
                        refine qr_aload_n 72 rfl rfl rfl ?_
                        refine qr_get 75 rfl rfl rfl (by decide) rfl ?_
                        refine qr_iload 77 rfl rfl rfl ?_
                        refine qr_aload_n 78 rfl rfl rfl ?_
                        refine qr_get 81 rfl rfl rfl (by decide) rfl ?_
                        refine qr_iload 83 rfl rfl rfl ?_
                        refine qr_iaload 84 rfl rfl (by omega) (by decide) rfl ?_
                        refine qy_v 0 (by subst_vars; rfl) ?_
                        refine qr_iastore 85 rfl (by decide) rfl (by omega) (by decide) rfl ?_
                        refine qy_wA (qw_r α47 118 (qzu (α47 118) (16 : Int).toNat 0)) rfl (fun α48 e48 => ?_)
                        refine qr_iinc [(11, .int (qz 17)), (10, .int (qz 0)), (8, .long (ql (-1))), (6, .long (ql 0)), (4, .long (ql 0)), (0, .ref 86), (1, .long (ql 0)), (3, .int (qz x1))] 88 rfl rfl (by decide) rfl rfl ?_
                        refine qr_goto 50 rfl rfl ?_
                        refine qr_iload 52 rfl rfl rfl ?_
                        refine qr_bipush 54 rfl (by decide) rfl ?_
                        refine qr_icmp_ge 91 57 rfl rfl rfl (by decide) (by decide) (fun h => absurd h (by decide)) (fun _ => ?_)
                        refine qr_aload_n 58 rfl rfl rfl ?_
                        refine qr_get 61 rfl rfl rfl (by decide) rfl ?_
                        refine qr_iload 63 rfl rfl rfl ?_
                        refine qr_aload_n 64 rfl rfl rfl ?_
                        refine qr_get 67 rfl rfl rfl (by decide) rfl ?_
                        refine qr_iload 69 rfl rfl rfl ?_
                        refine qr_iaload 70 rfl rfl (by omega) (by decide) rfl ?_
                        refine qy_v 0 (by subst_vars; rfl) ?_
                        refine qr_iastore 71 rfl (by decide) rfl (by omega) (by decide) rfl ?_
                        refine qy_wA (qw_r α48 117 (qzu (α48 117) (17 : Int).toNat 0)) rfl (fun α49 e49 => ?_)
                        refine qr_aload_n 72 rfl rfl rfl ?_
                        refine qr_get 75 rfl rfl rfl (by decide) rfl ?_
                        refine qr_iload 77 rfl rfl rfl ?_
                        refine qr_aload_n 78 rfl rfl rfl ?_
                        as_aux_lemma =>
                          refine qr_get 81 rfl rfl rfl (by decide) rfl ?_
                          refine qr_iload 83 rfl rfl rfl ?_
                          refine qr_iaload 84 rfl rfl (by omega) (by decide) rfl ?_
                          refine qy_v 0 (by subst_vars; rfl) ?_
                          refine qr_iastore 85 rfl (by decide) rfl (by omega) (by decide) rfl ?_
                          refine qy_wA (qw_r α49 118 (qzu (α49 118) (17 : Int).toNat 0)) rfl (fun α50 e50 => ?_)
                          refine qr_iinc [(11, .int (qz 18)), (10, .int (qz 0)), (8, .long (ql (-1))), (6, .long (ql 0)), (4, .long (ql 0)), (0, .ref 86), (1, .long (ql 0)), (3, .int (qz x1))] 88 rfl rfl (by decide) rfl rfl ?_
                          refine qr_goto 50 rfl rfl ?_
                          refine qr_iload 52 rfl rfl rfl ?_
                          refine qr_bipush 54 rfl (by decide) rfl ?_
                          refine qr_icmp_ge 91 57 rfl rfl rfl (by decide) (by decide) (fun h => absurd h (by decide)) (fun _ => ?_)
                          refine qr_aload_n 58 rfl rfl rfl ?_
                          refine qr_get 61 rfl rfl rfl (by decide) rfl ?_
                          refine qr_iload 63 rfl rfl rfl ?_
                          refine qr_aload_n 64 rfl rfl rfl ?_
                          refine qr_get 67 rfl rfl rfl (by decide) rfl ?_
                          refine qr_iload 69 rfl rfl rfl ?_
                          refine qr_iaload 70 rfl rfl (by omega) (by decide) rfl ?_
                          refine qy_v 0 (by subst_vars; rfl) ?_
                          refine qr_iastore 71 rfl (by decide) rfl (by omega) (by decide) rfl ?_
                          refine qy_wA (qw_r α50 117 (qzu (α50 117) (18 : Int).toNat 0)) rfl (fun α51 e51 => ?_)
                          refine qr_aload_n 72 rfl rfl rfl ?_
                          refine qr_get 75 rfl rfl rfl (by decide) rfl ?_
                          refine qr_iload 77 rfl rfl rfl ?_
                          refine qr_aload_n 78 rfl rfl rfl ?_
                          refine qr_get 81 rfl rfl rfl (by decide) rfl ?_
                          refine qr_iload 83 rfl rfl rfl ?_
                          refine qr_iaload 84 rfl rfl (by omega) (by decide) rfl ?_
                          refine qy_v 0 (by subst_vars; rfl) ?_
                          refine qr_iastore 85 rfl (by decide) rfl (by omega) (by decide) rfl ?_
                          refine qy_wA (qw_r α51 118 (qzu (α51 118) (18 : Int).toNat 0)) rfl (fun α52 e52 => ?_)
                          refine qr_iinc [(11, .int (qz 19)), (10, .int (qz 0)), (8, .long (ql (-1))), (6, .long (ql 0)), (4, .long (ql 0)), (0, .ref 86), (1, .long (ql 0)), (3, .int (qz x1))] 88 rfl rfl (by decide) rfl rfl ?_
                          refine qr_goto 50 rfl rfl ?_
                          refine qr_iload 52 rfl rfl rfl ?_
                          refine qr_bipush 54 rfl (by decide) rfl ?_
                          refine qr_icmp_ge 91 57 rfl rfl rfl (by decide) (by decide) (fun h => absurd h (by decide)) (fun _ => ?_)
                          refine qr_aload_n 58 rfl rfl rfl ?_
                          refine qr_get 61 rfl rfl rfl (by decide) rfl ?_
                          refine qr_iload 63 rfl rfl rfl ?_
                          refine qr_aload_n 64 rfl rfl rfl ?_
                          refine qr_get 67 rfl rfl rfl (by decide) rfl ?_
                          refine qr_iload 69 rfl rfl rfl ?_
                          refine qr_iaload 70 rfl rfl (by omega) (by decide) rfl ?_
                          refine qy_v 0 (by subst_vars; rfl) ?_
                          refine qr_iastore 71 rfl (by decide) rfl (by omega) (by decide) rfl ?_
                          refine qy_wA (qw_r α52 117 (qzu (α52 117) (19 : Int).toNat 0)) rfl (fun α53 e53 => ?_)
                          refine qr_aload_n 72 rfl rfl rfl ?_
                          refine qr_get 75 rfl rfl rfl (by decide) rfl ?_
                          refine qr_iload 77 rfl rfl rfl ?_
                          refine qr_aload_n 78 rfl rfl rfl ?_
                          refine qr_get 81 rfl rfl rfl (by decide) rfl ?_
                          refine qr_iload 83 rfl rfl rfl ?_
                          refine qr_iaload 84 rfl rfl (by omega) (by decide) rfl ?_
                          refine qy_v 0 (by subst_vars; rfl) ?_
                          refine qr_iastore 85 rfl (by decide) rfl (by omega) (by decide) rfl ?_
                          refine qy_wA (qw_r α53 118 (qzu (α53 118) (19 : Int).toNat 0)) rfl (fun α54 e54 => ?_)
                          refine qr_iinc [(11, .int (qz 20)), (10, .int (qz 0)), (8, .long (ql (-1))), (6, .long (ql 0)), (4, .long (ql 0)), (0, .ref 86), (1, .long (ql 0)), (3, .int (qz x1))] 88 rfl rfl (by decide) rfl rfl ?_
                          refine qr_goto 50 rfl rfl ?_
                          refine qr_iload 52 rfl rfl rfl ?_
                          refine qr_bipush 54 rfl (by decide) rfl ?_
                          refine qr_icmp_ge 91 57 rfl rfl rfl (by decide) (by decide) (fun h => absurd h (by decide)) (fun _ => ?_)
                          refine qr_aload_n 58 rfl rfl rfl ?_
                          refine qr_get 61 rfl rfl rfl (by decide) rfl ?_
                          refine qr_iload 63 rfl rfl rfl ?_
                          refine qr_aload_n 64 rfl rfl rfl ?_
                          refine qr_get 67 rfl rfl rfl (by decide) rfl ?_
                          refine qr_iload 69 rfl rfl rfl ?_
                          refine qr_iaload 70 rfl rfl (by omega) (by decide) rfl ?_
                          refine qy_v 0 (by subst_vars; rfl) ?_
                          refine qr_iastore 71 rfl (by decide) rfl (by omega) (by decide) rfl ?_
                          refine qy_wA (qw_r α54 117 (qzu (α54 117) (20 : Int).toNat 0)) rfl (fun α55 e55 => ?_)
                          refine qr_aload_n 72 rfl rfl rfl ?_
                          refine qr_get 75 rfl rfl rfl (by decide) rfl ?_
                          as_aux_lemma =>
                            refine qr_iload 77 rfl rfl rfl ?_
                            refine qr_aload_n 78 rfl rfl rfl ?_
                            refine qr_get 81 rfl rfl rfl (by decide) rfl ?_
                            refine qr_iload 83 rfl rfl rfl ?_
                            refine qr_iaload 84 rfl rfl (by omega) (by decide) rfl ?_
                            refine qy_v 0 (by subst_vars; rfl) ?_
                            refine qr_iastore 85 rfl (by decide) rfl (by omega) (by decide) rfl ?_
                            refine qy_wA (qw_r α55 118 (qzu (α55 118) (20 : Int).toNat 0)) rfl (fun α56 e56 => ?_)
                            refine qr_iinc [(11, .int (qz 21)), (10, .int (qz 0)), (8, .long (ql (-1))), (6, .long (ql 0)), (4, .long (ql 0)), (0, .ref 86), (1, .long (ql 0)), (3, .int (qz x1))] 88 rfl rfl (by decide) rfl rfl ?_
                            refine qr_goto 50 rfl rfl ?_
                            refine qr_iload 52 rfl rfl rfl ?_
                            refine qr_bipush 54 rfl (by decide) rfl ?_
                            refine qr_icmp_ge 91 57 rfl rfl rfl (by decide) (by decide) (fun h => absurd h (by decide)) (fun _ => ?_)
                            refine qr_aload_n 58 rfl rfl rfl ?_
                            refine qr_get 61 rfl rfl rfl (by decide) rfl ?_
                            refine qr_iload 63 rfl rfl rfl ?_
                            refine qr_aload_n 64 rfl rfl rfl ?_
                            refine qr_get 67 rfl rfl rfl (by decide) rfl ?_
                            refine qr_iload 69 rfl rfl rfl ?_
                            refine qr_iaload 70 rfl rfl (by omega) (by decide) rfl ?_
                            refine qy_v 0 (by subst_vars; rfl) ?_
                            refine qr_iastore 71 rfl (by decide) rfl (by omega) (by decide) rfl ?_
                            refine qy_wA (qw_r α56 117 (qzu (α56 117) (21 : Int).toNat 0)) rfl (fun α57 e57 => ?_)
                            refine qr_aload_n 72 rfl rfl rfl ?_
                            refine qr_get 75 rfl rfl rfl (by decide) rfl ?_
                            refine qr_iload 77 rfl rfl rfl ?_
                            refine qr_aload_n 78 rfl rfl rfl ?_
                            refine qr_get 81 rfl rfl rfl (by decide) rfl ?_
                            refine qr_iload 83 rfl rfl rfl ?_
                            refine qr_iaload 84 rfl rfl (by omega) (by decide) rfl ?_
                            refine qy_v 0 (by subst_vars; rfl) ?_
                            refine qr_iastore 85 rfl (by decide) rfl (by omega) (by decide) rfl ?_
                            refine qy_wA (qw_r α57 118 (qzu (α57 118) (21 : Int).toNat 0)) rfl (fun α58 e58 => ?_)
                            refine qr_iinc [(11, .int (qz 22)), (10, .int (qz 0)), (8, .long (ql (-1))), (6, .long (ql 0)), (4, .long (ql 0)), (0, .ref 86), (1, .long (ql 0)), (3, .int (qz x1))] 88 rfl rfl (by decide) rfl rfl ?_
                            refine qr_goto 50 rfl rfl ?_
                            refine qr_iload 52 rfl rfl rfl ?_
                            refine qr_bipush 54 rfl (by decide) rfl ?_
                            refine qr_icmp_ge 91 57 rfl rfl rfl (by decide) (by decide) (fun h => absurd h (by decide)) (fun _ => ?_)
                            refine qr_aload_n 58 rfl rfl rfl ?_
                            refine qr_get 61 rfl rfl rfl (by decide) rfl ?_
                            refine qr_iload 63 rfl rfl rfl ?_
                            refine qr_aload_n 64 rfl rfl rfl ?_
                            refine qr_get 67 rfl rfl rfl (by decide) rfl ?_
                            refine qr_iload 69 rfl rfl rfl ?_
                            refine qr_iaload 70 rfl rfl (by omega) (by decide) rfl ?_
                            refine qy_v 0 (by subst_vars; rfl) ?_
                            refine qr_iastore 71 rfl (by decide) rfl (by omega) (by decide) rfl ?_
                            refine qy_wA (qw_r α58 117 (qzu (α58 117) (22 : Int).toNat 0)) rfl (fun α59 e59 => ?_)
                            refine qr_aload_n 72 rfl rfl rfl ?_
                            refine qr_get 75 rfl rfl rfl (by decide) rfl ?_
                            refine qr_iload 77 rfl rfl rfl ?_
                            refine qr_aload_n 78 rfl rfl rfl ?_
                            refine qr_get 81 rfl rfl rfl (by decide) rfl ?_
                            refine qr_iload 83 rfl rfl rfl ?_
                            refine qr_iaload 84 rfl rfl (by omega) (by decide) rfl ?_
                            refine qy_v 0 (by subst_vars; rfl) ?_
                            refine qr_iastore 85 rfl (by decide) rfl (by omega) (by decide) rfl ?_
                            refine qy_wA (qw_r α59 118 (qzu (α59 118) (22 : Int).toNat 0)) rfl (fun α60 e60 => ?_)
                            refine qr_iinc [(11, .int (qz 23)), (10, .int (qz 0)), (8, .long (ql (-1))), (6, .long (ql 0)), (4, .long (ql 0)), (0, .ref 86), (1, .long (ql 0)), (3, .int (qz x1))] 88 rfl rfl (by decide) rfl rfl ?_
                            refine qr_goto 50 rfl rfl ?_
                            refine qr_iload 52 rfl rfl rfl ?_
                            refine qr_bipush 54 rfl (by decide) rfl ?_
                            refine qr_icmp_ge 91 57 rfl rfl rfl (by decide) (by decide) (fun h => absurd h (by decide)) (fun _ => ?_)
                            refine qr_aload_n 58 rfl rfl rfl ?_
                            refine qr_get 61 rfl rfl rfl (by decide) rfl ?_
                            refine qr_iload 63 rfl rfl rfl ?_
                            refine qr_aload_n 64 rfl rfl rfl ?_
                            refine qr_get 67 rfl rfl rfl (by decide) rfl ?_
                            refine qr_iload 69 rfl rfl rfl ?_
                            refine qr_iaload 70 rfl rfl (by omega) (by decide) rfl ?_
                            refine qy_v 0 (by subst_vars; rfl) ?_
                            refine qr_iastore 71 rfl (by decide) rfl (by omega) (by decide) rfl ?_
                            refine qy_wA (qw_r α60 117 (qzu (α60 117) (23 : Int).toNat 0)) rfl (fun α61 e61 => ?_)
                            as_aux_lemma =>
                              refine qr_aload_n 72 rfl rfl rfl ?_
                              refine qr_get 75 rfl rfl rfl (by decide) rfl ?_
                              refine qr_iload 77 rfl rfl rfl ?_
                              refine qr_aload_n 78 rfl rfl rfl ?_
                              refine qr_get 81 rfl rfl rfl (by decide) rfl ?_
                              refine qr_iload 83 rfl rfl rfl ?_
                              refine qr_iaload 84 rfl rfl (by omega) (by decide) rfl ?_
                              refine qy_v 0 (by subst_vars; rfl) ?_
                              refine qr_iastore 85 rfl (by decide) rfl (by omega) (by decide) rfl ?_
                              refine qy_wA (qw_r α61 118 (qzu (α61 118) (23 : Int).toNat 0)) rfl (fun α62 e62 => ?_)
                              refine qr_iinc [(11, .int (qz 24)), (10, .int (qz 0)), (8, .long (ql (-1))), (6, .long (ql 0)), (4, .long (ql 0)), (0, .ref 86), (1, .long (ql 0)), (3, .int (qz x1))] 88 rfl rfl (by decide) rfl rfl ?_
                              refine qr_goto 50 rfl rfl ?_
                              refine qr_iload 52 rfl rfl rfl ?_
                              refine qr_bipush 54 rfl (by decide) rfl ?_
                              refine qr_icmp_ge 91 57 rfl rfl rfl (by decide) (by decide) (fun h => absurd h (by decide)) (fun _ => ?_)
                              refine qr_aload_n 58 rfl rfl rfl ?_
                              refine qr_get 61 rfl rfl rfl (by decide) rfl ?_
                              refine qr_iload 63 rfl rfl rfl ?_
                              refine qr_aload_n 64 rfl rfl rfl ?_
                              refine qr_get 67 rfl rfl rfl (by decide) rfl ?_
                              refine qr_iload 69 rfl rfl rfl ?_
                              refine qr_iaload 70 rfl rfl (by omega) (by decide) rfl ?_
                              refine qy_v 0 (by subst_vars; rfl) ?_
                              refine qr_iastore 71 rfl (by decide) rfl (by omega) (by decide) rfl ?_
                              refine qy_wA (qw_r α62 117 (qzu (α62 117) (24 : Int).toNat 0)) rfl (fun α63 e63 => ?_)
                              refine qr_aload_n 72 rfl rfl rfl ?_
                              refine qr_get 75 rfl rfl rfl (by decide) rfl ?_
                              refine qr_iload 77 rfl rfl rfl ?_
                              refine qr_aload_n 78 rfl rfl rfl ?_
                              refine qr_get 81 rfl rfl rfl (by decide) rfl ?_
                              refine qr_iload 83 rfl rfl rfl ?_
                              refine qr_iaload 84 rfl rfl (by omega) (by decide) rfl ?_
                              refine qy_v 0 (by subst_vars; rfl) ?_
                              refine qr_iastore 85 rfl (by decide) rfl (by omega) (by decide) rfl ?_
                              refine qy_wA (qw_r α63 118 (qzu (α63 118) (24 : Int).toNat 0)) rfl (fun α64 e64 => ?_)
                              refine qr_iinc [(11, .int (qz 25)), (10, .int (qz 0)), (8, .long (ql (-1))), (6, .long (ql 0)), (4, .long (ql 0)), (0, .ref 86), (1, .long (ql 0)), (3, .int (qz x1))] 88 rfl rfl (by decide) rfl rfl ?_
                              refine qr_goto 50 rfl rfl ?_
                              refine qr_iload 52 rfl rfl rfl ?_
                              refine qr_bipush 54 rfl (by decide) rfl ?_
                              refine qr_icmp_ge 91 57 rfl rfl rfl (by decide) (by decide) (fun h => absurd h (by decide)) (fun _ => ?_)
                              refine qr_aload_n 58 rfl rfl rfl ?_
                              refine qr_get 61 rfl rfl rfl (by decide) rfl ?_
                              refine qr_iload 63 rfl rfl rfl ?_
                              refine qr_aload_n 64 rfl rfl rfl ?_
                              refine qr_get 67 rfl rfl rfl (by decide) rfl ?_
                              refine qr_iload 69 rfl rfl rfl ?_
                              refine qr_iaload 70 rfl rfl (by omega) (by decide) rfl ?_
                              refine qy_v 0 (by subst_vars; rfl) ?_
                              refine qr_iastore 71 rfl (by decide) rfl (by omega) (by decide) rfl ?_
                              refine qy_wA (qw_r α64 117 (qzu (α64 117) (25 : Int).toNat 0)) rfl (fun α65 e65 => ?_)
                              refine qr_aload_n 72 rfl rfl rfl ?_
                              refine qr_get 75 rfl rfl rfl (by decide) rfl ?_
                              refine qr_iload 77 rfl rfl rfl ?_
                              refine qr_aload_n 78 rfl rfl rfl ?_
                              refine qr_get 81 rfl rfl rfl (by decide) rfl ?_
                              refine qr_iload 83 rfl rfl rfl ?_
                              refine qr_iaload 84 rfl rfl (by omega) (by decide) rfl ?_
                              refine qy_v 0 (by subst_vars; rfl) ?_
                              refine qr_iastore 85 rfl (by decide) rfl (by omega) (by decide) rfl ?_
                              refine qy_wA (qw_r α65 118 (qzu (α65 118) (25 : Int).toNat 0)) rfl (fun α66 e66 => ?_)
                              refine qr_iinc [(11, .int (qz 26)), (10, .int (qz 0)), (8, .long (ql (-1))), (6, .long (ql 0)), (4, .long (ql 0)), (0, .ref 86), (1, .long (ql 0)), (3, .int (qz x1))] 88 rfl rfl (by decide) rfl rfl ?_
                              refine qr_goto 50 rfl rfl ?_
                              refine qr_iload 52 rfl rfl rfl ?_
                              refine qr_bipush 54 rfl (by decide) rfl ?_
                              refine qr_icmp_ge 91 57 rfl rfl rfl (by decide) (by decide) (fun h => absurd h (by decide)) (fun _ => ?_)
                              refine qr_aload_n 58 rfl rfl rfl ?_
                              refine qr_get 61 rfl rfl rfl (by decide) rfl ?_
                              refine qr_iload 63 rfl rfl rfl ?_
                              refine qr_aload_n 64 rfl rfl rfl ?_
                              refine qr_get 67 rfl rfl rfl (by decide) rfl ?_
                              refine qr_iload 69 rfl rfl rfl ?_
                              as_aux_lemma =>
                                refine qr_iaload 70 rfl rfl (by omega) (by decide) rfl ?_
                                refine qy_v 0 (by subst_vars; rfl) ?_
                                refine qr_iastore 71 rfl (by decide) rfl (by omega) (by decide) rfl ?_
                                refine qy_wA (qw_r α66 117 (qzu (α66 117) (26 : Int).toNat 0)) rfl (fun α67 e67 => ?_)
                                refine qr_aload_n 72 rfl rfl rfl ?_
                                refine qr_get 75 rfl rfl rfl (by decide) rfl ?_
                                refine qr_iload 77 rfl rfl rfl ?_
                                refine qr_aload_n 78 rfl rfl rfl ?_
                                refine qr_get 81 rfl rfl rfl (by decide) rfl ?_
                                refine qr_iload 83 rfl rfl rfl ?_
                                refine qr_iaload 84 rfl rfl (by omega) (by decide) rfl ?_
                                refine qy_v 0 (by subst_vars; rfl) ?_
                                refine qr_iastore 85 rfl (by decide) rfl (by omega) (by decide) rfl ?_
                                refine qy_wA (qw_r α67 118 (qzu (α67 118) (26 : Int).toNat 0)) rfl (fun α68 e68 => ?_)
                                refine qr_iinc [(11, .int (qz 27)), (10, .int (qz 0)), (8, .long (ql (-1))), (6, .long (ql 0)), (4, .long (ql 0)), (0, .ref 86), (1, .long (ql 0)), (3, .int (qz x1))] 88 rfl rfl (by decide) rfl rfl ?_
                                refine qr_goto 50 rfl rfl ?_
                                refine qr_iload 52 rfl rfl rfl ?_
                                refine qr_bipush 54 rfl (by decide) rfl ?_
                                refine qr_icmp_ge 91 57 rfl rfl rfl (by decide) (by decide) (fun h => absurd h (by decide)) (fun _ => ?_)
                                refine qr_aload_n 58 rfl rfl rfl ?_
                                refine qr_get 61 rfl rfl rfl (by decide) rfl ?_
                                refine qr_iload 63 rfl rfl rfl ?_
                                refine qr_aload_n 64 rfl rfl rfl ?_
                                refine qr_get 67 rfl rfl rfl (by decide) rfl ?_
                                refine qr_iload 69 rfl rfl rfl ?_
                                refine qr_iaload 70 rfl rfl (by omega) (by decide) rfl ?_
                                refine qy_v 0 (by subst_vars; rfl) ?_
                                refine qr_iastore 71 rfl (by decide) rfl (by omega) (by decide) rfl ?_
                                refine qy_wA (qw_r α68 117 (qzu (α68 117) (27 : Int).toNat 0)) rfl (fun α69 e69 => ?_)
                                refine qr_aload_n 72 rfl rfl rfl ?_
                                refine qr_get 75 rfl rfl rfl (by decide) rfl ?_
                                refine qr_iload 77 rfl rfl rfl ?_
                                refine qr_aload_n 78 rfl rfl rfl ?_
                                refine qr_get 81 rfl rfl rfl (by decide) rfl ?_
                                refine qr_iload 83 rfl rfl rfl ?_
                                refine qr_iaload 84 rfl rfl (by omega) (by decide) rfl ?_
                                refine qy_v 0 (by subst_vars; rfl) ?_
                                refine qr_iastore 85 rfl (by decide) rfl (by omega) (by decide) rfl ?_
                                refine qy_wA (qw_r α69 118 (qzu (α69 118) (27 : Int).toNat 0)) rfl (fun α70 e70 => ?_)
                                refine qr_iinc [(11, .int (qz 28)), (10, .int (qz 0)), (8, .long (ql (-1))), (6, .long (ql 0)), (4, .long (ql 0)), (0, .ref 86), (1, .long (ql 0)), (3, .int (qz x1))] 88 rfl rfl (by decide) rfl rfl ?_
                                refine qr_goto 50 rfl rfl ?_
                                refine qr_iload 52 rfl rfl rfl ?_
                                refine qr_bipush 54 rfl (by decide) rfl ?_
                                refine qr_icmp_ge 91 57 rfl rfl rfl (by decide) (by decide) (fun h => absurd h (by decide)) (fun _ => ?_)
                                refine qr_aload_n 58 rfl rfl rfl ?_
                                refine qr_get 61 rfl rfl rfl (by decide) rfl ?_
                                refine qr_iload 63 rfl rfl rfl ?_
                                refine qr_aload_n 64 rfl rfl rfl ?_
                                refine qr_get 67 rfl rfl rfl (by decide) rfl ?_
                                refine qr_iload 69 rfl rfl rfl ?_
                                refine qr_iaload 70 rfl rfl (by omega) (by decide) rfl ?_
                                refine qy_v 0 (by subst_vars; rfl) ?_
                                refine qr_iastore 71 rfl (by decide) rfl (by omega) (by decide) rfl ?_
                                refine qy_wA (qw_r α70 117 (qzu (α70 117) (28 : Int).toNat 0)) rfl (fun α71 e71 => ?_)
                                refine qr_aload_n 72 rfl rfl rfl ?_
                                refine qr_get 75 rfl rfl rfl (by decide) rfl ?_
                                refine qr_iload 77 rfl rfl rfl ?_
                                refine qr_aload_n 78 rfl rfl rfl ?_
                                refine qr_get 81 rfl rfl rfl (by decide) rfl ?_
                                refine qr_iload 83 rfl rfl rfl ?_
                                refine qr_iaload 84 rfl rfl (by omega) (by decide) rfl ?_
                                refine qy_v 0 (by subst_vars; rfl) ?_
                                refine qr_iastore 85 rfl (by decide) rfl (by omega) (by decide) rfl ?_
                                refine qy_wA (qw_r α71 118 (qzu (α71 118) (28 : Int).toNat 0)) rfl (fun α72 e72 => ?_)
                                refine qr_iinc [(11, .int (qz 29)), (10, .int (qz 0)), (8, .long (ql (-1))), (6, .long (ql 0)), (4, .long (ql 0)), (0, .ref 86), (1, .long (ql 0)), (3, .int (qz x1))] 88 rfl rfl (by decide) rfl rfl ?_
                                refine qr_goto 50 rfl rfl ?_
                                refine qr_iload 52 rfl rfl rfl ?_
                                refine qr_bipush 54 rfl (by decide) rfl ?_
                                refine qr_icmp_ge 91 57 rfl rfl rfl (by decide) (by decide) (fun h => absurd h (by decide)) (fun _ => ?_)
                                refine qr_aload_n 58 rfl rfl rfl ?_
                                refine qr_get 61 rfl rfl rfl (by decide) rfl ?_
                                refine qr_iload 63 rfl rfl rfl ?_
                                refine qr_aload_n 64 rfl rfl rfl ?_
                                as_aux_lemma =>
                                  refine qr_get 67 rfl rfl rfl (by decide) rfl ?_
                                  refine qr_iload 69 rfl rfl rfl ?_
                                  refine qr_iaload 70 rfl rfl (by omega) (by decide) rfl ?_
                                  refine qy_v 0 (by subst_vars; rfl) ?_
                                  refine qr_iastore 71 rfl (by decide) rfl (by omega) (by decide) rfl ?_
                                  refine qy_wA (qw_r α72 117 (qzu (α72 117) (29 : Int).toNat 0)) rfl (fun α73 e73 => ?_)
                                  refine qr_aload_n 72 rfl rfl rfl ?_
                                  refine qr_get 75 rfl rfl rfl (by decide) rfl ?_
                                  refine qr_iload 77 rfl rfl rfl ?_
                                  refine qr_aload_n 78 rfl rfl rfl ?_
                                  refine qr_get 81 rfl rfl rfl (by decide) rfl ?_
                                  refine qr_iload 83 rfl rfl rfl ?_
                                  refine qr_iaload 84 rfl rfl (by omega) (by decide) rfl ?_
                                  refine qy_v 0 (by subst_vars; rfl) ?_
                                  refine qr_iastore 85 rfl (by decide) rfl (by omega) (by decide) rfl ?_
                                  refine qy_wA (qw_r α73 118 (qzu (α73 118) (29 : Int).toNat 0)) rfl (fun α74 e74 => ?_)
                                  refine qr_iinc [(11, .int (qz 30)), (10, .int (qz 0)), (8, .long (ql (-1))), (6, .long (ql 0)), (4, .long (ql 0)), (0, .ref 86), (1, .long (ql 0)), (3, .int (qz x1))] 88 rfl rfl (by decide) rfl rfl ?_
                                  refine qr_goto 50 rfl rfl ?_
                                  refine qr_iload 52 rfl rfl rfl ?_
                                  refine qr_bipush 54 rfl (by decide) rfl ?_
                                  refine qr_icmp_ge 91 57 rfl rfl rfl (by decide) (by decide) (fun h => absurd h (by decide)) (fun _ => ?_)
                                  refine qr_aload_n 58 rfl rfl rfl ?_
                                  refine qr_get 61 rfl rfl rfl (by decide) rfl ?_
                                  refine qr_iload 63 rfl rfl rfl ?_
                                  refine qr_aload_n 64 rfl rfl rfl ?_
                                  refine qr_get 67 rfl rfl rfl (by decide) rfl ?_
                                  refine qr_iload 69 rfl rfl rfl ?_
                                  refine qr_iaload 70 rfl rfl (by omega) (by decide) rfl ?_
                                  refine qy_v 0 (by subst_vars; rfl) ?_
                                  refine qr_iastore 71 rfl (by decide) rfl (by omega) (by decide) rfl ?_
                                  refine qy_wA (qw_r α74 117 (qzu (α74 117) (30 : Int).toNat 0)) rfl (fun α75 e75 => ?_)
                                  refine qr_aload_n 72 rfl rfl rfl ?_
                                  refine qr_get 75 rfl rfl rfl (by decide) rfl ?_
                                  refine qr_iload 77 rfl rfl rfl ?_
                                  refine qr_aload_n 78 rfl rfl rfl ?_
                                  refine qr_get 81 rfl rfl rfl (by decide) rfl ?_
                                  refine qr_iload 83 rfl rfl rfl ?_
                                  refine qr_iaload 84 rfl rfl (by omega) (by decide) rfl ?_
                                  refine qy_v 0 (by subst_vars; rfl) ?_
                                  refine qr_iastore 85 rfl (by decide) rfl (by omega) (by decide) rfl ?_
                                  refine qy_wA (qw_r α75 118 (qzu (α75 118) (30 : Int).toNat 0)) rfl (fun α76 e76 => ?_)
                                  refine qr_iinc [(11, .int (qz 31)), (10, .int (qz 0)), (8, .long (ql (-1))), (6, .long (ql 0)), (4, .long (ql 0)), (0, .ref 86), (1, .long (ql 0)), (3, .int (qz x1))] 88 rfl rfl (by decide) rfl rfl ?_
                                  refine qr_goto 50 rfl rfl ?_
                                  refine qr_iload 52 rfl rfl rfl ?_
                                  refine qr_bipush 54 rfl (by decide) rfl ?_
                                  refine qr_icmp_ge 91 57 rfl rfl rfl (by decide) (by decide) (fun _ => ?_) (fun h => absurd h (by decide))
                                  refine qr_bipush 93 rfl (by decide) rfl ?_
                                  refine qr_istore [(11, .int (qz (-2))), (10, .int (qz 0)), (8, .long (ql (-1))), (6, .long (ql 0)), (4, .long (ql 0)), (0, .ref 86), (1, .long (ql 0)), (3, .int (qz x1))] 95 rfl (by decide) rfl rfl ?_
                                  refine qr_bipush 97 rfl (by decide) rfl ?_
                                  refine qr_istore [(12, .int (qz 99)), (11, .int (qz (-2))), (10, .int (qz 0)), (8, .long (ql (-1))), (6, .long (ql 0)), (4, .long (ql 0)), (0, .ref 86), (1, .long (ql 0)), (3, .int (qz x1))] 99 rfl (by decide) rfl rfl ?_
                                  refine qr_iconst 100 rfl rfl ?_
                                  refine qr_istore [(13, .int (qz 0)), (12, .int (qz 99)), (11, .int (qz (-2))), (10, .int (qz 0)), (8, .long (ql (-1))), (6, .long (ql 0)), (4, .long (ql 0)), (0, .ref 86), (1, .long (ql 0)), (3, .int (qz x1))] 102 rfl (by decide) rfl rfl ?_
                                  refine qr_iload 104 rfl rfl rfl ?_
                                  refine qr_aload_n 105 rfl rfl rfl ?_
                                  refine qr_get 108 rfl rfl rfl (by decide) rfl ?_
                                  refine qy_v 0 (by subst_vars; rfl) ?_
                                  refine qr_icmp_ge 223 111 rfl rfl rfl (by decide) (by decide) (fun _ => ?_) (fun h => absurd h (by decide))
                                  refine qr_aload_n 224 rfl rfl rfl ?_
                                  refine qr_lload 226 rfl rfl rfl ?_
                                  refine qr_put 229 rfl (by decide) rfl (Nat.le_of_ble_eq_true rfl) (Nat.le_of_ble_eq_true rfl) (Or.inl rfl) (qr_fitL rfl _) rfl ?_
                                  refine qy_wS (qw_s σ12 86 51 (-1)) rfl (fun σ77 e77 => ?_)
                                  refine qr_aload_n 230 rfl rfl rfl ?_
                                  refine qr_iload 232 rfl rfl rfl ?_
                                  refine qr_put 235 rfl (by decide) rfl (Nat.le_of_ble_eq_true rfl) (Nat.le_of_ble_eq_true rfl) (Or.inl rfl) (qr_fitI rfl _) rfl ?_
                                  refine qy_wS (qw_s σ77 86 50 0) rfl (fun σ78 e78 => ?_)
                                  refine qr_iconst 236 rfl rfl ?_
                                  refine qr_istore [(13, .int (qz 0)), (12, .int (qz 99)), (11, .int (qz (-2))), (10, .int (qz 0)), (8, .long (ql (-1))), (6, .long (ql 0)), (4, .long (ql 0)), (0, .ref 86), (1, .long (ql 0)), (3, .int (qz x1))] 238 rfl (by decide) rfl rfl ?_
                                  refine qr_iload 240 rfl rfl rfl ?_
                                  refine qr_bipush 242 rfl (by decide) rfl ?_
                                  refine qr_icmp_ge 279 245 rfl rfl rfl (by decide) (by decide) (fun h => absurd h (by decide)) (fun _ => ?_)
                                  refine qr_aload_n 246 rfl rfl rfl ?_
                                  refine qr_get 249 rfl rfl rfl (by decide) rfl ?_
                                  as_aux_lemma =>
                                    refine qr_iload 251 rfl rfl rfl ?_
                                    refine qr_aload_n 252 rfl rfl rfl ?_
                                    refine qr_get 255 rfl rfl rfl (by decide) rfl ?_
                                    refine qr_iload 257 rfl rfl rfl ?_
                                    refine qr_iaload 258 rfl rfl (by omega) (by decide) rfl ?_
                                    refine qy_v 0 (by subst_vars; rfl) ?_
                                    refine qr_iastore 259 rfl (by decide) rfl (by omega) (by decide) rfl ?_
                                    refine qy_wA (qw_r α76 115 (qzu (α76 115) (0 : Int).toNat 0)) rfl (fun α79 e79 => ?_)
                                    refine qr_aload_n 260 rfl rfl rfl ?_
                                    refine qr_get 263 rfl rfl rfl (by decide) rfl ?_
                                    refine qr_iload 265 rfl rfl rfl ?_
                                    refine qr_aload_n 266 rfl rfl rfl ?_
                                    refine qr_get 269 rfl rfl rfl (by decide) rfl ?_
                                    refine qr_iload 271 rfl rfl rfl ?_
                                    refine qr_iaload 272 rfl rfl (by omega) (by decide) rfl ?_
                                    refine qy_v 0 (by subst_vars; rfl) ?_
                                    refine qr_iastore 273 rfl (by decide) rfl (by omega) (by decide) rfl ?_
                                    refine qy_wA (qw_r α79 116 (qzu (α79 116) (0 : Int).toNat 0)) rfl (fun α80 e80 => ?_)
                                    refine qr_iinc [(13, .int (qz 1)), (12, .int (qz 99)), (11, .int (qz (-2))), (10, .int (qz 0)), (8, .long (ql (-1))), (6, .long (ql 0)), (4, .long (ql 0)), (0, .ref 86), (1, .long (ql 0)), (3, .int (qz x1))] 276 rfl rfl (by decide) rfl rfl ?_
                                    refine qr_goto 238 rfl rfl ?_
                                    refine qr_iload 240 rfl rfl rfl ?_
                                    refine qr_bipush 242 rfl (by decide) rfl ?_
                                    refine qr_icmp_ge 279 245 rfl rfl rfl (by decide) (by decide) (fun h => absurd h (by decide)) (fun _ => ?_)
                                    refine qr_aload_n 246 rfl rfl rfl ?_
                                    refine qr_get 249 rfl rfl rfl (by decide) rfl ?_
                                    refine qr_iload 251 rfl rfl rfl ?_
                                    refine qr_aload_n 252 rfl rfl rfl ?_
                                    refine qr_get 255 rfl rfl rfl (by decide) rfl ?_
                                    refine qr_iload 257 rfl rfl rfl ?_
                                    refine qr_iaload 258 rfl rfl (by omega) (by decide) rfl ?_
                                    refine qy_v 0 (by subst_vars; rfl) ?_
                                    refine qr_iastore 259 rfl (by decide) rfl (by omega) (by decide) rfl ?_
                                    refine qy_wA (qw_r α80 115 (qzu (α80 115) (1 : Int).toNat 0)) rfl (fun α81 e81 => ?_)
                                    refine qr_aload_n 260 rfl rfl rfl ?_
                                    refine qr_get 263 rfl rfl rfl (by decide) rfl ?_
                                    refine qr_iload 265 rfl rfl rfl ?_
                                    refine qr_aload_n 266 rfl rfl rfl ?_
                                    refine qr_get 269 rfl rfl rfl (by decide) rfl ?_
                                    refine qr_iload 271 rfl rfl rfl ?_
                                    refine qr_iaload 272 rfl rfl (by omega) (by decide) rfl ?_
                                    refine qy_v 0 (by subst_vars; rfl) ?_
                                    refine qr_iastore 273 rfl (by decide) rfl (by omega) (by decide) rfl ?_
                                    refine qy_wA (qw_r α81 116 (qzu (α81 116) (1 : Int).toNat 0)) rfl (fun α82 e82 => ?_)
                                    refine qr_iinc [(13, .int (qz 2)), (12, .int (qz 99)), (11, .int (qz (-2))), (10, .int (qz 0)), (8, .long (ql (-1))), (6, .long (ql 0)), (4, .long (ql 0)), (0, .ref 86), (1, .long (ql 0)), (3, .int (qz x1))] 276 rfl rfl (by decide) rfl rfl ?_
                                    refine qr_goto 238 rfl rfl ?_
                                    refine qr_iload 240 rfl rfl rfl ?_
                                    refine qr_bipush 242 rfl (by decide) rfl ?_
                                    refine qr_icmp_ge 279 245 rfl rfl rfl (by decide) (by decide) (fun h => absurd h (by decide)) (fun _ => ?_)
                                    refine qr_aload_n 246 rfl rfl rfl ?_
                                    refine qr_get 249 rfl rfl rfl (by decide) rfl ?_
                                    refine qr_iload 251 rfl rfl rfl ?_
                                    refine qr_aload_n 252 rfl rfl rfl ?_
                                    refine qr_get 255 rfl rfl rfl (by decide) rfl ?_
                                    refine qr_iload 257 rfl rfl rfl ?_
                                    refine qr_iaload 258 rfl rfl (by omega) (by decide) rfl ?_
                                    refine qy_v 0 (by subst_vars; rfl) ?_
                                    refine qr_iastore 259 rfl (by decide) rfl (by omega) (by decide) rfl ?_
                                    refine qy_wA (qw_r α82 115 (qzu (α82 115) (2 : Int).toNat 0)) rfl (fun α83 e83 => ?_)
                                    refine qr_aload_n 260 rfl rfl rfl ?_
                                    refine qr_get 263 rfl rfl rfl (by decide) rfl ?_
                                    refine qr_iload 265 rfl rfl rfl ?_
                                    refine qr_aload_n 266 rfl rfl rfl ?_
                                    refine qr_get 269 rfl rfl rfl (by decide) rfl ?_
                                    refine qr_iload 271 rfl rfl rfl ?_
                                    refine qr_iaload 272 rfl rfl (by omega) (by decide) rfl ?_
                                    refine qy_v 0 (by subst_vars; rfl) ?_
                                    refine qr_iastore 273 rfl (by decide) rfl (by omega) (by decide) rfl ?_
                                    refine qy_wA (qw_r α83 116 (qzu (α83 116) (2 : Int).toNat 0)) rfl (fun α84 e84 => ?_)
                                    refine qr_iinc [(13, .int (qz 3)), (12, .int (qz 99)), (11, .int (qz (-2))), (10, .int (qz 0)), (8, .long (ql (-1))), (6, .long (ql 0)), (4, .long (ql 0)), (0, .ref 86), (1, .long (ql 0)), (3, .int (qz x1))] 276 rfl rfl (by decide) rfl rfl ?_
                                    refine qr_goto 238 rfl rfl ?_
                                    refine qr_iload 240 rfl rfl rfl ?_
                                    refine qr_bipush 242 rfl (by decide) rfl ?_
                                    refine qr_icmp_ge 279 245 rfl rfl rfl (by decide) (by decide) (fun h => absurd h (by decide)) (fun _ => ?_)
                                    as_aux_lemma =>
                                      refine qr_aload_n 246 rfl rfl rfl ?_
                                      refine qr_get 249 rfl rfl rfl (by decide) rfl ?_
                                      refine qr_iload 251 rfl rfl rfl ?_
                                      refine qr_aload_n 252 rfl rfl rfl ?_
                                      refine qr_get 255 rfl rfl rfl (by decide) rfl ?_
                                      refine qr_iload 257 rfl rfl rfl ?_
                                      refine qr_iaload 258 rfl rfl (by omega) (by decide) rfl ?_
                                      refine qy_v 0 (by subst_vars; rfl) ?_
                                      refine qr_iastore 259 rfl (by decide) rfl (by omega) (by decide) rfl ?_
                                      refine qy_wA (qw_r α84 115 (qzu (α84 115) (3 : Int).toNat 0)) rfl (fun α85 e85 => ?_)
                                      refine qr_aload_n 260 rfl rfl rfl ?_
                                      refine qr_get 263 rfl rfl rfl (by decide) rfl ?_
                                      refine qr_iload 265 rfl rfl rfl ?_
                                      refine qr_aload_n 266 rfl rfl rfl ?_
                                      refine qr_get 269 rfl rfl rfl (by decide) rfl ?_
                                      refine qr_iload 271 rfl rfl rfl ?_
                                      refine qr_iaload 272 rfl rfl (by omega) (by decide) rfl ?_
                                      refine qy_v 0 (by subst_vars; rfl) ?_
                                      refine qr_iastore 273 rfl (by decide) rfl (by omega) (by decide) rfl ?_
                                      refine qy_wA (qw_r α85 116 (qzu (α85 116) (3 : Int).toNat 0)) rfl (fun α86 e86 => ?_)
                                      refine qr_iinc [(13, .int (qz 4)), (12, .int (qz 99)), (11, .int (qz (-2))), (10, .int (qz 0)), (8, .long (ql (-1))), (6, .long (ql 0)), (4, .long (ql 0)), (0, .ref 86), (1, .long (ql 0)), (3, .int (qz x1))] 276 rfl rfl (by decide) rfl rfl ?_
                                      refine qr_goto 238 rfl rfl ?_
                                      refine qr_iload 240 rfl rfl rfl ?_
                                      refine qr_bipush 242 rfl (by decide) rfl ?_
                                      refine qr_icmp_ge 279 245 rfl rfl rfl (by decide) (by decide) (fun h => absurd h (by decide)) (fun _ => ?_)
                                      refine qr_aload_n 246 rfl rfl rfl ?_
                                      refine qr_get 249 rfl rfl rfl (by decide) rfl ?_
                                      refine qr_iload 251 rfl rfl rfl ?_
                                      refine qr_aload_n 252 rfl rfl rfl ?_
                                      refine qr_get 255 rfl rfl rfl (by decide) rfl ?_
                                      refine qr_iload 257 rfl rfl rfl ?_
                                      refine qr_iaload 258 rfl rfl (by omega) (by decide) rfl ?_
                                      refine qy_v 0 (by subst_vars; rfl) ?_
                                      refine qr_iastore 259 rfl (by decide) rfl (by omega) (by decide) rfl ?_
                                      refine qy_wA (qw_r α86 115 (qzu (α86 115) (4 : Int).toNat 0)) rfl (fun α87 e87 => ?_)
                                      refine qr_aload_n 260 rfl rfl rfl ?_
                                      refine qr_get 263 rfl rfl rfl (by decide) rfl ?_
                                      refine qr_iload 265 rfl rfl rfl ?_
                                      refine qr_aload_n 266 rfl rfl rfl ?_
                                      refine qr_get 269 rfl rfl rfl (by decide) rfl ?_
                                      refine qr_iload 271 rfl rfl rfl ?_
                                      refine qr_iaload 272 rfl rfl (by omega) (by decide) rfl ?_
                                      refine qy_v 0 (by subst_vars; rfl) ?_
                                      refine qr_iastore 273 rfl (by decide) rfl (by omega) (by decide) rfl ?_
                                      refine qy_wA (qw_r α87 116 (qzu (α87 116) (4 : Int).toNat 0)) rfl (fun α88 e88 => ?_)
                                      refine qr_iinc [(13, .int (qz 5)), (12, .int (qz 99)), (11, .int (qz (-2))), (10, .int (qz 0)), (8, .long (ql (-1))), (6, .long (ql 0)), (4, .long (ql 0)), (0, .ref 86), (1, .long (ql 0)), (3, .int (qz x1))] 276 rfl rfl (by decide) rfl rfl ?_
                                      refine qr_goto 238 rfl rfl ?_
                                      refine qr_iload 240 rfl rfl rfl ?_
                                      refine qr_bipush 242 rfl (by decide) rfl ?_
                                      refine qr_icmp_ge 279 245 rfl rfl rfl (by decide) (by decide) (fun h => absurd h (by decide)) (fun _ => ?_)
                                      refine qr_aload_n 246 rfl rfl rfl ?_
                                      refine qr_get 249 rfl rfl rfl (by decide) rfl ?_
                                      refine qr_iload 251 rfl rfl rfl ?_
                                      refine qr_aload_n 252 rfl rfl rfl ?_
                                      refine qr_get 255 rfl rfl rfl (by decide) rfl ?_
                                      refine qr_iload 257 rfl rfl rfl ?_
                                      refine qr_iaload 258 rfl rfl (by omega) (by decide) rfl ?_
                                      refine qy_v 0 (by subst_vars; rfl) ?_
                                      refine qr_iastore 259 rfl (by decide) rfl (by omega) (by decide) rfl ?_
                                      refine qy_wA (qw_r α88 115 (qzu (α88 115) (5 : Int).toNat 0)) rfl (fun α89 e89 => ?_)
                                      refine qr_aload_n 260 rfl rfl rfl ?_
                                      refine qr_get 263 rfl rfl rfl (by decide) rfl ?_
                                      refine qr_iload 265 rfl rfl rfl ?_
                                      refine qr_aload_n 266 rfl rfl rfl ?_
                                      refine qr_get 269 rfl rfl rfl (by decide) rfl ?_
                                      refine qr_iload 271 rfl rfl rfl ?_
                                      refine qr_iaload 272 rfl rfl (by omega) (by decide) rfl ?_
                                      refine qy_v 0 (by subst_vars; rfl) ?_
                                      refine qr_iastore 273 rfl (by decide) rfl (by omega) (by decide) rfl ?_
                                      refine qy_wA (qw_r α89 116 (qzu (α89 116) (5 : Int).toNat 0)) rfl (fun α90 e90 => ?_)
                                      refine qr_iinc [(13, .int (qz 6)), (12, .int (qz 99)), (11, .int (qz (-2))), (10, .int (qz 0)), (8, .long (ql (-1))), (6, .long (ql 0)), (4, .long (ql 0)), (0, .ref 86), (1, .long (ql 0)), (3, .int (qz x1))] 276 rfl rfl (by decide) rfl rfl ?_
                                      refine qr_goto 238 rfl rfl ?_
                                      refine qr_iload 240 rfl rfl rfl ?_
                                      as_aux_lemma =>
                                        refine qr_bipush 242 rfl (by decide) rfl ?_
                                        refine qr_icmp_ge 279 245 rfl rfl rfl (by decide) (by decide) (fun h => absurd h (by decide)) (fun _ => ?_)
                                        refine qr_aload_n 246 rfl rfl rfl ?_
                                        refine qr_get 249 rfl rfl rfl (by decide) rfl ?_
                                        refine qr_iload 251 rfl rfl rfl ?_
                                        refine qr_aload_n 252 rfl rfl rfl ?_
                                        refine qr_get 255 rfl rfl rfl (by decide) rfl ?_
                                        refine qr_iload 257 rfl rfl rfl ?_
                                        refine qr_iaload 258 rfl rfl (by omega) (by decide) rfl ?_
                                        refine qy_v 0 (by subst_vars; rfl) ?_
                                        refine qr_iastore 259 rfl (by decide) rfl (by omega) (by decide) rfl ?_
                                        refine qy_wA (qw_r α90 115 (qzu (α90 115) (6 : Int).toNat 0)) rfl (fun α91 e91 => ?_)
                                        refine qr_aload_n 260 rfl rfl rfl ?_
                                        refine qr_get 263 rfl rfl rfl (by decide) rfl ?_
                                        refine qr_iload 265 rfl rfl rfl ?_
                                        refine qr_aload_n 266 rfl rfl rfl ?_
                                        refine qr_get 269 rfl rfl rfl (by decide) rfl ?_
                                        refine qr_iload 271 rfl rfl rfl ?_
                                        refine qr_iaload 272 rfl rfl (by omega) (by decide) rfl ?_
                                        refine qy_v 0 (by subst_vars; rfl) ?_
                                        refine qr_iastore 273 rfl (by decide) rfl (by omega) (by decide) rfl ?_
                                        refine qy_wA (qw_r α91 116 (qzu (α91 116) (6 : Int).toNat 0)) rfl (fun α92 e92 => ?_)
                                        refine qr_iinc [(13, .int (qz 7)), (12, .int (qz 99)), (11, .int (qz (-2))), (10, .int (qz 0)), (8, .long (ql (-1))), (6, .long (ql 0)), (4, .long (ql 0)), (0, .ref 86), (1, .long (ql 0)), (3, .int (qz x1))] 276 rfl rfl (by decide) rfl rfl ?_
                                        refine qr_goto 238 rfl rfl ?_
                                        refine qr_iload 240 rfl rfl rfl ?_
                                        refine qr_bipush 242 rfl (by decide) rfl ?_
                                        refine qr_icmp_ge 279 245 rfl rfl rfl (by decide) (by decide) (fun h => absurd h (by decide)) (fun _ => ?_)
                                        refine qr_aload_n 246 rfl rfl rfl ?_
                                        refine qr_get 249 rfl rfl rfl (by decide) rfl ?_
                                        refine qr_iload 251 rfl rfl rfl ?_
                                        refine qr_aload_n 252 rfl rfl rfl ?_
                                        refine qr_get 255 rfl rfl rfl (by decide) rfl ?_
                                        refine qr_iload 257 rfl rfl rfl ?_
                                        refine qr_iaload 258 rfl rfl (by omega) (by decide) rfl ?_
                                        refine qy_v 0 (by subst_vars; rfl) ?_
                                        refine qr_iastore 259 rfl (by decide) rfl (by omega) (by decide) rfl ?_
                                        refine qy_wA (qw_r α92 115 (qzu (α92 115) (7 : Int).toNat 0)) rfl (fun α93 e93 => ?_)
                                        refine qr_aload_n 260 rfl rfl rfl ?_
                                        refine qr_get 263 rfl rfl rfl (by decide) rfl ?_
                                        refine qr_iload 265 rfl rfl rfl ?_
                                        refine qr_aload_n 266 rfl rfl rfl ?_
                                        refine qr_get 269 rfl rfl rfl (by decide) rfl ?_
                                        refine qr_iload 271 rfl rfl rfl ?_
                                        refine qr_iaload 272 rfl rfl (by omega) (by decide) rfl ?_
                                        refine qy_v 0 (by subst_vars; rfl) ?_
                                        refine qr_iastore 273 rfl (by decide) rfl (by omega) (by decide) rfl ?_
                                        refine qy_wA (qw_r α93 116 (qzu (α93 116) (7 : Int).toNat 0)) rfl (fun α94 e94 => ?_)
                                        refine qr_iinc [(13, .int (qz 8)), (12, .int (qz 99)), (11, .int (qz (-2))), (10, .int (qz 0)), (8, .long (ql (-1))), (6, .long (ql 0)), (4, .long (ql 0)), (0, .ref 86), (1, .long (ql 0)), (3, .int (qz x1))] 276 rfl rfl (by decide) rfl rfl ?_
                                        refine qr_goto 238 rfl rfl ?_
                                        refine qr_iload 240 rfl rfl rfl ?_
                                        refine qr_bipush 242 rfl (by decide) rfl ?_
                                        refine qr_icmp_ge 279 245 rfl rfl rfl (by decide) (by decide) (fun h => absurd h (by decide)) (fun _ => ?_)
                                        refine qr_aload_n 246 rfl rfl rfl ?_
                                        refine qr_get 249 rfl rfl rfl (by decide) rfl ?_
                                        refine qr_iload 251 rfl rfl rfl ?_
                                        refine qr_aload_n 252 rfl rfl rfl ?_
                                        refine qr_get 255 rfl rfl rfl (by decide) rfl ?_
                                        refine qr_iload 257 rfl rfl rfl ?_
                                        refine qr_iaload 258 rfl rfl (by omega) (by decide) rfl ?_
                                        refine qy_v 0 (by subst_vars; rfl) ?_
                                        refine qr_iastore 259 rfl (by decide) rfl (by omega) (by decide) rfl ?_
                                        refine qy_wA (qw_r α94 115 (qzu (α94 115) (8 : Int).toNat 0)) rfl (fun α95 e95 => ?_)
                                        refine qr_aload_n 260 rfl rfl rfl ?_
                                        refine qr_get 263 rfl rfl rfl (by decide) rfl ?_
                                        refine qr_iload 265 rfl rfl rfl ?_
                                        refine qr_aload_n 266 rfl rfl rfl ?_
                                        refine qr_get 269 rfl rfl rfl (by decide) rfl ?_
                                        refine qr_iload 271 rfl rfl rfl ?_
                                        refine qr_iaload 272 rfl rfl (by omega) (by decide) rfl ?_
                                        refine qy_v 0 (by subst_vars; rfl) ?_
                                        refine qr_iastore 273 rfl (by decide) rfl (by omega) (by decide) rfl ?_
                                        refine qy_wA (qw_r α95 116 (qzu (α95 116) (8 : Int).toNat 0)) rfl (fun α96 e96 => ?_)
                                        refine qr_iinc [(13, .int (qz 9)), (12, .int (qz 99)), (11, .int (qz (-2))), (10, .int (qz 0)), (8, .long (ql (-1))), (6, .long (ql 0)), (4, .long (ql 0)), (0, .ref 86), (1, .long (ql 0)), (3, .int (qz x1))] 276 rfl rfl (by decide) rfl rfl ?_
                                        as_aux_lemma =>
                                          refine qr_goto 238 rfl rfl ?_
                                          refine qr_iload 240 rfl rfl rfl ?_
                                          refine qr_bipush 242 rfl (by decide) rfl ?_
                                          refine qr_icmp_ge 279 245 rfl rfl rfl (by decide) (by decide) (fun h => absurd h (by decide)) (fun _ => ?_)
                                          refine qr_aload_n 246 rfl rfl rfl ?_
                                          refine qr_get 249 rfl rfl rfl (by decide) rfl ?_
                                          refine qr_iload 251 rfl rfl rfl ?_
                                          refine qr_aload_n 252 rfl rfl rfl ?_
                                          refine qr_get 255 rfl rfl rfl (by decide) rfl ?_
                                          refine qr_iload 257 rfl rfl rfl ?_
                                          refine qr_iaload 258 rfl rfl (by omega) (by decide) rfl ?_
                                          refine qy_v 0 (by subst_vars; rfl) ?_
                                          refine qr_iastore 259 rfl (by decide) rfl (by omega) (by decide) rfl ?_
                                          refine qy_wA (qw_r α96 115 (qzu (α96 115) (9 : Int).toNat 0)) rfl (fun α97 e97 => ?_)
                                          refine qr_aload_n 260 rfl rfl rfl ?_
                                          refine qr_get 263 rfl rfl rfl (by decide) rfl ?_
                                          refine qr_iload 265 rfl rfl rfl ?_
                                          refine qr_aload_n 266 rfl rfl rfl ?_
                                          refine qr_get 269 rfl rfl rfl (by decide) rfl ?_
                                          refine qr_iload 271 rfl rfl rfl ?_
                                          refine qr_iaload 272 rfl rfl (by omega) (by decide) rfl ?_
                                          refine qy_v 0 (by subst_vars; rfl) ?_
                                          refine qr_iastore 273 rfl (by decide) rfl (by omega) (by decide) rfl ?_
                                          refine qy_wA (qw_r α97 116 (qzu (α97 116) (9 : Int).toNat 0)) rfl (fun α98 e98 => ?_)
                                          refine qr_iinc [(13, .int (qz 10)), (12, .int (qz 99)), (11, .int (qz (-2))), (10, .int (qz 0)), (8, .long (ql (-1))), (6, .long (ql 0)), (4, .long (ql 0)), (0, .ref 86), (1, .long (ql 0)), (3, .int (qz x1))] 276 rfl rfl (by decide) rfl rfl ?_
                                          refine qr_goto 238 rfl rfl ?_
                                          refine qr_iload 240 rfl rfl rfl ?_
                                          refine qr_bipush 242 rfl (by decide) rfl ?_
                                          refine qr_icmp_ge 279 245 rfl rfl rfl (by decide) (by decide) (fun h => absurd h (by decide)) (fun _ => ?_)
                                          refine qr_aload_n 246 rfl rfl rfl ?_
                                          refine qr_get 249 rfl rfl rfl (by decide) rfl ?_
                                          refine qr_iload 251 rfl rfl rfl ?_
                                          refine qr_aload_n 252 rfl rfl rfl ?_
                                          refine qr_get 255 rfl rfl rfl (by decide) rfl ?_
                                          refine qr_iload 257 rfl rfl rfl ?_
                                          refine qr_iaload 258 rfl rfl (by omega) (by decide) rfl ?_
                                          refine qy_v 0 (by subst_vars; rfl) ?_
                                          refine qr_iastore 259 rfl (by decide) rfl (by omega) (by decide) rfl ?_
                                          refine qy_wA (qw_r α98 115 (qzu (α98 115) (10 : Int).toNat 0)) rfl (fun α99 e99 => ?_)
                                          refine qr_aload_n 260 rfl rfl rfl ?_
                                          refine qr_get 263 rfl rfl rfl (by decide) rfl ?_
                                          refine qr_iload 265 rfl rfl rfl ?_
                                          refine qr_aload_n 266 rfl rfl rfl ?_
                                          refine qr_get 269 rfl rfl rfl (by decide) rfl ?_
                                          refine qr_iload 271 rfl rfl rfl ?_
                                          refine qr_iaload 272 rfl rfl (by omega) (by decide) rfl ?_
                                          refine qy_v 0 (by subst_vars; rfl) ?_
                                          refine qr_iastore 273 rfl (by decide) rfl (by omega) (by decide) rfl ?_
                                          refine qy_wA (qw_r α99 116 (qzu (α99 116) (10 : Int).toNat 0)) rfl (fun α100 e100 => ?_)
                                          refine qr_iinc [(13, .int (qz 11)), (12, .int (qz 99)), (11, .int (qz (-2))), (10, .int (qz 0)), (8, .long (ql (-1))), (6, .long (ql 0)), (4, .long (ql 0)), (0, .ref 86), (1, .long (ql 0)), (3, .int (qz x1))] 276 rfl rfl (by decide) rfl rfl ?_
                                          refine qr_goto 238 rfl rfl ?_
                                          refine qr_iload 240 rfl rfl rfl ?_
                                          refine qr_bipush 242 rfl (by decide) rfl ?_
                                          refine qr_icmp_ge 279 245 rfl rfl rfl (by decide) (by decide) (fun h => absurd h (by decide)) (fun _ => ?_)
                                          refine qr_aload_n 246 rfl rfl rfl ?_
                                          refine qr_get 249 rfl rfl rfl (by decide) rfl ?_
                                          refine qr_iload 251 rfl rfl rfl ?_
                                          refine qr_aload_n 252 rfl rfl rfl ?_
                                          refine qr_get 255 rfl rfl rfl (by decide) rfl ?_
                                          refine qr_iload 257 rfl rfl rfl ?_
                                          refine qr_iaload 258 rfl rfl (by omega) (by decide) rfl ?_
                                          refine qy_v 0 (by subst_vars; rfl) ?_
                                          refine qr_iastore 259 rfl (by decide) rfl (by omega) (by decide) rfl ?_
                                          refine qy_wA (qw_r α100 115 (qzu (α100 115) (11 : Int).toNat 0)) rfl (fun α101 e101 => ?_)
                                          refine qr_aload_n 260 rfl rfl rfl ?_
                                          refine qr_get 263 rfl rfl rfl (by decide) rfl ?_
                                          refine qr_iload 265 rfl rfl rfl ?_
                                          refine qr_aload_n 266 rfl rfl rfl ?_
                                          refine qr_get 269 rfl rfl rfl (by decide) rfl ?_
                                          refine qr_iload 271 rfl rfl rfl ?_
                                          refine qr_iaload 272 rfl rfl (by omega) (by decide) rfl ?_
                                          refine qy_v 0 (by subst_vars; rfl) ?_
                                          as_aux_lemma =>
                                            refine qr_iastore 273 rfl (by decide) rfl (by omega) (by decide) rfl ?_
                                            refine qy_wA (qw_r α101 116 (qzu (α101 116) (11 : Int).toNat 0)) rfl (fun α102 e102 => ?_)
                                            refine qr_iinc [(13, .int (qz 12)), (12, .int (qz 99)), (11, .int (qz (-2))), (10, .int (qz 0)), (8, .long (ql (-1))), (6, .long (ql 0)), (4, .long (ql 0)), (0, .ref 86), (1, .long (ql 0)), (3, .int (qz x1))] 276 rfl rfl (by decide) rfl rfl ?_
                                            refine qr_goto 238 rfl rfl ?_
                                            refine qr_iload 240 rfl rfl rfl ?_
                                            refine qr_bipush 242 rfl (by decide) rfl ?_
                                            refine qr_icmp_ge 279 245 rfl rfl rfl (by decide) (by decide) (fun h => absurd h (by decide)) (fun _ => ?_)
                                            refine qr_aload_n 246 rfl rfl rfl ?_
                                            refine qr_get 249 rfl rfl rfl (by decide) rfl ?_
                                            refine qr_iload 251 rfl rfl rfl ?_
                                            refine qr_aload_n 252 rfl rfl rfl ?_
                                            refine qr_get 255 rfl rfl rfl (by decide) rfl ?_
                                            refine qr_iload 257 rfl rfl rfl ?_
                                            refine qr_iaload 258 rfl rfl (by omega) (by decide) rfl ?_
                                            refine qy_v 0 (by subst_vars; rfl) ?_
                                            refine qr_iastore 259 rfl (by decide) rfl (by omega) (by decide) rfl ?_
                                            refine qy_wA (qw_r α102 115 (qzu (α102 115) (12 : Int).toNat 0)) rfl (fun α103 e103 => ?_)
                                            refine qr_aload_n 260 rfl rfl rfl ?_
                                            refine qr_get 263 rfl rfl rfl (by decide) rfl ?_
                                            refine qr_iload 265 rfl rfl rfl ?_
                                            refine qr_aload_n 266 rfl rfl rfl ?_
                                            refine qr_get 269 rfl rfl rfl (by decide) rfl ?_
                                            refine qr_iload 271 rfl rfl rfl ?_
                                            refine qr_iaload 272 rfl rfl (by omega) (by decide) rfl ?_
                                            refine qy_v 0 (by subst_vars; rfl) ?_
                                            refine qr_iastore 273 rfl (by decide) rfl (by omega) (by decide) rfl ?_
                                            refine qy_wA (qw_r α103 116 (qzu (α103 116) (12 : Int).toNat 0)) rfl (fun α104 e104 => ?_)
                                            refine qr_iinc [(13, .int (qz 13)), (12, .int (qz 99)), (11, .int (qz (-2))), (10, .int (qz 0)), (8, .long (ql (-1))), (6, .long (ql 0)), (4, .long (ql 0)), (0, .ref 86), (1, .long (ql 0)), (3, .int (qz x1))] 276 rfl rfl (by decide) rfl rfl ?_
                                            refine qr_goto 238 rfl rfl ?_
                                            refine qr_iload 240 rfl rfl rfl ?_
                                            refine qr_bipush 242 rfl (by decide) rfl ?_
                                            refine qr_icmp_ge 279 245 rfl rfl rfl (by decide) (by decide) (fun h => absurd h (by decide)) (fun _ => ?_)
                                            refine qr_aload_n 246 rfl rfl rfl ?_
                                            refine qr_get 249 rfl rfl rfl (by decide) rfl ?_
                                            refine qr_iload 251 rfl rfl rfl ?_
                                            refine qr_aload_n 252 rfl rfl rfl ?_
                                            refine qr_get 255 rfl rfl rfl (by decide) rfl ?_
                                            refine qr_iload 257 rfl rfl rfl ?_
                                            refine qr_iaload 258 rfl rfl (by omega) (by decide) rfl ?_
                                            refine qy_v 0 (by subst_vars; rfl) ?_
                                            refine qr_iastore 259 rfl (by decide) rfl (by omega) (by decide) rfl ?_
                                            refine qy_wA (qw_r α104 115 (qzu (α104 115) (13 : Int).toNat 0)) rfl (fun α105 e105 => ?_)
                                            refine qr_aload_n 260 rfl rfl rfl ?_
                                            refine qr_get 263 rfl rfl rfl (by decide) rfl ?_
                                            refine qr_iload 265 rfl rfl rfl ?_
                                            refine qr_aload_n 266 rfl rfl rfl ?_
                                            refine qr_get 269 rfl rfl rfl (by decide) rfl ?_
                                            refine qr_iload 271 rfl rfl rfl ?_
                                            refine qr_iaload 272 rfl rfl (by omega) (by decide) rfl ?_
                                            refine qy_v 0 (by subst_vars; rfl) ?_
                                            refine qr_iastore 273 rfl (by decide) rfl (by omega) (by decide) rfl ?_
                                            refine qy_wA (qw_r α105 116 (qzu (α105 116) (13 : Int).toNat 0)) rfl (fun α106 e106 => ?_)
                                            refine qr_iinc [(13, .int (qz 14)), (12, .int (qz 99)), (11, .int (qz (-2))), (10, .int (qz 0)), (8, .long (ql (-1))), (6, .long (ql 0)), (4, .long (ql 0)), (0, .ref 86), (1, .long (ql 0)), (3, .int (qz x1))] 276 rfl rfl (by decide) rfl rfl ?_
                                            refine qr_goto 238 rfl rfl ?_
                                            refine qr_iload 240 rfl rfl rfl ?_
                                            refine qr_bipush 242 rfl (by decide) rfl ?_
                                            refine qr_icmp_ge 279 245 rfl rfl rfl (by decide) (by decide) (fun h => absurd h (by decide)) (fun _ => ?_)
                                            refine qr_aload_n 246 rfl rfl rfl ?_
                                            refine qr_get 249 rfl rfl rfl (by decide) rfl ?_
                                            refine qr_iload 251 rfl rfl rfl ?_
                                            refine qr_aload_n 252 rfl rfl rfl ?_
                                            refine qr_get 255 rfl rfl rfl (by decide) rfl ?_
                                            refine qr_iload 257 rfl rfl rfl ?_
                                            refine qr_iaload 258 rfl rfl (by omega) (by decide) rfl ?_
                                            refine qy_v 0 (by subst_vars; rfl) ?_
                                            refine qr_iastore 259 rfl (by decide) rfl (by omega) (by decide) rfl ?_
                                            refine qy_wA (qw_r α106 115 (qzu (α106 115) (14 : Int).toNat 0)) rfl (fun α107 e107 => ?_)
                                            refine qr_aload_n 260 rfl rfl rfl ?_
                                            refine qr_get 263 rfl rfl rfl (by decide) rfl ?_
                                            refine qr_iload 265 rfl rfl rfl ?_
                                            refine qr_aload_n 266 rfl rfl rfl ?_
                                            refine qr_get 269 rfl rfl rfl (by decide) rfl ?_
                                            as_aux_lemma =>
                                              refine qr_iload 271 rfl rfl rfl ?_
                                              refine qr_iaload 272 rfl rfl (by omega) (by decide) rfl ?_
                                              refine qy_v 0 (by subst_vars; rfl) ?_
                                              refine qr_iastore 273 rfl (by decide) rfl (by omega) (by decide) rfl ?_
                                              refine qy_wA (qw_r α107 116 (qzu (α107 116) (14 : Int).toNat 0)) rfl (fun α108 e108 => ?_)
                                              refine qr_iinc [(13, .int (qz 15)), (12, .int (qz 99)), (11, .int (qz (-2))), (10, .int (qz 0)), (8, .long (ql (-1))), (6, .long (ql 0)), (4, .long (ql 0)), (0, .ref 86), (1, .long (ql 0)), (3, .int (qz x1))] 276 rfl rfl (by decide) rfl rfl ?_
                                              refine qr_goto 238 rfl rfl ?_
                                              refine qr_iload 240 rfl rfl rfl ?_
                                              refine qr_bipush 242 rfl (by decide) rfl ?_
                                              refine qr_icmp_ge 279 245 rfl rfl rfl (by decide) (by decide) (fun h => absurd h (by decide)) (fun _ => ?_)
                                              refine qr_aload_n 246 rfl rfl rfl ?_
                                              refine qr_get 249 rfl rfl rfl (by decide) rfl ?_
                                              refine qr_iload 251 rfl rfl rfl ?_
                                              refine qr_aload_n 252 rfl rfl rfl ?_
                                              refine qr_get 255 rfl rfl rfl (by decide) rfl ?_
                                              refine qr_iload 257 rfl rfl rfl ?_
                                              refine qr_iaload 258 rfl rfl (by omega) (by decide) rfl ?_
                                              refine qy_v 0 (by subst_vars; rfl) ?_
                                              refine qr_iastore 259 rfl (by decide) rfl (by omega) (by decide) rfl ?_
                                              refine qy_wA (qw_r α108 115 (qzu (α108 115) (15 : Int).toNat 0)) rfl (fun α109 e109 => ?_)
                                              refine qr_aload_n 260 rfl rfl rfl ?_
                                              refine qr_get 263 rfl rfl rfl (by decide) rfl ?_
                                              refine qr_iload 265 rfl rfl rfl ?_
                                              refine qr_aload_n 266 rfl rfl rfl ?_
                                              refine qr_get 269 rfl rfl rfl (by decide) rfl ?_
                                              refine qr_iload 271 rfl rfl rfl ?_
                                              refine qr_iaload 272 rfl rfl (by omega) (by decide) rfl ?_
                                              refine qy_v 0 (by subst_vars; rfl) ?_
                                              refine qr_iastore 273 rfl (by decide) rfl (by omega) (by decide) rfl ?_
                                              refine qy_wA (qw_r α109 116 (qzu (α109 116) (15 : Int).toNat 0)) rfl (fun α110 e110 => ?_)
                                              refine qr_iinc [(13, .int (qz 16)), (12, .int (qz 99)), (11, .int (qz (-2))), (10, .int (qz 0)), (8, .long (ql (-1))), (6, .long (ql 0)), (4, .long (ql 0)), (0, .ref 86), (1, .long (ql 0)), (3, .int (qz x1))] 276 rfl rfl (by decide) rfl rfl ?_
                                              refine qr_goto 238 rfl rfl ?_
                                              refine qr_iload 240 rfl rfl rfl ?_
                                              refine qr_bipush 242 rfl (by decide) rfl ?_
                                              refine qr_icmp_ge 279 245 rfl rfl rfl (by decide) (by decide) (fun h => absurd h (by decide)) (fun _ => ?_)
                                              refine qr_aload_n 246 rfl rfl rfl ?_
                                              refine qr_get 249 rfl rfl rfl (by decide) rfl ?_
                                              refine qr_iload 251 rfl rfl rfl ?_
                                              refine qr_aload_n 252 rfl rfl rfl ?_
                                              refine qr_get 255 rfl rfl rfl (by decide) rfl ?_
                                              refine qr_iload 257 rfl rfl rfl ?_
                                              refine qr_iaload 258 rfl rfl (by omega) (by decide) rfl ?_
                                              refine qy_v 0 (by subst_vars; rfl) ?_
                                              refine qr_iastore 259 rfl (by decide) rfl (by omega) (by decide) rfl ?_
                                              refine qy_wA (qw_r α110 115 (qzu (α110 115) (16 : Int).toNat 0)) rfl (fun α111 e111 => ?_)
                                              refine qr_aload_n 260 rfl rfl rfl ?_
                                              refine qr_get 263 rfl rfl rfl (by decide) rfl ?_
                                              refine qr_iload 265 rfl rfl rfl ?_
                                              refine qr_aload_n 266 rfl rfl rfl ?_
                                              refine qr_get 269 rfl rfl rfl (by decide) rfl ?_
                                              refine qr_iload 271 rfl rfl rfl ?_
                                              refine qr_iaload 272 rfl rfl (by omega) (by decide) rfl ?_
                                              refine qy_v 0 (by subst_vars; rfl) ?_
                                              refine qr_iastore 273 rfl (by decide) rfl (by omega) (by decide) rfl ?_
                                              refine qy_wA (qw_r α111 116 (qzu (α111 116) (16 : Int).toNat 0)) rfl (fun α112 e112 => ?_)
                                              refine qr_iinc [(13, .int (qz 17)), (12, .int (qz 99)), (11, .int (qz (-2))), (10, .int (qz 0)), (8, .long (ql (-1))), (6, .long (ql 0)), (4, .long (ql 0)), (0, .ref 86), (1, .long (ql 0)), (3, .int (qz x1))] 276 rfl rfl (by decide) rfl rfl ?_
                                              refine qr_goto 238 rfl rfl ?_
                                              refine qr_iload 240 rfl rfl rfl ?_
                                              refine qr_bipush 242 rfl (by decide) rfl ?_
                                              refine qr_icmp_ge 279 245 rfl rfl rfl (by decide) (by decide) (fun h => absurd h (by decide)) (fun _ => ?_)
                                              refine qr_aload_n 246 rfl rfl rfl ?_
                                              refine qr_get 249 rfl rfl rfl (by decide) rfl ?_
                                              refine qr_iload 251 rfl rfl rfl ?_
                                              refine qr_aload_n 252 rfl rfl rfl ?_
                                              refine qr_get 255 rfl rfl rfl (by decide) rfl ?_
                                              refine qr_iload 257 rfl rfl rfl ?_
                                              refine qr_iaload 258 rfl rfl (by omega) (by decide) rfl ?_
                                              refine qy_v 0 (by subst_vars; rfl) ?_
                                              refine qr_iastore 259 rfl (by decide) rfl (by omega) (by decide) rfl ?_
                                              refine qy_wA (qw_r α112 115 (qzu (α112 115) (17 : Int).toNat 0)) rfl (fun α113 e113 => ?_)
                                              refine qr_aload_n 260 rfl rfl rfl ?_
                                              refine qr_get 263 rfl rfl rfl (by decide) rfl ?_
                                              refine qr_iload 265 rfl rfl rfl ?_
                                              as_aux_lemma =>
                                                refine qr_aload_n 266 rfl rfl rfl ?_
                                                refine qr_get 269 rfl rfl rfl (by decide) rfl ?_
                                                refine qr_iload 271 rfl rfl rfl ?_
                                                refine qr_iaload 272 rfl rfl (by omega) (by decide) rfl ?_
                                                refine qy_v 0 (by subst_vars; rfl) ?_
                                                refine qr_iastore 273 rfl (by decide) rfl (by omega) (by decide) rfl ?_
                                                refine qy_wA (qw_r α113 116 (qzu (α113 116) (17 : Int).toNat 0)) rfl (fun α114 e114 => ?_)
                                                refine qr_iinc [(13, .int (qz 18)), (12, .int (qz 99)), (11, .int (qz (-2))), (10, .int (qz 0)), (8, .long (ql (-1))), (6, .long (ql 0)), (4, .long (ql 0)), (0, .ref 86), (1, .long (ql 0)), (3, .int (qz x1))] 276 rfl rfl (by decide) rfl rfl ?_
                                                refine qr_goto 238 rfl rfl ?_
                                                refine qr_iload 240 rfl rfl rfl ?_
                                                refine qr_bipush 242 rfl (by decide) rfl ?_
                                                refine qr_icmp_ge 279 245 rfl rfl rfl (by decide) (by decide) (fun h => absurd h (by decide)) (fun _ => ?_)
                                                refine qr_aload_n 246 rfl rfl rfl ?_
                                                refine qr_get 249 rfl rfl rfl (by decide) rfl ?_
                                                refine qr_iload 251 rfl rfl rfl ?_
                                                refine qr_aload_n 252 rfl rfl rfl ?_
                                                refine qr_get 255 rfl rfl rfl (by decide) rfl ?_
                                                refine qr_iload 257 rfl rfl rfl ?_
                                                refine qr_iaload 258 rfl rfl (by omega) (by decide) rfl ?_
                                                refine qy_v 0 (by subst_vars; rfl) ?_
                                                refine qr_iastore 259 rfl (by decide) rfl (by omega) (by decide) rfl ?_
                                                refine qy_wA (qw_r α114 115 (qzu (α114 115) (18 : Int).toNat 0)) rfl (fun α115 e115 => ?_)
                                                refine qr_aload_n 260 rfl rfl rfl ?_
                                                refine qr_get 263 rfl rfl rfl (by decide) rfl ?_
                                                refine qr_iload 265 rfl rfl rfl ?_
                                                refine qr_aload_n 266 rfl rfl rfl ?_
                                                refine qr_get 269 rfl rfl rfl (by decide) rfl ?_
                                                refine qr_iload 271 rfl rfl rfl ?_
                                                refine qr_iaload 272 rfl rfl (by omega) (by decide) rfl ?_
                                                refine qy_v 0 (by subst_vars; rfl) ?_
                                                refine qr_iastore 273 rfl (by decide) rfl (by omega) (by decide) rfl ?_
                                                refine qy_wA (qw_r α115 116 (qzu (α115 116) (18 : Int).toNat 0)) rfl (fun α116 e116 => ?_)
                                                refine qr_iinc [(13, .int (qz 19)), (12, .int (qz 99)), (11, .int (qz (-2))), (10, .int (qz 0)), (8, .long (ql (-1))), (6, .long (ql 0)), (4, .long (ql 0)), (0, .ref 86), (1, .long (ql 0)), (3, .int (qz x1))] 276 rfl rfl (by decide) rfl rfl ?_
                                                refine qr_goto 238 rfl rfl ?_
                                                refine qr_iload 240 rfl rfl rfl ?_
                                                refine qr_bipush 242 rfl (by decide) rfl ?_
                                                refine qr_icmp_ge 279 245 rfl rfl rfl (by decide) (by decide) (fun h => absurd h (by decide)) (fun _ => ?_)
                                                refine qr_aload_n 246 rfl rfl rfl ?_
                                                refine qr_get 249 rfl rfl rfl (by decide) rfl ?_
                                                refine qr_iload 251 rfl rfl rfl ?_
                                                refine qr_aload_n 252 rfl rfl rfl ?_
                                                refine qr_get 255 rfl rfl rfl (by decide) rfl ?_
                                                refine qr_iload 257 rfl rfl rfl ?_
                                                refine qr_iaload 258 rfl rfl (by omega) (by decide) rfl ?_
                                                refine qy_v 0 (by subst_vars; rfl) ?_
                                                refine qr_iastore 259 rfl (by decide) rfl (by omega) (by decide) rfl ?_
                                                refine qy_wA (qw_r α116 115 (qzu (α116 115) (19 : Int).toNat 0)) rfl (fun α117 e117 => ?_)
                                                refine qr_aload_n 260 rfl rfl rfl ?_
                                                refine qr_get 263 rfl rfl rfl (by decide) rfl ?_
                                                refine qr_iload 265 rfl rfl rfl ?_
                                                refine qr_aload_n 266 rfl rfl rfl ?_
                                                refine qr_get 269 rfl rfl rfl (by decide) rfl ?_
                                                refine qr_iload 271 rfl rfl rfl ?_
                                                refine qr_iaload 272 rfl rfl (by omega) (by decide) rfl ?_
                                                refine qy_v 0 (by subst_vars; rfl) ?_
                                                refine qr_iastore 273 rfl (by decide) rfl (by omega) (by decide) rfl ?_
                                                refine qy_wA (qw_r α117 116 (qzu (α117 116) (19 : Int).toNat 0)) rfl (fun α118 e118 => ?_)
                                                refine qr_iinc [(13, .int (qz 20)), (12, .int (qz 99)), (11, .int (qz (-2))), (10, .int (qz 0)), (8, .long (ql (-1))), (6, .long (ql 0)), (4, .long (ql 0)), (0, .ref 86), (1, .long (ql 0)), (3, .int (qz x1))] 276 rfl rfl (by decide) rfl rfl ?_
                                                refine qr_goto 238 rfl rfl ?_
                                                refine qr_iload 240 rfl rfl rfl ?_
                                                refine qr_bipush 242 rfl (by decide) rfl ?_
                                                refine qr_icmp_ge 279 245 rfl rfl rfl (by decide) (by decide) (fun h => absurd h (by decide)) (fun _ => ?_)
                                                refine qr_aload_n 246 rfl rfl rfl ?_
                                                refine qr_get 249 rfl rfl rfl (by decide) rfl ?_
                                                refine qr_iload 251 rfl rfl rfl ?_
                                                refine qr_aload_n 252 rfl rfl rfl ?_
                                                refine qr_get 255 rfl rfl rfl (by decide) rfl ?_
                                                refine qr_iload 257 rfl rfl rfl ?_
                                                refine qr_iaload 258 rfl rfl (by omega) (by decide) rfl ?_
                                                refine qy_v 0 (by subst_vars; rfl) ?_
                                                refine qr_iastore 259 rfl (by decide) rfl (by omega) (by decide) rfl ?_
                                                refine qy_wA (qw_r α118 115 (qzu (α118 115) (20 : Int).toNat 0)) rfl (fun α119 e119 => ?_)
                                                refine qr_aload_n 260 rfl rfl rfl ?_
                                                as_aux_lemma =>
                                                  refine qr_get 263 rfl rfl rfl (by decide) rfl ?_
                                                  refine qr_iload 265 rfl rfl rfl ?_
                                                  refine qr_aload_n 266 rfl rfl rfl ?_
                                                  refine qr_get 269 rfl rfl rfl (by decide) rfl ?_
                                                  refine qr_iload 271 rfl rfl rfl ?_
                                                  refine qr_iaload 272 rfl rfl (by omega) (by decide) rfl ?_
                                                  refine qy_v 0 (by subst_vars; rfl) ?_
                                                  refine qr_iastore 273 rfl (by decide) rfl (by omega) (by decide) rfl ?_
                                                  refine qy_wA (qw_r α119 116 (qzu (α119 116) (20 : Int).toNat 0)) rfl (fun α120 e120 => ?_)
                                                  refine qr_iinc [(13, .int (qz 21)), (12, .int (qz 99)), (11, .int (qz (-2))), (10, .int (qz 0)), (8, .long (ql (-1))), (6, .long (ql 0)), (4, .long (ql 0)), (0, .ref 86), (1, .long (ql 0)), (3, .int (qz x1))] 276 rfl rfl (by decide) rfl rfl ?_
                                                  refine qr_goto 238 rfl rfl ?_
                                                  refine qr_iload 240 rfl rfl rfl ?_
                                                  refine qr_bipush 242 rfl (by decide) rfl ?_
                                                  refine qr_icmp_ge 279 245 rfl rfl rfl (by decide) (by decide) (fun h => absurd h (by decide)) (fun _ => ?_)
                                                  refine qr_aload_n 246 rfl rfl rfl ?_
                                                  refine qr_get 249 rfl rfl rfl (by decide) rfl ?_
                                                  refine qr_iload 251 rfl rfl rfl ?_
                                                  refine qr_aload_n 252 rfl rfl rfl ?_
                                                  refine qr_get 255 rfl rfl rfl (by decide) rfl ?_
                                                  refine qr_iload 257 rfl rfl rfl ?_
                                                  refine qr_iaload 258 rfl rfl (by omega) (by decide) rfl ?_
                                                  refine qy_v 0 (by subst_vars; rfl) ?_
                                                  refine qr_iastore 259 rfl (by decide) rfl (by omega) (by decide) rfl ?_
                                                  refine qy_wA (qw_r α120 115 (qzu (α120 115) (21 : Int).toNat 0)) rfl (fun α121 e121 => ?_)
                                                  refine qr_aload_n 260 rfl rfl rfl ?_
                                                  refine qr_get 263 rfl rfl rfl (by decide) rfl ?_
                                                  refine qr_iload 265 rfl rfl rfl ?_
                                                  refine qr_aload_n 266 rfl rfl rfl ?_
                                                  refine qr_get 269 rfl rfl rfl (by decide) rfl ?_
                                                  refine qr_iload 271 rfl rfl rfl ?_
                                                  refine qr_iaload 272 rfl rfl (by omega) (by decide) rfl ?_
                                                  refine qy_v 0 (by subst_vars; rfl) ?_
                                                  refine qr_iastore 273 rfl (by decide) rfl (by omega) (by decide) rfl ?_
                                                  refine qy_wA (qw_r α121 116 (qzu (α121 116) (21 : Int).toNat 0)) rfl (fun α122 e122 => ?_)
                                                  refine qr_iinc [(13, .int (qz 22)), (12, .int (qz 99)), (11, .int (qz (-2))), (10, .int (qz 0)), (8, .long (ql (-1))), (6, .long (ql 0)), (4, .long (ql 0)), (0, .ref 86), (1, .long (ql 0)), (3, .int (qz x1))] 276 rfl rfl (by decide) rfl rfl ?_
                                                  refine qr_goto 238 rfl rfl ?_
                                                  refine qr_iload 240 rfl rfl rfl ?_
                                                  refine qr_bipush 242 rfl (by decide) rfl ?_
                                                  refine qr_icmp_ge 279 245 rfl rfl rfl (by decide) (by decide) (fun h => absurd h (by decide)) (fun _ => ?_)
                                                  refine qr_aload_n 246 rfl rfl rfl ?_
                                                  refine qr_get 249 rfl rfl rfl (by decide) rfl ?_
                                                  refine qr_iload 251 rfl rfl rfl ?_
                                                  refine qr_aload_n 252 rfl rfl rfl ?_
                                                  refine qr_get 255 rfl rfl rfl (by decide) rfl ?_
                                                  refine qr_iload 257 rfl rfl rfl ?_
                                                  refine qr_iaload 258 rfl rfl (by omega) (by decide) rfl ?_
                                                  refine qy_v 0 (by subst_vars; rfl) ?_
                                                  refine qr_iastore 259 rfl (by decide) rfl (by omega) (by decide) rfl ?_
                                                  refine qy_wA (qw_r α122 115 (qzu (α122 115) (22 : Int).toNat 0)) rfl (fun α123 e123 => ?_)
                                                  refine qr_aload_n 260 rfl rfl rfl ?_
                                                  refine qr_get 263 rfl rfl rfl (by decide) rfl ?_
                                                  refine qr_iload 265 rfl rfl rfl ?_
                                                  refine qr_aload_n 266 rfl rfl rfl ?_
                                                  refine qr_get 269 rfl rfl rfl (by decide) rfl ?_
                                                  refine qr_iload 271 rfl rfl rfl ?_
                                                  refine qr_iaload 272 rfl rfl (by omega) (by decide) rfl ?_
                                                  refine qy_v 0 (by subst_vars; rfl) ?_
                                                  refine qr_iastore 273 rfl (by decide) rfl (by omega) (by decide) rfl ?_
                                                  refine qy_wA (qw_r α123 116 (qzu (α123 116) (22 : Int).toNat 0)) rfl (fun α124 e124 => ?_)
                                                  refine qr_iinc [(13, .int (qz 23)), (12, .int (qz 99)), (11, .int (qz (-2))), (10, .int (qz 0)), (8, .long (ql (-1))), (6, .long (ql 0)), (4, .long (ql 0)), (0, .ref 86), (1, .long (ql 0)), (3, .int (qz x1))] 276 rfl rfl (by decide) rfl rfl ?_
                                                  refine qr_goto 238 rfl rfl ?_
                                                  refine qr_iload 240 rfl rfl rfl ?_
                                                  refine qr_bipush 242 rfl (by decide) rfl ?_
                                                  refine qr_icmp_ge 279 245 rfl rfl rfl (by decide) (by decide) (fun h => absurd h (by decide)) (fun _ => ?_)
                                                  refine qr_aload_n 246 rfl rfl rfl ?_
                                                  refine qr_get 249 rfl rfl rfl (by decide) rfl ?_
                                                  refine qr_iload 251 rfl rfl rfl ?_
                                                  refine qr_aload_n 252 rfl rfl rfl ?_
                                                  refine qr_get 255 rfl rfl rfl (by decide) rfl ?_
                                                  refine qr_iload 257 rfl rfl rfl ?_
                                                  refine qr_iaload 258 rfl rfl (by omega) (by decide) rfl ?_
                                                  refine qy_v 0 (by subst_vars; rfl) ?_
                                                  as_aux_lemma =>
                                                    refine qr_iastore 259 rfl (by decide) rfl (by omega) (by decide) rfl ?_
                                                    refine qy_wA (qw_r α124 115 (qzu (α124 115) (23 : Int).toNat 0)) rfl (fun α125 e125 => ?_)
                                                    refine qr_aload_n 260 rfl rfl rfl ?_
                                                    refine qr_get 263 rfl rfl rfl (by decide) rfl ?_
                                                    refine qr_iload 265 rfl rfl rfl ?_
                                                    refine qr_aload_n 266 rfl rfl rfl ?_
                                                    refine qr_get 269 rfl rfl rfl (by decide) rfl ?_
                                                    refine qr_iload 271 rfl rfl rfl ?_
                                                    refine qr_iaload 272 rfl rfl (by omega) (by decide) rfl ?_
                                                    refine qy_v 0 (by subst_vars; rfl) ?_
                                                    refine qr_iastore 273 rfl (by decide) rfl (by omega) (by decide) rfl ?_
                                                    refine qy_wA (qw_r α125 116 (qzu (α125 116) (23 : Int).toNat 0)) rfl (fun α126 e126 => ?_)
                                                    refine qr_iinc [(13, .int (qz 24)), (12, .int (qz 99)), (11, .int (qz (-2))), (10, .int (qz 0)), (8, .long (ql (-1))), (6, .long (ql 0)), (4, .long (ql 0)), (0, .ref 86), (1, .long (ql 0)), (3, .int (qz x1))] 276 rfl rfl (by decide) rfl rfl ?_
                                                    refine qr_goto 238 rfl rfl ?_
                                                    refine qr_iload 240 rfl rfl rfl ?_
                                                    refine qr_bipush 242 rfl (by decide) rfl ?_
                                                    refine qr_icmp_ge 279 245 rfl rfl rfl (by decide) (by decide) (fun h => absurd h (by decide)) (fun _ => ?_)
                                                    refine qr_aload_n 246 rfl rfl rfl ?_
                                                    refine qr_get 249 rfl rfl rfl (by decide) rfl ?_
                                                    refine qr_iload 251 rfl rfl rfl ?_
                                                    refine qr_aload_n 252 rfl rfl rfl ?_
                                                    refine qr_get 255 rfl rfl rfl (by decide) rfl ?_
                                                    refine qr_iload 257 rfl rfl rfl ?_
                                                    refine qr_iaload 258 rfl rfl (by omega) (by decide) rfl ?_
                                                    refine qy_v 0 (by subst_vars; rfl) ?_
                                                    refine qr_iastore 259 rfl (by decide) rfl (by omega) (by decide) rfl ?_
                                                    refine qy_wA (qw_r α126 115 (qzu (α126 115) (24 : Int).toNat 0)) rfl (fun α127 e127 => ?_)
                                                    refine qr_aload_n 260 rfl rfl rfl ?_
                                                    refine qr_get 263 rfl rfl rfl (by decide) rfl ?_
                                                    refine qr_iload 265 rfl rfl rfl ?_
                                                    refine qr_aload_n 266 rfl rfl rfl ?_
                                                    refine qr_get 269 rfl rfl rfl (by decide) rfl ?_
                                                    refine qr_iload 271 rfl rfl rfl ?_
                                                    refine qr_iaload 272 rfl rfl (by omega) (by decide) rfl ?_
                                                    refine qy_v 0 (by subst_vars; rfl) ?_
                                                    refine qr_iastore 273 rfl (by decide) rfl (by omega) (by decide) rfl ?_
                                                    refine qy_wA (qw_r α127 116 (qzu (α127 116) (24 : Int).toNat 0)) rfl (fun α128 e128 => ?_)
                                                    refine qr_iinc [(13, .int (qz 25)), (12, .int (qz 99)), (11, .int (qz (-2))), (10, .int (qz 0)), (8, .long (ql (-1))), (6, .long (ql 0)), (4, .long (ql 0)), (0, .ref 86), (1, .long (ql 0)), (3, .int (qz x1))] 276 rfl rfl (by decide) rfl rfl ?_
                                                    refine qr_goto 238 rfl rfl ?_
                                                    refine qr_iload 240 rfl rfl rfl ?_
                                                    refine qr_bipush 242 rfl (by decide) rfl ?_
                                                    refine qr_icmp_ge 279 245 rfl rfl rfl (by decide) (by decide) (fun h => absurd h (by decide)) (fun _ => ?_)
                                                    refine qr_aload_n 246 rfl rfl rfl ?_
                                                    refine qr_get 249 rfl rfl rfl (by decide) rfl ?_
                                                    refine qr_iload 251 rfl rfl rfl ?_
                                                    refine qr_aload_n 252 rfl rfl rfl ?_
                                                    refine qr_get 255 rfl rfl rfl (by decide) rfl ?_
                                                    refine qr_iload 257 rfl rfl rfl ?_
                                                    refine qr_iaload 258 rfl rfl (by omega) (by decide) rfl ?_
                                                    refine qy_v 0 (by subst_vars; rfl) ?_
                                                    refine qr_iastore 259 rfl (by decide) rfl (by omega) (by decide) rfl ?_
                                                    refine qy_wA (qw_r α128 115 (qzu (α128 115) (25 : Int).toNat 0)) rfl (fun α129 e129 => ?_)
                                                    refine qr_aload_n 260 rfl rfl rfl ?_
                                                    refine qr_get 263 rfl rfl rfl (by decide) rfl ?_
                                                    refine qr_iload 265 rfl rfl rfl ?_
                                                    refine qr_aload_n 266 rfl rfl rfl ?_
                                                    refine qr_get 269 rfl rfl rfl (by decide) rfl ?_
                                                    refine qr_iload 271 rfl rfl rfl ?_
                                                    refine qr_iaload 272 rfl rfl (by omega) (by decide) rfl ?_
                                                    refine qy_v 0 (by subst_vars; rfl) ?_
                                                    refine qr_iastore 273 rfl (by decide) rfl (by omega) (by decide) rfl ?_
                                                    refine qy_wA (qw_r α129 116 (qzu (α129 116) (25 : Int).toNat 0)) rfl (fun α130 e130 => ?_)
                                                    refine qr_iinc [(13, .int (qz 26)), (12, .int (qz 99)), (11, .int (qz (-2))), (10, .int (qz 0)), (8, .long (ql (-1))), (6, .long (ql 0)), (4, .long (ql 0)), (0, .ref 86), (1, .long (ql 0)), (3, .int (qz x1))] 276 rfl rfl (by decide) rfl rfl ?_
                                                    refine qr_goto 238 rfl rfl ?_
                                                    refine qr_iload 240 rfl rfl rfl ?_
                                                    refine qr_bipush 242 rfl (by decide) rfl ?_
                                                    refine qr_icmp_ge 279 245 rfl rfl rfl (by decide) (by decide) (fun h => absurd h (by decide)) (fun _ => ?_)
                                                    refine qr_aload_n 246 rfl rfl rfl ?_
                                                    refine qr_get 249 rfl rfl rfl (by decide) rfl ?_
                                                    refine qr_iload 251 rfl rfl rfl ?_
                                                    refine qr_aload_n 252 rfl rfl rfl ?_
                                                    refine qr_get 255 rfl rfl rfl (by decide) rfl ?_
                                                    as_aux_lemma =>
                                                      refine qr_iload 257 rfl rfl rfl ?_
                                                      refine qr_iaload 258 rfl rfl (by omega) (by decide) rfl ?_
                                                      refine qy_v 0 (by subst_vars; rfl) ?_
                                                      refine qr_iastore 259 rfl (by decide) rfl (by omega) (by decide) rfl ?_
                                                      refine qy_wA (qw_r α130 115 (qzu (α130 115) (26 : Int).toNat 0)) rfl (fun α131 e131 => ?_)
                                                      refine qr_aload_n 260 rfl rfl rfl ?_
                                                      refine qr_get 263 rfl rfl rfl (by decide) rfl ?_
                                                      refine qr_iload 265 rfl rfl rfl ?_
                                                      refine qr_aload_n 266 rfl rfl rfl ?_
                                                      refine qr_get 269 rfl rfl rfl (by decide) rfl ?_
                                                      refine qr_iload 271 rfl rfl rfl ?_
                                                      refine qr_iaload 272 rfl rfl (by omega) (by decide) rfl ?_
                                                      refine qy_v 0 (by subst_vars; rfl) ?_
                                                      refine qr_iastore 273 rfl (by decide) rfl (by omega) (by decide) rfl ?_
                                                      refine qy_wA (qw_r α131 116 (qzu (α131 116) (26 : Int).toNat 0)) rfl (fun α132 e132 => ?_)
                                                      refine qr_iinc [(13, .int (qz 27)), (12, .int (qz 99)), (11, .int (qz (-2))), (10, .int (qz 0)), (8, .long (ql (-1))), (6, .long (ql 0)), (4, .long (ql 0)), (0, .ref 86), (1, .long (ql 0)), (3, .int (qz x1))] 276 rfl rfl (by decide) rfl rfl ?_
                                                      refine qr_goto 238 rfl rfl ?_
                                                      refine qr_iload 240 rfl rfl rfl ?_
                                                      refine qr_bipush 242 rfl (by decide) rfl ?_
                                                      refine qr_icmp_ge 279 245 rfl rfl rfl (by decide) (by decide) (fun h => absurd h (by decide)) (fun _ => ?_)
                                                      refine qr_aload_n 246 rfl rfl rfl ?_
                                                      refine qr_get 249 rfl rfl rfl (by decide) rfl ?_
                                                      refine qr_iload 251 rfl rfl rfl ?_
                                                      refine qr_aload_n 252 rfl rfl rfl ?_
                                                      refine qr_get 255 rfl rfl rfl (by decide) rfl ?_
                                                      refine qr_iload 257 rfl rfl rfl ?_
                                                      refine qr_iaload 258 rfl rfl (by omega) (by decide) rfl ?_
                                                      refine qy_v 0 (by subst_vars; rfl) ?_
                                                      refine qr_iastore 259 rfl (by decide) rfl (by omega) (by decide) rfl ?_
                                                      refine qy_wA (qw_r α132 115 (qzu (α132 115) (27 : Int).toNat 0)) rfl (fun α133 e133 => ?_)
                                                      refine qr_aload_n 260 rfl rfl rfl ?_
                                                      refine qr_get 263 rfl rfl rfl (by decide) rfl ?_
                                                      refine qr_iload 265 rfl rfl rfl ?_
                                                      refine qr_aload_n 266 rfl rfl rfl ?_
                                                      refine qr_get 269 rfl rfl rfl (by decide) rfl ?_
                                                      refine qr_iload 271 rfl rfl rfl ?_
                                                      refine qr_iaload 272 rfl rfl (by omega) (by decide) rfl ?_
                                                      refine qy_v 0 (by subst_vars; rfl) ?_
                                                      refine qr_iastore 273 rfl (by decide) rfl (by omega) (by decide) rfl ?_
                                                      refine qy_wA (qw_r α133 116 (qzu (α133 116) (27 : Int).toNat 0)) rfl (fun α134 e134 => ?_)
                                                      refine qr_iinc [(13, .int (qz 28)), (12, .int (qz 99)), (11, .int (qz (-2))), (10, .int (qz 0)), (8, .long (ql (-1))), (6, .long (ql 0)), (4, .long (ql 0)), (0, .ref 86), (1, .long (ql 0)), (3, .int (qz x1))] 276 rfl rfl (by decide) rfl rfl ?_
                                                      refine qr_goto 238 rfl rfl ?_
                                                      refine qr_iload 240 rfl rfl rfl ?_
                                                      refine qr_bipush 242 rfl (by decide) rfl ?_
                                                      refine qr_icmp_ge 279 245 rfl rfl rfl (by decide) (by decide) (fun h => absurd h (by decide)) (fun _ => ?_)
                                                      refine qr_aload_n 246 rfl rfl rfl ?_
                                                      refine qr_get 249 rfl rfl rfl (by decide) rfl ?_
                                                      refine qr_iload 251 rfl rfl rfl ?_
                                                      refine qr_aload_n 252 rfl rfl rfl ?_
                                                      refine qr_get 255 rfl rfl rfl (by decide) rfl ?_
                                                      refine qr_iload 257 rfl rfl rfl ?_
                                                      refine qr_iaload 258 rfl rfl (by omega) (by decide) rfl ?_
                                                      refine qy_v 0 (by subst_vars; rfl) ?_
                                                      refine qr_iastore 259 rfl (by decide) rfl (by omega) (by decide) rfl ?_
                                                      refine qy_wA (qw_r α134 115 (qzu (α134 115) (28 : Int).toNat 0)) rfl (fun α135 e135 => ?_)
                                                      refine qr_aload_n 260 rfl rfl rfl ?_
                                                      refine qr_get 263 rfl rfl rfl (by decide) rfl ?_
                                                      refine qr_iload 265 rfl rfl rfl ?_
                                                      refine qr_aload_n 266 rfl rfl rfl ?_
                                                      refine qr_get 269 rfl rfl rfl (by decide) rfl ?_
                                                      refine qr_iload 271 rfl rfl rfl ?_
                                                      refine qr_iaload 272 rfl rfl (by omega) (by decide) rfl ?_
                                                      refine qy_v 0 (by subst_vars; rfl) ?_
                                                      refine qr_iastore 273 rfl (by decide) rfl (by omega) (by decide) rfl ?_
                                                      refine qy_wA (qw_r α135 116 (qzu (α135 116) (28 : Int).toNat 0)) rfl (fun α136 e136 => ?_)
                                                      refine qr_iinc [(13, .int (qz 29)), (12, .int (qz 99)), (11, .int (qz (-2))), (10, .int (qz 0)), (8, .long (ql (-1))), (6, .long (ql 0)), (4, .long (ql 0)), (0, .ref 86), (1, .long (ql 0)), (3, .int (qz x1))] 276 rfl rfl (by decide) rfl rfl ?_
                                                      refine qr_goto 238 rfl rfl ?_
                                                      refine qr_iload 240 rfl rfl rfl ?_
                                                      refine qr_bipush 242 rfl (by decide) rfl ?_
                                                      refine qr_icmp_ge 279 245 rfl rfl rfl (by decide) (by decide) (fun h => absurd h (by decide)) (fun _ => ?_)
                                                      refine qr_aload_n 246 rfl rfl rfl ?_
                                                      refine qr_get 249 rfl rfl rfl (by decide) rfl ?_
                                                      refine qr_iload 251 rfl rfl rfl ?_
                                                      as_aux_lemma =>
                                                        refine qr_aload_n 252 rfl rfl rfl ?_
                                                        refine qr_get 255 rfl rfl rfl (by decide) rfl ?_
                                                        refine qr_iload 257 rfl rfl rfl ?_
                                                        refine qr_iaload 258 rfl rfl (by omega) (by decide) rfl ?_
                                                        refine qy_v 0 (by subst_vars; rfl) ?_
                                                        refine qr_iastore 259 rfl (by decide) rfl (by omega) (by decide) rfl ?_
                                                        refine qy_wA (qw_r α136 115 (qzu (α136 115) (29 : Int).toNat 0)) rfl (fun α137 e137 => ?_)
                                                        refine qr_aload_n 260 rfl rfl rfl ?_
                                                        refine qr_get 263 rfl rfl rfl (by decide) rfl ?_
                                                        refine qr_iload 265 rfl rfl rfl ?_
                                                        refine qr_aload_n 266 rfl rfl rfl ?_
                                                        refine qr_get 269 rfl rfl rfl (by decide) rfl ?_
                                                        refine qr_iload 271 rfl rfl rfl ?_
                                                        refine qr_iaload 272 rfl rfl (by omega) (by decide) rfl ?_
                                                        refine qy_v 0 (by subst_vars; rfl) ?_
                                                        refine qr_iastore 273 rfl (by decide) rfl (by omega) (by decide) rfl ?_
                                                        refine qy_wA (qw_r α137 116 (qzu (α137 116) (29 : Int).toNat 0)) rfl (fun α138 e138 => ?_)
                                                        refine qr_iinc [(13, .int (qz 30)), (12, .int (qz 99)), (11, .int (qz (-2))), (10, .int (qz 0)), (8, .long (ql (-1))), (6, .long (ql 0)), (4, .long (ql 0)), (0, .ref 86), (1, .long (ql 0)), (3, .int (qz x1))] 276 rfl rfl (by decide) rfl rfl ?_
                                                        refine qr_goto 238 rfl rfl ?_
                                                        refine qr_iload 240 rfl rfl rfl ?_
                                                        refine qr_bipush 242 rfl (by decide) rfl ?_
                                                        refine qr_icmp_ge 279 245 rfl rfl rfl (by decide) (by decide) (fun h => absurd h (by decide)) (fun _ => ?_)
                                                        refine qr_aload_n 246 rfl rfl rfl ?_
                                                        refine qr_get 249 rfl rfl rfl (by decide) rfl ?_
                                                        refine qr_iload 251 rfl rfl rfl ?_
                                                        refine qr_aload_n 252 rfl rfl rfl ?_
                                                        refine qr_get 255 rfl rfl rfl (by decide) rfl ?_
                                                        refine qr_iload 257 rfl rfl rfl ?_
                                                        refine qr_iaload 258 rfl rfl (by omega) (by decide) rfl ?_
                                                        refine qy_v 0 (by subst_vars; rfl) ?_
                                                        refine qr_iastore 259 rfl (by decide) rfl (by omega) (by decide) rfl ?_
                                                        refine qy_wA (qw_r α138 115 (qzu (α138 115) (30 : Int).toNat 0)) rfl (fun α139 e139 => ?_)
                                                        refine qr_aload_n 260 rfl rfl rfl ?_
                                                        refine qr_get 263 rfl rfl rfl (by decide) rfl ?_
                                                        refine qr_iload 265 rfl rfl rfl ?_
                                                        refine qr_aload_n 266 rfl rfl rfl ?_
                                                        refine qr_get 269 rfl rfl rfl (by decide) rfl ?_
                                                        refine qr_iload 271 rfl rfl rfl ?_
                                                        refine qr_iaload 272 rfl rfl (by omega) (by decide) rfl ?_
                                                        refine qy_v 0 (by subst_vars; rfl) ?_
                                                        refine qr_iastore 273 rfl (by decide) rfl (by omega) (by decide) rfl ?_
                                                        refine qy_wA (qw_r α139 116 (qzu (α139 116) (30 : Int).toNat 0)) rfl (fun α140 e140 => ?_)
                                                        refine qr_iinc [(13, .int (qz 31)), (12, .int (qz 99)), (11, .int (qz (-2))), (10, .int (qz 0)), (8, .long (ql (-1))), (6, .long (ql 0)), (4, .long (ql 0)), (0, .ref 86), (1, .long (ql 0)), (3, .int (qz x1))] 276 rfl rfl (by decide) rfl rfl ?_
                                                        refine qr_goto 238 rfl rfl ?_
                                                        refine qr_iload 240 rfl rfl rfl ?_
                                                        refine qr_bipush 242 rfl (by decide) rfl ?_
                                                        refine qr_icmp_ge 279 245 rfl rfl rfl (by decide) (by decide) (fun _ => ?_) (fun h => absurd h (by decide))
                                                        refine qr_iload 281 rfl rfl rfl ?_
                                                        refine qr_retI rfl rfl (by decide) (by decide) ?_
                                                        exact rfl

set_option maxHeartbeats 8000000 in
set_option maxRecDepth 20000 in
/-- custom on the fresh objects: both answer alike -/
theorem sx_custom {L : Nat} {xs : Nat → Int} {vb : Bool} {d : Nat} {s g : Nat → Nat → Int} {x0 : Int} (hok : qo_ok s g) (rx0 : -2147483648 ≤ x0 ∧ x0 ≤ 2147483647) : qm_T (qe L xs vb) (d + 12) 85 [.ref 16, .int (qz x0)] (qw (qo_s s) (qo_r g) qo_k 82) (fun r w => (∃ y : Int, r = some (.int (qz y))) ∧ (∃ σ α κ ρ, w = qw σ α κ ρ) ∧ qm_T (qe L xs vb) (d + 12) 212 [.ref 86, .int (qz x0)] w (fun r' _ => r' = r)) := by
  refine qr_start (d := d + 11) qv_e85 (Nat.le_of_ble_eq_true rfl) ?_
  show qr_W (qe L xs vb) (d + 11) qx_e85 _ (0, [(0, .ref 16), (1, .int (qz x0))], [], _, 0, 0)
  refine qr_iload_n 1 rfl rfl rfl ?_
  refine qr_if_eq 11 4 rfl rfl rfl (by omega) (fun h1 => ?_) (fun h1 => ?_)
  · skip
    subst h1
    refine qr_aload_n 12 rfl rfl rfl ?_
    refine qr_get 15 rfl rfl rfl (by decide) rfl ?_
    refine qr_aload_n 16 rfl rfl rfl ?_
    refine qr_get 19 rfl rfl rfl (by decide) rfl ?_
    refine qr_aload_n 20 rfl rfl rfl ?_
    refine qr_get 23 rfl rfl rfl (by decide) rfl ?_
    refine qy_v 0 rfl ?_
    refine qy_call 26 rfl rfl rfl ?_
    refine qr_start (d := d + 10) qv_e86 (Nat.le_of_ble_eq_true rfl) ?_
    show qr_W (qe L xs vb) (d + 10) qx_e86 _ (0, [(0, .ref 82), (1, .ref 81), (2, .int (qz 0))], [], _, 0, 0)
    refine qr_aload_n 1 rfl rfl rfl ?_
    refine qr_iload_n 2 rfl rfl rfl ?_
    refine qr_aload_n 3 rfl rfl rfl ?_
    refine qr_alen 4 rfl rfl (by first | exact Or.inl (by decide) | exact Or.inr (Or.inl rfl) | exact Or.inr (Or.inr (Or.inl rfl)) | exact Or.inr (Or.inr (Or.inr (Or.inl rfl)))) rfl ?_
    refine qy_v 120 rfl ?_
    refine qy_call 7 rfl rfl rfl ?_
    refine qr_start (d := d + 9) qv_e12 (Nat.le_of_ble_eq_true rfl) ?_
    show qr_W (qe L xs vb) (d + 9) qx_e12 _ (0, [(0, .int (qz 0)), (1, .int (qz 120))], [], _, 0, 0)
    refine qr_iload_n 1 rfl rfl rfl ?_
    refine qr_iload_n 2 rfl rfl rfl ?_
    refine qr_icmp_gt 9 5 rfl rfl rfl (by decide) (by decide) (fun h => absurd h (by decide)) (fun _ => ?_)
    refine qr_iload_n 6 rfl rfl rfl ?_
    refine qr_goto 10 rfl rfl ?_
    refine qr_retI rfl rfl (by decide) (by decide) ?_
    show qr_W (qe L xs vb) (d + 10) qx_e86 _ (7, [(0, .ref 82), (1, .ref 81), (2, .int (qz 0))], [.int (qz 0), .ref 82], _, 0, 0)
    refine qr_aload_n 8 rfl rfl rfl ?_
    refine qr_get 11 rfl rfl rfl (by decide) rfl ?_
    refine qr_alen 12 rfl rfl (by first | exact Or.inl (by decide) | exact Or.inr (Or.inl rfl) | exact Or.inr (Or.inr (Or.inl rfl)) | exact Or.inr (Or.inr (Or.inr (Or.inl rfl)))) rfl ?_
    refine qy_v 120 rfl ?_
    refine qy_call 15 rfl rfl rfl ?_
    refine qr_start (d := d + 9) qv_e12 (Nat.le_of_ble_eq_true rfl) ?_
    show qr_W (qe L xs vb) (d + 9) qx_e12 _ (0, [(0, .int (qz 0)), (1, .int (qz 120))], [], _, 0, 0)
    refine qr_iload_n 1 rfl rfl rfl ?_
    refine qr_iload_n 2 rfl rfl rfl ?_
    refine qr_icmp_gt 9 5 rfl rfl rfl (by decide) (by decide) (fun h => absurd h (by decide)) (fun _ => ?_)
    refine qr_iload_n 6 rfl rfl rfl ?_
    refine qr_goto 10 rfl rfl ?_
    refine qr_retI rfl rfl (by decide) (by decide) ?_
    show qr_W (qe L xs vb) (d + 10) qx_e86 _ (15, [(0, .ref 82), (1, .ref 81), (2, .int (qz 0))], [.int (qz 0), .ref 82], _, 0, 0)
    refine qr_put 18 rfl (by decide) rfl (Nat.le_of_ble_eq_true rfl) (Nat.le_of_ble_eq_true rfl) (Or.inl rfl) (qr_fitI rfl _) rfl ?_
    refine qy_wS (qw_s (qo_s s) 82 3 0) rfl (fun σ2 e2 => ?_)
    refine qr_aload_n 19 rfl rfl rfl ?_
    refine qr_iconst 20 rfl rfl ?_
    refine qr_aload_n 21 rfl rfl rfl ?_
    refine qr_get 24 rfl rfl rfl (by decide) rfl ?_
    refine qr_iconst 25 rfl rfl ?_
    refine qr_aload_n 26 rfl rfl rfl ?_
    refine qr_get 29 rfl rfl rfl (by decide) rfl ?_
    refine qy_v 0 (by subst_vars; rfl) ?_
    refine qy_copy0 32 rfl (by decide) (by decide) rfl rfl (by decide) (by decide) (by decide) (by decide) rfl ?_
    refine qr_aload_n 33 rfl rfl rfl ?_
    refine qy_call 36 rfl rfl rfl ?_
    refine qr_start (d := d + 9) qv_e18 (Nat.le_of_ble_eq_true rfl) ?_
    show qr_W (qe L xs vb) (d + 9) qx_e18 _ (0, [(0, .ref 82)], [], _, 0, 0)
    refine qr_aload_n 1 rfl rfl rfl ?_
    refine qr_iconst 2 rfl rfl ?_
    refine qr_put 5 rfl (by decide) rfl (Nat.le_of_ble_eq_true rfl) (Nat.le_of_ble_eq_true rfl) (Or.inl rfl) (qr_fitI rfl _) rfl ?_
    refine qy_wS (qw_s σ2 82 4 0) rfl (fun σ3 e3 => ?_)
    refine qr_aload_n 6 rfl rfl rfl ?_
    refine qr_iconst 7 rfl rfl ?_
    refine qr_put 10 rfl (by decide) rfl (Nat.le_of_ble_eq_true rfl) (Nat.le_of_ble_eq_true rfl) (Or.inl rfl) (qr_fitI rfl _) rfl ?_
    refine qy_wS (qw_s σ3 82 5 0) rfl (fun σ4 e4 => ?_)
    refine qr_aload_n 11 rfl rfl rfl ?_
    refine qr_iconst 12 rfl rfl ?_
    refine qr_put 15 rfl (by decide) rfl (Nat.le_of_ble_eq_true rfl) (Nat.le_of_ble_eq_true rfl) (Or.inl rfl) (qr_fitI rfl _) rfl ?_
    refine qy_wS (qw_s σ4 82 6 0) rfl (fun σ5 e5 => ?_)
    refine qr_aload_n 16 rfl rfl rfl ?_
    refine qr_iconst 17 rfl rfl ?_
    refine qr_put 20 rfl (by decide) rfl (Nat.le_of_ble_eq_true rfl) (Nat.le_of_ble_eq_true rfl) (Or.inl rfl) (qr_fitZ rfl (by omega)) rfl ?_
    refine qy_wS (qw_s σ5 82 7 0) rfl (fun σ6 e6 => ?_)
    refine qr_iconst 21 rfl rfl ?_
    refine qr_istore_n [(1, .int (qz 0)), (0, .ref 82)] 22 rfl (by decide) rfl rfl ?_
    refine qr_iload_n 23 rfl rfl rfl ?_
    refine qr_bipush 25 rfl (by decide) rfl ?_
    refine qr_icmp_gt 72 28 rfl rfl rfl (by decide) (by decide) (fun h => absurd h (by decide)) (fun _ => ?_)
    refine qr_aload_n 29 rfl rfl rfl ?_
    refine qr_get 32 rfl rfl rfl (by decide) rfl ?_
    refine qy_v 0 (by subst_vars; rfl) ?_
    as_aux_lemma =>
      refine qr_if_ne 72 35 rfl rfl rfl (by decide) (fun h => absurd h (by decide)) (fun _ => ?_)
      refine qr_aload_n 36 rfl rfl rfl ?_
      refine qy_call 39 rfl rfl rfl ?_
      refine qr_start (d := d + 8) qv_e19 (Nat.le_of_ble_eq_true rfl) ?_
      show qr_W (qe L xs vb) (d + 8) qx_e19 _ (0, [(0, .ref 82)], [], _, 0, 0)
      refine qr_aload_n 1 rfl rfl rfl ?_
      refine qr_iconst 2 rfl rfl ?_
      refine qr_iconst 3 rfl rfl ?_
      refine qy_call 6 rfl rfl rfl ?_
      refine qr_start (d := d + 7) qv_e20 (Nat.le_of_ble_eq_true rfl) ?_
      show qr_W (qe L xs vb) (d + 7) qx_e20 _ (0, [(0, .ref 82), (1, .int (qz 0)), (2, .int (qz 0))], [], _, 0, 0)
      refine qr_iload_n 1 rfl rfl rfl ?_
      refine qr_iconst 2 rfl rfl ?_
      refine qr_icmp_lt 11 5 rfl rfl rfl (by decide) (by decide) (fun _ => ?_) (fun h => absurd h (by decide))
      refine qr_aload_n 12 rfl rfl rfl ?_
      refine qr_iload_n 13 rfl rfl rfl ?_
      refine qr_iconst 14 rfl rfl ?_
      refine qr_iadd 15 rfl rfl ?_
      refine qy_v 1 rfl ?_
      refine qr_iload_n 16 rfl rfl rfl ?_
      refine qy_call 19 rfl rfl rfl ?_
      refine qr_start (d := d + 6) qv_e20 (Nat.le_of_ble_eq_true rfl) ?_
      show qr_W (qe L xs vb) (d + 6) qx_e20 _ (0, [(0, .ref 82), (1, .int (qz 1)), (2, .int (qz 0))], [], _, 0, 0)
      refine qr_iload_n 1 rfl rfl rfl ?_
      refine qr_iconst 2 rfl rfl ?_
      refine qr_icmp_lt 11 5 rfl rfl rfl (by decide) (by decide) (fun _ => ?_) (fun h => absurd h (by decide))
      refine qr_aload_n 12 rfl rfl rfl ?_
      refine qr_iload_n 13 rfl rfl rfl ?_
      refine qr_iconst 14 rfl rfl ?_
      refine qr_iadd 15 rfl rfl ?_
      refine qy_v 2 rfl ?_
      refine qr_iload_n 16 rfl rfl rfl ?_
      refine qy_call 19 rfl rfl rfl ?_
      refine qr_start (d := d + 5) qv_e20 (Nat.le_of_ble_eq_true rfl) ?_
      show qr_W (qe L xs vb) (d + 5) qx_e20 _ (0, [(0, .ref 82), (1, .int (qz 2)), (2, .int (qz 0))], [], _, 0, 0)
      refine qr_iload_n 1 rfl rfl rfl ?_
      refine qr_iconst 2 rfl rfl ?_
      refine qr_icmp_lt 11 5 rfl rfl rfl (by decide) (by decide) (fun _ => ?_) (fun h => absurd h (by decide))
      refine qr_aload_n 12 rfl rfl rfl ?_
      refine qr_iload_n 13 rfl rfl rfl ?_
      refine qr_iconst 14 rfl rfl ?_
      refine qr_iadd 15 rfl rfl ?_
      refine qy_v 3 rfl ?_
      refine qr_iload_n 16 rfl rfl rfl ?_
      refine qy_call 19 rfl rfl rfl ?_
      refine qr_start (d := d + 4) qv_e20 (Nat.le_of_ble_eq_true rfl) ?_
      show qr_W (qe L xs vb) (d + 4) qx_e20 _ (0, [(0, .ref 82), (1, .int (qz 3)), (2, .int (qz 0))], [], _, 0, 0)
      refine qr_iload_n 1 rfl rfl rfl ?_
      refine qr_iconst 2 rfl rfl ?_
      refine qr_icmp_lt 11 5 rfl rfl rfl (by decide) (by decide) (fun _ => ?_) (fun h => absurd h (by decide))
      refine qr_aload_n 12 rfl rfl rfl ?_
      refine qr_iload_n 13 rfl rfl rfl ?_
      refine qr_iconst 14 rfl rfl ?_
      refine qr_iadd 15 rfl rfl ?_
      refine qy_v 4 rfl ?_
      refine qr_iload_n 16 rfl rfl rfl ?_
      refine qy_call 19 rfl rfl rfl ?_
      refine qr_start (d := d + 3) qv_e20 (Nat.le_of_ble_eq_true rfl) ?_
      show qr_W (qe L xs vb) (d + 3) qx_e20 _ (0, [(0, .ref 82), (1, .int (qz 4)), (2, .int (qz 0))], [], _, 0, 0)
      refine qr_iload_n 1 rfl rfl rfl ?_
      refine qr_iconst 2 rfl rfl ?_
      refine qr_icmp_lt 11 5 rfl rfl rfl (by decide) (by decide) (fun _ => ?_) (fun h => absurd h (by decide))
      refine qr_aload_n 12 rfl rfl rfl ?_
      refine qr_iload_n 13 rfl rfl rfl ?_
      refine qr_iconst 14 rfl rfl ?_
      refine qr_iadd 15 rfl rfl ?_
      refine qy_v 5 rfl ?_
      refine qr_iload_n 16 rfl rfl rfl ?_
      refine qy_call 19 rfl rfl rfl ?_
      refine qr_start (d := d + 2) qv_e20 (Nat.le_of_ble_eq_true rfl) ?_
      show qr_W (qe L xs vb) (d + 2) qx_e20 _ (0, [(0, .ref 82), (1, .int (qz 5)), (2, .int (qz 0))], [], _, 0, 0)
      refine qr_iload_n 1 rfl rfl rfl ?_
      refine qr_iconst 2 rfl rfl ?_
      refine qr_icmp_lt 11 5 rfl rfl rfl (by decide) (by decide) (fun h => absurd h (by decide)) (fun _ => ?_)
      refine qr_aload_n 6 rfl rfl rfl ?_
      refine qr_iload_n 7 rfl rfl rfl ?_
      refine qy_call 10 rfl rfl rfl ?_
      refine qr_start (d := d + 1) qv_e21 (Nat.le_of_ble_eq_true rfl) ?_
      show qr_W (qe L xs vb) (d + 1) qx_e21 _ (0, [(0, .ref 82), (1, .int (qz 0))], [], _, 0, 0)
      refine qr_aload_n 1 rfl rfl rfl ?_
      refine qy_call 4 rfl rfl rfl ?_
      refine qr_start (d := d + 0) qv_e22 (Nat.le_of_ble_eq_true rfl) ?_
      show qr_W (qe L xs vb) (d + 0) qx_e22 _ (0, [(0, .ref 82)], [], _, 0, 0)
      refine qr_aload_n 1 rfl rfl rfl ?_
      as_aux_lemma =>
        refine qr_get 4 rfl rfl rfl (by decide) rfl ?_
        refine qy_v 0 (by subst_vars; rfl) ?_
        refine qr_aload_n 5 rfl rfl rfl ?_
        refine qr_get 8 rfl rfl rfl (by decide) rfl ?_
        refine qy_v 0 (by subst_vars; rfl) ?_
        refine qr_icmp_ge 23 11 rfl rfl rfl (by decide) (by decide) (fun _ => ?_) (fun h => absurd h (by decide))
        refine qr_iconst 24 rfl rfl ?_
        refine qr_retI rfl rfl (by decide) (by decide) ?_
        show qr_W (qe L xs vb) (d + 1) qx_e21 _ (4, [(0, .ref 82), (1, .int (qz 0))], [.int (qz (-1))], _, 0, 0)
        refine qr_istore_n [(2, .int (qz (-1))), (0, .ref 82), (1, .int (qz 0))] 5 rfl (by decide) rfl rfl ?_
        refine qr_aload_n 6 rfl rfl rfl ?_
        refine qr_get 9 rfl rfl rfl (by decide) rfl ?_
        refine qy_v 0 (by subst_vars; rfl) ?_
        refine qr_if_eq 13 12 rfl rfl rfl (by decide) (fun _ => ?_) (fun h => absurd h (by decide))
        refine qr_iload_n 14 rfl rfl rfl ?_
        refine qy_call 17 rfl rfl rfl ?_
        refine qr_start (d := d + 0) qv_e23 (Nat.le_of_ble_eq_true rfl) ?_
        show qr_W (qe L xs vb) (d + 0) qx_e23 _ (0, [(0, .int (qz (-1)))], [], _, 0, 0)
        refine qr_iload_n 1 rfl rfl rfl ?_
        refine qr_bipush 3 rfl (by decide) rfl ?_
        refine qr_icmp_lt 16 6 rfl rfl rfl (by decide) (by decide) (fun _ => ?_) (fun h => absurd h (by decide))
        refine qr_iconst 17 rfl rfl ?_
        refine qr_retZ rfl rfl (by omega) (by decide) (by decide) ?_
        show qr_W (qe L xs vb) (d + 1) qx_e21 _ (17, [(2, .int (qz (-1))), (0, .ref 82), (1, .int (qz 0))], [.int (qz 0)], _, 0, 0)
        refine qr_if_eq 27 20 rfl rfl rfl (by decide) (fun _ => ?_) (fun h => absurd h (by decide))
        refine qr_iload_n 28 rfl rfl rfl ?_
        refine qr_if_lt 82 31 rfl rfl rfl (by decide) (fun _ => ?_) (fun h => absurd h (by decide))
        refine qr_iload_n 83 rfl rfl rfl ?_
        refine qr_bipush 85 rfl (by decide) rfl ?_
        refine qr_icmp_ge 121 88 rfl rfl rfl (by decide) (by decide) (fun h => absurd h (by decide)) (fun _ => ?_)
        refine qr_iload_n 89 rfl rfl rfl ?_
        refine qr_bipush 91 rfl (by decide) rfl ?_
        refine qr_icmp_ne 121 94 rfl rfl rfl (by decide) (by decide) (fun _ => ?_) (fun h => absurd h (by decide))
        refine qr_iload_n 122 rfl rfl rfl ?_
        refine qr_bipush 124 rfl (by decide) rfl ?_
        refine qr_icmp_ge 178 127 rfl rfl rfl (by decide) (by decide) (fun h => absurd h (by decide)) (fun _ => ?_)
        refine qr_iload_n 128 rfl rfl rfl ?_
        refine qr_bipush 130 rfl (by decide) rfl ?_
        refine qr_icmp_eq 139 133 rfl rfl rfl (by decide) (by decide) (fun h => absurd h (by decide)) (fun _ => ?_)
        refine qr_iload_n 134 rfl rfl rfl ?_
        refine qr_bipush 136 rfl (by decide) rfl ?_
        refine qr_icmp_ne 178 139 rfl rfl rfl (by decide) (by decide) (fun _ => ?_) (fun h => absurd h (by decide))
        refine qr_aload_n 179 rfl rfl rfl ?_
        refine qr_iconst 180 rfl rfl ?_
        refine qr_put 183 rfl (by decide) rfl (Nat.le_of_ble_eq_true rfl) (Nat.le_of_ble_eq_true rfl) (Or.inl rfl) (qr_fitZ rfl (by omega)) rfl ?_
        refine qy_wS (qw_s σ6 82 7 1) rfl (fun σ7 e7 => ?_)
        refine qr_retV rfl rfl (by decide) (by decide) ?_
        show qr_W (qe L xs vb) (d + 2) qx_e20 _ (10, [(0, .ref 82), (1, .int (qz 5)), (2, .int (qz 0))], [], _, 0, 0)
        refine qr_retV rfl rfl (by decide) (by decide) ?_
        show qr_W (qe L xs vb) (d + 3) qx_e20 _ (19, [(0, .ref 82), (1, .int (qz 4)), (2, .int (qz 0))], [], _, 0, 0)
        refine qr_iconst 20 rfl rfl ?_
        refine qr_istore_n [(3, .int (qz 0)), (0, .ref 82), (1, .int (qz 4)), (2, .int (qz 0))] 21 rfl (by decide) rfl rfl ?_
        refine qr_iload_n 22 rfl rfl rfl ?_
        refine qr_bipush 24 rfl (by decide) rfl ?_
        refine qr_icmp_ge 91 27 rfl rfl rfl (by decide) (by decide) (fun h => absurd h (by decide)) (fun _ => ?_)
        refine qr_aload_n 28 rfl rfl rfl ?_
        refine qr_get 31 rfl rfl rfl (by decide) rfl ?_
        refine qy_v 1 (by subst_vars; rfl) ?_
        refine qr_if_ne 91 34 rfl rfl rfl (by decide) (fun _ => ?_) (fun h => absurd h (by decide))
        refine qr_retV rfl rfl (by decide) (by decide) ?_
        show qr_W (qe L xs vb) (d + 4) qx_e20 _ (19, [(0, .ref 82), (1, .int (qz 3)), (2, .int (qz 0))], [], _, 0, 0)
        refine qr_iconst 20 rfl rfl ?_
        refine qr_istore_n [(3, .int (qz 0)), (0, .ref 82), (1, .int (qz 3)), (2, .int (qz 0))] 21 rfl (by decide) rfl rfl ?_
        refine qr_iload_n 22 rfl rfl rfl ?_
        refine qr_bipush 24 rfl (by decide) rfl ?_
        refine qr_icmp_ge 91 27 rfl rfl rfl (by decide) (by decide) (fun h => absurd h (by decide)) (fun _ => ?_)
        refine qr_aload_n 28 rfl rfl rfl ?_
        refine qr_get 31 rfl rfl rfl (by decide) rfl ?_
        refine qy_v 1 (by subst_vars; rfl) ?_
        refine qr_if_ne 91 34 rfl rfl rfl (by decide) (fun _ => ?_) (fun h => absurd h (by decide))
        refine qr_retV rfl rfl (by decide) (by decide) ?_
        show qr_W (qe L xs vb) (d + 5) qx_e20 _ (19, [(0, .ref 82), (1, .int (qz 2)), (2, .int (qz 0))], [], _, 0, 0)
        refine qr_iconst 20 rfl rfl ?_
        refine qr_istore_n [(3, .int (qz 0)), (0, .ref 82), (1, .int (qz 2)), (2, .int (qz 0))] 21 rfl (by decide) rfl rfl ?_
        refine qr_iload_n 22 rfl rfl rfl ?_
        as_aux_lemma =>
          refine qr_bipush 24 rfl (by decide) rfl ?_
          refine qr_icmp_ge 91 27 rfl rfl rfl (by decide) (by decide) (fun h => absurd h (by decide)) (fun _ => ?_)
          refine qr_aload_n 28 rfl rfl rfl ?_
          refine qr_get 31 rfl rfl rfl (by decide) rfl ?_
          refine qy_v 1 (by subst_vars; rfl) ?_
          refine qr_if_ne 91 34 rfl rfl rfl (by decide) (fun _ => ?_) (fun h => absurd h (by decide))
          refine qr_retV rfl rfl (by decide) (by decide) ?_
          show qr_W (qe L xs vb) (d + 6) qx_e20 _ (19, [(0, .ref 82), (1, .int (qz 1)), (2, .int (qz 0))], [], _, 0, 0)
          refine qr_iconst 20 rfl rfl ?_
          refine qr_istore_n [(3, .int (qz 0)), (0, .ref 82), (1, .int (qz 1)), (2, .int (qz 0))] 21 rfl (by decide) rfl rfl ?_
          refine qr_iload_n 22 rfl rfl rfl ?_
          refine qr_bipush 24 rfl (by decide) rfl ?_
          refine qr_icmp_ge 91 27 rfl rfl rfl (by decide) (by decide) (fun h => absurd h (by decide)) (fun _ => ?_)
          refine qr_aload_n 28 rfl rfl rfl ?_
          refine qr_get 31 rfl rfl rfl (by decide) rfl ?_
          refine qy_v 1 (by subst_vars; rfl) ?_
          refine qr_if_ne 91 34 rfl rfl rfl (by decide) (fun _ => ?_) (fun h => absurd h (by decide))
          refine qr_retV rfl rfl (by decide) (by decide) ?_
          show qr_W (qe L xs vb) (d + 7) qx_e20 _ (19, [(0, .ref 82), (1, .int (qz 0)), (2, .int (qz 0))], [], _, 0, 0)
          refine qr_iconst 20 rfl rfl ?_
          refine qr_istore_n [(3, .int (qz 0)), (0, .ref 82), (1, .int (qz 0)), (2, .int (qz 0))] 21 rfl (by decide) rfl rfl ?_
          refine qr_iload_n 22 rfl rfl rfl ?_
          refine qr_bipush 24 rfl (by decide) rfl ?_
          refine qr_icmp_ge 91 27 rfl rfl rfl (by decide) (by decide) (fun h => absurd h (by decide)) (fun _ => ?_)
          refine qr_aload_n 28 rfl rfl rfl ?_
          refine qr_get 31 rfl rfl rfl (by decide) rfl ?_
          refine qy_v 1 (by subst_vars; rfl) ?_
          refine qr_if_ne 91 34 rfl rfl rfl (by decide) (fun _ => ?_) (fun h => absurd h (by decide))
          refine qr_retV rfl rfl (by decide) (by decide) ?_
          show qr_W (qe L xs vb) (d + 8) qx_e19 _ (6, [(0, .ref 82)], [], _, 0, 0)
          refine qr_aload_n 7 rfl rfl rfl ?_
          refine qr_get 10 rfl rfl rfl (by decide) rfl ?_
          refine qy_v 1 (by subst_vars; rfl) ?_
          refine qr_if_ne 22 13 rfl rfl rfl (by decide) (fun _ => ?_) (fun h => absurd h (by decide))
          refine qr_aload_n 23 rfl rfl rfl ?_
          refine qr_bipush 25 rfl (by decide) rfl ?_
          refine qr_iconst 26 rfl rfl ?_
          refine qy_call 29 rfl rfl rfl ?_
          refine qr_start (d := d + 7) qv_e25 (Nat.le_of_ble_eq_true rfl) ?_
          show qr_W (qe L xs vb) (d + 7) qx_e25 _ (0, [(0, .ref 82), (1, .int (qz 59)), (2, .int (qz 0))], [], _, 0, 0)
          refine qr_aload_n 1 rfl rfl rfl ?_
          refine qr_get 4 rfl rfl rfl (by decide) rfl ?_
          refine qy_v 0 (by subst_vars; rfl) ?_
          refine qr_aload_n 5 rfl rfl rfl ?_
          refine qr_get 8 rfl rfl rfl (by decide) rfl ?_
          refine qr_alen 9 rfl rfl (by first | exact Or.inl (by decide) | exact Or.inr (Or.inl rfl) | exact Or.inr (Or.inr (Or.inl rfl)) | exact Or.inr (Or.inr (Or.inr (Or.inl rfl)))) rfl ?_
          refine qy_v 122 rfl ?_
          refine qr_icmp_lt 14 12 rfl rfl rfl (by decide) (by decide) (fun _ => ?_) (fun h => absurd h (by decide))
          refine qr_aload_n 15 rfl rfl rfl ?_
          refine qr_get 18 rfl rfl rfl (by decide) rfl ?_
          refine qr_aload_n 19 rfl rfl rfl ?_
          refine qr_get 22 rfl rfl rfl (by decide) rfl ?_
          refine qy_v 0 (by subst_vars; rfl) ?_
          refine qr_iload_n 23 rfl rfl rfl ?_
          refine qr_bipush 25 rfl (by decide) rfl ?_
          refine qr_ishl 26 rfl rfl ?_
          refine qy_v 3866624 rfl ?_
          refine qr_iload_n 27 rfl rfl rfl ?_
          refine qr_ior 28 rfl rfl ?_
          refine qy_v 3866624 rfl ?_
          refine qr_iastore 29 rfl (by decide) rfl (by omega) (by decide) rfl ?_
          refine qy_wA (qw_r (qo_r g) 84 (qzu ((qo_r g) 84) (0 : Int).toNat 3866624)) rfl (fun α8 e8 => ?_)
          refine qr_aload_n 30 rfl rfl rfl ?_
          refine qr_dup 31 rfl rfl rfl ?_
          refine qr_get 34 rfl rfl rfl (by decide) rfl ?_
          refine qy_v 0 (by subst_vars; rfl) ?_
          refine qr_dup_x1 35 rfl rfl rfl rfl ?_
          refine qr_iconst 36 rfl rfl ?_
          refine qr_iadd 37 rfl rfl ?_
          refine qy_v 1 rfl ?_
          refine qr_put 40 rfl (by decide) rfl (Nat.le_of_ble_eq_true rfl) (Nat.le_of_ble_eq_true rfl) (Or.inl rfl) (qr_fitI rfl _) rfl ?_
          refine qy_wS (qw_s σ7 82 5 1) rfl (fun σ9 e9 => ?_)
          refine qr_retI rfl rfl (by decide) (by decide) ?_
          show qr_W (qe L xs vb) (d + 8) qx_e19 _ (29, [(0, .ref 82)], [.int (qz 0)], _, 0, 0)
          refine qr_pop 30 rfl rfl rfl ?_
          refine qr_retV rfl rfl (by decide) (by decide) ?_
          show qr_W (qe L xs vb) (d + 9) qx_e18 _ (39, [(1, .int (qz 0)), (0, .ref 82)], [], _, 0, 0)
          refine qr_aload_n 40 rfl rfl rfl ?_
          refine qr_get 43 rfl rfl rfl (by decide) rfl ?_
          refine qy_v 1 (by subst_vars; rfl) ?_
          refine qr_if_ne 72 46 rfl rfl rfl (by decide) (fun _ => ?_) (fun h => absurd h (by decide))
          refine qr_aload_n 73 rfl rfl rfl ?_
          as_aux_lemma =>
            refine qr_get 76 rfl rfl rfl (by decide) rfl ?_
            refine qy_v 1 (by subst_vars; rfl) ?_
            refine qr_if_eq 86 79 rfl rfl rfl (by decide) (fun h => absurd h (by decide)) (fun _ => ?_)
            refine qr_aload_n 80 rfl rfl rfl ?_
            refine qr_get 83 rfl rfl rfl (by decide) rfl ?_
            refine qy_v 0 (by subst_vars; rfl) ?_
            refine qr_goto 87 rfl rfl ?_
            refine qr_retI rfl rfl (by decide) (by decide) ?_
            show qr_W (qe L xs vb) (d + 10) qx_e86 _ (36, [(0, .ref 82), (1, .ref 81), (2, .int (qz 0))], [.int (qz 0)], _, 0, 0)
            refine qr_retI rfl rfl (by decide) (by decide) ?_
            show qr_W (qe L xs vb) (d + 11) qx_e85 _ (26, [(0, .ref 16), (1, .int (qz 0))], [.int (qz 0)], _, 0, 0)
            refine qr_istore_n [(2, .int (qz 0)), (0, .ref 16), (1, .int (qz 0))] 27 rfl (by decide) rfl rfl ?_
            refine qr_aload_n 28 rfl rfl rfl ?_
            refine qr_iconst 29 rfl rfl ?_
            refine qr_put 32 rfl (by decide) rfl (Nat.le_of_ble_eq_true rfl) (Nat.le_of_ble_eq_true rfl) (Or.inl rfl) (qr_fitI rfl _) rfl ?_
            refine qy_wS (qw_s σ9 16 15 0) rfl (fun σ10 e10 => ?_)
            refine qr_iload_n 33 rfl rfl rfl ?_
            refine qr_if_lt 41 36 rfl rfl rfl (by decide) (fun h => absurd h (by decide)) (fun _ => ?_)
            refine qr_bipush 38 rfl (by decide) rfl ?_
            refine qr_iload_n 39 rfl rfl rfl ?_
            refine qr_isub 40 rfl rfl ?_
            refine qy_v (-100) rfl ?_
            refine qr_retI rfl rfl (by decide) (by decide) ?_
            refine ⟨⟨_, rfl⟩, ⟨_, _, _, _, rfl⟩, ?_⟩
            refine qr_start (d := d + 11) qv_e212 (Nat.le_of_ble_eq_true rfl) ?_
            show qr_W (qe L xs vb) (d + 11) qx_e212 _ (0, [(0, .ref 86), (1, .int (qz 0))], [], _, 0, 0)
            refine qr_iload_n 1 rfl rfl rfl ?_
            refine qr_i2l 2 rfl (by omega) rfl ?_
            refine qy_vl 0 rfl ?_
            refine qr_lconst 3 rfl rfl ?_
            refine qy_vl 0 rfl ?_
            refine qr_lconst 4 rfl rfl ?_
            refine qy_vl 1 rfl ?_
            refine qy_call 7 rfl rfl rfl ?_
            refine qr_start (d := d + 10) qv_e176 (Nat.le_of_ble_eq_true rfl) ?_
            show qr_W (qe L xs vb) (d + 10) qx_e176 _ (0, [(0, .long (ql 0)), (2, .long (ql 0)), (4, .long (ql 1))], [], _, 0, 0)
            refine qr_lload_n 1 rfl rfl rfl ?_
            refine qr_lload_n 2 rfl rfl rfl ?_
            refine qr_lc_lt 17 6 rfl rfl rfl rfl (by decide) (by decide) (fun h => absurd h (by decide)) (fun _ => ?_)
            refine qr_lload_n 7 rfl rfl rfl ?_
            refine qr_lload 9 rfl rfl rfl ?_
            refine qr_lc_gt 17 13 rfl rfl rfl rfl (by decide) (by decide) (fun h => absurd h (by decide)) (fun _ => ?_)
            refine qr_iconst 14 rfl rfl ?_
            refine qr_goto 18 rfl rfl ?_
            refine qr_retZ rfl rfl (by omega) (by decide) (by decide) ?_
            show qr_W (qe L xs vb) (d + 11) qx_e212 _ (7, [(0, .ref 86), (1, .int (qz 0))], [.int (qz 1)], _, 0, 0)
            refine qr_if_ne 12 10 rfl rfl rfl (by decide) (fun _ => ?_) (fun h => absurd h (by decide))
            refine qr_aload_n 13 rfl rfl rfl ?_
            refine qr_iconst 14 rfl rfl ?_
            refine qr_aload_n 15 rfl rfl rfl ?_
            refine qr_get 18 rfl rfl rfl (by decide) rfl ?_
            refine qy_v 0 (by subst_vars; rfl) ?_
            refine qy_call 21 rfl rfl rfl ?_
            refine qr_start (d := d + 10) qv_e213 (Nat.le_of_ble_eq_true rfl) ?_
            show qr_W (qe L xs vb) (d + 10) qx_e213 _ (0, [(0, .ref 86), (1, .int (qz (-1))), (2, .int (qz 0))], [], _, 0, 0)
            refine qr_aload_n 1 rfl rfl rfl ?_
            refine qr_iload_n 2 rfl rfl rfl ?_
            refine qr_put 5 rfl (by decide) rfl (Nat.le_of_ble_eq_true rfl) (Nat.le_of_ble_eq_true rfl) (Or.inl rfl) (qr_fitI rfl _) rfl ?_
            refine qy_wS (qw_s σ10 86 35 (-1)) rfl (fun σ11 e11 => ?_)
            refine qr_aload_n 6 rfl rfl rfl ?_
            refine qr_iconst 7 rfl rfl ?_
            refine qr_put 10 rfl (by decide) rfl (Nat.le_of_ble_eq_true rfl) (Nat.le_of_ble_eq_true rfl) (Or.inl rfl) (qr_fitI rfl _) rfl ?_
            refine qy_wS (qw_s σ11 86 36 0) rfl (fun σ12 e12 => ?_)
            refine qr_aload_n 11 rfl rfl rfl ?_
            refine qr_iload_n 12 rfl rfl rfl ?_
            refine qr_put 15 rfl (by decide) rfl (Nat.le_of_ble_eq_true rfl) (Nat.le_of_ble_eq_true rfl) (Or.inl rfl) (qr_fitI rfl _) rfl ?_
            refine qy_wS (qw_s σ12 86 37 0) rfl (fun σ13 e13 => ?_)
            refine qr_aload_n 16 rfl rfl rfl ?_
            refine qr_iconst 17 rfl rfl ?_
            refine qr_put 20 rfl (by decide) rfl (Nat.le_of_ble_eq_true rfl) (Nat.le_of_ble_eq_true rfl) (Or.inl rfl) (qr_fitI rfl _) rfl ?_
            refine qy_wS (qw_s σ13 86 38 (-1)) rfl (fun σ14 e14 => ?_)
            refine qr_aload_n 21 rfl rfl rfl ?_
            refine qr_iconst 22 rfl rfl ?_
            refine qr_put 25 rfl (by decide) rfl (Nat.le_of_ble_eq_true rfl) (Nat.le_of_ble_eq_true rfl) (Or.inl rfl) (qr_fitI rfl _) rfl ?_
            refine qy_wS (qw_s σ14 86 39 0) rfl (fun σ15 e15 => ?_)
            refine qr_iconst 26 rfl rfl ?_
            refine qr_istore_n [(3, .int (qz 0)), (0, .ref 86), (1, .int (qz (-1))), (2, .int (qz 0))] 27 rfl (by decide) rfl rfl ?_
            refine qr_iconst 28 rfl rfl ?_
            refine qr_istore [(4, .int (qz 0)), (3, .int (qz 0)), (0, .ref 86), (1, .int (qz (-1))), (2, .int (qz 0))] 30 rfl (by decide) rfl rfl ?_
            refine qr_iconst 31 rfl rfl ?_
            refine qr_istore [(5, .int (qz 1)), (4, .int (qz 0)), (3, .int (qz 0)), (0, .ref 86), (1, .int (qz (-1))), (2, .int (qz 0))] 33 rfl (by decide) rfl rfl ?_
            refine qr_iload 35 rfl rfl rfl ?_
            refine qr_if_eq 107 38 rfl rfl rfl (by decide) (fun h => absurd h (by decide)) (fun _ => ?_)
            refine qr_aload_n 39 rfl rfl rfl ?_
            as_aux_lemma =>
              refine qy_call 42 rfl rfl rfl ?_
              refine qr_start (d := d + 9) qv_e214 (Nat.le_of_ble_eq_true rfl) ?_
              show qr_W (qe L xs vb) (d + 9) qx_e214 _ (0, [(0, .ref 86)], [], _, 0, 0)
              refine qr_aload_n 1 rfl rfl rfl ?_
              refine qy_call 4 rfl rfl rfl ?_
              refine qr_start (d := d + 8) qv_e215 (Nat.le_of_ble_eq_true rfl) ?_
              show qr_W (qe L xs vb) (d + 8) qx_e215 _ (0, [(0, .ref 86)], [], _, 0, 0)
              refine qr_aload_n 1 rfl rfl rfl ?_
              refine qy_call 4 rfl rfl rfl ?_
              refine qr_start (d := d + 7) qv_e216 (Nat.le_of_ble_eq_true rfl) ?_
              show qr_W (qe L xs vb) (d + 7) qx_e216 _ (0, [(0, .ref 86)], [], _, 0, 0)
              refine qr_aload_n 1 rfl rfl rfl ?_
              refine qy_call 4 rfl rfl rfl ?_
              refine qr_start (d := d + 6) qv_e217 (Nat.le_of_ble_eq_true rfl) ?_
              show qr_W (qe L xs vb) (d + 6) qx_e217 _ (0, [(0, .ref 86)], [], _, 0, 0)
              refine qr_aload_n 1 rfl rfl rfl ?_
              refine qy_call 4 rfl rfl rfl ?_
              refine qr_start (d := d + 5) qv_e218 (Nat.le_of_ble_eq_true rfl) ?_
              show qr_W (qe L xs vb) (d + 5) qx_e218 _ (0, [(0, .ref 86)], [], _, 0, 0)
              refine qr_aload_n 1 rfl rfl rfl ?_
              refine qy_call 4 rfl rfl rfl ?_
              refine qr_start (d := d + 4) qv_e219 (Nat.le_of_ble_eq_true rfl) ?_
              show qr_W (qe L xs vb) (d + 4) qx_e219 _ (0, [(0, .ref 86)], [], _, 0, 0)
              refine qr_aload_n 1 rfl rfl rfl ?_
              refine qr_get 4 rfl rfl rfl (by decide) rfl ?_
              refine qy_v (-1) (by subst_vars; rfl) ?_
              refine qr_if_lt 9 7 rfl rfl rfl (by decide) (fun _ => ?_) (fun h => absurd h (by decide))
              refine qr_aload_n 10 rfl rfl rfl ?_
              refine qy_call 13 rfl rfl rfl ?_
              refine qr_start (d := d + 3) qv_e220 (Nat.le_of_ble_eq_true rfl) ?_
              show qr_W (qe L xs vb) (d + 3) qx_e220 _ (0, [(0, .ref 86)], [], _, 0, 0)
              refine qr_aload_n 1 rfl rfl rfl ?_
              refine qr_get 4 rfl rfl rfl (by decide) rfl ?_
              refine qy_v 0 (by subst_vars; rfl) ?_
              refine qr_aload_n 5 rfl rfl rfl ?_
              refine qr_get 8 rfl rfl rfl (by decide) rfl ?_
              refine qy_v 0 (by subst_vars; rfl) ?_
              refine qr_icmp_ge 47 11 rfl rfl rfl (by decide) (by decide) (fun _ => ?_) (fun h => absurd h (by decide))
              refine qr_iconst 48 rfl rfl ?_
              refine qr_retI rfl rfl (by decide) (by decide) ?_
              show qr_W (qe L xs vb) (d + 4) qx_e219 _ (13, [(0, .ref 86)], [.int (qz 0)], _, 0, 0)
              refine qr_istore_n [(1, .int (qz 0)), (0, .ref 86)] 14 rfl (by decide) rfl rfl ?_
              refine qr_iload_n 15 rfl rfl rfl ?_
              refine qr_bipush 17 rfl (by decide) rfl ?_
              refine qr_icmp_eq 32 20 rfl rfl rfl (by decide) (by decide) (fun h => absurd h (by decide)) (fun _ => ?_)
              refine qr_iload_n 21 rfl rfl rfl ?_
              refine qr_bipush 23 rfl (by decide) rfl ?_
              refine qr_icmp_eq 32 26 rfl rfl rfl (by decide) (by decide) (fun h => absurd h (by decide)) (fun _ => ?_)
              refine qr_iload_n 27 rfl rfl rfl ?_
              refine qr_bipush 29 rfl (by decide) rfl ?_
              refine qr_icmp_ne 145 32 rfl rfl rfl (by decide) (by decide) (fun _ => ?_) (fun h => absurd h (by decide))
              refine qr_iload_n 146 rfl rfl rfl ?_
              refine qy_call 149 rfl rfl rfl ?_
              refine qr_start (d := d + 3) qv_e223 (Nat.le_of_ble_eq_true rfl) ?_
              show qr_W (qe L xs vb) (d + 3) qx_e223 _ (0, [(0, .int (qz 0))], [], _, 0, 0)
              refine qr_iload_n 1 rfl rfl rfl ?_
              refine qr_tabOut 121 rfl (by decide) (by decide) rfl ?_
              refine qr_iconst 122 rfl rfl ?_
              refine qr_retI rfl rfl (by decide) (by decide) ?_
              show qr_W (qe L xs vb) (d + 4) qx_e219 _ (149, [(1, .int (qz 0)), (0, .ref 86)], [.int (qz (-1))], _, 0, 0)
              refine qr_istore_n [(2, .int (qz (-1))), (1, .int (qz 0)), (0, .ref 86)] 150 rfl (by decide) rfl rfl ?_
              refine qr_iload_n 151 rfl rfl rfl ?_
              refine qr_if_lt 171 154 rfl rfl rfl (by decide) (fun _ => ?_) (fun h => absurd h (by decide))
              refine qr_iconst 172 rfl rfl ?_
              refine qr_istore_n [(3, .int (qz 0)), (2, .int (qz (-1))), (1, .int (qz 0)), (0, .ref 86)] 173 rfl (by decide) rfl rfl ?_
              refine qr_iconst 174 rfl rfl ?_
              refine qr_istore [(4, .int (qz 0)), (3, .int (qz 0)), (2, .int (qz (-1))), (1, .int (qz 0)), (0, .ref 86)] 176 rfl (by decide) rfl rfl ?_
              refine qr_iload 178 rfl rfl rfl ?_
              refine qr_iconst 179 rfl rfl ?_
              refine qr_icmp_ge 229 182 rfl rfl rfl (by decide) (by decide) (fun h => absurd h (by decide)) (fun _ => ?_)
              refine qr_aload_n 183 rfl rfl rfl ?_
              refine qy_call 186 rfl rfl rfl ?_
              refine qr_start (d := d + 3) qv_e220 (Nat.le_of_ble_eq_true rfl) ?_
              show qr_W (qe L xs vb) (d + 3) qx_e220 _ (0, [(0, .ref 86)], [], _, 0, 0)
              refine qr_aload_n 1 rfl rfl rfl ?_
              refine qr_get 4 rfl rfl rfl (by decide) rfl ?_
              refine qy_v 0 (by subst_vars; rfl) ?_
              refine qr_aload_n 5 rfl rfl rfl ?_
              refine qr_get 8 rfl rfl rfl (by decide) rfl ?_
              refine qy_v 0 (by subst_vars; rfl) ?_
              refine qr_icmp_ge 47 11 rfl rfl rfl (by decide) (by decide) (fun _ => ?_) (fun h => absurd h (by decide))
              refine qr_iconst 48 rfl rfl ?_
              refine qr_retI rfl rfl (by decide) (by decide) ?_
              show qr_W (qe L xs vb) (d + 4) qx_e219 _ (186, [(4, .int (qz 0)), (3, .int (qz 0)), (2, .int (qz (-1))), (1, .int (qz 0)), (0, .ref 86)], [.int (qz 0)], _, 0, 0)
              refine qr_bipush 188 rfl (by decide) rfl ?_
              refine qr_icmp_lt 229 191 rfl rfl rfl (by decide) (by decide) (fun _ => ?_) (fun h => absurd h (by decide))
              refine qr_iload 231 rfl rfl rfl ?_
              as_aux_lemma =>
                refine qr_if_ne 241 234 rfl rfl rfl (by decide) (fun h => absurd h (by decide)) (fun _ => ?_)
                refine qr_aload_n 235 rfl rfl rfl ?_
                refine qy_call 238 rfl rfl rfl ?_
                refine qr_start (d := d + 3) qv_e221 (Nat.le_of_ble_eq_true rfl) ?_
                show qr_W (qe L xs vb) (d + 3) qx_e221 _ (0, [(0, .ref 86)], [], _, 0, 0)
                refine qr_aload_n 1 rfl rfl rfl ?_
                refine qr_aload_n 2 rfl rfl rfl ?_
                refine qr_get 5 rfl rfl rfl (by decide) rfl ?_
                refine qy_v (-1) (by subst_vars; rfl) ?_
                refine qr_if_ge 15 8 rfl rfl rfl (by decide) (fun h => absurd h (by decide)) (fun _ => ?_)
                refine qr_aload_n 9 rfl rfl rfl ?_
                refine qr_get 12 rfl rfl rfl (by decide) rfl ?_
                refine qy_v 0 (by subst_vars; rfl) ?_
                refine qr_goto 19 rfl rfl ?_
                refine qr_put 22 rfl (by decide) rfl (Nat.le_of_ble_eq_true rfl) (Nat.le_of_ble_eq_true rfl) (Or.inl rfl) (qr_fitI rfl _) rfl ?_
                refine qy_wS (qw_s σ15 86 38 0) rfl (fun σ16 e16 => ?_)
                refine qr_iconst 23 rfl rfl ?_
                refine qr_retI rfl rfl (by decide) (by decide) ?_
                show qr_W (qe L xs vb) (d + 4) qx_e219 _ (238, [(4, .int (qz 0)), (3, .int (qz 0)), (2, .int (qz (-1))), (1, .int (qz 0)), (0, .ref 86)], [.int (qz 0)], _, 0, 0)
                refine qr_goto 242 rfl rfl ?_
                refine qr_retI rfl rfl (by decide) (by decide) ?_
                show qr_W (qe L xs vb) (d + 5) qx_e218 _ (4, [(0, .ref 86)], [.int (qz 0)], _, 0, 0)
                refine qr_istore_n [(1, .int (qz 0)), (0, .ref 86)] 5 rfl (by decide) rfl rfl ?_
                refine qr_aload_n 6 rfl rfl rfl ?_
                refine qy_call 9 rfl rfl rfl ?_
                refine qr_start (d := d + 4) qv_e220 (Nat.le_of_ble_eq_true rfl) ?_
                show qr_W (qe L xs vb) (d + 4) qx_e220 _ (0, [(0, .ref 86)], [], _, 0, 0)
                refine qr_aload_n 1 rfl rfl rfl ?_
                refine qr_get 4 rfl rfl rfl (by decide) rfl ?_
                refine qy_v 0 (by subst_vars; rfl) ?_
                refine qr_aload_n 5 rfl rfl rfl ?_
                refine qr_get 8 rfl rfl rfl (by decide) rfl ?_
                refine qy_v 0 (by subst_vars; rfl) ?_
                refine qr_icmp_ge 47 11 rfl rfl rfl (by decide) (by decide) (fun _ => ?_) (fun h => absurd h (by decide))
                refine qr_iconst 48 rfl rfl ?_
                refine qr_retI rfl rfl (by decide) (by decide) ?_
                show qr_W (qe L xs vb) (d + 5) qx_e218 _ (9, [(1, .int (qz 0)), (0, .ref 86)], [.int (qz 0)], _, 0, 0)
                refine qr_istore_n [(2, .int (qz 0)), (1, .int (qz 0)), (0, .ref 86)] 10 rfl (by decide) rfl rfl ?_
                refine qr_aload_n 11 rfl rfl rfl ?_
                refine qr_get 14 rfl rfl rfl (by decide) rfl ?_
                refine qy_v 0 (by subst_vars; rfl) ?_
                refine qr_if_ge 94 17 rfl rfl rfl (by decide) (fun _ => ?_) (fun h => absurd h (by decide))
                refine qr_iload_n 95 rfl rfl rfl ?_
                refine qr_retI rfl rfl (by decide) (by decide) ?_
                show qr_W (qe L xs vb) (d + 6) qx_e217 _ (4, [(0, .ref 86)], [.int (qz 0)], _, 0, 0)
                refine qr_istore_n [(1, .int (qz 0)), (0, .ref 86)] 5 rfl (by decide) rfl rfl ?_
                refine qr_aload_n 6 rfl rfl rfl ?_
                refine qr_get 9 rfl rfl rfl (by decide) rfl ?_
                refine qy_v 0 (by subst_vars; rfl) ?_
                refine qr_if_ge 77 12 rfl rfl rfl (by decide) (fun _ => ?_) (fun h => absurd h (by decide))
                refine qr_iload_n 78 rfl rfl rfl ?_
                refine qr_retI rfl rfl (by decide) (by decide) ?_
                show qr_W (qe L xs vb) (d + 7) qx_e216 _ (4, [(0, .ref 86)], [.int (qz 0)], _, 0, 0)
                refine qr_istore_n [(1, .int (qz 0)), (0, .ref 86)] 5 rfl (by decide) rfl rfl ?_
                refine qr_aload_n 6 rfl rfl rfl ?_
                refine qy_call 9 rfl rfl rfl ?_
                refine qr_start (d := d + 6) qv_e220 (Nat.le_of_ble_eq_true rfl) ?_
                show qr_W (qe L xs vb) (d + 6) qx_e220 _ (0, [(0, .ref 86)], [], _, 0, 0)
                refine qr_aload_n 1 rfl rfl rfl ?_
                refine qr_get 4 rfl rfl rfl (by decide) rfl ?_
                refine qy_v 0 (by subst_vars; rfl) ?_
                refine qr_aload_n 5 rfl rfl rfl ?_
                refine qr_get 8 rfl rfl rfl (by decide) rfl ?_
                refine qy_v 0 (by subst_vars; rfl) ?_
                refine qr_icmp_ge 47 11 rfl rfl rfl (by decide) (by decide) (fun _ => ?_) (fun h => absurd h (by decide))
                refine qr_iconst 48 rfl rfl ?_
                refine qr_retI rfl rfl (by decide) (by decide) ?_
                show qr_W (qe L xs vb) (d + 7) qx_e216 _ (9, [(1, .int (qz 0)), (0, .ref 86)], [.int (qz 0)], _, 0, 0)
                refine qr_istore_n [(2, .int (qz 0)), (1, .int (qz 0)), (0, .ref 86)] 10 rfl (by decide) rfl rfl ?_
                refine qr_aload_n 11 rfl rfl rfl ?_
                refine qr_get 14 rfl rfl rfl (by decide) rfl ?_
                refine qy_v 0 (by subst_vars; rfl) ?_
                refine qr_if_ge 35 17 rfl rfl rfl (by decide) (fun _ => ?_) (fun h => absurd h (by decide))
                refine qr_iload_n 36 rfl rfl rfl ?_
                refine qr_retI rfl rfl (by decide) (by decide) ?_
                show qr_W (qe L xs vb) (d + 8) qx_e215 _ (4, [(0, .ref 86)], [.int (qz 0)], _, 0, 0)
                refine qr_istore_n [(1, .int (qz 0)), (0, .ref 86)] 5 rfl (by decide) rfl rfl ?_
                refine qr_aload_n 6 rfl rfl rfl ?_
                refine qr_bipush 8 rfl (by decide) rfl ?_
                refine qy_call 11 rfl rfl rfl ?_
                refine qr_start (d := d + 7) qv_e222 (Nat.le_of_ble_eq_true rfl) ?_
                show qr_W (qe L xs vb) (d + 7) qx_e222 _ (0, [(0, .ref 86), (1, .int (qz 38))], [], _, 0, 0)
                refine qr_aload_n 1 rfl rfl rfl ?_
                refine qr_get 4 rfl rfl rfl (by decide) rfl ?_
                refine qy_v 0 (by subst_vars; rfl) ?_
                refine qr_if_ge 15 7 rfl rfl rfl (by decide) (fun _ => ?_) (fun h => absurd h (by decide))
                refine qr_iconst 16 rfl rfl ?_
                as_aux_lemma =>
                  refine qr_retZ rfl rfl (by omega) (by decide) (by decide) ?_
                  show qr_W (qe L xs vb) (d + 8) qx_e215 _ (11, [(1, .int (qz 0)), (0, .ref 86)], [.int (qz 0)], _, 0, 0)
                  refine qr_if_eq 36 14 rfl rfl rfl (by decide) (fun _ => ?_) (fun h => absurd h (by decide))
                  refine qr_iload_n 37 rfl rfl rfl ?_
                  refine qr_retI rfl rfl (by decide) (by decide) ?_
                  show qr_W (qe L xs vb) (d + 9) qx_e214 _ (4, [(0, .ref 86)], [.int (qz 0)], _, 0, 0)
                  refine qr_istore_n [(1, .int (qz 0)), (0, .ref 86)] 5 rfl (by decide) rfl rfl ?_
                  refine qr_aload_n 6 rfl rfl rfl ?_
                  refine qr_bipush 8 rfl (by decide) rfl ?_
                  refine qy_call 11 rfl rfl rfl ?_
                  refine qr_start (d := d + 8) qv_e222 (Nat.le_of_ble_eq_true rfl) ?_
                  show qr_W (qe L xs vb) (d + 8) qx_e222 _ (0, [(0, .ref 86), (1, .int (qz 124))], [], _, 0, 0)
                  refine qr_aload_n 1 rfl rfl rfl ?_
                  refine qr_get 4 rfl rfl rfl (by decide) rfl ?_
                  refine qy_v 0 (by subst_vars; rfl) ?_
                  refine qr_if_ge 15 7 rfl rfl rfl (by decide) (fun _ => ?_) (fun h => absurd h (by decide))
                  refine qr_iconst 16 rfl rfl ?_
                  refine qr_retZ rfl rfl (by omega) (by decide) (by decide) ?_
                  show qr_W (qe L xs vb) (d + 9) qx_e214 _ (11, [(1, .int (qz 0)), (0, .ref 86)], [.int (qz 0)], _, 0, 0)
                  refine qr_if_eq 36 14 rfl rfl rfl (by decide) (fun _ => ?_) (fun h => absurd h (by decide))
                  refine qr_iload_n 37 rfl rfl rfl ?_
                  refine qr_retI rfl rfl (by decide) (by decide) ?_
                  show qr_W (qe L xs vb) (d + 10) qx_e213 _ (42, [(5, .int (qz 1)), (4, .int (qz 0)), (3, .int (qz 0)), (0, .ref 86), (1, .int (qz (-1))), (2, .int (qz 0))], [.int (qz 0)], _, 0, 0)
                  refine qr_istore [(6, .int (qz 0)), (5, .int (qz 1)), (4, .int (qz 0)), (3, .int (qz 0)), (0, .ref 86), (1, .int (qz (-1))), (2, .int (qz 0))] 44 rfl (by decide) rfl rfl ?_
                  refine qr_iconst 45 rfl rfl ?_
                  refine qr_istore [(7, .int (qz 1)), (6, .int (qz 0)), (5, .int (qz 1)), (4, .int (qz 0)), (3, .int (qz 0)), (0, .ref 86), (1, .int (qz (-1))), (2, .int (qz 0))] 47 rfl (by decide) rfl rfl ?_
                  refine qr_aload_n 48 rfl rfl rfl ?_
                  refine qr_bipush 50 rfl (by decide) rfl ?_
                  refine qy_call 53 rfl rfl rfl ?_
                  refine qr_start (d := d + 9) qv_e222 (Nat.le_of_ble_eq_true rfl) ?_
                  show qr_W (qe L xs vb) (d + 9) qx_e222 _ (0, [(0, .ref 86), (1, .int (qz 63))], [], _, 0, 0)
                  refine qr_aload_n 1 rfl rfl rfl ?_
                  refine qr_get 4 rfl rfl rfl (by decide) rfl ?_
                  refine qy_v 0 (by subst_vars; rfl) ?_
                  refine qr_if_ge 15 7 rfl rfl rfl (by decide) (fun _ => ?_) (fun h => absurd h (by decide))
                  refine qr_iconst 16 rfl rfl ?_
                  refine qr_retZ rfl rfl (by omega) (by decide) (by decide) ?_
                  show qr_W (qe L xs vb) (d + 10) qx_e213 _ (53, [(7, .int (qz 1)), (6, .int (qz 0)), (5, .int (qz 1)), (4, .int (qz 0)), (3, .int (qz 0)), (0, .ref 86), (1, .int (qz (-1))), (2, .int (qz 0))], [.int (qz 0)], _, 0, 0)
                  refine qr_if_eq 74 56 rfl rfl rfl (by decide) (fun _ => ?_) (fun h => absurd h (by decide))
                  refine qr_aload_n 75 rfl rfl rfl ?_
                  refine qr_get 78 rfl rfl rfl (by decide) rfl ?_
                  refine qy_v 0 (by subst_vars; rfl) ?_
                  refine qr_if_ge 96 81 rfl rfl rfl (by decide) (fun _ => ?_) (fun h => absurd h (by decide))
                  refine qr_aload_n 97 rfl rfl rfl ?_
                  refine qr_bipush 99 rfl (by decide) rfl ?_
                  refine qy_call 102 rfl rfl rfl ?_
                  refine qr_start (d := d + 9) qv_e222 (Nat.le_of_ble_eq_true rfl) ?_
                  show qr_W (qe L xs vb) (d + 9) qx_e222 _ (0, [(0, .ref 86), (1, .int (qz 59))], [], _, 0, 0)
                  refine qr_aload_n 1 rfl rfl rfl ?_
                  refine qr_get 4 rfl rfl rfl (by decide) rfl ?_
                  refine qy_v 0 (by subst_vars; rfl) ?_
                  refine qr_if_ge 15 7 rfl rfl rfl (by decide) (fun _ => ?_) (fun h => absurd h (by decide))
                  refine qr_iconst 16 rfl rfl ?_
                  refine qr_retZ rfl rfl (by omega) (by decide) (by decide) ?_
                  show qr_W (qe L xs vb) (d + 10) qx_e213 _ (102, [(7, .int (qz 1)), (6, .int (qz 0)), (5, .int (qz 1)), (4, .int (qz 0)), (3, .int (qz 0)), (0, .ref 86), (1, .int (qz (-1))), (2, .int (qz 0))], [.int (qz 0)], _, 0, 0)
                  refine qr_istore [(5, .int (qz 0)), (7, .int (qz 1)), (6, .int (qz 0)), (4, .int (qz 0)), (3, .int (qz 0)), (0, .ref 86), (1, .int (qz (-1))), (2, .int (qz 0))] 104 rfl (by decide) rfl rfl ?_
                  refine qr_goto 33 rfl rfl ?_
                  refine qr_iload 35 rfl rfl rfl ?_
                  refine qr_if_eq 107 38 rfl rfl rfl (by decide) (fun _ => ?_) (fun h => absurd h (by decide))
                  refine qr_aload_n 108 rfl rfl rfl ?_
                  refine qr_get 111 rfl rfl rfl (by decide) rfl ?_
                  refine qy_v 0 (by subst_vars; rfl) ?_
                  refine qr_if_ge 130 114 rfl rfl rfl (by decide) (fun _ => ?_) (fun h => absurd h (by decide))
                  refine qr_iload 132 rfl rfl rfl ?_
                  refine qr_retI rfl rfl (by decide) (by decide) ?_
                  show qr_W (qe L xs vb) (d + 11) qx_e212 _ (21, [(0, .ref 86), (1, .int (qz 0))], [.int (qz 0)], _, 0, 0)
                  refine qr_istore_n [(2, .int (qz 0)), (0, .ref 86), (1, .int (qz 0))] 22 rfl (by decide) rfl rfl ?_
                  refine qr_aload_n 23 rfl rfl rfl ?_
                  refine qr_get 26 rfl rfl rfl (by decide) rfl ?_
                  refine qy_v 0 (by subst_vars; rfl) ?_
                  refine qr_istore_n [(3, .int (qz 0)), (2, .int (qz 0)), (0, .ref 86), (1, .int (qz 0))] 27 rfl (by decide) rfl rfl ?_
                  refine qr_aload_n 28 rfl rfl rfl ?_
                  refine qr_iconst 29 rfl rfl ?_
                  refine qr_put 32 rfl (by decide) rfl (Nat.le_of_ble_eq_true rfl) (Nat.le_of_ble_eq_true rfl) (Or.inl rfl) (qr_fitI rfl _) rfl ?_
                  refine qy_wS (qw_s σ16 86 32 0) rfl (fun σ17 e17 => ?_)
                  refine qr_aload_n 33 rfl rfl rfl ?_
                  refine qr_get 36 rfl rfl rfl (by decide) rfl ?_
                  refine qy_v 0 (by subst_vars; rfl) ?_
                  refine qr_if_lt 47 39 rfl rfl rfl (by decide) (fun h => absurd h (by decide)) (fun _ => ?_)
                  refine qr_bipush 41 rfl (by decide) rfl ?_
                  refine qr_aload_n 42 rfl rfl rfl ?_
                  refine qr_get 45 rfl rfl rfl (by decide) rfl ?_
                  refine qy_v 0 (by subst_vars; rfl) ?_
                  as_aux_lemma =>
                    refine qr_isub 46 rfl rfl ?_
                    refine qy_v (-100) rfl ?_
                    refine qr_retI rfl rfl (by decide) (by decide) ?_
                    exact rfl
  · skip
    refine qr_iload_n 5 rfl rfl rfl ?_
    refine qr_iconst 6 rfl rfl ?_
    refine qr_icmp_eq 11 9 rfl rfl rfl (by omega) (by decide) (fun h18 => ?_) (fun h18 => ?_)
    · skip
      subst h18
      refine qr_aload_n 12 rfl rfl rfl ?_
      refine qr_get 15 rfl rfl rfl (by decide) rfl ?_
      refine qr_aload_n 16 rfl rfl rfl ?_
      refine qr_get 19 rfl rfl rfl (by decide) rfl ?_
      refine qr_aload_n 20 rfl rfl rfl ?_
      refine qr_get 23 rfl rfl rfl (by decide) rfl ?_
      refine qy_v 0 rfl ?_
      refine qy_call 26 rfl rfl rfl ?_
      refine qr_start (d := d + 10) qv_e86 (Nat.le_of_ble_eq_true rfl) ?_
      show qr_W (qe L xs vb) (d + 10) qx_e86 _ (0, [(0, .ref 82), (1, .ref 81), (2, .int (qz 0))], [], _, 0, 0)
      refine qr_aload_n 1 rfl rfl rfl ?_
      refine qr_iload_n 2 rfl rfl rfl ?_
      refine qr_aload_n 3 rfl rfl rfl ?_
      refine qr_alen 4 rfl rfl (by first | exact Or.inl (by decide) | exact Or.inr (Or.inl rfl) | exact Or.inr (Or.inr (Or.inl rfl)) | exact Or.inr (Or.inr (Or.inr (Or.inl rfl)))) rfl ?_
      refine qy_v 120 rfl ?_
      refine qy_call 7 rfl rfl rfl ?_
      refine qr_start (d := d + 9) qv_e12 (Nat.le_of_ble_eq_true rfl) ?_
      show qr_W (qe L xs vb) (d + 9) qx_e12 _ (0, [(0, .int (qz 0)), (1, .int (qz 120))], [], _, 0, 0)
      refine qr_iload_n 1 rfl rfl rfl ?_
      refine qr_iload_n 2 rfl rfl rfl ?_
      refine qr_icmp_gt 9 5 rfl rfl rfl (by decide) (by decide) (fun h => absurd h (by decide)) (fun _ => ?_)
      refine qr_iload_n 6 rfl rfl rfl ?_
      refine qr_goto 10 rfl rfl ?_
      refine qr_retI rfl rfl (by decide) (by decide) ?_
      show qr_W (qe L xs vb) (d + 10) qx_e86 _ (7, [(0, .ref 82), (1, .ref 81), (2, .int (qz 0))], [.int (qz 0), .ref 82], _, 0, 0)
      refine qr_aload_n 8 rfl rfl rfl ?_
      refine qr_get 11 rfl rfl rfl (by decide) rfl ?_
      refine qr_alen 12 rfl rfl (by first | exact Or.inl (by decide) | exact Or.inr (Or.inl rfl) | exact Or.inr (Or.inr (Or.inl rfl)) | exact Or.inr (Or.inr (Or.inr (Or.inl rfl)))) rfl ?_
      refine qy_v 120 rfl ?_
      refine qy_call 15 rfl rfl rfl ?_
      refine qr_start (d := d + 9) qv_e12 (Nat.le_of_ble_eq_true rfl) ?_
      show qr_W (qe L xs vb) (d + 9) qx_e12 _ (0, [(0, .int (qz 0)), (1, .int (qz 120))], [], _, 0, 0)
      refine qr_iload_n 1 rfl rfl rfl ?_
      refine qr_iload_n 2 rfl rfl rfl ?_
      refine qr_icmp_gt 9 5 rfl rfl rfl (by decide) (by decide) (fun h => absurd h (by decide)) (fun _ => ?_)
      refine qr_iload_n 6 rfl rfl rfl ?_
      refine qr_goto 10 rfl rfl ?_
      refine qr_retI rfl rfl (by decide) (by decide) ?_
      show qr_W (qe L xs vb) (d + 10) qx_e86 _ (15, [(0, .ref 82), (1, .ref 81), (2, .int (qz 0))], [.int (qz 0), .ref 82], _, 0, 0)
      refine qr_put 18 rfl (by decide) rfl (Nat.le_of_ble_eq_true rfl) (Nat.le_of_ble_eq_true rfl) (Or.inl rfl) (qr_fitI rfl _) rfl ?_
      refine qy_wS (qw_s (qo_s s) 82 3 0) rfl (fun σ19 e19 => ?_)
      refine qr_aload_n 19 rfl rfl rfl ?_
      refine qr_iconst 20 rfl rfl ?_
      refine qr_aload_n 21 rfl rfl rfl ?_
      refine qr_get 24 rfl rfl rfl (by decide) rfl ?_
      refine qr_iconst 25 rfl rfl ?_
      refine qr_aload_n 26 rfl rfl rfl ?_
      refine qr_get 29 rfl rfl rfl (by decide) rfl ?_
      refine qy_v 0 (by subst_vars; rfl) ?_
      refine qy_copy0 32 rfl (by decide) (by decide) rfl rfl (by decide) (by decide) (by decide) (by decide) rfl ?_
      refine qr_aload_n 33 rfl rfl rfl ?_
      refine qy_call 36 rfl rfl rfl ?_
      refine qr_start (d := d + 9) qv_e18 (Nat.le_of_ble_eq_true rfl) ?_
      show qr_W (qe L xs vb) (d + 9) qx_e18 _ (0, [(0, .ref 82)], [], _, 0, 0)
      refine qr_aload_n 1 rfl rfl rfl ?_
      refine qr_iconst 2 rfl rfl ?_
      refine qr_put 5 rfl (by decide) rfl (Nat.le_of_ble_eq_true rfl) (Nat.le_of_ble_eq_true rfl) (Or.inl rfl) (qr_fitI rfl _) rfl ?_
      refine qy_wS (qw_s σ19 82 4 0) rfl (fun σ20 e20 => ?_)
      refine qr_aload_n 6 rfl rfl rfl ?_
      refine qr_iconst 7 rfl rfl ?_
      refine qr_put 10 rfl (by decide) rfl (Nat.le_of_ble_eq_true rfl) (Nat.le_of_ble_eq_true rfl) (Or.inl rfl) (qr_fitI rfl _) rfl ?_
      refine qy_wS (qw_s σ20 82 5 0) rfl (fun σ21 e21 => ?_)
      refine qr_aload_n 11 rfl rfl rfl ?_
      refine qr_iconst 12 rfl rfl ?_
      refine qr_put 15 rfl (by decide) rfl (Nat.le_of_ble_eq_true rfl) (Nat.le_of_ble_eq_true rfl) (Or.inl rfl) (qr_fitI rfl _) rfl ?_
      refine qy_wS (qw_s σ21 82 6 0) rfl (fun σ22 e22 => ?_)
      refine qr_aload_n 16 rfl rfl rfl ?_
      refine qr_iconst 17 rfl rfl ?_
      refine qr_put 20 rfl (by decide) rfl (Nat.le_of_ble_eq_true rfl) (Nat.le_of_ble_eq_true rfl) (Or.inl rfl) (qr_fitZ rfl (by omega)) rfl ?_
      refine qy_wS (qw_s σ22 82 7 0) rfl (fun σ23 e23 => ?_)
      refine qr_iconst 21 rfl rfl ?_
      refine qr_istore_n [(1, .int (qz 0)), (0, .ref 82)] 22 rfl (by decide) rfl rfl ?_
      refine qr_iload_n 23 rfl rfl rfl ?_
      refine qr_bipush 25 rfl (by decide) rfl ?_
      as_aux_lemma =>
        refine qr_icmp_gt 72 28 rfl rfl rfl (by decide) (by decide) (fun h => absurd h (by decide)) (fun _ => ?_)
        refine qr_aload_n 29 rfl rfl rfl ?_
        refine qr_get 32 rfl rfl rfl (by decide) rfl ?_
        refine qy_v 0 (by subst_vars; rfl) ?_
        refine qr_if_ne 72 35 rfl rfl rfl (by decide) (fun h => absurd h (by decide)) (fun _ => ?_)
        refine qr_aload_n 36 rfl rfl rfl ?_
        refine qy_call 39 rfl rfl rfl ?_
        refine qr_start (d := d + 8) qv_e19 (Nat.le_of_ble_eq_true rfl) ?_
        show qr_W (qe L xs vb) (d + 8) qx_e19 _ (0, [(0, .ref 82)], [], _, 0, 0)
        refine qr_aload_n 1 rfl rfl rfl ?_
        refine qr_iconst 2 rfl rfl ?_
        refine qr_iconst 3 rfl rfl ?_
        refine qy_call 6 rfl rfl rfl ?_
        refine qr_start (d := d + 7) qv_e20 (Nat.le_of_ble_eq_true rfl) ?_
        show qr_W (qe L xs vb) (d + 7) qx_e20 _ (0, [(0, .ref 82), (1, .int (qz 0)), (2, .int (qz 0))], [], _, 0, 0)
        refine qr_iload_n 1 rfl rfl rfl ?_
        refine qr_iconst 2 rfl rfl ?_
        refine qr_icmp_lt 11 5 rfl rfl rfl (by decide) (by decide) (fun _ => ?_) (fun h => absurd h (by decide))
        refine qr_aload_n 12 rfl rfl rfl ?_
        refine qr_iload_n 13 rfl rfl rfl ?_
        refine qr_iconst 14 rfl rfl ?_
        refine qr_iadd 15 rfl rfl ?_
        refine qy_v 1 rfl ?_
        refine qr_iload_n 16 rfl rfl rfl ?_
        refine qy_call 19 rfl rfl rfl ?_
        refine qr_start (d := d + 6) qv_e20 (Nat.le_of_ble_eq_true rfl) ?_
        show qr_W (qe L xs vb) (d + 6) qx_e20 _ (0, [(0, .ref 82), (1, .int (qz 1)), (2, .int (qz 0))], [], _, 0, 0)
        refine qr_iload_n 1 rfl rfl rfl ?_
        refine qr_iconst 2 rfl rfl ?_
        refine qr_icmp_lt 11 5 rfl rfl rfl (by decide) (by decide) (fun _ => ?_) (fun h => absurd h (by decide))
        refine qr_aload_n 12 rfl rfl rfl ?_
        refine qr_iload_n 13 rfl rfl rfl ?_
        refine qr_iconst 14 rfl rfl ?_
        refine qr_iadd 15 rfl rfl ?_
        refine qy_v 2 rfl ?_
        refine qr_iload_n 16 rfl rfl rfl ?_
        refine qy_call 19 rfl rfl rfl ?_
        refine qr_start (d := d + 5) qv_e20 (Nat.le_of_ble_eq_true rfl) ?_
        show qr_W (qe L xs vb) (d + 5) qx_e20 _ (0, [(0, .ref 82), (1, .int (qz 2)), (2, .int (qz 0))], [], _, 0, 0)
        refine qr_iload_n 1 rfl rfl rfl ?_
        refine qr_iconst 2 rfl rfl ?_
        refine qr_icmp_lt 11 5 rfl rfl rfl (by decide) (by decide) (fun _ => ?_) (fun h => absurd h (by decide))
        refine qr_aload_n 12 rfl rfl rfl ?_
        refine qr_iload_n 13 rfl rfl rfl ?_
        refine qr_iconst 14 rfl rfl ?_
        refine qr_iadd 15 rfl rfl ?_
        refine qy_v 3 rfl ?_
        refine qr_iload_n 16 rfl rfl rfl ?_
        refine qy_call 19 rfl rfl rfl ?_
        refine qr_start (d := d + 4) qv_e20 (Nat.le_of_ble_eq_true rfl) ?_
        show qr_W (qe L xs vb) (d + 4) qx_e20 _ (0, [(0, .ref 82), (1, .int (qz 3)), (2, .int (qz 0))], [], _, 0, 0)
        refine qr_iload_n 1 rfl rfl rfl ?_
        refine qr_iconst 2 rfl rfl ?_
        refine qr_icmp_lt 11 5 rfl rfl rfl (by decide) (by decide) (fun _ => ?_) (fun h => absurd h (by decide))
        refine qr_aload_n 12 rfl rfl rfl ?_
        refine qr_iload_n 13 rfl rfl rfl ?_
        refine qr_iconst 14 rfl rfl ?_
        refine qr_iadd 15 rfl rfl ?_
        refine qy_v 4 rfl ?_
        refine qr_iload_n 16 rfl rfl rfl ?_
        refine qy_call 19 rfl rfl rfl ?_
        refine qr_start (d := d + 3) qv_e20 (Nat.le_of_ble_eq_true rfl) ?_
        show qr_W (qe L xs vb) (d + 3) qx_e20 _ (0, [(0, .ref 82), (1, .int (qz 4)), (2, .int (qz 0))], [], _, 0, 0)
        refine qr_iload_n 1 rfl rfl rfl ?_
        refine qr_iconst 2 rfl rfl ?_
        refine qr_icmp_lt 11 5 rfl rfl rfl (by decide) (by decide) (fun _ => ?_) (fun h => absurd h (by decide))
        refine qr_aload_n 12 rfl rfl rfl ?_
        refine qr_iload_n 13 rfl rfl rfl ?_
        refine qr_iconst 14 rfl rfl ?_
        refine qr_iadd 15 rfl rfl ?_
        refine qy_v 5 rfl ?_
        refine qr_iload_n 16 rfl rfl rfl ?_
        refine qy_call 19 rfl rfl rfl ?_
        refine qr_start (d := d + 2) qv_e20 (Nat.le_of_ble_eq_true rfl) ?_
        show qr_W (qe L xs vb) (d + 2) qx_e20 _ (0, [(0, .ref 82), (1, .int (qz 5)), (2, .int (qz 0))], [], _, 0, 0)
        refine qr_iload_n 1 rfl rfl rfl ?_
        refine qr_iconst 2 rfl rfl ?_
        refine qr_icmp_lt 11 5 rfl rfl rfl (by decide) (by decide) (fun h => absurd h (by decide)) (fun _ => ?_)
        refine qr_aload_n 6 rfl rfl rfl ?_
        refine qr_iload_n 7 rfl rfl rfl ?_
        refine qy_call 10 rfl rfl rfl ?_
        refine qr_start (d := d + 1) qv_e21 (Nat.le_of_ble_eq_true rfl) ?_
        show qr_W (qe L xs vb) (d + 1) qx_e21 _ (0, [(0, .ref 82), (1, .int (qz 0))], [], _, 0, 0)
        as_aux_lemma =>
          refine qr_aload_n 1 rfl rfl rfl ?_
          refine qy_call 4 rfl rfl rfl ?_
          refine qr_start (d := d + 0) qv_e22 (Nat.le_of_ble_eq_true rfl) ?_
          show qr_W (qe L xs vb) (d + 0) qx_e22 _ (0, [(0, .ref 82)], [], _, 0, 0)
          refine qr_aload_n 1 rfl rfl rfl ?_
          refine qr_get 4 rfl rfl rfl (by decide) rfl ?_
          refine qy_v 0 (by subst_vars; rfl) ?_
          refine qr_aload_n 5 rfl rfl rfl ?_
          refine qr_get 8 rfl rfl rfl (by decide) rfl ?_
          refine qy_v 0 (by subst_vars; rfl) ?_
          refine qr_icmp_ge 23 11 rfl rfl rfl (by decide) (by decide) (fun _ => ?_) (fun h => absurd h (by decide))
          refine qr_iconst 24 rfl rfl ?_
          refine qr_retI rfl rfl (by decide) (by decide) ?_
          show qr_W (qe L xs vb) (d + 1) qx_e21 _ (4, [(0, .ref 82), (1, .int (qz 0))], [.int (qz (-1))], _, 0, 0)
          refine qr_istore_n [(2, .int (qz (-1))), (0, .ref 82), (1, .int (qz 0))] 5 rfl (by decide) rfl rfl ?_
          refine qr_aload_n 6 rfl rfl rfl ?_
          refine qr_get 9 rfl rfl rfl (by decide) rfl ?_
          refine qy_v 0 (by subst_vars; rfl) ?_
          refine qr_if_eq 13 12 rfl rfl rfl (by decide) (fun _ => ?_) (fun h => absurd h (by decide))
          refine qr_iload_n 14 rfl rfl rfl ?_
          refine qy_call 17 rfl rfl rfl ?_
          refine qr_start (d := d + 0) qv_e23 (Nat.le_of_ble_eq_true rfl) ?_
          show qr_W (qe L xs vb) (d + 0) qx_e23 _ (0, [(0, .int (qz (-1)))], [], _, 0, 0)
          refine qr_iload_n 1 rfl rfl rfl ?_
          refine qr_bipush 3 rfl (by decide) rfl ?_
          refine qr_icmp_lt 16 6 rfl rfl rfl (by decide) (by decide) (fun _ => ?_) (fun h => absurd h (by decide))
          refine qr_iconst 17 rfl rfl ?_
          refine qr_retZ rfl rfl (by omega) (by decide) (by decide) ?_
          show qr_W (qe L xs vb) (d + 1) qx_e21 _ (17, [(2, .int (qz (-1))), (0, .ref 82), (1, .int (qz 0))], [.int (qz 0)], _, 0, 0)
          refine qr_if_eq 27 20 rfl rfl rfl (by decide) (fun _ => ?_) (fun h => absurd h (by decide))
          refine qr_iload_n 28 rfl rfl rfl ?_
          refine qr_if_lt 82 31 rfl rfl rfl (by decide) (fun _ => ?_) (fun h => absurd h (by decide))
          refine qr_iload_n 83 rfl rfl rfl ?_
          refine qr_bipush 85 rfl (by decide) rfl ?_
          refine qr_icmp_ge 121 88 rfl rfl rfl (by decide) (by decide) (fun h => absurd h (by decide)) (fun _ => ?_)
          refine qr_iload_n 89 rfl rfl rfl ?_
          refine qr_bipush 91 rfl (by decide) rfl ?_
          refine qr_icmp_ne 121 94 rfl rfl rfl (by decide) (by decide) (fun _ => ?_) (fun h => absurd h (by decide))
          refine qr_iload_n 122 rfl rfl rfl ?_
          refine qr_bipush 124 rfl (by decide) rfl ?_
          refine qr_icmp_ge 178 127 rfl rfl rfl (by decide) (by decide) (fun h => absurd h (by decide)) (fun _ => ?_)
          refine qr_iload_n 128 rfl rfl rfl ?_
          refine qr_bipush 130 rfl (by decide) rfl ?_
          refine qr_icmp_eq 139 133 rfl rfl rfl (by decide) (by decide) (fun h => absurd h (by decide)) (fun _ => ?_)
          refine qr_iload_n 134 rfl rfl rfl ?_
          refine qr_bipush 136 rfl (by decide) rfl ?_
          refine qr_icmp_ne 178 139 rfl rfl rfl (by decide) (by decide) (fun _ => ?_) (fun h => absurd h (by decide))
          refine qr_aload_n 179 rfl rfl rfl ?_
          refine qr_iconst 180 rfl rfl ?_
          refine qr_put 183 rfl (by decide) rfl (Nat.le_of_ble_eq_true rfl) (Nat.le_of_ble_eq_true rfl) (Or.inl rfl) (qr_fitZ rfl (by omega)) rfl ?_
          refine qy_wS (qw_s σ23 82 7 1) rfl (fun σ24 e24 => ?_)
          refine qr_retV rfl rfl (by decide) (by decide) ?_
          show qr_W (qe L xs vb) (d + 2) qx_e20 _ (10, [(0, .ref 82), (1, .int (qz 5)), (2, .int (qz 0))], [], _, 0, 0)
          refine qr_retV rfl rfl (by decide) (by decide) ?_
          show qr_W (qe L xs vb) (d + 3) qx_e20 _ (19, [(0, .ref 82), (1, .int (qz 4)), (2, .int (qz 0))], [], _, 0, 0)
          refine qr_iconst 20 rfl rfl ?_
          refine qr_istore_n [(3, .int (qz 0)), (0, .ref 82), (1, .int (qz 4)), (2, .int (qz 0))] 21 rfl (by decide) rfl rfl ?_
          refine qr_iload_n 22 rfl rfl rfl ?_
          refine qr_bipush 24 rfl (by decide) rfl ?_
          refine qr_icmp_ge 91 27 rfl rfl rfl (by decide) (by decide) (fun h => absurd h (by decide)) (fun _ => ?_)
          refine qr_aload_n 28 rfl rfl rfl ?_
          refine qr_get 31 rfl rfl rfl (by decide) rfl ?_
          refine qy_v 1 (by subst_vars; rfl) ?_
          refine qr_if_ne 91 34 rfl rfl rfl (by decide) (fun _ => ?_) (fun h => absurd h (by decide))
          refine qr_retV rfl rfl (by decide) (by decide) ?_
          show qr_W (qe L xs vb) (d + 4) qx_e20 _ (19, [(0, .ref 82), (1, .int (qz 3)), (2, .int (qz 0))], [], _, 0, 0)
          refine qr_iconst 20 rfl rfl ?_
          refine qr_istore_n [(3, .int (qz 0)), (0, .ref 82), (1, .int (qz 3)), (2, .int (qz 0))] 21 rfl (by decide) rfl rfl ?_
          refine qr_iload_n 22 rfl rfl rfl ?_
          refine qr_bipush 24 rfl (by decide) rfl ?_
          refine qr_icmp_ge 91 27 rfl rfl rfl (by decide) (by decide) (fun h => absurd h (by decide)) (fun _ => ?_)
          refine qr_aload_n 28 rfl rfl rfl ?_
          refine qr_get 31 rfl rfl rfl (by decide) rfl ?_
          refine qy_v 1 (by subst_vars; rfl) ?_
          refine qr_if_ne 91 34 rfl rfl rfl (by decide) (fun _ => ?_) (fun h => absurd h (by decide))
          refine qr_retV rfl rfl (by decide) (by decide) ?_
          show qr_W (qe L xs vb) (d + 5) qx_e20 _ (19, [(0, .ref 82), (1, .int (qz 2)), (2, .int (qz 0))], [], _, 0, 0)
          as_aux_lemma =>
            refine qr_iconst 20 rfl rfl ?_
            refine qr_istore_n [(3, .int (qz 0)), (0, .ref 82), (1, .int (qz 2)), (2, .int (qz 0))] 21 rfl (by decide) rfl rfl ?_
            refine qr_iload_n 22 rfl rfl rfl ?_
            refine qr_bipush 24 rfl (by decide) rfl ?_
            refine qr_icmp_ge 91 27 rfl rfl rfl (by decide) (by decide) (fun h => absurd h (by decide)) (fun _ => ?_)
            refine qr_aload_n 28 rfl rfl rfl ?_
            refine qr_get 31 rfl rfl rfl (by decide) rfl ?_
            refine qy_v 1 (by subst_vars; rfl) ?_
            refine qr_if_ne 91 34 rfl rfl rfl (by decide) (fun _ => ?_) (fun h => absurd h (by decide))
            refine qr_retV rfl rfl (by decide) (by decide) ?_
            show qr_W (qe L xs vb) (d + 6) qx_e20 _ (19, [(0, .ref 82), (1, .int (qz 1)), (2, .int (qz 0))], [], _, 0, 0)
            refine qr_iconst 20 rfl rfl ?_
            refine qr_istore_n [(3, .int (qz 0)), (0, .ref 82), (1, .int (qz 1)), (2, .int (qz 0))] 21 rfl (by decide) rfl rfl ?_
            refine qr_iload_n 22 rfl rfl rfl ?_
            refine qr_bipush 24 rfl (by decide) rfl ?_
            refine qr_icmp_ge 91 27 rfl rfl rfl (by decide) (by decide) (fun h => absurd h (by decide)) (fun _ => ?_)
            refine qr_aload_n 28 rfl rfl rfl ?_
            refine qr_get 31 rfl rfl rfl (by decide) rfl ?_
            refine qy_v 1 (by subst_vars; rfl) ?_
            refine qr_if_ne 91 34 rfl rfl rfl (by decide) (fun _ => ?_) (fun h => absurd h (by decide))
            refine qr_retV rfl rfl (by decide) (by decide) ?_
            show qr_W (qe L xs vb) (d + 7) qx_e20 _ (19, [(0, .ref 82), (1, .int (qz 0)), (2, .int (qz 0))], [], _, 0, 0)
            refine qr_iconst 20 rfl rfl ?_
            refine qr_istore_n [(3, .int (qz 0)), (0, .ref 82), (1, .int (qz 0)), (2, .int (qz 0))] 21 rfl (by decide) rfl rfl ?_
            refine qr_iload_n 22 rfl rfl rfl ?_
            refine qr_bipush 24 rfl (by decide) rfl ?_
            refine qr_icmp_ge 91 27 rfl rfl rfl (by decide) (by decide) (fun h => absurd h (by decide)) (fun _ => ?_)
            refine qr_aload_n 28 rfl rfl rfl ?_
            refine qr_get 31 rfl rfl rfl (by decide) rfl ?_
            refine qy_v 1 (by subst_vars; rfl) ?_
            refine qr_if_ne 91 34 rfl rfl rfl (by decide) (fun _ => ?_) (fun h => absurd h (by decide))
            refine qr_retV rfl rfl (by decide) (by decide) ?_
            show qr_W (qe L xs vb) (d + 8) qx_e19 _ (6, [(0, .ref 82)], [], _, 0, 0)
            refine qr_aload_n 7 rfl rfl rfl ?_
            refine qr_get 10 rfl rfl rfl (by decide) rfl ?_
            refine qy_v 1 (by subst_vars; rfl) ?_
            refine qr_if_ne 22 13 rfl rfl rfl (by decide) (fun _ => ?_) (fun h => absurd h (by decide))
            refine qr_aload_n 23 rfl rfl rfl ?_
            refine qr_bipush 25 rfl (by decide) rfl ?_
            refine qr_iconst 26 rfl rfl ?_
            refine qy_call 29 rfl rfl rfl ?_
            refine qr_start (d := d + 7) qv_e25 (Nat.le_of_ble_eq_true rfl) ?_
            show qr_W (qe L xs vb) (d + 7) qx_e25 _ (0, [(0, .ref 82), (1, .int (qz 59)), (2, .int (qz 0))], [], _, 0, 0)
            refine qr_aload_n 1 rfl rfl rfl ?_
            refine qr_get 4 rfl rfl rfl (by decide) rfl ?_
            refine qy_v 0 (by subst_vars; rfl) ?_
            refine qr_aload_n 5 rfl rfl rfl ?_
            refine qr_get 8 rfl rfl rfl (by decide) rfl ?_
            refine qr_alen 9 rfl rfl (by first | exact Or.inl (by decide) | exact Or.inr (Or.inl rfl) | exact Or.inr (Or.inr (Or.inl rfl)) | exact Or.inr (Or.inr (Or.inr (Or.inl rfl)))) rfl ?_
            refine qy_v 122 rfl ?_
            refine qr_icmp_lt 14 12 rfl rfl rfl (by decide) (by decide) (fun _ => ?_) (fun h => absurd h (by decide))
            refine qr_aload_n 15 rfl rfl rfl ?_
            refine qr_get 18 rfl rfl rfl (by decide) rfl ?_
            refine qr_aload_n 19 rfl rfl rfl ?_
            refine qr_get 22 rfl rfl rfl (by decide) rfl ?_
            refine qy_v 0 (by subst_vars; rfl) ?_
            refine qr_iload_n 23 rfl rfl rfl ?_
            refine qr_bipush 25 rfl (by decide) rfl ?_
            refine qr_ishl 26 rfl rfl ?_
            refine qy_v 3866624 rfl ?_
            refine qr_iload_n 27 rfl rfl rfl ?_
            refine qr_ior 28 rfl rfl ?_
            refine qy_v 3866624 rfl ?_
            refine qr_iastore 29 rfl (by decide) rfl (by omega) (by decide) rfl ?_
            refine qy_wA (qw_r (qo_r g) 84 (qzu ((qo_r g) 84) (0 : Int).toNat 3866624)) rfl (fun α25 e25 => ?_)
            refine qr_aload_n 30 rfl rfl rfl ?_
            refine qr_dup 31 rfl rfl rfl ?_
            refine qr_get 34 rfl rfl rfl (by decide) rfl ?_
            refine qy_v 0 (by subst_vars; rfl) ?_
            refine qr_dup_x1 35 rfl rfl rfl rfl ?_
            refine qr_iconst 36 rfl rfl ?_
            refine qr_iadd 37 rfl rfl ?_
            refine qy_v 1 rfl ?_
            refine qr_put 40 rfl (by decide) rfl (Nat.le_of_ble_eq_true rfl) (Nat.le_of_ble_eq_true rfl) (Or.inl rfl) (qr_fitI rfl _) rfl ?_
            refine qy_wS (qw_s σ24 82 5 1) rfl (fun σ26 e26 => ?_)
            refine qr_retI rfl rfl (by decide) (by decide) ?_
            show qr_W (qe L xs vb) (d + 8) qx_e19 _ (29, [(0, .ref 82)], [.int (qz 0)], _, 0, 0)
            refine qr_pop 30 rfl rfl rfl ?_
            refine qr_retV rfl rfl (by decide) (by decide) ?_
            show qr_W (qe L xs vb) (d + 9) qx_e18 _ (39, [(1, .int (qz 0)), (0, .ref 82)], [], _, 0, 0)
            refine qr_aload_n 40 rfl rfl rfl ?_
            as_aux_lemma =>
              refine qr_get 43 rfl rfl rfl (by decide) rfl ?_
              refine qy_v 1 (by subst_vars; rfl) ?_
              refine qr_if_ne 72 46 rfl rfl rfl (by decide) (fun _ => ?_) (fun h => absurd h (by decide))
              refine qr_aload_n 73 rfl rfl rfl ?_
              refine qr_get 76 rfl rfl rfl (by decide) rfl ?_
              refine qy_v 1 (by subst_vars; rfl) ?_
              refine qr_if_eq 86 79 rfl rfl rfl (by decide) (fun h => absurd h (by decide)) (fun _ => ?_)
              refine qr_aload_n 80 rfl rfl rfl ?_
              refine qr_get 83 rfl rfl rfl (by decide) rfl ?_
              refine qy_v 0 (by subst_vars; rfl) ?_
              refine qr_goto 87 rfl rfl ?_
              refine qr_retI rfl rfl (by decide) (by decide) ?_
              show qr_W (qe L xs vb) (d + 10) qx_e86 _ (36, [(0, .ref 82), (1, .ref 81), (2, .int (qz 0))], [.int (qz 0)], _, 0, 0)
              refine qr_retI rfl rfl (by decide) (by decide) ?_
              show qr_W (qe L xs vb) (d + 11) qx_e85 _ (26, [(0, .ref 16), (1, .int (qz 1))], [.int (qz 0)], _, 0, 0)
              refine qr_istore_n [(2, .int (qz 0)), (0, .ref 16), (1, .int (qz 1))] 27 rfl (by decide) rfl rfl ?_
              refine qr_aload_n 28 rfl rfl rfl ?_
              refine qr_iconst 29 rfl rfl ?_
              refine qr_put 32 rfl (by decide) rfl (Nat.le_of_ble_eq_true rfl) (Nat.le_of_ble_eq_true rfl) (Or.inl rfl) (qr_fitI rfl _) rfl ?_
              refine qy_wS (qw_s σ26 16 15 0) rfl (fun σ27 e27 => ?_)
              refine qr_iload_n 33 rfl rfl rfl ?_
              refine qr_if_lt 41 36 rfl rfl rfl (by decide) (fun h => absurd h (by decide)) (fun _ => ?_)
              refine qr_bipush 38 rfl (by decide) rfl ?_
              refine qr_iload_n 39 rfl rfl rfl ?_
              refine qr_isub 40 rfl rfl ?_
              refine qy_v (-100) rfl ?_
              refine qr_retI rfl rfl (by decide) (by decide) ?_
              refine ⟨⟨_, rfl⟩, ⟨_, _, _, _, rfl⟩, ?_⟩
              refine qr_start (d := d + 11) qv_e212 (Nat.le_of_ble_eq_true rfl) ?_
              show qr_W (qe L xs vb) (d + 11) qx_e212 _ (0, [(0, .ref 86), (1, .int (qz 1))], [], _, 0, 0)
              refine qr_iload_n 1 rfl rfl rfl ?_
              refine qr_i2l 2 rfl (by omega) rfl ?_
              refine qy_vl 1 rfl ?_
              refine qr_lconst 3 rfl rfl ?_
              refine qy_vl 0 rfl ?_
              refine qr_lconst 4 rfl rfl ?_
              refine qy_vl 1 rfl ?_
              refine qy_call 7 rfl rfl rfl ?_
              refine qr_start (d := d + 10) qv_e176 (Nat.le_of_ble_eq_true rfl) ?_
              show qr_W (qe L xs vb) (d + 10) qx_e176 _ (0, [(0, .long (ql 1)), (2, .long (ql 0)), (4, .long (ql 1))], [], _, 0, 0)
              refine qr_lload_n 1 rfl rfl rfl ?_
              refine qr_lload_n 2 rfl rfl rfl ?_
              refine qr_lc_lt 17 6 rfl rfl rfl rfl (by decide) (by decide) (fun h => absurd h (by decide)) (fun _ => ?_)
              refine qr_lload_n 7 rfl rfl rfl ?_
              refine qr_lload 9 rfl rfl rfl ?_
              refine qr_lc_gt 17 13 rfl rfl rfl rfl (by decide) (by decide) (fun h => absurd h (by decide)) (fun _ => ?_)
              refine qr_iconst 14 rfl rfl ?_
              refine qr_goto 18 rfl rfl ?_
              refine qr_retZ rfl rfl (by omega) (by decide) (by decide) ?_
              show qr_W (qe L xs vb) (d + 11) qx_e212 _ (7, [(0, .ref 86), (1, .int (qz 1))], [.int (qz 1)], _, 0, 0)
              refine qr_if_ne 12 10 rfl rfl rfl (by decide) (fun _ => ?_) (fun h => absurd h (by decide))
              refine qr_aload_n 13 rfl rfl rfl ?_
              refine qr_iconst 14 rfl rfl ?_
              refine qr_aload_n 15 rfl rfl rfl ?_
              refine qr_get 18 rfl rfl rfl (by decide) rfl ?_
              refine qy_v 0 (by subst_vars; rfl) ?_
              refine qy_call 21 rfl rfl rfl ?_
              refine qr_start (d := d + 10) qv_e213 (Nat.le_of_ble_eq_true rfl) ?_
              show qr_W (qe L xs vb) (d + 10) qx_e213 _ (0, [(0, .ref 86), (1, .int (qz (-1))), (2, .int (qz 0))], [], _, 0, 0)
              refine qr_aload_n 1 rfl rfl rfl ?_
              refine qr_iload_n 2 rfl rfl rfl ?_
              refine qr_put 5 rfl (by decide) rfl (Nat.le_of_ble_eq_true rfl) (Nat.le_of_ble_eq_true rfl) (Or.inl rfl) (qr_fitI rfl _) rfl ?_
              refine qy_wS (qw_s σ27 86 35 (-1)) rfl (fun σ28 e28 => ?_)
              refine qr_aload_n 6 rfl rfl rfl ?_
              refine qr_iconst 7 rfl rfl ?_
              refine qr_put 10 rfl (by decide) rfl (Nat.le_of_ble_eq_true rfl) (Nat.le_of_ble_eq_true rfl) (Or.inl rfl) (qr_fitI rfl _) rfl ?_
              refine qy_wS (qw_s σ28 86 36 0) rfl (fun σ29 e29 => ?_)
              refine qr_aload_n 11 rfl rfl rfl ?_
              refine qr_iload_n 12 rfl rfl rfl ?_
              refine qr_put 15 rfl (by decide) rfl (Nat.le_of_ble_eq_true rfl) (Nat.le_of_ble_eq_true rfl) (Or.inl rfl) (qr_fitI rfl _) rfl ?_
              refine qy_wS (qw_s σ29 86 37 0) rfl (fun σ30 e30 => ?_)
              refine qr_aload_n 16 rfl rfl rfl ?_
              refine qr_iconst 17 rfl rfl ?_
              refine qr_put 20 rfl (by decide) rfl (Nat.le_of_ble_eq_true rfl) (Nat.le_of_ble_eq_true rfl) (Or.inl rfl) (qr_fitI rfl _) rfl ?_
              refine qy_wS (qw_s σ30 86 38 (-1)) rfl (fun σ31 e31 => ?_)
              refine qr_aload_n 21 rfl rfl rfl ?_
              refine qr_iconst 22 rfl rfl ?_
              refine qr_put 25 rfl (by decide) rfl (Nat.le_of_ble_eq_true rfl) (Nat.le_of_ble_eq_true rfl) (Or.inl rfl) (qr_fitI rfl _) rfl ?_
              refine qy_wS (qw_s σ31 86 39 0) rfl (fun σ32 e32 => ?_)
              refine qr_iconst 26 rfl rfl ?_
              refine qr_istore_n [(3, .int (qz 0)), (0, .ref 86), (1, .int (qz (-1))), (2, .int (qz 0))] 27 rfl (by decide) rfl rfl ?_
              refine qr_iconst 28 rfl rfl ?_
              refine qr_istore [(4, .int (qz 0)), (3, .int (qz 0)), (0, .ref 86), (1, .int (qz (-1))), (2, .int (qz 0))] 30 rfl (by decide) rfl rfl ?_
              refine qr_iconst 31 rfl rfl ?_
              refine qr_istore [(5, .int (qz 1)), (4, .int (qz 0)), (3, .int (qz 0)), (0, .ref 86), (1, .int (qz (-1))), (2, .int (qz 0))] 33 rfl (by decide) rfl rfl ?_
              as_aux_lemma =>
                refine qr_iload 35 rfl rfl rfl ?_
                refine qr_if_eq 107 38 rfl rfl rfl (by decide) (fun h => absurd h (by decide)) (fun _ => ?_)
                refine qr_aload_n 39 rfl rfl rfl ?_
                refine qy_call 42 rfl rfl rfl ?_
                refine qr_start (d := d + 9) qv_e214 (Nat.le_of_ble_eq_true rfl) ?_
                show qr_W (qe L xs vb) (d + 9) qx_e214 _ (0, [(0, .ref 86)], [], _, 0, 0)
                refine qr_aload_n 1 rfl rfl rfl ?_
                refine qy_call 4 rfl rfl rfl ?_
                refine qr_start (d := d + 8) qv_e215 (Nat.le_of_ble_eq_true rfl) ?_
                show qr_W (qe L xs vb) (d + 8) qx_e215 _ (0, [(0, .ref 86)], [], _, 0, 0)
                refine qr_aload_n 1 rfl rfl rfl ?_
                refine qy_call 4 rfl rfl rfl ?_
                refine qr_start (d := d + 7) qv_e216 (Nat.le_of_ble_eq_true rfl) ?_
                show qr_W (qe L xs vb) (d + 7) qx_e216 _ (0, [(0, .ref 86)], [], _, 0, 0)
                refine qr_aload_n 1 rfl rfl rfl ?_
                refine qy_call 4 rfl rfl rfl ?_
                refine qr_start (d := d + 6) qv_e217 (Nat.le_of_ble_eq_true rfl) ?_
                show qr_W (qe L xs vb) (d + 6) qx_e217 _ (0, [(0, .ref 86)], [], _, 0, 0)
                refine qr_aload_n 1 rfl rfl rfl ?_
                refine qy_call 4 rfl rfl rfl ?_
                refine qr_start (d := d + 5) qv_e218 (Nat.le_of_ble_eq_true rfl) ?_
                show qr_W (qe L xs vb) (d + 5) qx_e218 _ (0, [(0, .ref 86)], [], _, 0, 0)
                refine qr_aload_n 1 rfl rfl rfl ?_
                refine qy_call 4 rfl rfl rfl ?_
                refine qr_start (d := d + 4) qv_e219 (Nat.le_of_ble_eq_true rfl) ?_
                show qr_W (qe L xs vb) (d + 4) qx_e219 _ (0, [(0, .ref 86)], [], _, 0, 0)
                refine qr_aload_n 1 rfl rfl rfl ?_
                refine qr_get 4 rfl rfl rfl (by decide) rfl ?_
                refine qy_v (-1) (by subst_vars; rfl) ?_
                refine qr_if_lt 9 7 rfl rfl rfl (by decide) (fun _ => ?_) (fun h => absurd h (by decide))
                refine qr_aload_n 10 rfl rfl rfl ?_
                refine qy_call 13 rfl rfl rfl ?_
                refine qr_start (d := d + 3) qv_e220 (Nat.le_of_ble_eq_true rfl) ?_
                show qr_W (qe L xs vb) (d + 3) qx_e220 _ (0, [(0, .ref 86)], [], _, 0, 0)
                refine qr_aload_n 1 rfl rfl rfl ?_
                refine qr_get 4 rfl rfl rfl (by decide) rfl ?_
                refine qy_v 0 (by subst_vars; rfl) ?_
                refine qr_aload_n 5 rfl rfl rfl ?_
                refine qr_get 8 rfl rfl rfl (by decide) rfl ?_
                refine qy_v 0 (by subst_vars; rfl) ?_
                refine qr_icmp_ge 47 11 rfl rfl rfl (by decide) (by decide) (fun _ => ?_) (fun h => absurd h (by decide))
                refine qr_iconst 48 rfl rfl ?_
                refine qr_retI rfl rfl (by decide) (by decide) ?_
                show qr_W (qe L xs vb) (d + 4) qx_e219 _ (13, [(0, .ref 86)], [.int (qz 0)], _, 0, 0)
                refine qr_istore_n [(1, .int (qz 0)), (0, .ref 86)] 14 rfl (by decide) rfl rfl ?_
                refine qr_iload_n 15 rfl rfl rfl ?_
                refine qr_bipush 17 rfl (by decide) rfl ?_
                refine qr_icmp_eq 32 20 rfl rfl rfl (by decide) (by decide) (fun h => absurd h (by decide)) (fun _ => ?_)
                refine qr_iload_n 21 rfl rfl rfl ?_
                refine qr_bipush 23 rfl (by decide) rfl ?_
                refine qr_icmp_eq 32 26 rfl rfl rfl (by decide) (by decide) (fun h => absurd h (by decide)) (fun _ => ?_)
                refine qr_iload_n 27 rfl rfl rfl ?_
                refine qr_bipush 29 rfl (by decide) rfl ?_
                refine qr_icmp_ne 145 32 rfl rfl rfl (by decide) (by decide) (fun _ => ?_) (fun h => absurd h (by decide))
                refine qr_iload_n 146 rfl rfl rfl ?_
                refine qy_call 149 rfl rfl rfl ?_
                refine qr_start (d := d + 3) qv_e223 (Nat.le_of_ble_eq_true rfl) ?_
                show qr_W (qe L xs vb) (d + 3) qx_e223 _ (0, [(0, .int (qz 0))], [], _, 0, 0)
                refine qr_iload_n 1 rfl rfl rfl ?_
                refine qr_tabOut 121 rfl (by decide) (by decide) rfl ?_
                refine qr_iconst 122 rfl rfl ?_
                refine qr_retI rfl rfl (by decide) (by decide) ?_
                show qr_W (qe L xs vb) (d + 4) qx_e219 _ (149, [(1, .int (qz 0)), (0, .ref 86)], [.int (qz (-1))], _, 0, 0)
                refine qr_istore_n [(2, .int (qz (-1))), (1, .int (qz 0)), (0, .ref 86)] 150 rfl (by decide) rfl rfl ?_
                refine qr_iload_n 151 rfl rfl rfl ?_
                refine qr_if_lt 171 154 rfl rfl rfl (by decide) (fun _ => ?_) (fun h => absurd h (by decide))
                refine qr_iconst 172 rfl rfl ?_
                refine qr_istore_n [(3, .int (qz 0)), (2, .int (qz (-1))), (1, .int (qz 0)), (0, .ref 86)] 173 rfl (by decide) rfl rfl ?_
                refine qr_iconst 174 rfl rfl ?_
                refine qr_istore [(4, .int (qz 0)), (3, .int (qz 0)), (2, .int (qz (-1))), (1, .int (qz 0)), (0, .ref 86)] 176 rfl (by decide) rfl rfl ?_
                refine qr_iload 178 rfl rfl rfl ?_
                refine qr_iconst 179 rfl rfl ?_
                refine qr_icmp_ge 229 182 rfl rfl rfl (by decide) (by decide) (fun h => absurd h (by decide)) (fun _ => ?_)
                refine qr_aload_n 183 rfl rfl rfl ?_
                refine qy_call 186 rfl rfl rfl ?_
                refine qr_start (d := d + 3) qv_e220 (Nat.le_of_ble_eq_true rfl) ?_
                show qr_W (qe L xs vb) (d + 3) qx_e220 _ (0, [(0, .ref 86)], [], _, 0, 0)
                refine qr_aload_n 1 rfl rfl rfl ?_
                refine qr_get 4 rfl rfl rfl (by decide) rfl ?_
                refine qy_v 0 (by subst_vars; rfl) ?_
                refine qr_aload_n 5 rfl rfl rfl ?_
                refine qr_get 8 rfl rfl rfl (by decide) rfl ?_
                refine qy_v 0 (by subst_vars; rfl) ?_
                refine qr_icmp_ge 47 11 rfl rfl rfl (by decide) (by decide) (fun _ => ?_) (fun h => absurd h (by decide))
                refine qr_iconst 48 rfl rfl ?_
                refine qr_retI rfl rfl (by decide) (by decide) ?_
                show qr_W (qe L xs vb) (d + 4) qx_e219 _ (186, [(4, .int (qz 0)), (3, .int (qz 0)), (2, .int (qz (-1))), (1, .int (qz 0)), (0, .ref 86)], [.int (qz 0)], _, 0, 0)
                as_aux_lemma =>
                  refine qr_bipush 188 rfl (by decide) rfl ?_
                  refine qr_icmp_lt 229 191 rfl rfl rfl (by decide) (by decide) (fun _ => ?_) (fun h => absurd h (by decide))
                  refine qr_iload 231 rfl rfl rfl ?_
                  refine qr_if_ne 241 234 rfl rfl rfl (by decide) (fun h => absurd h (by decide)) (fun _ => ?_)
                  refine qr_aload_n 235 rfl rfl rfl ?_
                  refine qy_call 238 rfl rfl rfl ?_
                  refine qr_start (d := d + 3) qv_e221 (Nat.le_of_ble_eq_true rfl) ?_
                  show qr_W (qe L xs vb) (d + 3) qx_e221 _ (0, [(0, .ref 86)], [], _, 0, 0)
                  refine qr_aload_n 1 rfl rfl rfl ?_
                  refine qr_aload_n 2 rfl rfl rfl ?_
                  refine qr_get 5 rfl rfl rfl (by decide) rfl ?_
                  refine qy_v (-1) (by subst_vars; rfl) ?_
                  refine qr_if_ge 15 8 rfl rfl rfl (by decide) (fun h => absurd h (by decide)) (fun _ => ?_)
                  refine qr_aload_n 9 rfl rfl rfl ?_
                  refine qr_get 12 rfl rfl rfl (by decide) rfl ?_
                  refine qy_v 0 (by subst_vars; rfl) ?_
                  refine qr_goto 19 rfl rfl ?_
                  refine qr_put 22 rfl (by decide) rfl (Nat.le_of_ble_eq_true rfl) (Nat.le_of_ble_eq_true rfl) (Or.inl rfl) (qr_fitI rfl _) rfl ?_
                  refine qy_wS (qw_s σ32 86 38 0) rfl (fun σ33 e33 => ?_)
                  refine qr_iconst 23 rfl rfl ?_
                  refine qr_retI rfl rfl (by decide) (by decide) ?_
                  show qr_W (qe L xs vb) (d + 4) qx_e219 _ (238, [(4, .int (qz 0)), (3, .int (qz 0)), (2, .int (qz (-1))), (1, .int (qz 0)), (0, .ref 86)], [.int (qz 0)], _, 0, 0)
                  refine qr_goto 242 rfl rfl ?_
                  refine qr_retI rfl rfl (by decide) (by decide) ?_
                  show qr_W (qe L xs vb) (d + 5) qx_e218 _ (4, [(0, .ref 86)], [.int (qz 0)], _, 0, 0)
                  refine qr_istore_n [(1, .int (qz 0)), (0, .ref 86)] 5 rfl (by decide) rfl rfl ?_
                  refine qr_aload_n 6 rfl rfl rfl ?_
                  refine qy_call 9 rfl rfl rfl ?_
                  refine qr_start (d := d + 4) qv_e220 (Nat.le_of_ble_eq_true rfl) ?_
                  show qr_W (qe L xs vb) (d + 4) qx_e220 _ (0, [(0, .ref 86)], [], _, 0, 0)
                  refine qr_aload_n 1 rfl rfl rfl ?_
                  refine qr_get 4 rfl rfl rfl (by decide) rfl ?_
                  refine qy_v 0 (by subst_vars; rfl) ?_
                  refine qr_aload_n 5 rfl rfl rfl ?_
                  refine qr_get 8 rfl rfl rfl (by decide) rfl ?_
                  refine qy_v 0 (by subst_vars; rfl) ?_
                  refine qr_icmp_ge 47 11 rfl rfl rfl (by decide) (by decide) (fun _ => ?_) (fun h => absurd h (by decide))
                  refine qr_iconst 48 rfl rfl ?_
                  refine qr_retI rfl rfl (by decide) (by decide) ?_
                  show qr_W (qe L xs vb) (d + 5) qx_e218 _ (9, [(1, .int (qz 0)), (0, .ref 86)], [.int (qz 0)], _, 0, 0)
                  refine qr_istore_n [(2, .int (qz 0)), (1, .int (qz 0)), (0, .ref 86)] 10 rfl (by decide) rfl rfl ?_
                  refine qr_aload_n 11 rfl rfl rfl ?_
                  refine qr_get 14 rfl rfl rfl (by decide) rfl ?_
                  refine qy_v 0 (by subst_vars; rfl) ?_
                  refine qr_if_ge 94 17 rfl rfl rfl (by decide) (fun _ => ?_) (fun h => absurd h (by decide))
                  refine qr_iload_n 95 rfl rfl rfl ?_
                  refine qr_retI rfl rfl (by decide) (by decide) ?_
                  show qr_W (qe L xs vb) (d + 6) qx_e217 _ (4, [(0, .ref 86)], [.int (qz 0)], _, 0, 0)
                  refine qr_istore_n [(1, .int (qz 0)), (0, .ref 86)] 5 rfl (by decide) rfl rfl ?_
                  refine qr_aload_n 6 rfl rfl rfl ?_
                  refine qr_get 9 rfl rfl rfl (by decide) rfl ?_
                  refine qy_v 0 (by subst_vars; rfl) ?_
                  refine qr_if_ge 77 12 rfl rfl rfl (by decide) (fun _ => ?_) (fun h => absurd h (by decide))
                  refine qr_iload_n 78 rfl rfl rfl ?_
                  refine qr_retI rfl rfl (by decide) (by decide) ?_
                  show qr_W (qe L xs vb) (d + 7) qx_e216 _ (4, [(0, .ref 86)], [.int (qz 0)], _, 0, 0)
                  refine qr_istore_n [(1, .int (qz 0)), (0, .ref 86)] 5 rfl (by decide) rfl rfl ?_
                  refine qr_aload_n 6 rfl rfl rfl ?_
                  refine qy_call 9 rfl rfl rfl ?_
                  refine qr_start (d := d + 6) qv_e220 (Nat.le_of_ble_eq_true rfl) ?_
                  show qr_W (qe L xs vb) (d + 6) qx_e220 _ (0, [(0, .ref 86)], [], _, 0, 0)
                  refine qr_aload_n 1 rfl rfl rfl ?_
                  refine qr_get 4 rfl rfl rfl (by decide) rfl ?_
                  refine qy_v 0 (by subst_vars; rfl) ?_
                  refine qr_aload_n 5 rfl rfl rfl ?_
                  refine qr_get 8 rfl rfl rfl (by decide) rfl ?_
                  refine qy_v 0 (by subst_vars; rfl) ?_
                  refine qr_icmp_ge 47 11 rfl rfl rfl (by decide) (by decide) (fun _ => ?_) (fun h => absurd h (by decide))
                  refine qr_iconst 48 rfl rfl ?_
                  refine qr_retI rfl rfl (by decide) (by decide) ?_
                  show qr_W (qe L xs vb) (d + 7) qx_e216 _ (9, [(1, .int (qz 0)), (0, .ref 86)], [.int (qz 0)], _, 0, 0)
                  refine qr_istore_n [(2, .int (qz 0)), (1, .int (qz 0)), (0, .ref 86)] 10 rfl (by decide) rfl rfl ?_
                  refine qr_aload_n 11 rfl rfl rfl ?_
                  refine qr_get 14 rfl rfl rfl (by decide) rfl ?_
                  refine qy_v 0 (by subst_vars; rfl) ?_
                  refine qr_if_ge 35 17 rfl rfl rfl (by decide) (fun _ => ?_) (fun h => absurd h (by decide))
                  refine qr_iload_n 36 rfl rfl rfl ?_
                  refine qr_retI rfl rfl (by decide) (by decide) ?_
                  show qr_W (qe L xs vb) (d + 8) qx_e215 _ (4, [(0, .ref 86)], [.int (qz 0)], _, 0, 0)
                  refine qr_istore_n [(1, .int (qz 0)), (0, .ref 86)] 5 rfl (by decide) rfl rfl ?_
                  refine qr_aload_n 6 rfl rfl rfl ?_
                  refine qr_bipush 8 rfl (by decide) rfl ?_
                  refine qy_call 11 rfl rfl rfl ?_
                  refine qr_start (d := d + 7) qv_e222 (Nat.le_of_ble_eq_true rfl) ?_
                  show qr_W (qe L xs vb) (d + 7) qx_e222 _ (0, [(0, .ref 86), (1, .int (qz 38))], [], _, 0, 0)
                  refine qr_aload_n 1 rfl rfl rfl ?_
                  as_aux_lemma =>
                    refine qr_get 4 rfl rfl rfl (by decide) rfl ?_
                    refine qy_v 0 (by subst_vars; rfl) ?_
                    refine qr_if_ge 15 7 rfl rfl rfl (by decide) (fun _ => ?_) (fun h => absurd h (by decide))
                    refine qr_iconst 16 rfl rfl ?_
                    refine qr_retZ rfl rfl (by omega) (by decide) (by decide) ?_
                    show qr_W (qe L xs vb) (d + 8) qx_e215 _ (11, [(1, .int (qz 0)), (0, .ref 86)], [.int (qz 0)], _, 0, 0)
                    refine qr_if_eq 36 14 rfl rfl rfl (by decide) (fun _ => ?_) (fun h => absurd h (by decide))
                    refine qr_iload_n 37 rfl rfl rfl ?_
                    refine qr_retI rfl rfl (by decide) (by decide) ?_
                    show qr_W (qe L xs vb) (d + 9) qx_e214 _ (4, [(0, .ref 86)], [.int (qz 0)], _, 0, 0)
                    refine qr_istore_n [(1, .int (qz 0)), (0, .ref 86)] 5 rfl (by decide) rfl rfl ?_
                    refine qr_aload_n 6 rfl rfl rfl ?_
                    refine qr_bipush 8 rfl (by decide) rfl ?_
                    refine qy_call 11 rfl rfl rfl ?_
                    refine qr_start (d := d + 8) qv_e222 (Nat.le_of_ble_eq_true rfl) ?_
                    show qr_W (qe L xs vb) (d + 8) qx_e222 _ (0, [(0, .ref 86), (1, .int (qz 124))], [], _, 0, 0)
                    refine qr_aload_n 1 rfl rfl rfl ?_
                    refine qr_get 4 rfl rfl rfl (by decide) rfl ?_
                    refine qy_v 0 (by subst_vars; rfl) ?_
                    refine qr_if_ge 15 7 rfl rfl rfl (by decide) (fun _ => ?_) (fun h => absurd h (by decide))
                    refine qr_iconst 16 rfl rfl ?_
                    refine qr_retZ rfl rfl (by omega) (by decide) (by decide) ?_
                    show qr_W (qe L xs vb) (d + 9) qx_e214 _ (11, [(1, .int (qz 0)), (0, .ref 86)], [.int (qz 0)], _, 0, 0)
                    refine qr_if_eq 36 14 rfl rfl rfl (by decide) (fun _ => ?_) (fun h => absurd h (by decide))
                    refine qr_iload_n 37 rfl rfl rfl ?_
                    refine qr_retI rfl rfl (by decide) (by decide) ?_
                    show qr_W (qe L xs vb) (d + 10) qx_e213 _ (42, [(5, .int (qz 1)), (4, .int (qz 0)), (3, .int (qz 0)), (0, .ref 86), (1, .int (qz (-1))), (2, .int (qz 0))], [.int (qz 0)], _, 0, 0)
                    refine qr_istore [(6, .int (qz 0)), (5, .int (qz 1)), (4, .int (qz 0)), (3, .int (qz 0)), (0, .ref 86), (1, .int (qz (-1))), (2, .int (qz 0))] 44 rfl (by decide) rfl rfl ?_
                    refine qr_iconst 45 rfl rfl ?_
                    refine qr_istore [(7, .int (qz 1)), (6, .int (qz 0)), (5, .int (qz 1)), (4, .int (qz 0)), (3, .int (qz 0)), (0, .ref 86), (1, .int (qz (-1))), (2, .int (qz 0))] 47 rfl (by decide) rfl rfl ?_
                    refine qr_aload_n 48 rfl rfl rfl ?_
                    refine qr_bipush 50 rfl (by decide) rfl ?_
                    refine qy_call 53 rfl rfl rfl ?_
                    refine qr_start (d := d + 9) qv_e222 (Nat.le_of_ble_eq_true rfl) ?_
                    show qr_W (qe L xs vb) (d + 9) qx_e222 _ (0, [(0, .ref 86), (1, .int (qz 63))], [], _, 0, 0)
                    refine qr_aload_n 1 rfl rfl rfl ?_
                    refine qr_get 4 rfl rfl rfl (by decide) rfl ?_
                    refine qy_v 0 (by subst_vars; rfl) ?_
                    refine qr_if_ge 15 7 rfl rfl rfl (by decide) (fun _ => ?_) (fun h => absurd h (by decide))
                    refine qr_iconst 16 rfl rfl ?_
                    refine qr_retZ rfl rfl (by omega) (by decide) (by decide) ?_
                    show qr_W (qe L xs vb) (d + 10) qx_e213 _ (53, [(7, .int (qz 1)), (6, .int (qz 0)), (5, .int (qz 1)), (4, .int (qz 0)), (3, .int (qz 0)), (0, .ref 86), (1, .int (qz (-1))), (2, .int (qz 0))], [.int (qz 0)], _, 0, 0)
                    refine qr_if_eq 74 56 rfl rfl rfl (by decide) (fun _ => ?_) (fun h => absurd h (by decide))
                    refine qr_aload_n 75 rfl rfl rfl ?_
                    refine qr_get 78 rfl rfl rfl (by decide) rfl ?_
                    refine qy_v 0 (by subst_vars; rfl) ?_
                    refine qr_if_ge 96 81 rfl rfl rfl (by decide) (fun _ => ?_) (fun h => absurd h (by decide))
                    refine qr_aload_n 97 rfl rfl rfl ?_
                    refine qr_bipush 99 rfl (by decide) rfl ?_
                    refine qy_call 102 rfl rfl rfl ?_
                    refine qr_start (d := d + 9) qv_e222 (Nat.le_of_ble_eq_true rfl) ?_
                    show qr_W (qe L xs vb) (d + 9) qx_e222 _ (0, [(0, .ref 86), (1, .int (qz 59))], [], _, 0, 0)
                    refine qr_aload_n 1 rfl rfl rfl ?_
                    refine qr_get 4 rfl rfl rfl (by decide) rfl ?_
                    refine qy_v 0 (by subst_vars; rfl) ?_
                    refine qr_if_ge 15 7 rfl rfl rfl (by decide) (fun _ => ?_) (fun h => absurd h (by decide))
                    refine qr_iconst 16 rfl rfl ?_
                    refine qr_retZ rfl rfl (by omega) (by decide) (by decide) ?_
                    show qr_W (qe L xs vb) (d + 10) qx_e213 _ (102, [(7, .int (qz 1)), (6, .int (qz 0)), (5, .int (qz 1)), (4, .int (qz 0)), (3, .int (qz 0)), (0, .ref 86), (1, .int (qz (-1))), (2, .int (qz 0))], [.int (qz 0)], _, 0, 0)
                    refine qr_istore [(5, .int (qz 0)), (7, .int (qz 1)), (6, .int (qz 0)), (4, .int (qz 0)), (3, .int (qz 0)), (0, .ref 86), (1, .int (qz (-1))), (2, .int (qz 0))] 104 rfl (by decide) rfl rfl ?_
                    refine qr_goto 33 rfl rfl ?_
                    refine qr_iload 35 rfl rfl rfl ?_
                    refine qr_if_eq 107 38 rfl rfl rfl (by decide) (fun _ => ?_) (fun h => absurd h (by decide))
                    refine qr_aload_n 108 rfl rfl rfl ?_
                    refine qr_get 111 rfl rfl rfl (by decide) rfl ?_
                    refine qy_v 0 (by subst_vars; rfl) ?_
                    refine qr_if_ge 130 114 rfl rfl rfl (by decide) (fun _ => ?_) (fun h => absurd h (by decide))
                    refine qr_iload 132 rfl rfl rfl ?_
                    refine qr_retI rfl rfl (by decide) (by decide) ?_
                    show qr_W (qe L xs vb) (d + 11) qx_e212 _ (21, [(0, .ref 86), (1, .int (qz 1))], [.int (qz 0)], _, 0, 0)
                    refine qr_istore_n [(2, .int (qz 0)), (0, .ref 86), (1, .int (qz 1))] 22 rfl (by decide) rfl rfl ?_
                    refine qr_aload_n 23 rfl rfl rfl ?_
                    refine qr_get 26 rfl rfl rfl (by decide) rfl ?_
                    refine qy_v 0 (by subst_vars; rfl) ?_
                    refine qr_istore_n [(3, .int (qz 0)), (2, .int (qz 0)), (0, .ref 86), (1, .int (qz 1))] 27 rfl (by decide) rfl rfl ?_
                    refine qr_aload_n 28 rfl rfl rfl ?_
                    refine qr_iconst 29 rfl rfl ?_
                    refine qr_put 32 rfl (by decide) rfl (Nat.le_of_ble_eq_true rfl) (Nat.le_of_ble_eq_true rfl) (Or.inl rfl) (qr_fitI rfl _) rfl ?_
                    refine qy_wS (qw_s σ33 86 32 0) rfl (fun σ34 e34 => ?_)
                    refine qr_aload_n 33 rfl rfl rfl ?_
                    refine qr_get 36 rfl rfl rfl (by decide) rfl ?_
                    refine qy_v 0 (by subst_vars; rfl) ?_
                    refine qr_if_lt 47 39 rfl rfl rfl (by decide) (fun h => absurd h (by decide)) (fun _ => ?_)
                    as_aux_lemma =>
                      refine qr_bipush 41 rfl (by decide) rfl ?_
                      refine qr_aload_n 42 rfl rfl rfl ?_
                      refine qr_get 45 rfl rfl rfl (by decide) rfl ?_
                      refine qy_v 0 (by subst_vars; rfl) ?_
                      refine qr_isub 46 rfl rfl ?_
                      refine qy_v (-100) rfl ?_
                      refine qr_retI rfl rfl (by decide) (by decide) ?_
                      exact rfl
    · skip
      refine qr_iconst 10 rfl rfl ?_
      refine qr_retI rfl rfl (by decide) (by decide) ?_
      refine ⟨⟨_, rfl⟩, ⟨_, _, _, _, rfl⟩, ?_⟩
      refine qr_start (d := d + 11) qv_e212 (Nat.le_of_ble_eq_true rfl) ?_
      show qr_W (qe L xs vb) (d + 11) qx_e212 _ (0, [(0, .ref 86), (1, .int (qz x0))], [], _, 0, 0)
      refine qr_iload_n 1 rfl rfl rfl ?_
      refine qr_i2l 2 rfl (by omega) rfl ?_
      refine qr_lconst 3 rfl rfl ?_
      refine qy_vl 0 rfl ?_
      refine qr_lconst 4 rfl rfl ?_
      refine qy_vl 1 rfl ?_
      refine qy_call 7 rfl rfl rfl ?_
      refine qr_start (d := d + 10) qv_e176 (Nat.le_of_ble_eq_true rfl) ?_
      show qr_W (qe L xs vb) (d + 10) qx_e176 _ (0, [(0, .long (ql x0)), (2, .long (ql 0)), (4, .long (ql 1))], [], _, 0, 0)
      refine qr_lload_n 1 rfl rfl rfl ?_
      refine qr_lload_n 2 rfl rfl rfl ?_
      refine qr_lc_lt 17 6 rfl rfl rfl rfl (by omega) (by decide) (fun h35 => ?_) (fun h35 => ?_)
      · skip
        refine qr_iconst 18 rfl rfl ?_
        refine qr_retZ rfl rfl (by omega) (by decide) (by decide) ?_
        show qr_W (qe L xs vb) (d + 11) qx_e212 _ (7, [(0, .ref 86), (1, .int (qz x0))], [.int (qz 0)], _, 0, 0)
        refine qr_if_ne 12 10 rfl rfl rfl (by decide) (fun h => absurd h (by decide)) (fun _ => ?_)
        refine qr_iconst 11 rfl rfl ?_
        refine qr_retI rfl rfl (by decide) (by decide) ?_
        exact rfl
      · skip
        refine qr_lload_n 7 rfl rfl rfl ?_
        refine qr_lload 9 rfl rfl rfl ?_
        refine qr_lc_gt 17 13 rfl rfl rfl rfl (by omega) (by decide) (fun h36 => ?_) (fun h => False.elim (by omega))
        refine qr_iconst 18 rfl rfl ?_
        refine qr_retZ rfl rfl (by omega) (by decide) (by decide) ?_
        show qr_W (qe L xs vb) (d + 11) qx_e212 _ (7, [(0, .ref 86), (1, .int (qz x0))], [.int (qz 0)], _, 0, 0)
        refine qr_if_ne 12 10 rfl rfl rfl (by decide) (fun h => absurd h (by decide)) (fun _ => ?_)
        refine qr_iconst 11 rfl rfl ?_
        refine qr_retI rfl rfl (by decide) (by decide) ?_
        exact rfl

