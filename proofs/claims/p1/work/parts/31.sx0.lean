set_option maxHeartbeats 8000000 in
set_option maxRecDepth 20000 in
/-- together on the fresh objects: both answer alike -/
theorem sx_together {L : Nat} {xs : Nat → Int} {vb : Bool} {d : Nat} {s g : Nat → Nat → Int} {x0 : Int} {x1 : Int} {x2 : Int} (hok : qo_ok s g) (rx0 : -9223372036854775808 ≤ x0 ∧ x0 ≤ 9223372036854775807) (rx1 : -2147483648 ≤ x1 ∧ x1 ≤ 2147483647) (rx2 : -2147483648 ≤ x2 ∧ x2 ≤ 2147483647) : qm_T (qe L xs vb) (d + 4) 99 [.ref 16, .long (ql x0), .int (qz x1), .int (qz x2)] (qw (qo_s s) (qo_r g) qo_k 82) (fun r w => (∃ y : Int, r = some (.int (qz y))) ∧ (∃ σ α κ ρ, w = qw σ α κ ρ) ∧ qm_T (qe L xs vb) (d + 4) 229 [.ref 86, .long (ql x0), .int (qz x1), .int (qz x2)] w (fun r' _ => r' = r)) := by
  refine qr_start (d := d + 3) qv_e99 (Nat.le_of_ble_eq_true rfl) ?_
  show qr_W (qe L xs vb) (d + 3) qx_e99 _ (0, [(0, .ref 16), (1, .long (ql x0)), (3, .int (qz x1)), (4, .int (qz x2))], [], _, 0, 0)
  refine qr_aload_n 1 rfl rfl rfl ?_
  refine qr_get 4 rfl rfl rfl (by decide) rfl ?_
  refine qr_lload_n 5 rfl rfl rfl ?_
  refine qy_call 8 rfl rfl rfl ?_
  refine qr_start (d := d + 2) qv_e88 (Nat.le_of_ble_eq_true rfl) ?_
  show qr_W (qe L xs vb) (d + 2) qx_e88 _ (0, [(0, .ref 17), (1, .long (ql x0))], [], _, 0, 0)
  refine qr_lload_n 1 rfl rfl rfl ?_
  refine qr_lconst 2 rfl rfl ?_
  refine qy_vl 0 rfl ?_
  refine qr_lc_lt 21 6 rfl rfl rfl rfl (by omega) (by decide) (fun h1 => ?_) (fun h1 => ?_)
  · skip
    refine qr_iconst 22 rfl rfl ?_
    refine qr_retZ rfl rfl (by omega) (by decide) (by decide) ?_
    show qr_W (qe L xs vb) (d + 3) qx_e99 _ (8, [(0, .ref 16), (1, .long (ql x0)), (3, .int (qz x1)), (4, .int (qz x2))], [.int (qz 0)], _, 0, 0)
    refine qr_if_eq 29 11 rfl rfl rfl (by decide) (fun _ => ?_) (fun h => absurd h (by decide))
    refine qr_iconst 30 rfl rfl ?_
    refine qr_retI rfl rfl (by decide) (by decide) ?_
    refine ⟨⟨_, rfl⟩, ⟨_, _, _, _, rfl⟩, ?_⟩
    refine qr_start (d := d + 3) qv_e229 (Nat.le_of_ble_eq_true rfl) ?_
    show qr_W (qe L xs vb) (d + 3) qx_e229 _ (0, [(0, .ref 86), (1, .long (ql x0)), (3, .int (qz x1)), (4, .int (qz x2))], [], _, 0, 0)
    refine qr_aload_n 1 rfl rfl rfl ?_
    refine qr_lload_n 2 rfl rfl rfl ?_
    refine qy_call 5 rfl rfl rfl ?_
    refine qr_start (d := d + 2) qv_e225 (Nat.le_of_ble_eq_true rfl) ?_
    show qr_W (qe L xs vb) (d + 2) qx_e225 _ (0, [(0, .ref 86), (1, .long (ql x0))], [], _, 0, 0)
    refine qr_lload_n 1 rfl rfl rfl ?_
    refine qr_lconst 2 rfl rfl ?_
    refine qy_vl 0 rfl ?_
    refine qr_lc_lt 21 6 rfl rfl rfl rfl (by omega) (by decide) (fun h2 => ?_) (fun h => False.elim (by omega))
    refine qr_iconst 22 rfl rfl ?_
    refine qr_retZ rfl rfl (by omega) (by decide) (by decide) ?_
    show qr_W (qe L xs vb) (d + 3) qx_e229 _ (5, [(0, .ref 86), (1, .long (ql x0)), (3, .int (qz x1)), (4, .int (qz x2))], [.int (qz 0)], _, 0, 0)
    refine qr_if_eq 28 8 rfl rfl rfl (by decide) (fun _ => ?_) (fun h => absurd h (by decide))
    refine qr_iconst 29 rfl rfl ?_
    refine qr_retI rfl rfl (by decide) (by decide) ?_
    exact rfl
  · skip
    refine qr_lload_n 7 rfl rfl rfl ?_
    refine qr_aload_n 8 rfl rfl rfl ?_
    refine qr_get 11 rfl rfl rfl (by decide) rfl ?_
    refine qy_v 0 rfl ?_
    refine qr_lushr 12 rfl rfl ?_
    refine qy_vl x0 (ql_ushr0 (by omega)) ?_
    refine qr_lconst 13 rfl rfl ?_
    refine qy_vl 0 rfl ?_
    refine qr_lc_ne 21 17 rfl rfl rfl rfl (by omega) (by decide) (fun h3 => ?_) (fun h3 => ?_)
    · skip
      refine qr_iconst 22 rfl rfl ?_
      refine qr_retZ rfl rfl (by omega) (by decide) (by decide) ?_
      show qr_W (qe L xs vb) (d + 3) qx_e99 _ (8, [(0, .ref 16), (1, .long (ql x0)), (3, .int (qz x1)), (4, .int (qz x2))], [.int (qz 0)], _, 0, 0)
      refine qr_if_eq 29 11 rfl rfl rfl (by decide) (fun _ => ?_) (fun h => absurd h (by decide))
      refine qr_iconst 30 rfl rfl ?_
      refine qr_retI rfl rfl (by decide) (by decide) ?_
      refine ⟨⟨_, rfl⟩, ⟨_, _, _, _, rfl⟩, ?_⟩
      refine qr_start (d := d + 3) qv_e229 (Nat.le_of_ble_eq_true rfl) ?_
      show qr_W (qe L xs vb) (d + 3) qx_e229 _ (0, [(0, .ref 86), (1, .long (ql x0)), (3, .int (qz x1)), (4, .int (qz x2))], [], _, 0, 0)
      refine qr_aload_n 1 rfl rfl rfl ?_
      refine qr_lload_n 2 rfl rfl rfl ?_
      refine qy_call 5 rfl rfl rfl ?_
      refine qr_start (d := d + 2) qv_e225 (Nat.le_of_ble_eq_true rfl) ?_
      show qr_W (qe L xs vb) (d + 2) qx_e225 _ (0, [(0, .ref 86), (1, .long (ql x0))], [], _, 0, 0)
      refine qr_lload_n 1 rfl rfl rfl ?_
      refine qr_lconst 2 rfl rfl ?_
      refine qy_vl 0 rfl ?_
      refine qr_lc_lt 21 6 rfl rfl rfl rfl (by omega) (by decide) (fun h => False.elim (by omega)) (fun h4 => ?_)
      refine qr_lload_n 7 rfl rfl rfl ?_
      refine qr_aload_n 8 rfl rfl rfl ?_
      refine qr_get 11 rfl rfl rfl (by decide) rfl ?_
      refine qy_v 0 rfl ?_
      refine qr_lshr 12 rfl rfl ?_
      refine qy_vl x0 (ql_shr0 (by omega)) ?_
      refine qr_lconst 13 rfl rfl ?_
      refine qy_vl 0 rfl ?_
      refine qr_lc_ne 21 17 rfl rfl rfl rfl (by omega) (by decide) (fun h5 => ?_) (fun h => False.elim (by omega))
      refine qr_iconst 22 rfl rfl ?_
      refine qr_retZ rfl rfl (by omega) (by decide) (by decide) ?_
      show qr_W (qe L xs vb) (d + 3) qx_e229 _ (5, [(0, .ref 86), (1, .long (ql x0)), (3, .int (qz x1)), (4, .int (qz x2))], [.int (qz 0)], _, 0, 0)
      refine qr_if_eq 28 8 rfl rfl rfl (by decide) (fun _ => ?_) (fun h => absurd h (by decide))
      refine qr_iconst 29 rfl rfl ?_
      refine qr_retI rfl rfl (by decide) (by decide) ?_
      exact rfl
    · skip
      subst h3
      refine qr_iconst 18 rfl rfl ?_
      refine qr_goto 22 rfl rfl ?_
      refine qr_retZ rfl rfl (by omega) (by decide) (by decide) ?_
      show qr_W (qe L xs vb) (d + 3) qx_e99 _ (8, [(0, .ref 16), (1, .long (ql 0)), (3, .int (qz x1)), (4, .int (qz x2))], [.int (qz 1)], _, 0, 0)
      refine qr_if_eq 29 11 rfl rfl rfl (by decide) (fun h => absurd h (by decide)) (fun _ => ?_)
      refine qr_iload_n 12 rfl rfl rfl ?_
      refine qy_call 15 rfl rfl rfl ?_
      refine qr_start (d := d + 2) qv_e100 (Nat.le_of_ble_eq_true rfl) ?_
      show qr_W (qe L xs vb) (d + 2) qx_e100 _ (0, [(0, .int (qz x1))], [], _, 0, 0)
      refine qr_iload_n 1 rfl rfl rfl ?_
      refine qy_call 4 rfl rfl rfl ?_
      refine qr_start (d := d + 1) qv_e70 (Nat.le_of_ble_eq_true rfl) ?_
      show qr_W (qe L xs vb) (d + 1) qx_e70 _ (0, [(0, .int (qz x1))], [], _, 0, 0)
      refine qr_iload_n 1 rfl rfl rfl ?_
      refine qr_if_lt 32 4 rfl rfl rfl (by omega) (fun h6 => ?_) (fun h6 => ?_)
      · skip
        refine qr_iconst 33 rfl rfl ?_
        refine qr_retZ rfl rfl (by omega) (by decide) (by decide) ?_
        show qr_W (qe L xs vb) (d + 2) qx_e100 _ (4, [(0, .int (qz x1))], [.int (qz 0)], _, 0, 0)
        refine qr_if_eq 27 7 rfl rfl rfl (by decide) (fun _ => ?_) (fun h => absurd h (by decide))
        refine qr_iconst 28 rfl rfl ?_
        refine qr_retZ rfl rfl (by omega) (by decide) (by decide) ?_
        show qr_W (qe L xs vb) (d + 3) qx_e99 _ (15, [(0, .ref 16), (1, .long (ql 0)), (3, .int (qz x1)), (4, .int (qz x2))], [.int (qz 0)], _, 0, 0)
        refine qr_if_eq 29 18 rfl rfl rfl (by decide) (fun _ => ?_) (fun h => absurd h (by decide))
        refine qr_iconst 30 rfl rfl ?_
        refine qr_retI rfl rfl (by decide) (by decide) ?_
        refine ⟨⟨_, rfl⟩, ⟨_, _, _, _, rfl⟩, ?_⟩
        refine qr_start (d := d + 3) qv_e229 (Nat.le_of_ble_eq_true rfl) ?_
        show qr_W (qe L xs vb) (d + 3) qx_e229 _ (0, [(0, .ref 86), (1, .long (ql 0)), (3, .int (qz x1)), (4, .int (qz x2))], [], _, 0, 0)
        refine qr_aload_n 1 rfl rfl rfl ?_
        refine qr_lload_n 2 rfl rfl rfl ?_
        refine qy_call 5 rfl rfl rfl ?_
        refine qr_start (d := d + 2) qv_e225 (Nat.le_of_ble_eq_true rfl) ?_
        show qr_W (qe L xs vb) (d + 2) qx_e225 _ (0, [(0, .ref 86), (1, .long (ql 0))], [], _, 0, 0)
        refine qr_lload_n 1 rfl rfl rfl ?_
        refine qr_lconst 2 rfl rfl ?_
        refine qy_vl 0 rfl ?_
        refine qr_lc_lt 21 6 rfl rfl rfl rfl (by decide) (by decide) (fun h => absurd h (by decide)) (fun _ => ?_)
        refine qr_lload_n 7 rfl rfl rfl ?_
        refine qr_aload_n 8 rfl rfl rfl ?_
        refine qr_get 11 rfl rfl rfl (by decide) rfl ?_
        refine qy_v 0 rfl ?_
        refine qr_lshr 12 rfl rfl ?_
        refine qy_vl 0 rfl ?_
        refine qr_lconst 13 rfl rfl ?_
        refine qy_vl 0 rfl ?_
        refine qr_lc_ne 21 17 rfl rfl rfl rfl (by decide) (by decide) (fun h => absurd h (by decide)) (fun _ => ?_)
        refine qr_iconst 18 rfl rfl ?_
        refine qr_goto 22 rfl rfl ?_
        refine qr_retZ rfl rfl (by omega) (by decide) (by decide) ?_
        show qr_W (qe L xs vb) (d + 3) qx_e229 _ (5, [(0, .ref 86), (1, .long (ql 0)), (3, .int (qz x1)), (4, .int (qz x2))], [.int (qz 1)], _, 0, 0)
        refine qr_if_eq 28 8 rfl rfl rfl (by decide) (fun h => absurd h (by decide)) (fun _ => ?_)
        refine qr_iload_n 9 rfl rfl rfl ?_
        refine qy_call 12 rfl rfl rfl ?_
        refine qr_start (d := d + 2) qv_e230 (Nat.le_of_ble_eq_true rfl) ?_
        show qr_W (qe L xs vb) (d + 2) qx_e230 _ (0, [(0, .int (qz x1))], [], _, 0, 0)
        refine qr_iload_n 1 rfl rfl rfl ?_
        refine qr_if_lt 59 4 rfl rfl rfl (by omega) (fun h7 => ?_) (fun h => False.elim (by omega))
        refine qr_iconst 60 rfl rfl ?_
        refine qr_retZ rfl rfl (by omega) (by decide) (by decide) ?_
        show qr_W (qe L xs vb) (d + 3) qx_e229 _ (12, [(0, .ref 86), (1, .long (ql 0)), (3, .int (qz x1)), (4, .int (qz x2))], [.int (qz 0)], _, 0, 0)
        refine qr_if_eq 28 15 rfl rfl rfl (by decide) (fun _ => ?_) (fun h => absurd h (by decide))
        refine qr_iconst 29 rfl rfl ?_
        refine qr_retI rfl rfl (by decide) (by decide) ?_
        exact rfl
      · skip
        refine qr_iload_n 5 rfl rfl rfl ?_
        refine qr_sipush 8 rfl (by decide) rfl ?_
        refine qr_idiv 9 rfl (by omega) (by omega) rfl ?_
        refine qr_iload_n 10 rfl rfl rfl ?_
        refine qr_sipush 13 rfl (by decide) rfl ?_
        refine qr_irem 14 rfl (by omega) (by omega) rfl ?_
        refine qr_icmp_gt 32 17 rfl rfl rfl (by omega) (by omega) (fun h8 => ?_) (fun h8 => ?_)
        · skip
          refine qr_iconst 33 rfl rfl ?_
          refine qr_retZ rfl rfl (by omega) (by decide) (by decide) ?_
          show qr_W (qe L xs vb) (d + 2) qx_e100 _ (4, [(0, .int (qz x1))], [.int (qz 0)], _, 0, 0)
          refine qr_if_eq 27 7 rfl rfl rfl (by decide) (fun _ => ?_) (fun h => absurd h (by decide))
          refine qr_iconst 28 rfl rfl ?_
          refine qr_retZ rfl rfl (by omega) (by decide) (by decide) ?_
          show qr_W (qe L xs vb) (d + 3) qx_e99 _ (15, [(0, .ref 16), (1, .long (ql 0)), (3, .int (qz x1)), (4, .int (qz x2))], [.int (qz 0)], _, 0, 0)
          refine qr_if_eq 29 18 rfl rfl rfl (by decide) (fun _ => ?_) (fun h => absurd h (by decide))
          refine qr_iconst 30 rfl rfl ?_
          refine qr_retI rfl rfl (by decide) (by decide) ?_
          refine ⟨⟨_, rfl⟩, ⟨_, _, _, _, rfl⟩, ?_⟩
          refine qr_start (d := d + 3) qv_e229 (Nat.le_of_ble_eq_true rfl) ?_
          show qr_W (qe L xs vb) (d + 3) qx_e229 _ (0, [(0, .ref 86), (1, .long (ql 0)), (3, .int (qz x1)), (4, .int (qz x2))], [], _, 0, 0)
          refine qr_aload_n 1 rfl rfl rfl ?_
          refine qr_lload_n 2 rfl rfl rfl ?_
          refine qy_call 5 rfl rfl rfl ?_
          refine qr_start (d := d + 2) qv_e225 (Nat.le_of_ble_eq_true rfl) ?_
          show qr_W (qe L xs vb) (d + 2) qx_e225 _ (0, [(0, .ref 86), (1, .long (ql 0))], [], _, 0, 0)
          refine qr_lload_n 1 rfl rfl rfl ?_
          refine qr_lconst 2 rfl rfl ?_
          refine qy_vl 0 rfl ?_
          refine qr_lc_lt 21 6 rfl rfl rfl rfl (by decide) (by decide) (fun h => absurd h (by decide)) (fun _ => ?_)
          refine qr_lload_n 7 rfl rfl rfl ?_
          refine qr_aload_n 8 rfl rfl rfl ?_
          refine qr_get 11 rfl rfl rfl (by decide) rfl ?_
          refine qy_v 0 rfl ?_
          refine qr_lshr 12 rfl rfl ?_
          refine qy_vl 0 rfl ?_
          refine qr_lconst 13 rfl rfl ?_
          refine qy_vl 0 rfl ?_
          refine qr_lc_ne 21 17 rfl rfl rfl rfl (by decide) (by decide) (fun h => absurd h (by decide)) (fun _ => ?_)
          refine qr_iconst 18 rfl rfl ?_
          refine qr_goto 22 rfl rfl ?_
          refine qr_retZ rfl rfl (by omega) (by decide) (by decide) ?_
          show qr_W (qe L xs vb) (d + 3) qx_e229 _ (5, [(0, .ref 86), (1, .long (ql 0)), (3, .int (qz x1)), (4, .int (qz x2))], [.int (qz 1)], _, 0, 0)
          refine qr_if_eq 28 8 rfl rfl rfl (by decide) (fun h => absurd h (by decide)) (fun _ => ?_)
          refine qr_iload_n 9 rfl rfl rfl ?_
          refine qy_call 12 rfl rfl rfl ?_
          refine qr_start (d := d + 2) qv_e230 (Nat.le_of_ble_eq_true rfl) ?_
          show qr_W (qe L xs vb) (d + 2) qx_e230 _ (0, [(0, .int (qz x1))], [], _, 0, 0)
          refine qr_iload_n 1 rfl rfl rfl ?_
          refine qr_if_lt 59 4 rfl rfl rfl (by omega) (fun h => False.elim (by omega)) (fun h9 => ?_)
          refine qr_iload_n 5 rfl rfl rfl ?_
          refine qr_sipush 8 rfl (by decide) rfl ?_
          as_aux_lemma =>
            refine qr_idiv 9 rfl (by omega) (by omega) rfl ?_
            refine qy_call 12 rfl rfl rfl ?_
            refine qr_start (d := d + 1) qv_e192 (Nat.le_of_ble_eq_true rfl) ?_
            show qr_W (qe L xs vb) (d + 1) qx_e192 _ (0, [(0, .int (qz (x1 / 10000)))], [], _, 0, 0)
            refine qr_iload_n 1 rfl rfl rfl ?_
            refine qr_i2l 2 rfl (by omega) rfl ?_
            refine qr_lconst 3 rfl rfl ?_
            refine qy_vl 0 rfl ?_
            refine qr_ldc2 2399 6 rfl (by decide) rfl ?_
            refine qy_call 9 rfl rfl rfl ?_
            refine qr_start (d := d + 0) qv_e176 (Nat.le_of_ble_eq_true rfl) ?_
            show qr_W (qe L xs vb) (d + 0) qx_e176 _ (0, [(0, .long (ql (x1 / 10000))), (2, .long (ql 0)), (4, .long (ql 2399))], [], _, 0, 0)
            refine qr_lload_n 1 rfl rfl rfl ?_
            refine qr_lload_n 2 rfl rfl rfl ?_
            refine qr_lc_lt 17 6 rfl rfl rfl rfl (by omega) (by decide) (fun h => False.elim (by omega)) (fun h10 => ?_)
            refine qr_lload_n 7 rfl rfl rfl ?_
            refine qr_lload 9 rfl rfl rfl ?_
            refine qr_lc_gt 17 13 rfl rfl rfl rfl (by omega) (by decide) (fun h11 => ?_) (fun h11 => ?_)
            · skip
              refine qr_iconst 18 rfl rfl ?_
              refine qr_retZ rfl rfl (by omega) (by decide) (by decide) ?_
              show qr_W (qe L xs vb) (d + 1) qx_e192 _ (9, [(0, .int (qz (x1 / 10000)))], [.int (qz 0)], _, 0, 0)
              refine qr_retZ rfl rfl (by omega) (by decide) (by decide) ?_
              show qr_W (qe L xs vb) (d + 2) qx_e230 _ (12, [(0, .int (qz x1))], [.int (qz 0)], _, 0, 0)
              refine qr_if_eq 59 15 rfl rfl rfl (by decide) (fun _ => ?_) (fun h => absurd h (by decide))
              refine qr_iconst 60 rfl rfl ?_
              refine qr_retZ rfl rfl (by omega) (by decide) (by decide) ?_
              show qr_W (qe L xs vb) (d + 3) qx_e229 _ (12, [(0, .ref 86), (1, .long (ql 0)), (3, .int (qz x1)), (4, .int (qz x2))], [.int (qz 0)], _, 0, 0)
              refine qr_if_eq 28 15 rfl rfl rfl (by decide) (fun _ => ?_) (fun h => absurd h (by decide))
              refine qr_iconst 29 rfl rfl ?_
              refine qr_retI rfl rfl (by decide) (by decide) ?_
              exact rfl
            · skip
              refine qr_iconst 14 rfl rfl ?_
              refine qr_goto 18 rfl rfl ?_
              refine qr_retZ rfl rfl (by omega) (by decide) (by decide) ?_
              show qr_W (qe L xs vb) (d + 1) qx_e192 _ (9, [(0, .int (qz (x1 / 10000)))], [.int (qz 1)], _, 0, 0)
              refine qr_retZ rfl rfl (by omega) (by decide) (by decide) ?_
              show qr_W (qe L xs vb) (d + 2) qx_e230 _ (12, [(0, .int (qz x1))], [.int (qz 1)], _, 0, 0)
              refine qr_if_eq 59 15 rfl rfl rfl (by decide) (fun h => absurd h (by decide)) (fun _ => ?_)
              refine qr_iload_n 16 rfl rfl rfl ?_
              refine qr_sipush 19 rfl (by decide) rfl ?_
              refine qr_irem 20 rfl (by omega) (by omega) rfl ?_
              refine qy_call 23 rfl rfl rfl ?_
              refine qr_start (d := d + 1) qv_e192 (Nat.le_of_ble_eq_true rfl) ?_
              show qr_W (qe L xs vb) (d + 1) qx_e192 _ (0, [(0, .int (qz (x1 % 10000)))], [], _, 0, 0)
              refine qr_iload_n 1 rfl rfl rfl ?_
              refine qr_i2l 2 rfl (by omega) rfl ?_
              refine qr_lconst 3 rfl rfl ?_
              refine qy_vl 0 rfl ?_
              refine qr_ldc2 2399 6 rfl (by decide) rfl ?_
              refine qy_call 9 rfl rfl rfl ?_
              refine qr_start (d := d + 0) qv_e176 (Nat.le_of_ble_eq_true rfl) ?_
              show qr_W (qe L xs vb) (d + 0) qx_e176 _ (0, [(0, .long (ql (x1 % 10000))), (2, .long (ql 0)), (4, .long (ql 2399))], [], _, 0, 0)
              refine qr_lload_n 1 rfl rfl rfl ?_
              refine qr_lload_n 2 rfl rfl rfl ?_
              refine qr_lc_lt 17 6 rfl rfl rfl rfl (by omega) (by decide) (fun h => False.elim (by omega)) (fun h12 => ?_)
              refine qr_lload_n 7 rfl rfl rfl ?_
              refine qr_lload 9 rfl rfl rfl ?_
              refine qr_lc_gt 17 13 rfl rfl rfl rfl (by omega) (by decide) (fun h => False.elim (by omega)) (fun h13 => ?_)
              refine qr_iconst 14 rfl rfl ?_
              refine qr_goto 18 rfl rfl ?_
              refine qr_retZ rfl rfl (by omega) (by decide) (by decide) ?_
              show qr_W (qe L xs vb) (d + 1) qx_e192 _ (9, [(0, .int (qz (x1 % 10000)))], [.int (qz 1)], _, 0, 0)
              refine qr_retZ rfl rfl (by omega) (by decide) (by decide) ?_
              show qr_W (qe L xs vb) (d + 2) qx_e230 _ (23, [(0, .int (qz x1))], [.int (qz 1)], _, 0, 0)
              refine qr_if_eq 59 26 rfl rfl rfl (by decide) (fun h => absurd h (by decide)) (fun _ => ?_)
              refine qr_iload_n 27 rfl rfl rfl ?_
              refine qr_sipush 30 rfl (by decide) rfl ?_
              refine qr_idiv 31 rfl (by omega) (by omega) rfl ?_
              refine qr_iload_n 32 rfl rfl rfl ?_
              refine qr_sipush 35 rfl (by decide) rfl ?_
              refine qr_irem 36 rfl (by omega) (by omega) rfl ?_
              refine qr_icmp_gt 59 39 rfl rfl rfl (by omega) (by omega) (fun h14 => ?_) (fun h => False.elim (by omega))
              refine qr_iconst 60 rfl rfl ?_
              refine qr_retZ rfl rfl (by omega) (by decide) (by decide) ?_
              show qr_W (qe L xs vb) (d + 3) qx_e229 _ (12, [(0, .ref 86), (1, .long (ql 0)), (3, .int (qz x1)), (4, .int (qz x2))], [.int (qz 0)], _, 0, 0)
              refine qr_if_eq 28 15 rfl rfl rfl (by decide) (fun _ => ?_) (fun h => absurd h (by decide))
              refine qr_iconst 29 rfl rfl ?_
              refine qr_retI rfl rfl (by decide) (by decide) ?_
              exact rfl
        · skip
          refine qr_iload_n 18 rfl rfl rfl ?_
          refine qr_sipush 21 rfl (by decide) rfl ?_
          refine qr_irem 22 rfl (by omega) (by omega) rfl ?_
          refine qy_call 25 rfl rfl rfl ?_
          refine qr_start (d := d + 0) qv_e62 (Nat.le_of_ble_eq_true rfl) ?_
          show qr_W (qe L xs vb) (d + 0) qx_e62 _ (0, [(0, .int (qz (x1 % 10000)))], [], _, 0, 0)
          refine qr_iload_n 1 rfl rfl rfl ?_
          refine qr_if_lt 15 4 rfl rfl rfl (by omega) (fun h => False.elim (by omega)) (fun h15 => ?_)
          refine qr_iload_n 5 rfl rfl rfl ?_
          refine qr_sipush 8 rfl (by decide) rfl ?_
          refine qr_icmp_gt 15 11 rfl rfl rfl (by omega) (by decide) (fun h16 => ?_) (fun h16 => ?_)
          · skip
            refine qr_iconst 16 rfl rfl ?_
            refine qr_retZ rfl rfl (by omega) (by decide) (by decide) ?_
            show qr_W (qe L xs vb) (d + 1) qx_e70 _ (25, [(0, .int (qz x1))], [.int (qz 0)], _, 0, 0)
            refine qr_if_eq 32 28 rfl rfl rfl (by decide) (fun _ => ?_) (fun h => absurd h (by decide))
            refine qr_iconst 33 rfl rfl ?_
            refine qr_retZ rfl rfl (by omega) (by decide) (by decide) ?_
            show qr_W (qe L xs vb) (d + 2) qx_e100 _ (4, [(0, .int (qz x1))], [.int (qz 0)], _, 0, 0)
            refine qr_if_eq 27 7 rfl rfl rfl (by decide) (fun _ => ?_) (fun h => absurd h (by decide))
            refine qr_iconst 28 rfl rfl ?_
            refine qr_retZ rfl rfl (by omega) (by decide) (by decide) ?_
            show qr_W (qe L xs vb) (d + 3) qx_e99 _ (15, [(0, .ref 16), (1, .long (ql 0)), (3, .int (qz x1)), (4, .int (qz x2))], [.int (qz 0)], _, 0, 0)
            refine qr_if_eq 29 18 rfl rfl rfl (by decide) (fun _ => ?_) (fun h => absurd h (by decide))
            refine qr_iconst 30 rfl rfl ?_
            refine qr_retI rfl rfl (by decide) (by decide) ?_
            refine ⟨⟨_, rfl⟩, ⟨_, _, _, _, rfl⟩, ?_⟩
            refine qr_start (d := d + 3) qv_e229 (Nat.le_of_ble_eq_true rfl) ?_
            show qr_W (qe L xs vb) (d + 3) qx_e229 _ (0, [(0, .ref 86), (1, .long (ql 0)), (3, .int (qz x1)), (4, .int (qz x2))], [], _, 0, 0)
            refine qr_aload_n 1 rfl rfl rfl ?_
            refine qr_lload_n 2 rfl rfl rfl ?_
            refine qy_call 5 rfl rfl rfl ?_
            refine qr_start (d := d + 2) qv_e225 (Nat.le_of_ble_eq_true rfl) ?_
            show qr_W (qe L xs vb) (d + 2) qx_e225 _ (0, [(0, .ref 86), (1, .long (ql 0))], [], _, 0, 0)
            refine qr_lload_n 1 rfl rfl rfl ?_
            refine qr_lconst 2 rfl rfl ?_
            refine qy_vl 0 rfl ?_
            refine qr_lc_lt 21 6 rfl rfl rfl rfl (by decide) (by decide) (fun h => absurd h (by decide)) (fun _ => ?_)
            refine qr_lload_n 7 rfl rfl rfl ?_
            refine qr_aload_n 8 rfl rfl rfl ?_
            refine qr_get 11 rfl rfl rfl (by decide) rfl ?_
            refine qy_v 0 rfl ?_
            refine qr_lshr 12 rfl rfl ?_
            refine qy_vl 0 rfl ?_
            as_aux_lemma =>
              refine qr_lconst 13 rfl rfl ?_
              refine qy_vl 0 rfl ?_
              refine qr_lc_ne 21 17 rfl rfl rfl rfl (by decide) (by decide) (fun h => absurd h (by decide)) (fun _ => ?_)
              refine qr_iconst 18 rfl rfl ?_
              refine qr_goto 22 rfl rfl ?_
              refine qr_retZ rfl rfl (by omega) (by decide) (by decide) ?_
              show qr_W (qe L xs vb) (d + 3) qx_e229 _ (5, [(0, .ref 86), (1, .long (ql 0)), (3, .int (qz x1)), (4, .int (qz x2))], [.int (qz 1)], _, 0, 0)
              refine qr_if_eq 28 8 rfl rfl rfl (by decide) (fun h => absurd h (by decide)) (fun _ => ?_)
              refine qr_iload_n 9 rfl rfl rfl ?_
              refine qy_call 12 rfl rfl rfl ?_
              refine qr_start (d := d + 2) qv_e230 (Nat.le_of_ble_eq_true rfl) ?_
              show qr_W (qe L xs vb) (d + 2) qx_e230 _ (0, [(0, .int (qz x1))], [], _, 0, 0)
              refine qr_iload_n 1 rfl rfl rfl ?_
              refine qr_if_lt 59 4 rfl rfl rfl (by omega) (fun h => False.elim (by omega)) (fun h17 => ?_)
              refine qr_iload_n 5 rfl rfl rfl ?_
              refine qr_sipush 8 rfl (by decide) rfl ?_
              refine qr_idiv 9 rfl (by omega) (by omega) rfl ?_
              refine qy_call 12 rfl rfl rfl ?_
              refine qr_start (d := d + 1) qv_e192 (Nat.le_of_ble_eq_true rfl) ?_
              show qr_W (qe L xs vb) (d + 1) qx_e192 _ (0, [(0, .int (qz (x1 / 10000)))], [], _, 0, 0)
              refine qr_iload_n 1 rfl rfl rfl ?_
              refine qr_i2l 2 rfl (by omega) rfl ?_
              refine qr_lconst 3 rfl rfl ?_
              refine qy_vl 0 rfl ?_
              refine qr_ldc2 2399 6 rfl (by decide) rfl ?_
              refine qy_call 9 rfl rfl rfl ?_
              refine qr_start (d := d + 0) qv_e176 (Nat.le_of_ble_eq_true rfl) ?_
              show qr_W (qe L xs vb) (d + 0) qx_e176 _ (0, [(0, .long (ql (x1 / 10000))), (2, .long (ql 0)), (4, .long (ql 2399))], [], _, 0, 0)
              refine qr_lload_n 1 rfl rfl rfl ?_
              refine qr_lload_n 2 rfl rfl rfl ?_
              refine qr_lc_lt 17 6 rfl rfl rfl rfl (by omega) (by decide) (fun h => False.elim (by omega)) (fun h18 => ?_)
              refine qr_lload_n 7 rfl rfl rfl ?_
              refine qr_lload 9 rfl rfl rfl ?_
              refine qr_lc_gt 17 13 rfl rfl rfl rfl (by omega) (by decide) (fun h19 => ?_) (fun h19 => ?_)
              · skip
                refine qr_iconst 18 rfl rfl ?_
                refine qr_retZ rfl rfl (by omega) (by decide) (by decide) ?_
                show qr_W (qe L xs vb) (d + 1) qx_e192 _ (9, [(0, .int (qz (x1 / 10000)))], [.int (qz 0)], _, 0, 0)
                refine qr_retZ rfl rfl (by omega) (by decide) (by decide) ?_
                show qr_W (qe L xs vb) (d + 2) qx_e230 _ (12, [(0, .int (qz x1))], [.int (qz 0)], _, 0, 0)
                refine qr_if_eq 59 15 rfl rfl rfl (by decide) (fun _ => ?_) (fun h => absurd h (by decide))
                refine qr_iconst 60 rfl rfl ?_
                refine qr_retZ rfl rfl (by omega) (by decide) (by decide) ?_
                show qr_W (qe L xs vb) (d + 3) qx_e229 _ (12, [(0, .ref 86), (1, .long (ql 0)), (3, .int (qz x1)), (4, .int (qz x2))], [.int (qz 0)], _, 0, 0)
                refine qr_if_eq 28 15 rfl rfl rfl (by decide) (fun _ => ?_) (fun h => absurd h (by decide))
                refine qr_iconst 29 rfl rfl ?_
                refine qr_retI rfl rfl (by decide) (by decide) ?_
                exact rfl
              · skip
                refine qr_iconst 14 rfl rfl ?_
                refine qr_goto 18 rfl rfl ?_
                refine qr_retZ rfl rfl (by omega) (by decide) (by decide) ?_
                show qr_W (qe L xs vb) (d + 1) qx_e192 _ (9, [(0, .int (qz (x1 / 10000)))], [.int (qz 1)], _, 0, 0)
                refine qr_retZ rfl rfl (by omega) (by decide) (by decide) ?_
                show qr_W (qe L xs vb) (d + 2) qx_e230 _ (12, [(0, .int (qz x1))], [.int (qz 1)], _, 0, 0)
                refine qr_if_eq 59 15 rfl rfl rfl (by decide) (fun h => absurd h (by decide)) (fun _ => ?_)
                refine qr_iload_n 16 rfl rfl rfl ?_
                refine qr_sipush 19 rfl (by decide) rfl ?_
                refine qr_irem 20 rfl (by omega) (by omega) rfl ?_
                refine qy_call 23 rfl rfl rfl ?_
                refine qr_start (d := d + 1) qv_e192 (Nat.le_of_ble_eq_true rfl) ?_
                show qr_W (qe L xs vb) (d + 1) qx_e192 _ (0, [(0, .int (qz (x1 % 10000)))], [], _, 0, 0)
                refine qr_iload_n 1 rfl rfl rfl ?_
                refine qr_i2l 2 rfl (by omega) rfl ?_
                refine qr_lconst 3 rfl rfl ?_
                refine qy_vl 0 rfl ?_
                refine qr_ldc2 2399 6 rfl (by decide) rfl ?_
                refine qy_call 9 rfl rfl rfl ?_
                refine qr_start (d := d + 0) qv_e176 (Nat.le_of_ble_eq_true rfl) ?_
                show qr_W (qe L xs vb) (d + 0) qx_e176 _ (0, [(0, .long (ql (x1 % 10000))), (2, .long (ql 0)), (4, .long (ql 2399))], [], _, 0, 0)
                refine qr_lload_n 1 rfl rfl rfl ?_
                refine qr_lload_n 2 rfl rfl rfl ?_
                refine qr_lc_lt 17 6 rfl rfl rfl rfl (by omega) (by decide) (fun h => False.elim (by omega)) (fun h20 => ?_)
                refine qr_lload_n 7 rfl rfl rfl ?_
                refine qr_lload 9 rfl rfl rfl ?_
                refine qr_lc_gt 17 13 rfl rfl rfl rfl (by omega) (by decide) (fun h21 => ?_) (fun h => False.elim (by omega))
                refine qr_iconst 18 rfl rfl ?_
                refine qr_retZ rfl rfl (by omega) (by decide) (by decide) ?_
                show qr_W (qe L xs vb) (d + 1) qx_e192 _ (9, [(0, .int (qz (x1 % 10000)))], [.int (qz 0)], _, 0, 0)
                refine qr_retZ rfl rfl (by omega) (by decide) (by decide) ?_
                show qr_W (qe L xs vb) (d + 2) qx_e230 _ (23, [(0, .int (qz x1))], [.int (qz 0)], _, 0, 0)
                refine qr_if_eq 59 26 rfl rfl rfl (by decide) (fun _ => ?_) (fun h => absurd h (by decide))
                refine qr_iconst 60 rfl rfl ?_
                refine qr_retZ rfl rfl (by omega) (by decide) (by decide) ?_
                show qr_W (qe L xs vb) (d + 3) qx_e229 _ (12, [(0, .ref 86), (1, .long (ql 0)), (3, .int (qz x1)), (4, .int (qz x2))], [.int (qz 0)], _, 0, 0)
                refine qr_if_eq 28 15 rfl rfl rfl (by decide) (fun _ => ?_) (fun h => absurd h (by decide))
                refine qr_iconst 29 rfl rfl ?_
                refine qr_retI rfl rfl (by decide) (by decide) ?_
                exact rfl
          · skip
            refine qr_iconst 12 rfl rfl ?_
            refine qr_goto 16 rfl rfl ?_
            refine qr_retZ rfl rfl (by omega) (by decide) (by decide) ?_
            show qr_W (qe L xs vb) (d + 1) qx_e70 _ (25, [(0, .int (qz x1))], [.int (qz 1)], _, 0, 0)
            refine qr_if_eq 32 28 rfl rfl rfl (by decide) (fun h => absurd h (by decide)) (fun _ => ?_)
            refine qr_iconst 29 rfl rfl ?_
            refine qr_goto 33 rfl rfl ?_
            refine qr_retZ rfl rfl (by omega) (by decide) (by decide) ?_
            show qr_W (qe L xs vb) (d + 2) qx_e100 _ (4, [(0, .int (qz x1))], [.int (qz 1)], _, 0, 0)
            refine qr_if_eq 27 7 rfl rfl rfl (by decide) (fun h => absurd h (by decide)) (fun _ => ?_)
            refine qr_iload_n 8 rfl rfl rfl ?_
            refine qr_sipush 11 rfl (by decide) rfl ?_
            refine qr_irem 12 rfl (by omega) (by omega) rfl ?_
            refine qr_iload_n 13 rfl rfl rfl ?_
            refine qr_sipush 16 rfl (by decide) rfl ?_
            refine qr_idiv 17 rfl (by omega) (by omega) rfl ?_
            refine qr_isub 18 rfl rfl ?_
            refine qr_bipush 20 rfl (by decide) rfl ?_
            refine qr_icmp_ge 27 23 rfl rfl rfl (by omega) (by decide) (fun h22 => ?_) (fun h22 => ?_)
            · skip
              refine qr_iconst 28 rfl rfl ?_
              refine qr_retZ rfl rfl (by omega) (by decide) (by decide) ?_
              show qr_W (qe L xs vb) (d + 3) qx_e99 _ (15, [(0, .ref 16), (1, .long (ql 0)), (3, .int (qz x1)), (4, .int (qz x2))], [.int (qz 0)], _, 0, 0)
              refine qr_if_eq 29 18 rfl rfl rfl (by decide) (fun _ => ?_) (fun h => absurd h (by decide))
              refine qr_iconst 30 rfl rfl ?_
              as_aux_lemma =>
                refine qr_retI rfl rfl (by decide) (by decide) ?_
                refine ⟨⟨_, rfl⟩, ⟨_, _, _, _, rfl⟩, ?_⟩
                refine qr_start (d := d + 3) qv_e229 (Nat.le_of_ble_eq_true rfl) ?_
                show qr_W (qe L xs vb) (d + 3) qx_e229 _ (0, [(0, .ref 86), (1, .long (ql 0)), (3, .int (qz x1)), (4, .int (qz x2))], [], _, 0, 0)
                refine qr_aload_n 1 rfl rfl rfl ?_
                refine qr_lload_n 2 rfl rfl rfl ?_
                refine qy_call 5 rfl rfl rfl ?_
                refine qr_start (d := d + 2) qv_e225 (Nat.le_of_ble_eq_true rfl) ?_
                show qr_W (qe L xs vb) (d + 2) qx_e225 _ (0, [(0, .ref 86), (1, .long (ql 0))], [], _, 0, 0)
                refine qr_lload_n 1 rfl rfl rfl ?_
                refine qr_lconst 2 rfl rfl ?_
                refine qy_vl 0 rfl ?_
                refine qr_lc_lt 21 6 rfl rfl rfl rfl (by decide) (by decide) (fun h => absurd h (by decide)) (fun _ => ?_)
                refine qr_lload_n 7 rfl rfl rfl ?_
                refine qr_aload_n 8 rfl rfl rfl ?_
                refine qr_get 11 rfl rfl rfl (by decide) rfl ?_
                refine qy_v 0 rfl ?_
                refine qr_lshr 12 rfl rfl ?_
                refine qy_vl 0 rfl ?_
                refine qr_lconst 13 rfl rfl ?_
                refine qy_vl 0 rfl ?_
                refine qr_lc_ne 21 17 rfl rfl rfl rfl (by decide) (by decide) (fun h => absurd h (by decide)) (fun _ => ?_)
                refine qr_iconst 18 rfl rfl ?_
                refine qr_goto 22 rfl rfl ?_
                refine qr_retZ rfl rfl (by omega) (by decide) (by decide) ?_
                show qr_W (qe L xs vb) (d + 3) qx_e229 _ (5, [(0, .ref 86), (1, .long (ql 0)), (3, .int (qz x1)), (4, .int (qz x2))], [.int (qz 1)], _, 0, 0)
                refine qr_if_eq 28 8 rfl rfl rfl (by decide) (fun h => absurd h (by decide)) (fun _ => ?_)
                refine qr_iload_n 9 rfl rfl rfl ?_
                refine qy_call 12 rfl rfl rfl ?_
                refine qr_start (d := d + 2) qv_e230 (Nat.le_of_ble_eq_true rfl) ?_
                show qr_W (qe L xs vb) (d + 2) qx_e230 _ (0, [(0, .int (qz x1))], [], _, 0, 0)
                refine qr_iload_n 1 rfl rfl rfl ?_
                refine qr_if_lt 59 4 rfl rfl rfl (by omega) (fun h => False.elim (by omega)) (fun h23 => ?_)
                refine qr_iload_n 5 rfl rfl rfl ?_
                refine qr_sipush 8 rfl (by decide) rfl ?_
                refine qr_idiv 9 rfl (by omega) (by omega) rfl ?_
                refine qy_call 12 rfl rfl rfl ?_
                refine qr_start (d := d + 1) qv_e192 (Nat.le_of_ble_eq_true rfl) ?_
                show qr_W (qe L xs vb) (d + 1) qx_e192 _ (0, [(0, .int (qz (x1 / 10000)))], [], _, 0, 0)
                refine qr_iload_n 1 rfl rfl rfl ?_
                refine qr_i2l 2 rfl (by omega) rfl ?_
                refine qr_lconst 3 rfl rfl ?_
                refine qy_vl 0 rfl ?_
                refine qr_ldc2 2399 6 rfl (by decide) rfl ?_
                refine qy_call 9 rfl rfl rfl ?_
                refine qr_start (d := d + 0) qv_e176 (Nat.le_of_ble_eq_true rfl) ?_
                show qr_W (qe L xs vb) (d + 0) qx_e176 _ (0, [(0, .long (ql (x1 / 10000))), (2, .long (ql 0)), (4, .long (ql 2399))], [], _, 0, 0)
                refine qr_lload_n 1 rfl rfl rfl ?_
                refine qr_lload_n 2 rfl rfl rfl ?_
                refine qr_lc_lt 17 6 rfl rfl rfl rfl (by omega) (by decide) (fun h => False.elim (by omega)) (fun h24 => ?_)
                refine qr_lload_n 7 rfl rfl rfl ?_
                refine qr_lload 9 rfl rfl rfl ?_
                refine qr_lc_gt 17 13 rfl rfl rfl rfl (by omega) (by decide) (fun h => False.elim (by omega)) (fun h25 => ?_)
                refine qr_iconst 14 rfl rfl ?_
                refine qr_goto 18 rfl rfl ?_
                refine qr_retZ rfl rfl (by omega) (by decide) (by decide) ?_
                show qr_W (qe L xs vb) (d + 1) qx_e192 _ (9, [(0, .int (qz (x1 / 10000)))], [.int (qz 1)], _, 0, 0)
                refine qr_retZ rfl rfl (by omega) (by decide) (by decide) ?_
                show qr_W (qe L xs vb) (d + 2) qx_e230 _ (12, [(0, .int (qz x1))], [.int (qz 1)], _, 0, 0)
                refine qr_if_eq 59 15 rfl rfl rfl (by decide) (fun h => absurd h (by decide)) (fun _ => ?_)
                refine qr_iload_n 16 rfl rfl rfl ?_
                refine qr_sipush 19 rfl (by decide) rfl ?_
                refine qr_irem 20 rfl (by omega) (by omega) rfl ?_
                refine qy_call 23 rfl rfl rfl ?_
                refine qr_start (d := d + 1) qv_e192 (Nat.le_of_ble_eq_true rfl) ?_
                show qr_W (qe L xs vb) (d + 1) qx_e192 _ (0, [(0, .int (qz (x1 % 10000)))], [], _, 0, 0)
                refine qr_iload_n 1 rfl rfl rfl ?_
                refine qr_i2l 2 rfl (by omega) rfl ?_
                refine qr_lconst 3 rfl rfl ?_
                refine qy_vl 0 rfl ?_
                refine qr_ldc2 2399 6 rfl (by decide) rfl ?_
                refine qy_call 9 rfl rfl rfl ?_
                refine qr_start (d := d + 0) qv_e176 (Nat.le_of_ble_eq_true rfl) ?_
                show qr_W (qe L xs vb) (d + 0) qx_e176 _ (0, [(0, .long (ql (x1 % 10000))), (2, .long (ql 0)), (4, .long (ql 2399))], [], _, 0, 0)
                refine qr_lload_n 1 rfl rfl rfl ?_
                refine qr_lload_n 2 rfl rfl rfl ?_
                refine qr_lc_lt 17 6 rfl rfl rfl rfl (by omega) (by decide) (fun h => False.elim (by omega)) (fun h26 => ?_)
                refine qr_lload_n 7 rfl rfl rfl ?_
                refine qr_lload 9 rfl rfl rfl ?_
                refine qr_lc_gt 17 13 rfl rfl rfl rfl (by omega) (by decide) (fun h => False.elim (by omega)) (fun h27 => ?_)
                refine qr_iconst 14 rfl rfl ?_
                refine qr_goto 18 rfl rfl ?_
                refine qr_retZ rfl rfl (by omega) (by decide) (by decide) ?_
                show qr_W (qe L xs vb) (d + 1) qx_e192 _ (9, [(0, .int (qz (x1 % 10000)))], [.int (qz 1)], _, 0, 0)
                refine qr_retZ rfl rfl (by omega) (by decide) (by decide) ?_
                show qr_W (qe L xs vb) (d + 2) qx_e230 _ (23, [(0, .int (qz x1))], [.int (qz 1)], _, 0, 0)
                refine qr_if_eq 59 26 rfl rfl rfl (by decide) (fun h => absurd h (by decide)) (fun _ => ?_)
                as_aux_lemma =>
                  refine qr_iload_n 27 rfl rfl rfl ?_
                  refine qr_sipush 30 rfl (by decide) rfl ?_
                  refine qr_idiv 31 rfl (by omega) (by omega) rfl ?_
                  refine qr_iload_n 32 rfl rfl rfl ?_
                  refine qr_sipush 35 rfl (by decide) rfl ?_
                  refine qr_irem 36 rfl (by omega) (by omega) rfl ?_
                  refine qr_icmp_gt 59 39 rfl rfl rfl (by omega) (by omega) (fun h => False.elim (by omega)) (fun h28 => ?_)
                  refine qr_iload_n 40 rfl rfl rfl ?_
                  refine qr_sipush 43 rfl (by decide) rfl ?_
                  refine qr_irem 44 rfl (by omega) (by omega) rfl ?_
                  refine qr_iload_n 45 rfl rfl rfl ?_
                  refine qr_sipush 48 rfl (by decide) rfl ?_
                  refine qr_idiv 49 rfl (by omega) (by omega) rfl ?_
                  refine qr_isub 50 rfl rfl ?_
                  refine qr_bipush 52 rfl (by decide) rfl ?_
                  refine qr_icmp_ge 59 55 rfl rfl rfl (by omega) (by decide) (fun h29 => ?_) (fun h => False.elim (by omega))
                  refine qr_iconst 60 rfl rfl ?_
                  refine qr_retZ rfl rfl (by omega) (by decide) (by decide) ?_
                  show qr_W (qe L xs vb) (d + 3) qx_e229 _ (12, [(0, .ref 86), (1, .long (ql 0)), (3, .int (qz x1)), (4, .int (qz x2))], [.int (qz 0)], _, 0, 0)
                  refine qr_if_eq 28 15 rfl rfl rfl (by decide) (fun _ => ?_) (fun h => absurd h (by decide))
                  refine qr_iconst 29 rfl rfl ?_
                  refine qr_retI rfl rfl (by decide) (by decide) ?_
                  exact rfl
            · skip
              refine qr_iconst 24 rfl rfl ?_
              refine qr_goto 28 rfl rfl ?_
              refine qr_retZ rfl rfl (by omega) (by decide) (by decide) ?_
              show qr_W (qe L xs vb) (d + 3) qx_e99 _ (15, [(0, .ref 16), (1, .long (ql 0)), (3, .int (qz x1)), (4, .int (qz x2))], [.int (qz 1)], _, 0, 0)
              refine qr_if_eq 29 18 rfl rfl rfl (by decide) (fun h => absurd h (by decide)) (fun _ => ?_)
              as_aux_lemma =>
                refine qr_iload 20 rfl rfl rfl ?_
                refine qr_if_lt 29 23 rfl rfl rfl (by omega) (fun h30 => ?_) (fun h30 => ?_)
                · skip
                  refine qr_iconst 30 rfl rfl ?_
                  refine qr_retI rfl rfl (by decide) (by decide) ?_
                  refine ⟨⟨_, rfl⟩, ⟨_, _, _, _, rfl⟩, ?_⟩
                  refine qr_start (d := d + 3) qv_e229 (Nat.le_of_ble_eq_true rfl) ?_
                  show qr_W (qe L xs vb) (d + 3) qx_e229 _ (0, [(0, .ref 86), (1, .long (ql 0)), (3, .int (qz x1)), (4, .int (qz x2))], [], _, 0, 0)
                  refine qr_aload_n 1 rfl rfl rfl ?_
                  refine qr_lload_n 2 rfl rfl rfl ?_
                  refine qy_call 5 rfl rfl rfl ?_
                  refine qr_start (d := d + 2) qv_e225 (Nat.le_of_ble_eq_true rfl) ?_
                  show qr_W (qe L xs vb) (d + 2) qx_e225 _ (0, [(0, .ref 86), (1, .long (ql 0))], [], _, 0, 0)
                  refine qr_lload_n 1 rfl rfl rfl ?_
                  refine qr_lconst 2 rfl rfl ?_
                  refine qy_vl 0 rfl ?_
                  refine qr_lc_lt 21 6 rfl rfl rfl rfl (by decide) (by decide) (fun h => absurd h (by decide)) (fun _ => ?_)
                  refine qr_lload_n 7 rfl rfl rfl ?_
                  refine qr_aload_n 8 rfl rfl rfl ?_
                  refine qr_get 11 rfl rfl rfl (by decide) rfl ?_
                  refine qy_v 0 rfl ?_
                  refine qr_lshr 12 rfl rfl ?_
                  refine qy_vl 0 rfl ?_
                  refine qr_lconst 13 rfl rfl ?_
                  refine qy_vl 0 rfl ?_
                  refine qr_lc_ne 21 17 rfl rfl rfl rfl (by decide) (by decide) (fun h => absurd h (by decide)) (fun _ => ?_)
                  refine qr_iconst 18 rfl rfl ?_
                  refine qr_goto 22 rfl rfl ?_
                  refine qr_retZ rfl rfl (by omega) (by decide) (by decide) ?_
                  show qr_W (qe L xs vb) (d + 3) qx_e229 _ (5, [(0, .ref 86), (1, .long (ql 0)), (3, .int (qz x1)), (4, .int (qz x2))], [.int (qz 1)], _, 0, 0)
                  refine qr_if_eq 28 8 rfl rfl rfl (by decide) (fun h => absurd h (by decide)) (fun _ => ?_)
                  refine qr_iload_n 9 rfl rfl rfl ?_
                  refine qy_call 12 rfl rfl rfl ?_
                  refine qr_start (d := d + 2) qv_e230 (Nat.le_of_ble_eq_true rfl) ?_
                  show qr_W (qe L xs vb) (d + 2) qx_e230 _ (0, [(0, .int (qz x1))], [], _, 0, 0)
                  refine qr_iload_n 1 rfl rfl rfl ?_
                  refine qr_if_lt 59 4 rfl rfl rfl (by omega) (fun h => False.elim (by omega)) (fun h31 => ?_)
                  refine qr_iload_n 5 rfl rfl rfl ?_
                  refine qr_sipush 8 rfl (by decide) rfl ?_
                  refine qr_idiv 9 rfl (by omega) (by omega) rfl ?_
                  refine qy_call 12 rfl rfl rfl ?_
                  refine qr_start (d := d + 1) qv_e192 (Nat.le_of_ble_eq_true rfl) ?_
                  show qr_W (qe L xs vb) (d + 1) qx_e192 _ (0, [(0, .int (qz (x1 / 10000)))], [], _, 0, 0)
                  refine qr_iload_n 1 rfl rfl rfl ?_
                  refine qr_i2l 2 rfl (by omega) rfl ?_
                  refine qr_lconst 3 rfl rfl ?_
                  refine qy_vl 0 rfl ?_
                  refine qr_ldc2 2399 6 rfl (by decide) rfl ?_
                  refine qy_call 9 rfl rfl rfl ?_
                  refine qr_start (d := d + 0) qv_e176 (Nat.le_of_ble_eq_true rfl) ?_
                  show qr_W (qe L xs vb) (d + 0) qx_e176 _ (0, [(0, .long (ql (x1 / 10000))), (2, .long (ql 0)), (4, .long (ql 2399))], [], _, 0, 0)
                  refine qr_lload_n 1 rfl rfl rfl ?_
                  refine qr_lload_n 2 rfl rfl rfl ?_
                  refine qr_lc_lt 17 6 rfl rfl rfl rfl (by omega) (by decide) (fun h => False.elim (by omega)) (fun h32 => ?_)
                  refine qr_lload_n 7 rfl rfl rfl ?_
                  refine qr_lload 9 rfl rfl rfl ?_
                  refine qr_lc_gt 17 13 rfl rfl rfl rfl (by omega) (by decide) (fun h => False.elim (by omega)) (fun h33 => ?_)
                  refine qr_iconst 14 rfl rfl ?_
                  refine qr_goto 18 rfl rfl ?_
                  refine qr_retZ rfl rfl (by omega) (by decide) (by decide) ?_
                  show qr_W (qe L xs vb) (d + 1) qx_e192 _ (9, [(0, .int (qz (x1 / 10000)))], [.int (qz 1)], _, 0, 0)
                  refine qr_retZ rfl rfl (by omega) (by decide) (by decide) ?_
                  show qr_W (qe L xs vb) (d + 2) qx_e230 _ (12, [(0, .int (qz x1))], [.int (qz 1)], _, 0, 0)
                  refine qr_if_eq 59 15 rfl rfl rfl (by decide) (fun h => absurd h (by decide)) (fun _ => ?_)
                  refine qr_iload_n 16 rfl rfl rfl ?_
                  refine qr_sipush 19 rfl (by decide) rfl ?_
                  refine qr_irem 20 rfl (by omega) (by omega) rfl ?_
                  refine qy_call 23 rfl rfl rfl ?_
                  refine qr_start (d := d + 1) qv_e192 (Nat.le_of_ble_eq_true rfl) ?_
                  show qr_W (qe L xs vb) (d + 1) qx_e192 _ (0, [(0, .int (qz (x1 % 10000)))], [], _, 0, 0)
                  refine qr_iload_n 1 rfl rfl rfl ?_
                  refine qr_i2l 2 rfl (by omega) rfl ?_
                  refine qr_lconst 3 rfl rfl ?_
                  refine qy_vl 0 rfl ?_
                  refine qr_ldc2 2399 6 rfl (by decide) rfl ?_
                  refine qy_call 9 rfl rfl rfl ?_
                  refine qr_start (d := d + 0) qv_e176 (Nat.le_of_ble_eq_true rfl) ?_
                  show qr_W (qe L xs vb) (d + 0) qx_e176 _ (0, [(0, .long (ql (x1 % 10000))), (2, .long (ql 0)), (4, .long (ql 2399))], [], _, 0, 0)
                  refine qr_lload_n 1 rfl rfl rfl ?_
                  refine qr_lload_n 2 rfl rfl rfl ?_
                  refine qr_lc_lt 17 6 rfl rfl rfl rfl (by omega) (by decide) (fun h => False.elim (by omega)) (fun h34 => ?_)
                  refine qr_lload_n 7 rfl rfl rfl ?_
                  refine qr_lload 9 rfl rfl rfl ?_
                  refine qr_lc_gt 17 13 rfl rfl rfl rfl (by omega) (by decide) (fun h => False.elim (by omega)) (fun h35 => ?_)
                  refine qr_iconst 14 rfl rfl ?_
                  refine qr_goto 18 rfl rfl ?_
                  as_aux_lemma =>
                    refine qr_retZ rfl rfl (by omega) (by decide) (by decide) ?_
                    show qr_W (qe L xs vb) (d + 1) qx_e192 _ (9, [(0, .int (qz (x1 % 10000)))], [.int (qz 1)], _, 0, 0)
                    refine qr_retZ rfl rfl (by omega) (by decide) (by decide) ?_
                    show qr_W (qe L xs vb) (d + 2) qx_e230 _ (23, [(0, .int (qz x1))], [.int (qz 1)], _, 0, 0)
                    refine qr_if_eq 59 26 rfl rfl rfl (by decide) (fun h => absurd h (by decide)) (fun _ => ?_)
                    refine qr_iload_n 27 rfl rfl rfl ?_
                    refine qr_sipush 30 rfl (by decide) rfl ?_
                    refine qr_idiv 31 rfl (by omega) (by omega) rfl ?_
                    refine qr_iload_n 32 rfl rfl rfl ?_
                    refine qr_sipush 35 rfl (by decide) rfl ?_
                    refine qr_irem 36 rfl (by omega) (by omega) rfl ?_
                    refine qr_icmp_gt 59 39 rfl rfl rfl (by omega) (by omega) (fun h => False.elim (by omega)) (fun h36 => ?_)
                    refine qr_iload_n 40 rfl rfl rfl ?_
                    refine qr_sipush 43 rfl (by decide) rfl ?_
                    refine qr_irem 44 rfl (by omega) (by omega) rfl ?_
                    refine qr_iload_n 45 rfl rfl rfl ?_
                    refine qr_sipush 48 rfl (by decide) rfl ?_
                    refine qr_idiv 49 rfl (by omega) (by omega) rfl ?_
                    refine qr_isub 50 rfl rfl ?_
                    refine qr_bipush 52 rfl (by decide) rfl ?_
                    refine qr_icmp_ge 59 55 rfl rfl rfl (by omega) (by decide) (fun h => False.elim (by omega)) (fun h37 => ?_)
                    refine qr_iconst 56 rfl rfl ?_
                    refine qr_goto 60 rfl rfl ?_
                    refine qr_retZ rfl rfl (by omega) (by decide) (by decide) ?_
                    show qr_W (qe L xs vb) (d + 3) qx_e229 _ (12, [(0, .ref 86), (1, .long (ql 0)), (3, .int (qz x1)), (4, .int (qz x2))], [.int (qz 1)], _, 0, 0)
                    refine qr_if_eq 28 15 rfl rfl rfl (by decide) (fun h => absurd h (by decide)) (fun _ => ?_)
                    refine qr_iload 17 rfl rfl rfl ?_
                    refine qr_i2l 18 rfl (by omega) rfl ?_
                    refine qr_lconst 19 rfl rfl ?_
                    refine qy_vl 0 rfl ?_
                    refine qr_ldc2 2 22 rfl (by decide) rfl ?_
                    refine qy_call 25 rfl rfl rfl ?_
                    refine qr_start (d := d + 2) qv_e176 (Nat.le_of_ble_eq_true rfl) ?_
                    show qr_W (qe L xs vb) (d + 2) qx_e176 _ (0, [(0, .long (ql x2)), (2, .long (ql 0)), (4, .long (ql 2))], [], _, 0, 0)
                    refine qr_lload_n 1 rfl rfl rfl ?_
                    refine qr_lload_n 2 rfl rfl rfl ?_
                    refine qr_lc_lt 17 6 rfl rfl rfl rfl (by omega) (by decide) (fun h38 => ?_) (fun h => False.elim (by omega))
                    refine qr_iconst 18 rfl rfl ?_
                    refine qr_retZ rfl rfl (by omega) (by decide) (by decide) ?_
                    show qr_W (qe L xs vb) (d + 3) qx_e229 _ (25, [(0, .ref 86), (1, .long (ql 0)), (3, .int (qz x1)), (4, .int (qz x2))], [.int (qz 0)], _, 0, 0)
                    refine qr_if_ne 30 28 rfl rfl rfl (by decide) (fun h => absurd h (by decide)) (fun _ => ?_)
                    refine qr_iconst 29 rfl rfl ?_
                    refine qr_retI rfl rfl (by decide) (by decide) ?_
                    exact rfl
                · skip
                  refine qr_iload 25 rfl rfl rfl ?_
                  refine qr_iconst 26 rfl rfl ?_
                  refine qr_icmp_le 31 29 rfl rfl rfl (by omega) (by decide) (fun h39 => ?_) (fun h39 => ?_)
                  · skip
                    refine qr_lload_n 32 rfl rfl rfl ?_
                    refine qr_aload_n 33 rfl rfl rfl ?_
                    refine qr_get 36 rfl rfl rfl (by decide) rfl ?_
                    refine qr_get 39 rfl rfl rfl (by decide) rfl ?_
                    refine qy_vl 0 rfl ?_
                    refine qr_ldc2 (-1) 42 rfl (by decide) rfl ?_
                    refine qr_lxor 43 rfl rfl ?_
                    refine qy_vl (-1) rfl ?_
                    refine qr_land 44 rfl rfl ?_
                    refine qy_vl 0 rfl ?_
                    refine qr_lstore [(5, .long (ql 0)), (0, .ref 16), (1, .long (ql 0)), (3, .int (qz x1)), (4, .int (qz x2))] 46 rfl (by decide) rfl rfl ?_
                    refine qr_iload_n 47 rfl rfl rfl ?_
                    refine qr_sipush 50 rfl (by decide) rfl ?_
                    refine qr_idiv 51 rfl (by omega) (by omega) rfl ?_
                    refine qr_istore [(7, .int (qz (x1 / 10000))), (5, .long (ql 0)), (0, .ref 16), (1, .long (ql 0)), (3, .int (qz x1)), (4, .int (qz x2))] 53 rfl (by decide) rfl rfl ?_
                    refine qr_iload_n 54 rfl rfl rfl ?_
                    refine qr_sipush 57 rfl (by decide) rfl ?_
                    refine qr_irem 58 rfl (by omega) (by omega) rfl ?_
                    refine qr_istore [(8, .int (qz (x1 % 10000))), (7, .int (qz (x1 / 10000))), (5, .long (ql 0)), (0, .ref 16), (1, .long (ql 0)), (3, .int (qz x1)), (4, .int (qz x2))] 60 rfl (by decide) rfl rfl ?_
                    refine qr_iload 62 rfl rfl rfl ?_
                    refine qr_istore [(9, .int (qz (x1 / 10000))), (8, .int (qz (x1 % 10000))), (7, .int (qz (x1 / 10000))), (5, .long (ql 0)), (0, .ref 16), (1, .long (ql 0)), (3, .int (qz x1)), (4, .int (qz x2))] 64 rfl (by decide) rfl rfl ?_
                    refine qr_iload 66 rfl rfl rfl ?_
                    refine qr_iload 68 rfl rfl rfl ?_
                    refine qr_icmp_gt 154 71 rfl rfl rfl (by omega) (by omega) (fun h => False.elim (by omega)) (fun h40 => ?_)
                    refine qr_iload 73 rfl rfl rfl ?_
                    refine qr_iload 75 rfl rfl rfl ?_
                    refine qr_icmp_le 93 78 rfl rfl rfl (by omega) (by omega) (fun h41 => ?_) (fun h => False.elim (by omega))
                    refine qr_aload_n 94 rfl rfl rfl ?_
                    refine qr_get 97 rfl rfl rfl (by decide) rfl ?_
                    refine qr_iload 99 rfl rfl rfl ?_
                    refine qy_call 102 rfl rfl rfl ?_
                    refine qr_start (d := d + 2) qv_e89 (Nat.le_of_ble_eq_true rfl) ?_
                    show qr_W (qe L xs vb) (d + 2) qx_e89 _ (0, [(0, .ref 58), (1, .int (qz (x1 / 10000)))], [], _, 0, 0)
                    refine qr_aload_n 1 rfl rfl rfl ?_
                    refine qr_iload_n 2 rfl rfl rfl ?_
                    refine qr_put 5 rfl (by decide) rfl (Nat.le_of_ble_eq_true rfl) (Nat.le_of_ble_eq_true rfl) (Or.inl rfl) (qr_fitI rfl _) rfl ?_
                    refine qy_wS (qw_s (qo_s s) 58 11 (x1 / 10000)) rfl (fun σ42 e42 => ?_)
                    refine qr_aload_n 6 rfl rfl rfl ?_
                    refine qr_dup 7 rfl rfl rfl ?_
                    refine qr_get 10 rfl rfl rfl (by decide) rfl ?_
                    refine qy_v 0 (by subst_vars; rfl) ?_
                    refine qr_iconst 11 rfl rfl ?_
                    refine qr_iadd 12 rfl rfl ?_
                    refine qy_v 1 rfl ?_
                    refine qr_put 15 rfl (by decide) rfl (Nat.le_of_ble_eq_true rfl) (Nat.le_of_ble_eq_true rfl) (Or.inl rfl) (qr_fitI rfl _) rfl ?_
                    refine qy_wS (qw_s σ42 58 12 1) rfl (fun σ43 e43 => ?_)
                    refine qr_retV rfl rfl (by decide) (by decide) ?_
                    show qr_W (qe L xs vb) (d + 3) qx_e99 _ (102, [(9, .int (qz (x1 / 10000))), (8, .int (qz (x1 % 10000))), (7, .int (qz (x1 / 10000))), (5, .long (ql 0)), (0, .ref 16), (1, .long (ql 0)), (3, .int (qz x1)), (4, .int (qz x2))], [], _, 0, 0)
                    refine qr_aload_n 103 rfl rfl rfl ?_
                    refine qr_get 106 rfl rfl rfl (by decide) rfl ?_
                    refine qr_lload 108 rfl rfl rfl ?_
                    refine qy_call 111 rfl rfl rfl ?_
                    refine qr_start (d := d + 2) qv_e104 (Nat.le_of_ble_eq_true rfl) ?_
                    show qr_W (qe L xs vb) (d + 2) qx_e104 _ (0, [(0, .ref 58), (1, .long (ql 0))], [], _, 0, 0)
                    refine qr_iconst 1 rfl rfl ?_
                    refine qr_istore_n [(3, .int (qz 0)), (0, .ref 58), (1, .long (ql 0))] 2 rfl (by decide) rfl rfl ?_
                    refine qr_iload_n 3 rfl rfl rfl ?_
                    refine qr_aload_n 4 rfl rfl rfl ?_
                    refine qr_get 7 rfl rfl rfl (by decide) rfl ?_
                    refine qr_get 10 rfl rfl rfl (by decide) rfl ?_
                    refine qy_v 0 (by subst_vars; rfl) ?_
                    refine qr_icmp_ge 87 13 rfl rfl rfl (by decide) (by decide) (fun _ => ?_) (fun h => absurd h (by decide))
                    refine qr_iconst 88 rfl rfl ?_
                    refine qr_retI rfl rfl (by decide) (by decide) ?_
                    show qr_W (qe L xs vb) (d + 3) qx_e99 _ (111, [(9, .int (qz (x1 / 10000))), (8, .int (qz (x1 % 10000))), (7, .int (qz (x1 / 10000))), (5, .long (ql 0)), (0, .ref 16), (1, .long (ql 0)), (3, .int (qz x1)), (4, .int (qz x2))], [.int (qz (-1))], _, 0, 0)
                    refine qr_istore [(10, .int (qz (-1))), (9, .int (qz (x1 / 10000))), (8, .int (qz (x1 % 10000))), (7, .int (qz (x1 / 10000))), (5, .long (ql 0)), (0, .ref 16), (1, .long (ql 0)), (3, .int (qz x1)), (4, .int (qz x2))] 113 rfl (by decide) rfl rfl ?_
                    refine qr_iload 115 rfl rfl rfl ?_
                    refine qr_if_lt 148 118 rfl rfl rfl (by decide) (fun _ => ?_) (fun h => absurd h (by decide))
                    refine qr_iinc [(9, .int (qz ((x1 / 10000) + 1))), (10, .int (qz (-1))), (8, .int (qz (x1 % 10000))), (7, .int (qz (x1 / 10000))), (5, .long (ql 0)), (0, .ref 16), (1, .long (ql 0)), (3, .int (qz x1)), (4, .int (qz x2))] 151 rfl rfl (by decide) rfl rfl ?_
                    refine qr_goto 64 rfl rfl ?_
                    refine qy_loop (fun z => ((x1 % 10000 + 1) - z).toNat) (fun z _ => x1 / 10000 < z ∧ z ≤ x1 % 10000 + 1) (fun z => [(9, .int (qz z)), (10, .int (qz (-1))), (8, .int (qz (x1 % 10000))), (7, .int (qz (x1 / 10000))), (5, .long (ql 0)), (0, .ref 16), (1, .long (ql 0)), (3, .int (qz x1)), (4, .int (qz x2))]) (fun z44 α44 hb44 ih44 => ?_) ((x1 / 10000) + 1) _ (by omega)
                    show qr_W (qe L xs vb) (d + 3) qx_e99 _ (64, [(9, .int (qz z44)), (10, .int (qz (-1))), (8, .int (qz (x1 % 10000))), (7, .int (qz (x1 / 10000))), (5, .long (ql 0)), (0, .ref 16), (1, .long (ql 0)), (3, .int (qz x1)), (4, .int (qz x2))], [], _, 0, 0)
                    as_aux_lemma =>
                      refine qr_iload 66 rfl rfl rfl ?_
                      refine qr_iload 68 rfl rfl rfl ?_
                      refine qr_icmp_gt 154 71 rfl rfl rfl (by omega) (by omega) (fun h45 => ?_) (fun h45 => ?_)
                      · skip
                        refine qr_bipush 156 rfl (by decide) rfl ?_
                        refine qr_retI rfl rfl (by decide) (by decide) ?_
                        refine ⟨⟨_, rfl⟩, ⟨_, _, _, _, rfl⟩, ?_⟩
                        refine qr_start (d := d + 3) qv_e229 (Nat.le_of_ble_eq_true rfl) ?_
                        show qr_W (qe L xs vb) (d + 3) qx_e229 _ (0, [(0, .ref 86), (1, .long (ql 0)), (3, .int (qz x1)), (4, .int (qz x2))], [], _, 0, 0)
                        refine qr_aload_n 1 rfl rfl rfl ?_
                        refine qr_lload_n 2 rfl rfl rfl ?_
                        refine qy_call 5 rfl rfl rfl ?_
                        refine qr_start (d := d + 2) qv_e225 (Nat.le_of_ble_eq_true rfl) ?_
                        show qr_W (qe L xs vb) (d + 2) qx_e225 _ (0, [(0, .ref 86), (1, .long (ql 0))], [], _, 0, 0)
                        refine qr_lload_n 1 rfl rfl rfl ?_
                        refine qr_lconst 2 rfl rfl ?_
                        refine qy_vl 0 rfl ?_
                        refine qr_lc_lt 21 6 rfl rfl rfl rfl (by decide) (by decide) (fun h => absurd h (by decide)) (fun _ => ?_)
                        refine qr_lload_n 7 rfl rfl rfl ?_
                        refine qr_aload_n 8 rfl rfl rfl ?_
                        refine qr_get 11 rfl rfl rfl (by decide) rfl ?_
                        refine qy_v 0 (by subst_vars; rfl) ?_
                        refine qr_lshr 12 rfl rfl ?_
                        refine qy_vl 0 rfl ?_
                        refine qr_lconst 13 rfl rfl ?_
                        refine qy_vl 0 rfl ?_
                        refine qr_lc_ne 21 17 rfl rfl rfl rfl (by decide) (by decide) (fun h => absurd h (by decide)) (fun _ => ?_)
                        refine qr_iconst 18 rfl rfl ?_
                        refine qr_goto 22 rfl rfl ?_
                        refine qr_retZ rfl rfl (by omega) (by decide) (by decide) ?_
                        show qr_W (qe L xs vb) (d + 3) qx_e229 _ (5, [(0, .ref 86), (1, .long (ql 0)), (3, .int (qz x1)), (4, .int (qz x2))], [.int (qz 1)], _, 0, 0)
                        refine qr_if_eq 28 8 rfl rfl rfl (by decide) (fun h => absurd h (by decide)) (fun _ => ?_)
                        refine qr_iload_n 9 rfl rfl rfl ?_
                        refine qy_call 12 rfl rfl rfl ?_
                        refine qr_start (d := d + 2) qv_e230 (Nat.le_of_ble_eq_true rfl) ?_
                        show qr_W (qe L xs vb) (d + 2) qx_e230 _ (0, [(0, .int (qz x1))], [], _, 0, 0)
                        refine qr_iload_n 1 rfl rfl rfl ?_
                        refine qr_if_lt 59 4 rfl rfl rfl (by omega) (fun h => False.elim (by omega)) (fun h46 => ?_)
                        refine qr_iload_n 5 rfl rfl rfl ?_
                        refine qr_sipush 8 rfl (by decide) rfl ?_
                        refine qr_idiv 9 rfl (by omega) (by omega) rfl ?_
                        refine qy_call 12 rfl rfl rfl ?_
                        refine qr_start (d := d + 1) qv_e192 (Nat.le_of_ble_eq_true rfl) ?_
                        show qr_W (qe L xs vb) (d + 1) qx_e192 _ (0, [(0, .int (qz (x1 / 10000)))], [], _, 0, 0)
                        refine qr_iload_n 1 rfl rfl rfl ?_
                        refine qr_i2l 2 rfl (by omega) rfl ?_
                        refine qr_lconst 3 rfl rfl ?_
                        refine qy_vl 0 rfl ?_
                        refine qr_ldc2 2399 6 rfl (by decide) rfl ?_
                        refine qy_call 9 rfl rfl rfl ?_
                        refine qr_start (d := d + 0) qv_e176 (Nat.le_of_ble_eq_true rfl) ?_
                        show qr_W (qe L xs vb) (d + 0) qx_e176 _ (0, [(0, .long (ql (x1 / 10000))), (2, .long (ql 0)), (4, .long (ql 2399))], [], _, 0, 0)
                        refine qr_lload_n 1 rfl rfl rfl ?_
                        refine qr_lload_n 2 rfl rfl rfl ?_
                        refine qr_lc_lt 17 6 rfl rfl rfl rfl (by omega) (by decide) (fun h => False.elim (by omega)) (fun h47 => ?_)
                        refine qr_lload_n 7 rfl rfl rfl ?_
                        refine qr_lload 9 rfl rfl rfl ?_
                        refine qr_lc_gt 17 13 rfl rfl rfl rfl (by omega) (by decide) (fun h => False.elim (by omega)) (fun h48 => ?_)
                        refine qr_iconst 14 rfl rfl ?_
                        refine qr_goto 18 rfl rfl ?_
                        refine qr_retZ rfl rfl (by omega) (by decide) (by decide) ?_
                        show qr_W (qe L xs vb) (d + 1) qx_e192 _ (9, [(0, .int (qz (x1 / 10000)))], [.int (qz 1)], _, 0, 0)
                        refine qr_retZ rfl rfl (by omega) (by decide) (by decide) ?_
                        show qr_W (qe L xs vb) (d + 2) qx_e230 _ (12, [(0, .int (qz x1))], [.int (qz 1)], _, 0, 0)
                        refine qr_if_eq 59 15 rfl rfl rfl (by decide) (fun h => absurd h (by decide)) (fun _ => ?_)
                        refine qr_iload_n 16 rfl rfl rfl ?_
                        refine qr_sipush 19 rfl (by decide) rfl ?_
                        refine qr_irem 20 rfl (by omega) (by omega) rfl ?_
                        refine qy_call 23 rfl rfl rfl ?_
                        refine qr_start (d := d + 1) qv_e192 (Nat.le_of_ble_eq_true rfl) ?_
                        show qr_W (qe L xs vb) (d + 1) qx_e192 _ (0, [(0, .int (qz (x1 % 10000)))], [], _, 0, 0)
                        refine qr_iload_n 1 rfl rfl rfl ?_
                        refine qr_i2l 2 rfl (by omega) rfl ?_
                        refine qr_lconst 3 rfl rfl ?_
                        refine qy_vl 0 rfl ?_
                        refine qr_ldc2 2399 6 rfl (by decide) rfl ?_
                        refine qy_call 9 rfl rfl rfl ?_
                        refine qr_start (d := d + 0) qv_e176 (Nat.le_of_ble_eq_true rfl) ?_
                        show qr_W (qe L xs vb) (d + 0) qx_e176 _ (0, [(0, .long (ql (x1 % 10000))), (2, .long (ql 0)), (4, .long (ql 2399))], [], _, 0, 0)
                        refine qr_lload_n 1 rfl rfl rfl ?_
                        refine qr_lload_n 2 rfl rfl rfl ?_
                        refine qr_lc_lt 17 6 rfl rfl rfl rfl (by omega) (by decide) (fun h => False.elim (by omega)) (fun h49 => ?_)
                        refine qr_lload_n 7 rfl rfl rfl ?_
                        refine qr_lload 9 rfl rfl rfl ?_
                        refine qr_lc_gt 17 13 rfl rfl rfl rfl (by omega) (by decide) (fun h => False.elim (by omega)) (fun h50 => ?_)
                        refine qr_iconst 14 rfl rfl ?_
                        as_aux_lemma =>
                          refine qr_goto 18 rfl rfl ?_
                          refine qr_retZ rfl rfl (by omega) (by decide) (by decide) ?_
                          show qr_W (qe L xs vb) (d + 1) qx_e192 _ (9, [(0, .int (qz (x1 % 10000)))], [.int (qz 1)], _, 0, 0)
                          refine qr_retZ rfl rfl (by omega) (by decide) (by decide) ?_
                          show qr_W (qe L xs vb) (d + 2) qx_e230 _ (23, [(0, .int (qz x1))], [.int (qz 1)], _, 0, 0)
                          refine qr_if_eq 59 26 rfl rfl rfl (by decide) (fun h => absurd h (by decide)) (fun _ => ?_)
                          refine qr_iload_n 27 rfl rfl rfl ?_
                          refine qr_sipush 30 rfl (by decide) rfl ?_
                          refine qr_idiv 31 rfl (by omega) (by omega) rfl ?_
                          refine qr_iload_n 32 rfl rfl rfl ?_
                          refine qr_sipush 35 rfl (by decide) rfl ?_
                          refine qr_irem 36 rfl (by omega) (by omega) rfl ?_
                          refine qr_icmp_gt 59 39 rfl rfl rfl (by omega) (by omega) (fun h => False.elim (by omega)) (fun h51 => ?_)
                          refine qr_iload_n 40 rfl rfl rfl ?_
                          refine qr_sipush 43 rfl (by decide) rfl ?_
                          refine qr_irem 44 rfl (by omega) (by omega) rfl ?_
                          refine qr_iload_n 45 rfl rfl rfl ?_
                          refine qr_sipush 48 rfl (by decide) rfl ?_
                          refine qr_idiv 49 rfl (by omega) (by omega) rfl ?_
                          refine qr_isub 50 rfl rfl ?_
                          refine qr_bipush 52 rfl (by decide) rfl ?_
                          refine qr_icmp_ge 59 55 rfl rfl rfl (by omega) (by decide) (fun h => False.elim (by omega)) (fun h52 => ?_)
                          refine qr_iconst 56 rfl rfl ?_
                          refine qr_goto 60 rfl rfl ?_
                          refine qr_retZ rfl rfl (by omega) (by decide) (by decide) ?_
                          show qr_W (qe L xs vb) (d + 3) qx_e229 _ (12, [(0, .ref 86), (1, .long (ql 0)), (3, .int (qz x1)), (4, .int (qz x2))], [.int (qz 1)], _, 0, 0)
                          refine qr_if_eq 28 15 rfl rfl rfl (by decide) (fun h => absurd h (by decide)) (fun _ => ?_)
                          refine qr_iload 17 rfl rfl rfl ?_
                          refine qr_i2l 18 rfl (by omega) rfl ?_
                          refine qr_lconst 19 rfl rfl ?_
                          refine qy_vl 0 rfl ?_
                          refine qr_ldc2 2 22 rfl (by decide) rfl ?_
                          refine qy_call 25 rfl rfl rfl ?_
                          refine qr_start (d := d + 2) qv_e176 (Nat.le_of_ble_eq_true rfl) ?_
                          show qr_W (qe L xs vb) (d + 2) qx_e176 _ (0, [(0, .long (ql x2)), (2, .long (ql 0)), (4, .long (ql 2))], [], _, 0, 0)
                          refine qr_lload_n 1 rfl rfl rfl ?_
                          refine qr_lload_n 2 rfl rfl rfl ?_
                          refine qr_lc_lt 17 6 rfl rfl rfl rfl (by omega) (by decide) (fun h => False.elim (by omega)) (fun h53 => ?_)
                          refine qr_lload_n 7 rfl rfl rfl ?_
                          refine qr_lload 9 rfl rfl rfl ?_
                          refine qr_lc_gt 17 13 rfl rfl rfl rfl (by omega) (by decide) (fun h => False.elim (by omega)) (fun h54 => ?_)
                          refine qr_iconst 14 rfl rfl ?_
                          refine qr_goto 18 rfl rfl ?_
                          refine qr_retZ rfl rfl (by omega) (by decide) (by decide) ?_
                          show qr_W (qe L xs vb) (d + 3) qx_e229 _ (25, [(0, .ref 86), (1, .long (ql 0)), (3, .int (qz x1)), (4, .int (qz x2))], [.int (qz 1)], _, 0, 0)
                          refine qr_if_ne 30 28 rfl rfl rfl (by decide) (fun _ => ?_) (fun h => absurd h (by decide))
                          refine qr_lload_n 31 rfl rfl rfl ?_
                          refine qr_aload_n 32 rfl rfl rfl ?_
                          refine qr_get 35 rfl rfl rfl (by decide) rfl ?_
                          refine qy_vl 0 (by subst_vars; rfl) ?_
                          refine qr_ldc2 (-1) 38 rfl (by decide) rfl ?_
                          refine qr_lxor 39 rfl rfl ?_
                          refine qy_vl (-1) rfl ?_
                          refine qr_land 40 rfl rfl ?_
                          refine qy_vl 0 rfl ?_
                          refine qr_lstore [(5, .long (ql 0)), (0, .ref 86), (1, .long (ql 0)), (3, .int (qz x1)), (4, .int (qz x2))] 42 rfl (by decide) rfl rfl ?_
                          refine qr_iload_n 43 rfl rfl rfl ?_
                          refine qr_sipush 46 rfl (by decide) rfl ?_
                          refine qr_idiv 47 rfl (by omega) (by omega) rfl ?_
                          refine qr_istore [(7, .int (qz (x1 / 10000))), (5, .long (ql 0)), (0, .ref 86), (1, .long (ql 0)), (3, .int (qz x1)), (4, .int (qz x2))] 49 rfl (by decide) rfl rfl ?_
                          refine qr_iload 51 rfl rfl rfl ?_
                          refine qr_iload_n 52 rfl rfl rfl ?_
                          refine qr_sipush 55 rfl (by decide) rfl ?_
                          refine qr_irem 56 rfl (by omega) (by omega) rfl ?_
                          refine qr_icmp_gt 167 59 rfl rfl rfl (by omega) (by omega) (fun h => False.elim (by omega)) (fun h55 => ?_)
                          refine qr_iconst 60 rfl rfl ?_
                          refine qr_istore [(8, .int (qz 0)), (7, .int (qz (x1 / 10000))), (5, .long (ql 0)), (0, .ref 86), (1, .long (ql 0)), (3, .int (qz x1)), (4, .int (qz x2))] 62 rfl (by decide) rfl rfl ?_
                          refine qr_iload 64 rfl rfl rfl ?_
                          refine qr_aload_n 65 rfl rfl rfl ?_
                          refine qr_get 68 rfl rfl rfl (by decide) rfl ?_
                          refine qy_v 0 (by subst_vars; rfl) ?_
                          refine qr_icmp_ge 161 71 rfl rfl rfl (by decide) (by decide) (fun _ => ?_) (fun h => absurd h (by decide))
                          as_aux_lemma =>
                            refine qr_iinc [(7, .int (qz ((x1 / 10000) + 1))), (8, .int (qz 0)), (5, .long (ql 0)), (0, .ref 86), (1, .long (ql 0)), (3, .int (qz x1)), (4, .int (qz x2))] 164 rfl rfl (by decide) rfl rfl ?_
                            refine qr_goto 49 rfl rfl ?_
                            refine qy_loop (fun z => ((x1 % 10000 + 1) - z).toNat) (fun z _ => x1 / 10000 ≤ z ∧ z ≤ x1 % 10000 + 1) (fun z => [(7, .int (qz z)), (8, .int (qz 0)), (5, .long (ql 0)), (0, .ref 86), (1, .long (ql 0)), (3, .int (qz x1)), (4, .int (qz x2))]) (fun z56 α56 hb56 ih56 => ?_) ((x1 / 10000) + 1) _ (by omega)
                            show qr_W (qe L xs vb) (d + 3) qx_e229 _ (49, [(7, .int (qz z56)), (8, .int (qz 0)), (5, .long (ql 0)), (0, .ref 86), (1, .long (ql 0)), (3, .int (qz x1)), (4, .int (qz x2))], [], _, 0, 0)
                            refine qr_iload 51 rfl rfl rfl ?_
                            refine qr_iload_n 52 rfl rfl rfl ?_
                            refine qr_sipush 55 rfl (by decide) rfl ?_
                            refine qr_irem 56 rfl (by omega) (by omega) rfl ?_
                            refine qr_icmp_gt 167 59 rfl rfl rfl (by omega) (by omega) (fun h57 => ?_) (fun h57 => ?_)
                            · skip
                              refine qr_bipush 169 rfl (by decide) rfl ?_
                              refine qr_retI rfl rfl (by decide) (by decide) ?_
                              exact rfl
                            · skip
                              refine qr_iconst 60 rfl rfl ?_
                              refine qr_istore [(8, .int (qz 0)), (7, .int (qz z56)), (5, .long (ql 0)), (0, .ref 86), (1, .long (ql 0)), (3, .int (qz x1)), (4, .int (qz x2))] 62 rfl (by decide) rfl rfl ?_
                              refine qr_iload 64 rfl rfl rfl ?_
                              refine qr_aload_n 65 rfl rfl rfl ?_
                              refine qr_get 68 rfl rfl rfl (by decide) rfl ?_
                              refine qy_v 0 (by subst_vars; rfl) ?_
                              refine qr_icmp_ge 161 71 rfl rfl rfl (by decide) (by decide) (fun _ => ?_) (fun h => absurd h (by decide))
                              refine qr_iinc [(7, .int (qz (z56 + 1))), (8, .int (qz 0)), (5, .long (ql 0)), (0, .ref 86), (1, .long (ql 0)), (3, .int (qz x1)), (4, .int (qz x2))] 164 rfl rfl (by decide) rfl rfl ?_
                              refine qr_goto 49 rfl rfl ?_
                              exact ih56 (z56 + 1) _ (by omega) (by omega)
                      · skip
                        refine qr_iload 73 rfl rfl rfl ?_
                        refine qr_iload 75 rfl rfl rfl ?_
                        refine qr_icmp_le 93 78 rfl rfl rfl (by omega) (by omega) (fun h => False.elim (by omega)) (fun h58 => ?_)
                        refine qr_aload_n 79 rfl rfl rfl ?_
                        refine qr_get 82 rfl rfl rfl (by decide) rfl ?_
                        refine qr_iload 84 rfl rfl rfl ?_
                        refine qy_call 87 rfl rfl rfl ?_
                        refine qr_start (d := d + 2) qv_e101 (Nat.le_of_ble_eq_true rfl) ?_
                        show qr_W (qe L xs vb) (d + 2) qx_e101 _ (0, [(0, .ref 58), (1, .int (qz z44))], [], _, 0, 0)
                        refine qr_aload_n 1 rfl rfl rfl ?_
                        refine qr_get 4 rfl rfl rfl (by decide) rfl ?_
                        refine qr_iload_n 5 rfl rfl rfl ?_
                        refine qy_call 8 rfl rfl rfl ?_
                        refine qr_start (d := d + 1) qv_e102 (Nat.le_of_ble_eq_true rfl) ?_
                        show qr_W (qe L xs vb) (d + 1) qx_e102 _ (0, [(0, .ref 27), (1, .int (qz z44))], [], _, 0, 0)
                        refine qr_iconst 1 rfl rfl ?_
                        refine qr_istore_n [(2, .int (qz 0)), (0, .ref 27), (1, .int (qz z44))] 2 rfl (by decide) rfl rfl ?_
                        refine qr_iload_n 3 rfl rfl rfl ?_
                        refine qr_aload_n 4 rfl rfl rfl ?_
                        refine qr_get 7 rfl rfl rfl (by decide) rfl ?_
                        refine qy_v 0 (by subst_vars; rfl) ?_
                        refine qr_icmp_ge 38 10 rfl rfl rfl (by decide) (by decide) (fun _ => ?_) (fun h => absurd h (by decide))
                        refine qr_iconst 39 rfl rfl ?_
                        refine qr_retZ rfl rfl (by omega) (by decide) (by decide) ?_
                        show qr_W (qe L xs vb) (d + 2) qx_e101 _ (8, [(0, .ref 58), (1, .int (qz z44))], [.int (qz 0)], _, 0, 0)
                        refine qr_if_ne 22 11 rfl rfl rfl (by decide) (fun h => absurd h (by decide)) (fun _ => ?_)
                        refine qr_aload_n 12 rfl rfl rfl ?_
                        refine qr_get 15 rfl rfl rfl (by decide) rfl ?_
                        refine qr_iload_n 16 rfl rfl rfl ?_
                        refine qy_call 19 rfl rfl rfl ?_
                        refine qr_start (d := d + 1) qv_e103 (Nat.le_of_ble_eq_true rfl) ?_
                        show qr_W (qe L xs vb) (d + 1) qx_e103 _ (0, [(0, .ref 34), (1, .int (qz z44))], [], _, 0, 0)
                        refine qr_iconst 1 rfl rfl ?_
                        refine qr_istore_n [(2, .int (qz 0)), (0, .ref 34), (1, .int (qz z44))] 2 rfl (by decide) rfl rfl ?_
                        refine qr_iload_n 3 rfl rfl rfl ?_
                        refine qr_aload_n 4 rfl rfl rfl ?_
                        refine qr_get 7 rfl rfl rfl (by decide) rfl ?_
                        refine qy_v 0 (by subst_vars; rfl) ?_
                        refine qr_icmp_ge 40 10 rfl rfl rfl (by decide) (by decide) (fun _ => ?_) (fun h => absurd h (by decide))
                        refine qr_iconst 41 rfl rfl ?_
                        refine qr_retZ rfl rfl (by omega) (by decide) (by decide) ?_
                        show qr_W (qe L xs vb) (d + 2) qx_e101 _ (19, [(0, .ref 58), (1, .int (qz z44))], [.int (qz 0)], _, 0, 0)
                        refine qr_if_eq 26 22 rfl rfl rfl (by decide) (fun _ => ?_) (fun h => absurd h (by decide))
                        refine qr_iconst 27 rfl rfl ?_
                        refine qr_retZ rfl rfl (by omega) (by decide) (by decide) ?_
                        show qr_W (qe L xs vb) (d + 3) qx_e99 _ (87, [(9, .int (qz z44)), (10, .int (qz (-1))), (8, .int (qz (x1 % 10000))), (7, .int (qz (x1 / 10000))), (5, .long (ql 0)), (0, .ref 16), (1, .long (ql 0)), (3, .int (qz x1)), (4, .int (qz x2))], [.int (qz 0)], _, 0, 0)
                        refine qr_if_ne 93 90 rfl rfl rfl (by decide) (fun h => absurd h (by decide)) (fun _ => ?_)
                        refine qr_goto 148 rfl rfl ?_
                        refine qr_iinc [(9, .int (qz (z44 + 1))), (10, .int (qz (-1))), (8, .int (qz (x1 % 10000))), (7, .int (qz (x1 / 10000))), (5, .long (ql 0)), (0, .ref 16), (1, .long (ql 0)), (3, .int (qz x1)), (4, .int (qz x2))] 151 rfl rfl (by decide) rfl rfl ?_
                        refine qr_goto 64 rfl rfl ?_
                        exact ih44 (z44 + 1) _ (by omega) (by omega)
                  · skip
                    refine qr_iconst 30 rfl rfl ?_
                    refine qr_retI rfl rfl (by decide) (by decide) ?_
                    refine ⟨⟨_, rfl⟩, ⟨_, _, _, _, rfl⟩, ?_⟩
                    refine qr_start (d := d + 3) qv_e229 (Nat.le_of_ble_eq_true rfl) ?_
                    show qr_W (qe L xs vb) (d + 3) qx_e229 _ (0, [(0, .ref 86), (1, .long (ql 0)), (3, .int (qz x1)), (4, .int (qz x2))], [], _, 0, 0)
                    refine qr_aload_n 1 rfl rfl rfl ?_
                    refine qr_lload_n 2 rfl rfl rfl ?_
                    refine qy_call 5 rfl rfl rfl ?_
                    refine qr_start (d := d + 2) qv_e225 (Nat.le_of_ble_eq_true rfl) ?_
                    show qr_W (qe L xs vb) (d + 2) qx_e225 _ (0, [(0, .ref 86), (1, .long (ql 0))], [], _, 0, 0)
                    refine qr_lload_n 1 rfl rfl rfl ?_
                    refine qr_lconst 2 rfl rfl ?_
                    refine qy_vl 0 rfl ?_
                    refine qr_lc_lt 21 6 rfl rfl rfl rfl (by decide) (by decide) (fun h => absurd h (by decide)) (fun _ => ?_)
                    refine qr_lload_n 7 rfl rfl rfl ?_
                    refine qr_aload_n 8 rfl rfl rfl ?_
                    refine qr_get 11 rfl rfl rfl (by decide) rfl ?_
                    refine qy_v 0 rfl ?_
                    refine qr_lshr 12 rfl rfl ?_
                    refine qy_vl 0 rfl ?_
                    refine qr_lconst 13 rfl rfl ?_
                    refine qy_vl 0 rfl ?_
                    refine qr_lc_ne 21 17 rfl rfl rfl rfl (by decide) (by decide) (fun h => absurd h (by decide)) (fun _ => ?_)
                    refine qr_iconst 18 rfl rfl ?_
                    refine qr_goto 22 rfl rfl ?_
                    refine qr_retZ rfl rfl (by omega) (by decide) (by decide) ?_
                    show qr_W (qe L xs vb) (d + 3) qx_e229 _ (5, [(0, .ref 86), (1, .long (ql 0)), (3, .int (qz x1)), (4, .int (qz x2))], [.int (qz 1)], _, 0, 0)
                    refine qr_if_eq 28 8 rfl rfl rfl (by decide) (fun h => absurd h (by decide)) (fun _ => ?_)
                    refine qr_iload_n 9 rfl rfl rfl ?_
                    refine qy_call 12 rfl rfl rfl ?_
                    refine qr_start (d := d + 2) qv_e230 (Nat.le_of_ble_eq_true rfl) ?_
                    show qr_W (qe L xs vb) (d + 2) qx_e230 _ (0, [(0, .int (qz x1))], [], _, 0, 0)
                    refine qr_iload_n 1 rfl rfl rfl ?_
                    refine qr_if_lt 59 4 rfl rfl rfl (by omega) (fun h => False.elim (by omega)) (fun h59 => ?_)
                    refine qr_iload_n 5 rfl rfl rfl ?_
                    refine qr_sipush 8 rfl (by decide) rfl ?_
                    refine qr_idiv 9 rfl (by omega) (by omega) rfl ?_
                    refine qy_call 12 rfl rfl rfl ?_
                    refine qr_start (d := d + 1) qv_e192 (Nat.le_of_ble_eq_true rfl) ?_
                    show qr_W (qe L xs vb) (d + 1) qx_e192 _ (0, [(0, .int (qz (x1 / 10000)))], [], _, 0, 0)
                    refine qr_iload_n 1 rfl rfl rfl ?_
                    refine qr_i2l 2 rfl (by omega) rfl ?_
                    refine qr_lconst 3 rfl rfl ?_
                    refine qy_vl 0 rfl ?_
                    refine qr_ldc2 2399 6 rfl (by decide) rfl ?_
                    refine qy_call 9 rfl rfl rfl ?_
                    refine qr_start (d := d + 0) qv_e176 (Nat.le_of_ble_eq_true rfl) ?_
                    show qr_W (qe L xs vb) (d + 0) qx_e176 _ (0, [(0, .long (ql (x1 / 10000))), (2, .long (ql 0)), (4, .long (ql 2399))], [], _, 0, 0)
                    refine qr_lload_n 1 rfl rfl rfl ?_
                    refine qr_lload_n 2 rfl rfl rfl ?_
                    refine qr_lc_lt 17 6 rfl rfl rfl rfl (by omega) (by decide) (fun h => False.elim (by omega)) (fun h60 => ?_)
                    refine qr_lload_n 7 rfl rfl rfl ?_
                    refine qr_lload 9 rfl rfl rfl ?_
                    refine qr_lc_gt 17 13 rfl rfl rfl rfl (by omega) (by decide) (fun h => False.elim (by omega)) (fun h61 => ?_)
                    refine qr_iconst 14 rfl rfl ?_
                    refine qr_goto 18 rfl rfl ?_
                    refine qr_retZ rfl rfl (by omega) (by decide) (by decide) ?_
                    show qr_W (qe L xs vb) (d + 1) qx_e192 _ (9, [(0, .int (qz (x1 / 10000)))], [.int (qz 1)], _, 0, 0)
                    refine qr_retZ rfl rfl (by omega) (by decide) (by decide) ?_
                    show qr_W (qe L xs vb) (d + 2) qx_e230 _ (12, [(0, .int (qz x1))], [.int (qz 1)], _, 0, 0)
                    refine qr_if_eq 59 15 rfl rfl rfl (by decide) (fun h => absurd h (by decide)) (fun _ => ?_)
                    refine qr_iload_n 16 rfl rfl rfl ?_
                    refine qr_sipush 19 rfl (by decide) rfl ?_
                    refine qr_irem 20 rfl (by omega) (by omega) rfl ?_
                    refine qy_call 23 rfl rfl rfl ?_
                    refine qr_start (d := d + 1) qv_e192 (Nat.le_of_ble_eq_true rfl) ?_
                    show qr_W (qe L xs vb) (d + 1) qx_e192 _ (0, [(0, .int (qz (x1 % 10000)))], [], _, 0, 0)
                    refine qr_iload_n 1 rfl rfl rfl ?_
                    refine qr_i2l 2 rfl (by omega) rfl ?_
                    refine qr_lconst 3 rfl rfl ?_
                    refine qy_vl 0 rfl ?_
                    refine qr_ldc2 2399 6 rfl (by decide) rfl ?_
                    refine qy_call 9 rfl rfl rfl ?_
                    refine qr_start (d := d + 0) qv_e176 (Nat.le_of_ble_eq_true rfl) ?_
                    show qr_W (qe L xs vb) (d + 0) qx_e176 _ (0, [(0, .long (ql (x1 % 10000))), (2, .long (ql 0)), (4, .long (ql 2399))], [], _, 0, 0)
                    refine qr_lload_n 1 rfl rfl rfl ?_
                    refine qr_lload_n 2 rfl rfl rfl ?_
                    refine qr_lc_lt 17 6 rfl rfl rfl rfl (by omega) (by decide) (fun h => False.elim (by omega)) (fun h62 => ?_)
                    refine qr_lload_n 7 rfl rfl rfl ?_
                    refine qr_lload 9 rfl rfl rfl ?_
                    as_aux_lemma =>
                      refine qr_lc_gt 17 13 rfl rfl rfl rfl (by omega) (by decide) (fun h => False.elim (by omega)) (fun h63 => ?_)
                      refine qr_iconst 14 rfl rfl ?_
                      refine qr_goto 18 rfl rfl ?_
                      refine qr_retZ rfl rfl (by omega) (by decide) (by decide) ?_
                      show qr_W (qe L xs vb) (d + 1) qx_e192 _ (9, [(0, .int (qz (x1 % 10000)))], [.int (qz 1)], _, 0, 0)
                      refine qr_retZ rfl rfl (by omega) (by decide) (by decide) ?_
                      show qr_W (qe L xs vb) (d + 2) qx_e230 _ (23, [(0, .int (qz x1))], [.int (qz 1)], _, 0, 0)
                      refine qr_if_eq 59 26 rfl rfl rfl (by decide) (fun h => absurd h (by decide)) (fun _ => ?_)
                      refine qr_iload_n 27 rfl rfl rfl ?_
                      refine qr_sipush 30 rfl (by decide) rfl ?_
                      refine qr_idiv 31 rfl (by omega) (by omega) rfl ?_
                      refine qr_iload_n 32 rfl rfl rfl ?_
                      refine qr_sipush 35 rfl (by decide) rfl ?_
                      refine qr_irem 36 rfl (by omega) (by omega) rfl ?_
                      refine qr_icmp_gt 59 39 rfl rfl rfl (by omega) (by omega) (fun h => False.elim (by omega)) (fun h64 => ?_)
                      refine qr_iload_n 40 rfl rfl rfl ?_
                      refine qr_sipush 43 rfl (by decide) rfl ?_
                      refine qr_irem 44 rfl (by omega) (by omega) rfl ?_
                      refine qr_iload_n 45 rfl rfl rfl ?_
                      refine qr_sipush 48 rfl (by decide) rfl ?_
                      refine qr_idiv 49 rfl (by omega) (by omega) rfl ?_
                      refine qr_isub 50 rfl rfl ?_
                      refine qr_bipush 52 rfl (by decide) rfl ?_
                      refine qr_icmp_ge 59 55 rfl rfl rfl (by omega) (by decide) (fun h => False.elim (by omega)) (fun h65 => ?_)
                      refine qr_iconst 56 rfl rfl ?_
                      refine qr_goto 60 rfl rfl ?_
                      refine qr_retZ rfl rfl (by omega) (by decide) (by decide) ?_
                      show qr_W (qe L xs vb) (d + 3) qx_e229 _ (12, [(0, .ref 86), (1, .long (ql 0)), (3, .int (qz x1)), (4, .int (qz x2))], [.int (qz 1)], _, 0, 0)
                      refine qr_if_eq 28 15 rfl rfl rfl (by decide) (fun h => absurd h (by decide)) (fun _ => ?_)
                      refine qr_iload 17 rfl rfl rfl ?_
                      refine qr_i2l 18 rfl (by omega) rfl ?_
                      refine qr_lconst 19 rfl rfl ?_
                      refine qy_vl 0 rfl ?_
                      refine qr_ldc2 2 22 rfl (by decide) rfl ?_
                      refine qy_call 25 rfl rfl rfl ?_
                      refine qr_start (d := d + 2) qv_e176 (Nat.le_of_ble_eq_true rfl) ?_
                      show qr_W (qe L xs vb) (d + 2) qx_e176 _ (0, [(0, .long (ql x2)), (2, .long (ql 0)), (4, .long (ql 2))], [], _, 0, 0)
                      refine qr_lload_n 1 rfl rfl rfl ?_
                      refine qr_lload_n 2 rfl rfl rfl ?_
                      refine qr_lc_lt 17 6 rfl rfl rfl rfl (by omega) (by decide) (fun h => False.elim (by omega)) (fun h66 => ?_)
                      refine qr_lload_n 7 rfl rfl rfl ?_
                      refine qr_lload 9 rfl rfl rfl ?_
                      refine qr_lc_gt 17 13 rfl rfl rfl rfl (by omega) (by decide) (fun h67 => ?_) (fun h => False.elim (by omega))
                      refine qr_iconst 18 rfl rfl ?_
                      refine qr_retZ rfl rfl (by omega) (by decide) (by decide) ?_
                      show qr_W (qe L xs vb) (d + 3) qx_e229 _ (25, [(0, .ref 86), (1, .long (ql 0)), (3, .int (qz x1)), (4, .int (qz x2))], [.int (qz 0)], _, 0, 0)
                      refine qr_if_ne 30 28 rfl rfl rfl (by decide) (fun h => absurd h (by decide)) (fun _ => ?_)
                      refine qr_iconst 29 rfl rfl ?_
                      refine qr_retI rfl rfl (by decide) (by decide) ?_
                      exact rfl

set_option maxHeartbeats 8000000 in
set_option maxRecDepth 20000 in
/-- row on the fresh objects: both answer alike -/
theorem sx_row {L : Nat} {xs : Nat → Int} {vb : Bool} {d : Nat} {s g : Nat → Nat → Int} {x0 : Int} {x1 : Int} {x2 : Int} (hok : qo_ok s g) (rx0 : -2147483648 ≤ x0 ∧ x0 ≤ 2147483647) (rx1 : -2147483648 ≤ x1 ∧ x1 ≤ 2147483647) (rx2 : -2147483648 ≤ x2 ∧ x2 ≤ 2147483647) : qm_T (qe L xs vb) (d + 3) 157 [.ref 16, .int (qz x0), .int (qz x1), .int (qz x2)] (qw (qo_s s) (qo_r g) qo_k 82) (fun r w => (∃ y : Int, r = some (.int (qz y))) ∧ (∃ σ α κ ρ, w = qw σ α κ ρ) ∧ qm_T (qe L xs vb) (d + 3) 263 [.ref 86, .int (qz x0), .int (qz x1), .int (qz x2)] w (fun r' _ => r' = r)) := by
  refine qr_start (d := d + 2) qv_e157 (Nat.le_of_ble_eq_true rfl) ?_
  show qr_W (qe L xs vb) (d + 2) qx_e157 _ (0, [(0, .ref 16), (1, .int (qz x0)), (2, .int (qz x1)), (3, .int (qz x2))], [], _, 0, 0)
  refine qr_aload_n 1 rfl rfl rfl ?_
  refine qr_get 4 rfl rfl rfl (by decide) rfl ?_
  refine qr_iload_n 5 rfl rfl rfl ?_
  refine qy_call 8 rfl rfl rfl ?_
  refine qr_start (d := d + 1) qv_e44 (Nat.le_of_ble_eq_true rfl) ?_
  show qr_W (qe L xs vb) (d + 1) qx_e44 _ (0, [(0, .ref 44), (1, .int (qz x0))], [], _, 0, 0)
  refine qr_iload_n 1 rfl rfl rfl ?_
  refine qr_if_lt 14 4 rfl rfl rfl (by omega) (fun h1 => ?_) (fun h1 => ?_)
  · skip
    refine qr_iconst 15 rfl rfl ?_
    refine qr_retZ rfl rfl (by omega) (by decide) (by decide) ?_
    show qr_W (qe L xs vb) (d + 2) qx_e157 _ (8, [(0, .ref 16), (1, .int (qz x0)), (2, .int (qz x1)), (3, .int (qz x2))], [.int (qz 0)], _, 0, 0)
    refine qr_if_eq 26 11 rfl rfl rfl (by decide) (fun _ => ?_) (fun h => absurd h (by decide))
    refine qr_iconst 27 rfl rfl ?_
    refine qr_retI rfl rfl (by decide) (by decide) ?_
    refine ⟨⟨_, rfl⟩, ⟨_, _, _, _, rfl⟩, ?_⟩
    refine qr_start (d := d + 2) qv_e263 (Nat.le_of_ble_eq_true rfl) ?_
    show qr_W (qe L xs vb) (d + 2) qx_e263 _ (0, [(0, .ref 86), (1, .int (qz x0)), (2, .int (qz x1)), (3, .int (qz x2))], [], _, 0, 0)
    refine qr_iload_n 1 rfl rfl rfl ?_
    refine qy_call 4 rfl rfl rfl ?_
    refine qr_start (d := d + 1) qv_e178 (Nat.le_of_ble_eq_true rfl) ?_
    show qr_W (qe L xs vb) (d + 1) qx_e178 _ (0, [(0, .int (qz x0))], [], _, 0, 0)
    refine qr_iload_n 1 rfl rfl rfl ?_
    refine qr_i2l 2 rfl (by omega) rfl ?_
    refine qr_lconst 3 rfl rfl ?_
    refine qy_vl 0 rfl ?_
    refine qr_ldc2 5 6 rfl (by decide) rfl ?_
    refine qy_call 9 rfl rfl rfl ?_
    refine qr_start (d := d + 0) qv_e176 (Nat.le_of_ble_eq_true rfl) ?_
    show qr_W (qe L xs vb) (d + 0) qx_e176 _ (0, [(0, .long (ql x0)), (2, .long (ql 0)), (4, .long (ql 5))], [], _, 0, 0)
    refine qr_lload_n 1 rfl rfl rfl ?_
    refine qr_lload_n 2 rfl rfl rfl ?_
    refine qr_lc_lt 17 6 rfl rfl rfl rfl (by omega) (by decide) (fun h2 => ?_) (fun h => False.elim (by omega))
    refine qr_iconst 18 rfl rfl ?_
    refine qr_retZ rfl rfl (by omega) (by decide) (by decide) ?_
    show qr_W (qe L xs vb) (d + 1) qx_e178 _ (9, [(0, .int (qz x0))], [.int (qz 0)], _, 0, 0)
    refine qr_retZ rfl rfl (by omega) (by decide) (by decide) ?_
    show qr_W (qe L xs vb) (d + 2) qx_e263 _ (4, [(0, .ref 86), (1, .int (qz x0)), (2, .int (qz x1)), (3, .int (qz x2))], [.int (qz 0)], _, 0, 0)
    refine qr_if_eq 25 7 rfl rfl rfl (by decide) (fun _ => ?_) (fun h => absurd h (by decide))
    refine qr_iconst 26 rfl rfl ?_
    refine qr_retI rfl rfl (by decide) (by decide) ?_
    exact rfl
  · skip
    refine qr_iload_n 5 rfl rfl rfl ?_
    refine qr_bipush 7 rfl (by decide) rfl ?_
    refine qr_icmp_ge 14 10 rfl rfl rfl (by omega) (by decide) (fun h3 => ?_) (fun h3 => ?_)
    · skip
      refine qr_iconst 15 rfl rfl ?_
      refine qr_retZ rfl rfl (by omega) (by decide) (by decide) ?_
      show qr_W (qe L xs vb) (d + 2) qx_e157 _ (8, [(0, .ref 16), (1, .int (qz x0)), (2, .int (qz x1)), (3, .int (qz x2))], [.int (qz 0)], _, 0, 0)
      refine qr_if_eq 26 11 rfl rfl rfl (by decide) (fun _ => ?_) (fun h => absurd h (by decide))
      refine qr_iconst 27 rfl rfl ?_
      refine qr_retI rfl rfl (by decide) (by decide) ?_
      refine ⟨⟨_, rfl⟩, ⟨_, _, _, _, rfl⟩, ?_⟩
      refine qr_start (d := d + 2) qv_e263 (Nat.le_of_ble_eq_true rfl) ?_
      show qr_W (qe L xs vb) (d + 2) qx_e263 _ (0, [(0, .ref 86), (1, .int (qz x0)), (2, .int (qz x1)), (3, .int (qz x2))], [], _, 0, 0)
      refine qr_iload_n 1 rfl rfl rfl ?_
      refine qy_call 4 rfl rfl rfl ?_
      refine qr_start (d := d + 1) qv_e178 (Nat.le_of_ble_eq_true rfl) ?_
      show qr_W (qe L xs vb) (d + 1) qx_e178 _ (0, [(0, .int (qz x0))], [], _, 0, 0)
      refine qr_iload_n 1 rfl rfl rfl ?_
      refine qr_i2l 2 rfl (by omega) rfl ?_
      refine qr_lconst 3 rfl rfl ?_
      refine qy_vl 0 rfl ?_
      refine qr_ldc2 5 6 rfl (by decide) rfl ?_
      refine qy_call 9 rfl rfl rfl ?_
      refine qr_start (d := d + 0) qv_e176 (Nat.le_of_ble_eq_true rfl) ?_
      show qr_W (qe L xs vb) (d + 0) qx_e176 _ (0, [(0, .long (ql x0)), (2, .long (ql 0)), (4, .long (ql 5))], [], _, 0, 0)
      refine qr_lload_n 1 rfl rfl rfl ?_
      refine qr_lload_n 2 rfl rfl rfl ?_
      refine qr_lc_lt 17 6 rfl rfl rfl rfl (by omega) (by decide) (fun h => False.elim (by omega)) (fun h4 => ?_)
      refine qr_lload_n 7 rfl rfl rfl ?_
      refine qr_lload 9 rfl rfl rfl ?_
      refine qr_lc_gt 17 13 rfl rfl rfl rfl (by omega) (by decide) (fun h5 => ?_) (fun h => False.elim (by omega))
      refine qr_iconst 18 rfl rfl ?_
      refine qr_retZ rfl rfl (by omega) (by decide) (by decide) ?_
      show qr_W (qe L xs vb) (d + 1) qx_e178 _ (9, [(0, .int (qz x0))], [.int (qz 0)], _, 0, 0)
      refine qr_retZ rfl rfl (by omega) (by decide) (by decide) ?_
      show qr_W (qe L xs vb) (d + 2) qx_e263 _ (4, [(0, .ref 86), (1, .int (qz x0)), (2, .int (qz x1)), (3, .int (qz x2))], [.int (qz 0)], _, 0, 0)
      refine qr_if_eq 25 7 rfl rfl rfl (by decide) (fun _ => ?_) (fun h => absurd h (by decide))
      refine qr_iconst 26 rfl rfl ?_
      refine qr_retI rfl rfl (by decide) (by decide) ?_
      exact rfl
    · skip
      refine qr_iconst 11 rfl rfl ?_
      refine qr_goto 15 rfl rfl ?_
      refine qr_retZ rfl rfl (by omega) (by decide) (by decide) ?_
      show qr_W (qe L xs vb) (d + 2) qx_e157 _ (8, [(0, .ref 16), (1, .int (qz x0)), (2, .int (qz x1)), (3, .int (qz x2))], [.int (qz 1)], _, 0, 0)
      refine qr_if_eq 26 11 rfl rfl rfl (by decide) (fun h => absurd h (by decide)) (fun _ => ?_)
      refine qr_iload_n 12 rfl rfl rfl ?_
      refine qr_if_lt 26 15 rfl rfl rfl (by omega) (fun h6 => ?_) (fun h6 => ?_)
      · skip
        refine qr_iconst 27 rfl rfl ?_
        refine qr_retI rfl rfl (by decide) (by decide) ?_
        refine ⟨⟨_, rfl⟩, ⟨_, _, _, _, rfl⟩, ?_⟩
        refine qr_start (d := d + 2) qv_e263 (Nat.le_of_ble_eq_true rfl) ?_
        show qr_W (qe L xs vb) (d + 2) qx_e263 _ (0, [(0, .ref 86), (1, .int (qz x0)), (2, .int (qz x1)), (3, .int (qz x2))], [], _, 0, 0)
        refine qr_iload_n 1 rfl rfl rfl ?_
        refine qy_call 4 rfl rfl rfl ?_
        refine qr_start (d := d + 1) qv_e178 (Nat.le_of_ble_eq_true rfl) ?_
        show qr_W (qe L xs vb) (d + 1) qx_e178 _ (0, [(0, .int (qz x0))], [], _, 0, 0)
        refine qr_iload_n 1 rfl rfl rfl ?_
        refine qr_i2l 2 rfl (by omega) rfl ?_
        refine qr_lconst 3 rfl rfl ?_
        refine qy_vl 0 rfl ?_
        refine qr_ldc2 5 6 rfl (by decide) rfl ?_
        refine qy_call 9 rfl rfl rfl ?_
        refine qr_start (d := d + 0) qv_e176 (Nat.le_of_ble_eq_true rfl) ?_
        show qr_W (qe L xs vb) (d + 0) qx_e176 _ (0, [(0, .long (ql x0)), (2, .long (ql 0)), (4, .long (ql 5))], [], _, 0, 0)
        refine qr_lload_n 1 rfl rfl rfl ?_
        refine qr_lload_n 2 rfl rfl rfl ?_
        refine qr_lc_lt 17 6 rfl rfl rfl rfl (by omega) (by decide) (fun h => False.elim (by omega)) (fun h7 => ?_)
        refine qr_lload_n 7 rfl rfl rfl ?_
        refine qr_lload 9 rfl rfl rfl ?_
        refine qr_lc_gt 17 13 rfl rfl rfl rfl (by omega) (by decide) (fun h => False.elim (by omega)) (fun h8 => ?_)
        refine qr_iconst 14 rfl rfl ?_
        refine qr_goto 18 rfl rfl ?_
        refine qr_retZ rfl rfl (by omega) (by decide) (by decide) ?_
        show qr_W (qe L xs vb) (d + 1) qx_e178 _ (9, [(0, .int (qz x0))], [.int (qz 1)], _, 0, 0)
        refine qr_retZ rfl rfl (by omega) (by decide) (by decide) ?_
        show qr_W (qe L xs vb) (d + 2) qx_e263 _ (4, [(0, .ref 86), (1, .int (qz x0)), (2, .int (qz x1)), (3, .int (qz x2))], [.int (qz 1)], _, 0, 0)
        refine qr_if_eq 25 7 rfl rfl rfl (by decide) (fun h => absurd h (by decide)) (fun _ => ?_)
        refine qr_iload_n 8 rfl rfl rfl ?_
        refine qr_i2l 9 rfl (by omega) rfl ?_
        refine qr_lconst 10 rfl rfl ?_
        refine qy_vl 0 rfl ?_
        refine qr_ldc2 4 13 rfl (by decide) rfl ?_
        refine qy_call 16 rfl rfl rfl ?_
        refine qr_start (d := d + 1) qv_e176 (Nat.le_of_ble_eq_true rfl) ?_
        show qr_W (qe L xs vb) (d + 1) qx_e176 _ (0, [(0, .long (ql x1)), (2, .long (ql 0)), (4, .long (ql 4))], [], _, 0, 0)
        refine qr_lload_n 1 rfl rfl rfl ?_
        refine qr_lload_n 2 rfl rfl rfl ?_
        refine qr_lc_lt 17 6 rfl rfl rfl rfl (by omega) (by decide) (fun h9 => ?_) (fun h => False.elim (by omega))
        refine qr_iconst 18 rfl rfl ?_
        refine qr_retZ rfl rfl (by omega) (by decide) (by decide) ?_
        show qr_W (qe L xs vb) (d + 2) qx_e263 _ (16, [(0, .ref 86), (1, .int (qz x0)), (2, .int (qz x1)), (3, .int (qz x2))], [.int (qz 0)], _, 0, 0)
        refine qr_if_eq 25 19 rfl rfl rfl (by decide) (fun _ => ?_) (fun h => absurd h (by decide))
        refine qr_iconst 26 rfl rfl ?_
        refine qr_retI rfl rfl (by decide) (by decide) ?_
        exact rfl
      · skip
        refine qr_iload_n 16 rfl rfl rfl ?_
        refine qr_iconst 17 rfl rfl ?_
        refine qr_icmp_ge 26 20 rfl rfl rfl (by omega) (by decide) (fun h10 => ?_) (fun h10 => ?_)
        · skip
          refine qr_iconst 27 rfl rfl ?_
          refine qr_retI rfl rfl (by decide) (by decide) ?_
          refine ⟨⟨_, rfl⟩, ⟨_, _, _, _, rfl⟩, ?_⟩
          refine qr_start (d := d + 2) qv_e263 (Nat.le_of_ble_eq_true rfl) ?_
          show qr_W (qe L xs vb) (d + 2) qx_e263 _ (0, [(0, .ref 86), (1, .int (qz x0)), (2, .int (qz x1)), (3, .int (qz x2))], [], _, 0, 0)
          refine qr_iload_n 1 rfl rfl rfl ?_
          refine qy_call 4 rfl rfl rfl ?_
          refine qr_start (d := d + 1) qv_e178 (Nat.le_of_ble_eq_true rfl) ?_
          show qr_W (qe L xs vb) (d + 1) qx_e178 _ (0, [(0, .int (qz x0))], [], _, 0, 0)
          refine qr_iload_n 1 rfl rfl rfl ?_
          refine qr_i2l 2 rfl (by omega) rfl ?_
          refine qr_lconst 3 rfl rfl ?_
          refine qy_vl 0 rfl ?_
          refine qr_ldc2 5 6 rfl (by decide) rfl ?_
          refine qy_call 9 rfl rfl rfl ?_
          refine qr_start (d := d + 0) qv_e176 (Nat.le_of_ble_eq_true rfl) ?_
          show qr_W (qe L xs vb) (d + 0) qx_e176 _ (0, [(0, .long (ql x0)), (2, .long (ql 0)), (4, .long (ql 5))], [], _, 0, 0)
          refine qr_lload_n 1 rfl rfl rfl ?_
          refine qr_lload_n 2 rfl rfl rfl ?_
          refine qr_lc_lt 17 6 rfl rfl rfl rfl (by omega) (by decide) (fun h => False.elim (by omega)) (fun h11 => ?_)
          refine qr_lload_n 7 rfl rfl rfl ?_
          refine qr_lload 9 rfl rfl rfl ?_
          refine qr_lc_gt 17 13 rfl rfl rfl rfl (by omega) (by decide) (fun h => False.elim (by omega)) (fun h12 => ?_)
          refine qr_iconst 14 rfl rfl ?_
          refine qr_goto 18 rfl rfl ?_
          refine qr_retZ rfl rfl (by omega) (by decide) (by decide) ?_
          show qr_W (qe L xs vb) (d + 1) qx_e178 _ (9, [(0, .int (qz x0))], [.int (qz 1)], _, 0, 0)
          refine qr_retZ rfl rfl (by omega) (by decide) (by decide) ?_
          show qr_W (qe L xs vb) (d + 2) qx_e263 _ (4, [(0, .ref 86), (1, .int (qz x0)), (2, .int (qz x1)), (3, .int (qz x2))], [.int (qz 1)], _, 0, 0)
          refine qr_if_eq 25 7 rfl rfl rfl (by decide) (fun h => absurd h (by decide)) (fun _ => ?_)
          refine qr_iload_n 8 rfl rfl rfl ?_
          refine qr_i2l 9 rfl (by omega) rfl ?_
          refine qr_lconst 10 rfl rfl ?_
          refine qy_vl 0 rfl ?_
          refine qr_ldc2 4 13 rfl (by decide) rfl ?_
          refine qy_call 16 rfl rfl rfl ?_
          refine qr_start (d := d + 1) qv_e176 (Nat.le_of_ble_eq_true rfl) ?_
          show qr_W (qe L xs vb) (d + 1) qx_e176 _ (0, [(0, .long (ql x1)), (2, .long (ql 0)), (4, .long (ql 4))], [], _, 0, 0)
          refine qr_lload_n 1 rfl rfl rfl ?_
          refine qr_lload_n 2 rfl rfl rfl ?_
          refine qr_lc_lt 17 6 rfl rfl rfl rfl (by omega) (by decide) (fun h => False.elim (by omega)) (fun h13 => ?_)
          refine qr_lload_n 7 rfl rfl rfl ?_
          refine qr_lload 9 rfl rfl rfl ?_
          refine qr_lc_gt 17 13 rfl rfl rfl rfl (by omega) (by decide) (fun h14 => ?_) (fun h => False.elim (by omega))
          refine qr_iconst 18 rfl rfl ?_
          refine qr_retZ rfl rfl (by omega) (by decide) (by decide) ?_
          show qr_W (qe L xs vb) (d + 2) qx_e263 _ (16, [(0, .ref 86), (1, .int (qz x0)), (2, .int (qz x1)), (3, .int (qz x2))], [.int (qz 0)], _, 0, 0)
          refine qr_if_eq 25 19 rfl rfl rfl (by decide) (fun _ => ?_) (fun h => absurd h (by decide))
          refine qr_iconst 26 rfl rfl ?_
          refine qr_retI rfl rfl (by decide) (by decide) ?_
          exact rfl
        · skip
          refine qr_iload_n 21 rfl rfl rfl ?_
          refine qr_bipush 23 rfl (by decide) rfl ?_
          refine qr_icmp_le 28 26 rfl rfl rfl (by omega) (by decide) (fun h15 => ?_) (fun h15 => ?_)
          · skip
            refine qr_iload_n 29 rfl rfl rfl ?_
            refine qr_if_ge 35 32 rfl rfl rfl (by omega) (fun h16 => ?_) (fun h16 => ?_)
            · skip
              refine qr_aload_n 36 rfl rfl rfl ?_
              refine qr_get 39 rfl rfl rfl (by decide) rfl ?_
              refine qr_iload_n 40 rfl rfl rfl ?_
              refine qr_iload_n 41 rfl rfl rfl ?_
              refine qr_iload_n 42 rfl rfl rfl ?_
              refine qy_call 45 rfl rfl rfl ?_
              refine qr_start (d := d + 1) qv_e158 (Nat.le_of_ble_eq_true rfl) ?_
              show qr_W (qe L xs vb) (d + 1) qx_e158 _ (0, [(0, .ref 44), (1, .int (qz x0)), (2, .int (qz x1)), (3, .int (qz x2))], [], _, 0, 0)
              refine qr_aload_n 1 rfl rfl rfl ?_
              refine qr_get 4 rfl rfl rfl (by decide) rfl ?_
              refine qr_iload_n 5 rfl rfl rfl ?_
              refine qr_iload_n 6 rfl rfl rfl ?_
              refine qr_iastore 7 rfl (by decide) rfl (by omega) (by decide) rfl ?_
              refine qy_wA (qw_r (qo_r g) 45 (qzu ((qo_r g) 45) (x0 : Int).toNat x1)) rfl (fun α17 e17 => ?_)
              refine qr_aload_n 8 rfl rfl rfl ?_
              refine qr_get 11 rfl rfl rfl (by decide) rfl ?_
              refine qr_iload_n 12 rfl rfl rfl ?_
              refine qr_iload_n 13 rfl rfl rfl ?_
              refine qr_iastore 14 rfl (by decide) rfl (by omega) (by decide) rfl ?_
              refine qy_wA (qw_r α17 46 (qzu (α17 46) (x0 : Int).toNat x2)) rfl (fun α18 e18 => ?_)
              refine qr_iconst 15 rfl rfl ?_
              refine qr_istore [(4, .int (qz 0)), (0, .ref 44), (1, .int (qz x0)), (2, .int (qz x1)), (3, .int (qz x2))] 17 rfl (by decide) rfl rfl ?_
              refine qy_loop (fun z => ((x2 + 1) - z).toNat) (fun z _ => 0 ≤ z ∧ z ≤ x2) (fun z => [(4, .int (qz z)), (0, .ref 44), (1, .int (qz x0)), (2, .int (qz x1)), (3, .int (qz x2))]) (fun z19 α19 hb19 ih19 => ?_) 0 _ (by omega)
              show qr_W (qe L xs vb) (d + 1) qx_e158 _ (17, [(4, .int (qz z19)), (0, .ref 44), (1, .int (qz x0)), (2, .int (qz x1)), (3, .int (qz x2))], [], _, 0, 0)
              refine qr_iload 19 rfl rfl rfl ?_
              refine qr_iload_n 20 rfl rfl rfl ?_
              refine qr_icmp_ge 42 23 rfl rfl rfl (by omega) (by omega) (fun h20 => ?_) (fun h20 => ?_)
              · skip
                refine qr_retV rfl rfl (by decide) (by decide) ?_
                show qr_W (qe L xs vb) (d + 2) qx_e157 _ (45, [(0, .ref 16), (1, .int (qz x0)), (2, .int (qz x1)), (3, .int (qz x2))], [], _, 0, 0)
                refine qr_iconst 46 rfl rfl ?_
                refine qr_retI rfl rfl (by decide) (by decide) ?_
                refine ⟨⟨_, rfl⟩, ⟨_, _, _, _, rfl⟩, ?_⟩
                refine qr_start (d := d + 2) qv_e263 (Nat.le_of_ble_eq_true rfl) ?_
                show qr_W (qe L xs vb) (d + 2) qx_e263 _ (0, [(0, .ref 86), (1, .int (qz x0)), (2, .int (qz x1)), (3, .int (qz x2))], [], _, 0, 0)
                refine qr_iload_n 1 rfl rfl rfl ?_
                refine qy_call 4 rfl rfl rfl ?_
                refine qr_start (d := d + 1) qv_e178 (Nat.le_of_ble_eq_true rfl) ?_
                show qr_W (qe L xs vb) (d + 1) qx_e178 _ (0, [(0, .int (qz x0))], [], _, 0, 0)
                refine qr_iload_n 1 rfl rfl rfl ?_
                refine qr_i2l 2 rfl (by omega) rfl ?_
                refine qr_lconst 3 rfl rfl ?_
                refine qy_vl 0 rfl ?_
                refine qr_ldc2 5 6 rfl (by decide) rfl ?_
                refine qy_call 9 rfl rfl rfl ?_
                refine qr_start (d := d + 0) qv_e176 (Nat.le_of_ble_eq_true rfl) ?_
                show qr_W (qe L xs vb) (d + 0) qx_e176 _ (0, [(0, .long (ql x0)), (2, .long (ql 0)), (4, .long (ql 5))], [], _, 0, 0)
                refine qr_lload_n 1 rfl rfl rfl ?_
                refine qr_lload_n 2 rfl rfl rfl ?_
                refine qr_lc_lt 17 6 rfl rfl rfl rfl (by omega) (by decide) (fun h => False.elim (by omega)) (fun h21 => ?_)
                refine qr_lload_n 7 rfl rfl rfl ?_
                refine qr_lload 9 rfl rfl rfl ?_
                refine qr_lc_gt 17 13 rfl rfl rfl rfl (by omega) (by decide) (fun h => False.elim (by omega)) (fun h22 => ?_)
                as_aux_lemma =>
                  refine qr_iconst 14 rfl rfl ?_
                  refine qr_goto 18 rfl rfl ?_
                  refine qr_retZ rfl rfl (by omega) (by decide) (by decide) ?_
                  show qr_W (qe L xs vb) (d + 1) qx_e178 _ (9, [(0, .int (qz x0))], [.int (qz 1)], _, 0, 0)
                  refine qr_retZ rfl rfl (by omega) (by decide) (by decide) ?_
                  show qr_W (qe L xs vb) (d + 2) qx_e263 _ (4, [(0, .ref 86), (1, .int (qz x0)), (2, .int (qz x1)), (3, .int (qz x2))], [.int (qz 1)], _, 0, 0)
                  refine qr_if_eq 25 7 rfl rfl rfl (by decide) (fun h => absurd h (by decide)) (fun _ => ?_)
                  refine qr_iload_n 8 rfl rfl rfl ?_
                  refine qr_i2l 9 rfl (by omega) rfl ?_
                  refine qr_lconst 10 rfl rfl ?_
                  refine qy_vl 0 rfl ?_
                  refine qr_ldc2 4 13 rfl (by decide) rfl ?_
                  refine qy_call 16 rfl rfl rfl ?_
                  refine qr_start (d := d + 1) qv_e176 (Nat.le_of_ble_eq_true rfl) ?_
                  show qr_W (qe L xs vb) (d + 1) qx_e176 _ (0, [(0, .long (ql x1)), (2, .long (ql 0)), (4, .long (ql 4))], [], _, 0, 0)
                  refine qr_lload_n 1 rfl rfl rfl ?_
                  refine qr_lload_n 2 rfl rfl rfl ?_
                  refine qr_lc_lt 17 6 rfl rfl rfl rfl (by omega) (by decide) (fun h => False.elim (by omega)) (fun h23 => ?_)
                  refine qr_lload_n 7 rfl rfl rfl ?_
                  refine qr_lload 9 rfl rfl rfl ?_
                  refine qr_lc_gt 17 13 rfl rfl rfl rfl (by omega) (by decide) (fun h => False.elim (by omega)) (fun h24 => ?_)
                  refine qr_iconst 14 rfl rfl ?_
                  refine qr_goto 18 rfl rfl ?_
                  refine qr_retZ rfl rfl (by omega) (by decide) (by decide) ?_
                  show qr_W (qe L xs vb) (d + 2) qx_e263 _ (16, [(0, .ref 86), (1, .int (qz x0)), (2, .int (qz x1)), (3, .int (qz x2))], [.int (qz 1)], _, 0, 0)
                  refine qr_if_eq 25 19 rfl rfl rfl (by decide) (fun h => absurd h (by decide)) (fun _ => ?_)
                  refine qr_iload_n 20 rfl rfl rfl ?_
                  refine qr_bipush 22 rfl (by decide) rfl ?_
                  refine qr_icmp_le 27 25 rfl rfl rfl (by omega) (by decide) (fun h25 => ?_) (fun h => False.elim (by omega))
                  refine qr_iload_n 28 rfl rfl rfl ?_
                  refine qr_if_ge 34 31 rfl rfl rfl (by omega) (fun h26 => ?_) (fun h => False.elim (by omega))
                  refine qr_aload_n 35 rfl rfl rfl ?_
                  refine qr_get 38 rfl rfl rfl (by decide) rfl ?_
                  refine qr_iload_n 39 rfl rfl rfl ?_
                  refine qr_bipush 41 rfl (by decide) rfl ?_
                  refine qr_iload_n 42 rfl rfl rfl ?_
                  refine qr_iadd 43 rfl rfl ?_
                  refine qr_iastore 44 rfl (by decide) rfl (by omega) (by decide) rfl ?_
                  refine qy_wA (qw_r α19 121 (qzu (α19 121) (x0 : Int).toNat (60 + x1))) rfl (fun α27 e27 => ?_)
                  refine qr_aload_n 45 rfl rfl rfl ?_
                  refine qr_get 48 rfl rfl rfl (by decide) rfl ?_
                  refine qr_iload_n 49 rfl rfl rfl ?_
                  refine qr_iload_n 50 rfl rfl rfl ?_
                  refine qr_iastore 51 rfl (by decide) rfl (by omega) (by decide) rfl ?_
                  refine qy_wA (qw_r α27 122 (qzu (α27 122) (x0 : Int).toNat x2)) rfl (fun α28 e28 => ?_)
                  refine qr_bipush 53 rfl (by decide) rfl ?_
                  refine qr_iload_n 54 rfl rfl rfl ?_
                  refine qr_imul 55 rfl rfl ?_
                  refine qr_istore [(4, .int (qz (60 * x0))), (0, .ref 86), (1, .int (qz x0)), (2, .int (qz x1)), (3, .int (qz x2))] 57 rfl (by decide) rfl rfl ?_
                  refine qy_loop (fun z => ((60 * x0 + 61) - z).toNat) (fun z _ => 60 * x0 ≤ z ∧ z ≤ 60 * x0 + 60) (fun z => [(4, .int (qz z)), (0, .ref 86), (1, .int (qz x0)), (2, .int (qz x1)), (3, .int (qz x2))]) (fun z29 α29 hb29 ih29 => ?_) (60 * x0) _ (by omega)
                  show qr_W (qe L xs vb) (d + 2) qx_e263 _ (57, [(4, .int (qz z29)), (0, .ref 86), (1, .int (qz x0)), (2, .int (qz x1)), (3, .int (qz x2))], [], _, 0, 0)
                  refine qr_iload 59 rfl rfl rfl ?_
                  refine qr_bipush 61 rfl (by decide) rfl ?_
                  refine qr_iload_n 62 rfl rfl rfl ?_
                  refine qr_imul 63 rfl rfl ?_
                  refine qr_bipush 65 rfl (by decide) rfl ?_
                  refine qr_iadd 66 rfl rfl ?_
                  refine qr_icmp_ge 83 69 rfl rfl rfl (by omega) (by omega) (fun h30 => ?_) (fun h30 => ?_)
                  · skip
                    refine qr_iconst 84 rfl rfl ?_
                    refine qr_retI rfl rfl (by decide) (by decide) ?_
                    exact rfl
                  · skip
                    refine qr_aload_n 70 rfl rfl rfl ?_
                    refine qr_get 73 rfl rfl rfl (by decide) rfl ?_
                    refine qr_iload 75 rfl rfl rfl ?_
                    refine qr_lconst 76 rfl rfl ?_
                    refine qy_vl 0 rfl ?_
                    refine qr_lastore 77 rfl (by decide) rfl (by omega) (by decide) rfl ?_
                    refine qy_wA (qw_r α29 123 (qzu (α29 123) (z29 : Int).toNat 0)) rfl (fun α31 e31 => ?_)
                    refine qr_iinc [(4, .int (qz (z29 + 1))), (0, .ref 86), (1, .int (qz x0)), (2, .int (qz x1)), (3, .int (qz x2))] 80 rfl rfl (by decide) rfl rfl ?_
                    refine qr_goto 57 rfl rfl ?_
                    exact ih29 (z29 + 1) _ (by omega) (by omega)
              · skip
                refine qr_aload_n 24 rfl rfl rfl ?_
                refine qr_get 27 rfl rfl rfl (by decide) rfl ?_
                refine qr_iload_n 28 rfl rfl rfl ?_
                refine qr_bipush 30 rfl (by decide) rfl ?_
                refine qr_imul 31 rfl rfl ?_
                refine qr_iload 33 rfl rfl rfl ?_
                refine qr_iadd 34 rfl rfl ?_
                refine qr_lconst 35 rfl rfl ?_
                refine qy_vl 0 rfl ?_
                refine qr_lastore 36 rfl (by decide) rfl (by omega) (by decide) rfl ?_
                refine qy_wA (qw_r α19 48 (qzu (α19 48) (((x0 * 60) + z19) : Int).toNat 0)) rfl (fun α32 e32 => ?_)
                refine qr_iinc [(4, .int (qz (z19 + 1))), (0, .ref 44), (1, .int (qz x0)), (2, .int (qz x1)), (3, .int (qz x2))] 39 rfl rfl (by decide) rfl rfl ?_
                refine qr_goto 17 rfl rfl ?_
                exact ih19 (z19 + 1) _ (by omega) (by omega)
            · skip
              refine qr_bipush 34 rfl (by decide) rfl ?_
              refine qr_retI rfl rfl (by decide) (by decide) ?_
              refine ⟨⟨_, rfl⟩, ⟨_, _, _, _, rfl⟩, ?_⟩
              refine qr_start (d := d + 2) qv_e263 (Nat.le_of_ble_eq_true rfl) ?_
              show qr_W (qe L xs vb) (d + 2) qx_e263 _ (0, [(0, .ref 86), (1, .int (qz x0)), (2, .int (qz x1)), (3, .int (qz x2))], [], _, 0, 0)
              refine qr_iload_n 1 rfl rfl rfl ?_
              refine qy_call 4 rfl rfl rfl ?_
              refine qr_start (d := d + 1) qv_e178 (Nat.le_of_ble_eq_true rfl) ?_
              show qr_W (qe L xs vb) (d + 1) qx_e178 _ (0, [(0, .int (qz x0))], [], _, 0, 0)
              refine qr_iload_n 1 rfl rfl rfl ?_
              refine qr_i2l 2 rfl (by omega) rfl ?_
              refine qr_lconst 3 rfl rfl ?_
              refine qy_vl 0 rfl ?_
              refine qr_ldc2 5 6 rfl (by decide) rfl ?_
              refine qy_call 9 rfl rfl rfl ?_
              refine qr_start (d := d + 0) qv_e176 (Nat.le_of_ble_eq_true rfl) ?_
              show qr_W (qe L xs vb) (d + 0) qx_e176 _ (0, [(0, .long (ql x0)), (2, .long (ql 0)), (4, .long (ql 5))], [], _, 0, 0)
              refine qr_lload_n 1 rfl rfl rfl ?_
              refine qr_lload_n 2 rfl rfl rfl ?_
              refine qr_lc_lt 17 6 rfl rfl rfl rfl (by omega) (by decide) (fun h => False.elim (by omega)) (fun h33 => ?_)
              refine qr_lload_n 7 rfl rfl rfl ?_
              refine qr_lload 9 rfl rfl rfl ?_
              refine qr_lc_gt 17 13 rfl rfl rfl rfl (by omega) (by decide) (fun h => False.elim (by omega)) (fun h34 => ?_)
              refine qr_iconst 14 rfl rfl ?_
              refine qr_goto 18 rfl rfl ?_
              refine qr_retZ rfl rfl (by omega) (by decide) (by decide) ?_
              show qr_W (qe L xs vb) (d + 1) qx_e178 _ (9, [(0, .int (qz x0))], [.int (qz 1)], _, 0, 0)
              refine qr_retZ rfl rfl (by omega) (by decide) (by decide) ?_
              show qr_W (qe L xs vb) (d + 2) qx_e263 _ (4, [(0, .ref 86), (1, .int (qz x0)), (2, .int (qz x1)), (3, .int (qz x2))], [.int (qz 1)], _, 0, 0)
              refine qr_if_eq 25 7 rfl rfl rfl (by decide) (fun h => absurd h (by decide)) (fun _ => ?_)
              refine qr_iload_n 8 rfl rfl rfl ?_
              refine qr_i2l 9 rfl (by omega) rfl ?_
              refine qr_lconst 10 rfl rfl ?_
              refine qy_vl 0 rfl ?_
              refine qr_ldc2 4 13 rfl (by decide) rfl ?_
              refine qy_call 16 rfl rfl rfl ?_
              refine qr_start (d := d + 1) qv_e176 (Nat.le_of_ble_eq_true rfl) ?_
              show qr_W (qe L xs vb) (d + 1) qx_e176 _ (0, [(0, .long (ql x1)), (2, .long (ql 0)), (4, .long (ql 4))], [], _, 0, 0)
              refine qr_lload_n 1 rfl rfl rfl ?_
              refine qr_lload_n 2 rfl rfl rfl ?_
              refine qr_lc_lt 17 6 rfl rfl rfl rfl (by omega) (by decide) (fun h => False.elim (by omega)) (fun h35 => ?_)
              refine qr_lload_n 7 rfl rfl rfl ?_
              refine qr_lload 9 rfl rfl rfl ?_
              refine qr_lc_gt 17 13 rfl rfl rfl rfl (by omega) (by decide) (fun h => False.elim (by omega)) (fun h36 => ?_)
              refine qr_iconst 14 rfl rfl ?_
              refine qr_goto 18 rfl rfl ?_
              refine qr_retZ rfl rfl (by omega) (by decide) (by decide) ?_
              show qr_W (qe L xs vb) (d + 2) qx_e263 _ (16, [(0, .ref 86), (1, .int (qz x0)), (2, .int (qz x1)), (3, .int (qz x2))], [.int (qz 1)], _, 0, 0)
              refine qr_if_eq 25 19 rfl rfl rfl (by decide) (fun h => absurd h (by decide)) (fun _ => ?_)
              refine qr_iload_n 20 rfl rfl rfl ?_
              refine qr_bipush 22 rfl (by decide) rfl ?_
              as_aux_lemma =>
                refine qr_icmp_le 27 25 rfl rfl rfl (by omega) (by decide) (fun h37 => ?_) (fun h => False.elim (by omega))
                refine qr_iload_n 28 rfl rfl rfl ?_
                refine qr_if_ge 34 31 rfl rfl rfl (by omega) (fun h => False.elim (by omega)) (fun h38 => ?_)
                refine qr_bipush 33 rfl (by decide) rfl ?_
                refine qr_retI rfl rfl (by decide) (by decide) ?_
                exact rfl
          · skip
            refine qr_iconst 27 rfl rfl ?_
            refine qr_retI rfl rfl (by decide) (by decide) ?_
            refine ⟨⟨_, rfl⟩, ⟨_, _, _, _, rfl⟩, ?_⟩
            refine qr_start (d := d + 2) qv_e263 (Nat.le_of_ble_eq_true rfl) ?_
            show qr_W (qe L xs vb) (d + 2) qx_e263 _ (0, [(0, .ref 86), (1, .int (qz x0)), (2, .int (qz x1)), (3, .int (qz x2))], [], _, 0, 0)
            refine qr_iload_n 1 rfl rfl rfl ?_
            refine qy_call 4 rfl rfl rfl ?_
            refine qr_start (d := d + 1) qv_e178 (Nat.le_of_ble_eq_true rfl) ?_
            show qr_W (qe L xs vb) (d + 1) qx_e178 _ (0, [(0, .int (qz x0))], [], _, 0, 0)
            refine qr_iload_n 1 rfl rfl rfl ?_
            refine qr_i2l 2 rfl (by omega) rfl ?_
            refine qr_lconst 3 rfl rfl ?_
            refine qy_vl 0 rfl ?_
            refine qr_ldc2 5 6 rfl (by decide) rfl ?_
            refine qy_call 9 rfl rfl rfl ?_
            refine qr_start (d := d + 0) qv_e176 (Nat.le_of_ble_eq_true rfl) ?_
            show qr_W (qe L xs vb) (d + 0) qx_e176 _ (0, [(0, .long (ql x0)), (2, .long (ql 0)), (4, .long (ql 5))], [], _, 0, 0)
            refine qr_lload_n 1 rfl rfl rfl ?_
            refine qr_lload_n 2 rfl rfl rfl ?_
            refine qr_lc_lt 17 6 rfl rfl rfl rfl (by omega) (by decide) (fun h => False.elim (by omega)) (fun h39 => ?_)
            refine qr_lload_n 7 rfl rfl rfl ?_
            refine qr_lload 9 rfl rfl rfl ?_
            refine qr_lc_gt 17 13 rfl rfl rfl rfl (by omega) (by decide) (fun h => False.elim (by omega)) (fun h40 => ?_)
            refine qr_iconst 14 rfl rfl ?_
            refine qr_goto 18 rfl rfl ?_
            refine qr_retZ rfl rfl (by omega) (by decide) (by decide) ?_
            show qr_W (qe L xs vb) (d + 1) qx_e178 _ (9, [(0, .int (qz x0))], [.int (qz 1)], _, 0, 0)
            refine qr_retZ rfl rfl (by omega) (by decide) (by decide) ?_
            show qr_W (qe L xs vb) (d + 2) qx_e263 _ (4, [(0, .ref 86), (1, .int (qz x0)), (2, .int (qz x1)), (3, .int (qz x2))], [.int (qz 1)], _, 0, 0)
            refine qr_if_eq 25 7 rfl rfl rfl (by decide) (fun h => absurd h (by decide)) (fun _ => ?_)
            refine qr_iload_n 8 rfl rfl rfl ?_
            refine qr_i2l 9 rfl (by omega) rfl ?_
            refine qr_lconst 10 rfl rfl ?_
            refine qy_vl 0 rfl ?_
            refine qr_ldc2 4 13 rfl (by decide) rfl ?_
            refine qy_call 16 rfl rfl rfl ?_
            refine qr_start (d := d + 1) qv_e176 (Nat.le_of_ble_eq_true rfl) ?_
            show qr_W (qe L xs vb) (d + 1) qx_e176 _ (0, [(0, .long (ql x1)), (2, .long (ql 0)), (4, .long (ql 4))], [], _, 0, 0)
            refine qr_lload_n 1 rfl rfl rfl ?_
            refine qr_lload_n 2 rfl rfl rfl ?_
            refine qr_lc_lt 17 6 rfl rfl rfl rfl (by omega) (by decide) (fun h => False.elim (by omega)) (fun h41 => ?_)
            refine qr_lload_n 7 rfl rfl rfl ?_
            refine qr_lload 9 rfl rfl rfl ?_
            refine qr_lc_gt 17 13 rfl rfl rfl rfl (by omega) (by decide) (fun h => False.elim (by omega)) (fun h42 => ?_)
            refine qr_iconst 14 rfl rfl ?_
            refine qr_goto 18 rfl rfl ?_
            refine qr_retZ rfl rfl (by omega) (by decide) (by decide) ?_
            show qr_W (qe L xs vb) (d + 2) qx_e263 _ (16, [(0, .ref 86), (1, .int (qz x0)), (2, .int (qz x1)), (3, .int (qz x2))], [.int (qz 1)], _, 0, 0)
            refine qr_if_eq 25 19 rfl rfl rfl (by decide) (fun h => absurd h (by decide)) (fun _ => ?_)
            refine qr_iload_n 20 rfl rfl rfl ?_
            refine qr_bipush 22 rfl (by decide) rfl ?_
            refine qr_icmp_le 27 25 rfl rfl rfl (by omega) (by decide) (fun h => False.elim (by omega)) (fun h43 => ?_)
            refine qr_iconst 26 rfl rfl ?_
            as_aux_lemma =>
              refine qr_retI rfl rfl (by decide) (by decide) ?_
              exact rfl

