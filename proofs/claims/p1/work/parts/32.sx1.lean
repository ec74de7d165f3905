set_option maxHeartbeats 8000000 in
set_option maxRecDepth 20000 in
/-- steps on the fresh objects: both answer alike -/
theorem sx_steps {L : Nat} {xs : Nat → Int} {vb : Bool} {d : Nat} {s g : Nat → Nat → Int} {x0 : Int} {x1 : Int} (hok : qo_ok s g) (rx0 : -2147483648 ≤ x0 ∧ x0 ≤ 2147483647) (rx1 : -2147483648 ≤ x1 ∧ x1 ≤ 2147483647) : qm_T (qe L xs vb) (d + 3) 59 [.ref 16, .int (qz x0), .int (qz x1)] (qw (qo_s s) (qo_r g) qo_k 82) (fun r w => (∃ y : Int, r = some (.int (qz y))) ∧ (∃ σ α κ ρ, w = qw σ α κ ρ) ∧ qm_T (qe L xs vb) (d + 3) 186 [.ref 86, .int (qz x0), .int (qz x1)] w (fun r' _ => r' = r)) := by
  refine qr_start (d := d + 2) qv_e59 (Nat.le_of_ble_eq_true rfl) ?_
  show qr_W (qe L xs vb) (d + 2) qx_e59 _ (0, [(0, .ref 16), (1, .int (qz x0)), (2, .int (qz x1))], [], _, 0, 0)
  refine qr_aload_n 1 rfl rfl rfl ?_
  refine qr_get 4 rfl rfl rfl (by decide) rfl ?_
  refine qr_iload_n 5 rfl rfl rfl ?_
  refine qy_call 8 rfl rfl rfl ?_
  refine qr_start (d := d + 1) qv_e40 (Nat.le_of_ble_eq_true rfl) ?_
  show qr_W (qe L xs vb) (d + 1) qx_e40 _ (0, [(0, .ref 17), (1, .int (qz x0))], [], _, 0, 0)
  refine qr_iload_n 1 rfl rfl rfl ?_
  refine qr_if_lt 16 4 rfl rfl rfl (by omega) (fun h1 => ?_) (fun h1 => ?_)
  · skip
    refine qr_iconst 17 rfl rfl ?_
    refine qr_retZ rfl rfl (by omega) (by decide) (by decide) ?_
    show qr_W (qe L xs vb) (d + 2) qx_e59 _ (8, [(0, .ref 16), (1, .int (qz x0)), (2, .int (qz x1))], [.int (qz 0)], _, 0, 0)
    refine qr_if_eq 22 11 rfl rfl rfl (by decide) (fun _ => ?_) (fun h => absurd h (by decide))
    refine qr_iconst 23 rfl rfl ?_
    refine qr_retI rfl rfl (by decide) (by decide) ?_
    refine ⟨⟨_, rfl⟩, ⟨_, _, _, _, rfl⟩, ?_⟩
    refine qr_start (d := d + 2) qv_e186 (Nat.le_of_ble_eq_true rfl) ?_
    show qr_W (qe L xs vb) (d + 2) qx_e186 _ (0, [(0, .ref 86), (1, .int (qz x0)), (2, .int (qz x1))], [], _, 0, 0)
    refine qr_aload_n 1 rfl rfl rfl ?_
    refine qr_iload_n 2 rfl rfl rfl ?_
    refine qy_call 5 rfl rfl rfl ?_
    refine qr_start (d := d + 1) qv_e180 (Nat.le_of_ble_eq_true rfl) ?_
    show qr_W (qe L xs vb) (d + 1) qx_e180 _ (0, [(0, .ref 86), (1, .int (qz x0))], [], _, 0, 0)
    refine qr_iload_n 1 rfl rfl rfl ?_
    refine qr_i2l 2 rfl (by omega) rfl ?_
    refine qr_lconst 3 rfl rfl ?_
    refine qy_vl 0 rfl ?_
    refine qr_aload_n 4 rfl rfl rfl ?_
    refine qr_get 7 rfl rfl rfl (by decide) rfl ?_
    refine qy_v 0 rfl ?_
    refine qr_iconst 8 rfl rfl ?_
    refine qr_isub 9 rfl rfl ?_
    refine qy_v (-1) rfl ?_
    refine qr_i2l 10 rfl (by omega) rfl ?_
    refine qy_vl (-1) rfl ?_
    refine qy_call 13 rfl rfl rfl ?_
    refine qr_start (d := d + 0) qv_e176 (Nat.le_of_ble_eq_true rfl) ?_
    show qr_W (qe L xs vb) (d + 0) qx_e176 _ (0, [(0, .long (ql x0)), (2, .long (ql 0)), (4, .long (ql (-1)))], [], _, 0, 0)
    refine qr_lload_n 1 rfl rfl rfl ?_
    refine qr_lload_n 2 rfl rfl rfl ?_
    refine qr_lc_lt 17 6 rfl rfl rfl rfl (by omega) (by decide) (fun h2 => ?_) (fun h => False.elim (by omega))
    refine qr_iconst 18 rfl rfl ?_
    refine qr_retZ rfl rfl (by omega) (by decide) (by decide) ?_
    show qr_W (qe L xs vb) (d + 1) qx_e180 _ (13, [(0, .ref 86), (1, .int (qz x0))], [.int (qz 0)], _, 0, 0)
    refine qr_retZ rfl rfl (by omega) (by decide) (by decide) ?_
    show qr_W (qe L xs vb) (d + 2) qx_e186 _ (5, [(0, .ref 86), (1, .int (qz x0)), (2, .int (qz x1))], [.int (qz 0)], _, 0, 0)
    refine qr_if_eq 16 8 rfl rfl rfl (by decide) (fun _ => ?_) (fun h => absurd h (by decide))
    refine qr_iconst 17 rfl rfl ?_
    refine qr_retI rfl rfl (by decide) (by decide) ?_
    exact rfl
  · skip
    refine qr_iload_n 5 rfl rfl rfl ?_
    refine qr_aload_n 6 rfl rfl rfl ?_
    refine qr_get 9 rfl rfl rfl (by decide) rfl ?_
    refine qy_v 0 rfl ?_
    refine qr_icmp_ge 16 12 rfl rfl rfl (by omega) (by decide) (fun h3 => ?_) (fun h => False.elim (by omega))
    refine qr_iconst 17 rfl rfl ?_
    refine qr_retZ rfl rfl (by omega) (by decide) (by decide) ?_
    show qr_W (qe L xs vb) (d + 2) qx_e59 _ (8, [(0, .ref 16), (1, .int (qz x0)), (2, .int (qz x1))], [.int (qz 0)], _, 0, 0)
    refine qr_if_eq 22 11 rfl rfl rfl (by decide) (fun _ => ?_) (fun h => absurd h (by decide))
    refine qr_iconst 23 rfl rfl ?_
    refine qr_retI rfl rfl (by decide) (by decide) ?_
    refine ⟨⟨_, rfl⟩, ⟨_, _, _, _, rfl⟩, ?_⟩
    refine qr_start (d := d + 2) qv_e186 (Nat.le_of_ble_eq_true rfl) ?_
    show qr_W (qe L xs vb) (d + 2) qx_e186 _ (0, [(0, .ref 86), (1, .int (qz x0)), (2, .int (qz x1))], [], _, 0, 0)
    refine qr_aload_n 1 rfl rfl rfl ?_
    refine qr_iload_n 2 rfl rfl rfl ?_
    refine qy_call 5 rfl rfl rfl ?_
    refine qr_start (d := d + 1) qv_e180 (Nat.le_of_ble_eq_true rfl) ?_
    show qr_W (qe L xs vb) (d + 1) qx_e180 _ (0, [(0, .ref 86), (1, .int (qz x0))], [], _, 0, 0)
    refine qr_iload_n 1 rfl rfl rfl ?_
    refine qr_i2l 2 rfl (by omega) rfl ?_
    refine qr_lconst 3 rfl rfl ?_
    refine qy_vl 0 rfl ?_
    refine qr_aload_n 4 rfl rfl rfl ?_
    refine qr_get 7 rfl rfl rfl (by decide) rfl ?_
    refine qy_v 0 rfl ?_
    refine qr_iconst 8 rfl rfl ?_
    refine qr_isub 9 rfl rfl ?_
    refine qy_v (-1) rfl ?_
    refine qr_i2l 10 rfl (by omega) rfl ?_
    refine qy_vl (-1) rfl ?_
    refine qy_call 13 rfl rfl rfl ?_
    refine qr_start (d := d + 0) qv_e176 (Nat.le_of_ble_eq_true rfl) ?_
    show qr_W (qe L xs vb) (d + 0) qx_e176 _ (0, [(0, .long (ql x0)), (2, .long (ql 0)), (4, .long (ql (-1)))], [], _, 0, 0)
    refine qr_lload_n 1 rfl rfl rfl ?_
    refine qr_lload_n 2 rfl rfl rfl ?_
    refine qr_lc_lt 17 6 rfl rfl rfl rfl (by omega) (by decide) (fun h => False.elim (by omega)) (fun h4 => ?_)
    refine qr_lload_n 7 rfl rfl rfl ?_
    refine qr_lload 9 rfl rfl rfl ?_
    refine qr_lc_gt 17 13 rfl rfl rfl rfl (by omega) (by decide) (fun h5 => ?_) (fun h => False.elim (by omega))
    refine qr_iconst 18 rfl rfl ?_
    refine qr_retZ rfl rfl (by omega) (by decide) (by decide) ?_
    show qr_W (qe L xs vb) (d + 1) qx_e180 _ (13, [(0, .ref 86), (1, .int (qz x0))], [.int (qz 0)], _, 0, 0)
    refine qr_retZ rfl rfl (by omega) (by decide) (by decide) ?_
    show qr_W (qe L xs vb) (d + 2) qx_e186 _ (5, [(0, .ref 86), (1, .int (qz x0)), (2, .int (qz x1))], [.int (qz 0)], _, 0, 0)
    refine qr_if_eq 16 8 rfl rfl rfl (by decide) (fun _ => ?_) (fun h => absurd h (by decide))
    refine qr_iconst 17 rfl rfl ?_
    refine qr_retI rfl rfl (by decide) (by decide) ?_
    exact rfl

set_option maxHeartbeats 8000000 in
set_option maxRecDepth 20000 in
/-- feud on the fresh objects: both answer alike -/
theorem sx_feud {L : Nat} {xs : Nat → Int} {vb : Bool} {d : Nat} {s g : Nat → Nat → Int} {x0 : Int} {x1 : Int} {x2 : Int} (hok : qo_ok s g) (rx0 : -2147483648 ≤ x0 ∧ x0 ≤ 2147483647) (rx1 : -2147483648 ≤ x1 ∧ x1 ≤ 2147483647) (rx2 : -2147483648 ≤ x2 ∧ x2 ≤ 2147483647) : qm_T (qe L xs vb) (d + 4) 60 [.ref 16, .int (qz x0), .int (qz x1), .int (qz x2)] (qw (qo_s s) (qo_r g) qo_k 82) (fun r w => (∃ y : Int, r = some (.int (qz y))) ∧ (∃ σ α κ ρ, w = qw σ α κ ρ) ∧ qm_T (qe L xs vb) (d + 4) 190 [.ref 86, .int (qz x0), .int (qz x1), .int (qz x2)] w (fun r' _ => r' = r)) := by
  refine qr_start (d := d + 3) qv_e60 (Nat.le_of_ble_eq_true rfl) ?_
  show qr_W (qe L xs vb) (d + 3) qx_e60 _ (0, [(0, .ref 16), (1, .int (qz x0)), (2, .int (qz x1)), (3, .int (qz x2))], [], _, 0, 0)
  refine qr_aload_n 1 rfl rfl rfl ?_
  refine qr_get 4 rfl rfl rfl (by decide) rfl ?_
  refine qr_iload_n 5 rfl rfl rfl ?_
  refine qy_call 8 rfl rfl rfl ?_
  refine qr_start (d := d + 2) qv_e61 (Nat.le_of_ble_eq_true rfl) ?_
  show qr_W (qe L xs vb) (d + 2) qx_e61 _ (0, [(0, .ref 17), (1, .int (qz x0))], [], _, 0, 0)
  refine qr_iload_n 1 rfl rfl rfl ?_
  refine qr_if_lt 41 4 rfl rfl rfl (by omega) (fun h1 => ?_) (fun h1 => ?_)
  · skip
    refine qr_iconst 42 rfl rfl ?_
    refine qr_retZ rfl rfl (by omega) (by decide) (by decide) ?_
    show qr_W (qe L xs vb) (d + 3) qx_e60 _ (8, [(0, .ref 16), (1, .int (qz x0)), (2, .int (qz x1)), (3, .int (qz x2))], [.int (qz 0)], _, 0, 0)
    refine qr_if_eq 29 11 rfl rfl rfl (by decide) (fun _ => ?_) (fun h => absurd h (by decide))
    refine qr_iconst 30 rfl rfl ?_
    refine qr_retI rfl rfl (by decide) (by decide) ?_
    refine ⟨⟨_, rfl⟩, ⟨_, _, _, _, rfl⟩, ?_⟩
    refine qr_start (d := d + 3) qv_e190 (Nat.le_of_ble_eq_true rfl) ?_
    show qr_W (qe L xs vb) (d + 3) qx_e190 _ (0, [(0, .ref 86), (1, .int (qz x0)), (2, .int (qz x1)), (3, .int (qz x2))], [], _, 0, 0)
    refine qr_aload_n 1 rfl rfl rfl ?_
    refine qr_iload_n 2 rfl rfl rfl ?_
    refine qy_call 5 rfl rfl rfl ?_
    refine qr_start (d := d + 2) qv_e191 (Nat.le_of_ble_eq_true rfl) ?_
    show qr_W (qe L xs vb) (d + 2) qx_e191 _ (0, [(0, .ref 86), (1, .int (qz x0))], [], _, 0, 0)
    refine qr_iload_n 1 rfl rfl rfl ?_
    refine qr_if_lt 41 4 rfl rfl rfl (by omega) (fun h2 => ?_) (fun h => False.elim (by omega))
    refine qr_iconst 42 rfl rfl ?_
    refine qr_retZ rfl rfl (by omega) (by decide) (by decide) ?_
    show qr_W (qe L xs vb) (d + 3) qx_e190 _ (5, [(0, .ref 86), (1, .int (qz x0)), (2, .int (qz x1)), (3, .int (qz x2))], [.int (qz 0)], _, 0, 0)
    refine qr_if_eq 27 8 rfl rfl rfl (by decide) (fun _ => ?_) (fun h => absurd h (by decide))
    refine qr_iconst 28 rfl rfl ?_
    refine qr_retI rfl rfl (by decide) (by decide) ?_
    exact rfl
  · skip
    refine qr_aload_n 5 rfl rfl rfl ?_
    refine qr_iload_n 6 rfl rfl rfl ?_
    refine qr_bipush 8 rfl (by decide) rfl ?_
    refine qr_idiv 9 rfl (by omega) (by omega) rfl ?_
    refine qy_call 12 rfl rfl rfl ?_
    refine qr_start (d := d + 1) qv_e40 (Nat.le_of_ble_eq_true rfl) ?_
    show qr_W (qe L xs vb) (d + 1) qx_e40 _ (0, [(0, .ref 17), (1, .int (qz (x0 / 100)))], [], _, 0, 0)
    refine qr_iload_n 1 rfl rfl rfl ?_
    refine qr_if_lt 16 4 rfl rfl rfl (by omega) (fun h => False.elim (by omega)) (fun h3 => ?_)
    refine qr_iload_n 5 rfl rfl rfl ?_
    refine qr_aload_n 6 rfl rfl rfl ?_
    refine qr_get 9 rfl rfl rfl (by decide) rfl ?_
    refine qy_v 0 rfl ?_
    refine qr_icmp_ge 16 12 rfl rfl rfl (by omega) (by decide) (fun h4 => ?_) (fun h => False.elim (by omega))
    refine qr_iconst 17 rfl rfl ?_
    refine qr_retZ rfl rfl (by omega) (by decide) (by decide) ?_
    show qr_W (qe L xs vb) (d + 2) qx_e61 _ (12, [(0, .ref 17), (1, .int (qz x0))], [.int (qz 0)], _, 0, 0)
    refine qr_if_eq 41 15 rfl rfl rfl (by decide) (fun _ => ?_) (fun h => absurd h (by decide))
    refine qr_iconst 42 rfl rfl ?_
    refine qr_retZ rfl rfl (by omega) (by decide) (by decide) ?_
    show qr_W (qe L xs vb) (d + 3) qx_e60 _ (8, [(0, .ref 16), (1, .int (qz x0)), (2, .int (qz x1)), (3, .int (qz x2))], [.int (qz 0)], _, 0, 0)
    refine qr_if_eq 29 11 rfl rfl rfl (by decide) (fun _ => ?_) (fun h => absurd h (by decide))
    refine qr_iconst 30 rfl rfl ?_
    refine qr_retI rfl rfl (by decide) (by decide) ?_
    refine ⟨⟨_, rfl⟩, ⟨_, _, _, _, rfl⟩, ?_⟩
    refine qr_start (d := d + 3) qv_e190 (Nat.le_of_ble_eq_true rfl) ?_
    show qr_W (qe L xs vb) (d + 3) qx_e190 _ (0, [(0, .ref 86), (1, .int (qz x0)), (2, .int (qz x1)), (3, .int (qz x2))], [], _, 0, 0)
    refine qr_aload_n 1 rfl rfl rfl ?_
    refine qr_iload_n 2 rfl rfl rfl ?_
    refine qy_call 5 rfl rfl rfl ?_
    refine qr_start (d := d + 2) qv_e191 (Nat.le_of_ble_eq_true rfl) ?_
    show qr_W (qe L xs vb) (d + 2) qx_e191 _ (0, [(0, .ref 86), (1, .int (qz x0))], [], _, 0, 0)
    refine qr_iload_n 1 rfl rfl rfl ?_
    refine qr_if_lt 41 4 rfl rfl rfl (by omega) (fun h => False.elim (by omega)) (fun h5 => ?_)
    refine qr_aload_n 5 rfl rfl rfl ?_
    refine qr_iload_n 6 rfl rfl rfl ?_
    refine qr_bipush 8 rfl (by decide) rfl ?_
    refine qr_idiv 9 rfl (by omega) (by omega) rfl ?_
    refine qy_call 12 rfl rfl rfl ?_
    refine qr_start (d := d + 1) qv_e180 (Nat.le_of_ble_eq_true rfl) ?_
    show qr_W (qe L xs vb) (d + 1) qx_e180 _ (0, [(0, .ref 86), (1, .int (qz (x0 / 100)))], [], _, 0, 0)
    refine qr_iload_n 1 rfl rfl rfl ?_
    refine qr_i2l 2 rfl (by omega) rfl ?_
    refine qr_lconst 3 rfl rfl ?_
    refine qy_vl 0 rfl ?_
    refine qr_aload_n 4 rfl rfl rfl ?_
    refine qr_get 7 rfl rfl rfl (by decide) rfl ?_
    refine qy_v 0 rfl ?_
    refine qr_iconst 8 rfl rfl ?_
    refine qr_isub 9 rfl rfl ?_
    refine qy_v (-1) rfl ?_
    refine qr_i2l 10 rfl (by omega) rfl ?_
    refine qy_vl (-1) rfl ?_
    refine qy_call 13 rfl rfl rfl ?_
    refine qr_start (d := d + 0) qv_e176 (Nat.le_of_ble_eq_true rfl) ?_
    show qr_W (qe L xs vb) (d + 0) qx_e176 _ (0, [(0, .long (ql (x0 / 100))), (2, .long (ql 0)), (4, .long (ql (-1)))], [], _, 0, 0)
    refine qr_lload_n 1 rfl rfl rfl ?_
    refine qr_lload_n 2 rfl rfl rfl ?_
    refine qr_lc_lt 17 6 rfl rfl rfl rfl (by omega) (by decide) (fun h => False.elim (by omega)) (fun h6 => ?_)
    refine qr_lload_n 7 rfl rfl rfl ?_
    refine qr_lload 9 rfl rfl rfl ?_
    refine qr_lc_gt 17 13 rfl rfl rfl rfl (by omega) (by decide) (fun h7 => ?_) (fun h => False.elim (by omega))
    refine qr_iconst 18 rfl rfl ?_
    refine qr_retZ rfl rfl (by omega) (by decide) (by decide) ?_
    show qr_W (qe L xs vb) (d + 1) qx_e180 _ (13, [(0, .ref 86), (1, .int (qz (x0 / 100)))], [.int (qz 0)], _, 0, 0)
    refine qr_retZ rfl rfl (by omega) (by decide) (by decide) ?_
    show qr_W (qe L xs vb) (d + 2) qx_e191 _ (12, [(0, .ref 86), (1, .int (qz x0))], [.int (qz 0)], _, 0, 0)
    refine qr_if_eq 41 15 rfl rfl rfl (by decide) (fun _ => ?_) (fun h => absurd h (by decide))
    refine qr_iconst 42 rfl rfl ?_
    refine qr_retZ rfl rfl (by omega) (by decide) (by decide) ?_
    show qr_W (qe L xs vb) (d + 3) qx_e190 _ (5, [(0, .ref 86), (1, .int (qz x0)), (2, .int (qz x1)), (3, .int (qz x2))], [.int (qz 0)], _, 0, 0)
    refine qr_if_eq 27 8 rfl rfl rfl (by decide) (fun _ => ?_) (fun h => absurd h (by decide))
    refine qr_iconst 28 rfl rfl ?_
    refine qr_retI rfl rfl (by decide) (by decide) ?_
    exact rfl

set_option maxHeartbeats 8000000 in
set_option maxRecDepth 20000 in
/-- pay on the fresh objects: both answer alike -/
theorem sx_pay {L : Nat} {xs : Nat → Int} {vb : Bool} {d : Nat} {s g : Nat → Nat → Int} {x0 : Int} {x1 : Int} (hok : qo_ok s g) (rx0 : -2147483648 ≤ x0 ∧ x0 ≤ 2147483647) (rx1 : -2147483648 ≤ x1 ∧ x1 ≤ 2147483647) : qm_T (qe L xs vb) (d + 2) 64 [.ref 16, .int (qz x0), .int (qz x1)] (qw (qo_s s) (qo_r g) qo_k 82) (fun r w => (∃ y : Int, r = some (.int (qz y))) ∧ (∃ σ α κ ρ, w = qw σ α κ ρ) ∧ qm_T (qe L xs vb) (d + 2) 193 [.ref 86, .int (qz x0), .int (qz x1)] w (fun r' _ => r' = r)) := by
  refine qr_start (d := d + 1) qv_e64 (Nat.le_of_ble_eq_true rfl) ?_
  show qr_W (qe L xs vb) (d + 1) qx_e64 _ (0, [(0, .ref 16), (1, .int (qz x0)), (2, .int (qz x1))], [], _, 0, 0)
  refine qr_iload_n 1 rfl rfl rfl ?_
  refine qr_if_lt 26 4 rfl rfl rfl (by omega) (fun h1 => ?_) (fun h1 => ?_)
  · skip
    refine qr_iconst 27 rfl rfl ?_
    refine qr_retI rfl rfl (by decide) (by decide) ?_
    refine ⟨⟨_, rfl⟩, ⟨_, _, _, _, rfl⟩, ?_⟩
    refine qr_start (d := d + 1) qv_e193 (Nat.le_of_ble_eq_true rfl) ?_
    show qr_W (qe L xs vb) (d + 1) qx_e193 _ (0, [(0, .ref 86), (1, .int (qz x0)), (2, .int (qz x1))], [], _, 0, 0)
    refine qr_iload_n 1 rfl rfl rfl ?_
    refine qr_i2l 2 rfl (by omega) rfl ?_
    refine qr_lconst 3 rfl rfl ?_
    refine qy_vl 0 rfl ?_
    refine qr_aload_n 4 rfl rfl rfl ?_
    refine qr_get 7 rfl rfl rfl (by decide) rfl ?_
    refine qy_v 0 rfl ?_
    refine qr_iconst 8 rfl rfl ?_
    refine qr_isub 9 rfl rfl ?_
    refine qy_v (-1) rfl ?_
    refine qr_i2l 10 rfl (by omega) rfl ?_
    refine qy_vl (-1) rfl ?_
    refine qy_call 13 rfl rfl rfl ?_
    refine qr_start (d := d + 0) qv_e176 (Nat.le_of_ble_eq_true rfl) ?_
    show qr_W (qe L xs vb) (d + 0) qx_e176 _ (0, [(0, .long (ql x0)), (2, .long (ql 0)), (4, .long (ql (-1)))], [], _, 0, 0)
    refine qr_lload_n 1 rfl rfl rfl ?_
    refine qr_lload_n 2 rfl rfl rfl ?_
    refine qr_lc_lt 17 6 rfl rfl rfl rfl (by omega) (by decide) (fun h2 => ?_) (fun h => False.elim (by omega))
    refine qr_iconst 18 rfl rfl ?_
    refine qr_retZ rfl rfl (by omega) (by decide) (by decide) ?_
    show qr_W (qe L xs vb) (d + 1) qx_e193 _ (13, [(0, .ref 86), (1, .int (qz x0)), (2, .int (qz x1))], [.int (qz 0)], _, 0, 0)
    refine qr_if_eq 40 16 rfl rfl rfl (by decide) (fun _ => ?_) (fun h => absurd h (by decide))
    refine qr_iconst 41 rfl rfl ?_
    refine qr_retI rfl rfl (by decide) (by decide) ?_
    exact rfl
  · skip
    refine qr_iload_n 5 rfl rfl rfl ?_
    refine qr_aload_n 6 rfl rfl rfl ?_
    refine qr_get 9 rfl rfl rfl (by decide) rfl ?_
    refine qr_get 12 rfl rfl rfl (by decide) rfl ?_
    refine qy_v 0 rfl ?_
    refine qr_icmp_ge 26 15 rfl rfl rfl (by omega) (by decide) (fun h3 => ?_) (fun h => False.elim (by omega))
    refine qr_iconst 27 rfl rfl ?_
    refine qr_retI rfl rfl (by decide) (by decide) ?_
    refine ⟨⟨_, rfl⟩, ⟨_, _, _, _, rfl⟩, ?_⟩
    refine qr_start (d := d + 1) qv_e193 (Nat.le_of_ble_eq_true rfl) ?_
    show qr_W (qe L xs vb) (d + 1) qx_e193 _ (0, [(0, .ref 86), (1, .int (qz x0)), (2, .int (qz x1))], [], _, 0, 0)
    refine qr_iload_n 1 rfl rfl rfl ?_
    refine qr_i2l 2 rfl (by omega) rfl ?_
    refine qr_lconst 3 rfl rfl ?_
    refine qy_vl 0 rfl ?_
    refine qr_aload_n 4 rfl rfl rfl ?_
    refine qr_get 7 rfl rfl rfl (by decide) rfl ?_
    refine qy_v 0 rfl ?_
    refine qr_iconst 8 rfl rfl ?_
    refine qr_isub 9 rfl rfl ?_
    refine qy_v (-1) rfl ?_
    refine qr_i2l 10 rfl (by omega) rfl ?_
    refine qy_vl (-1) rfl ?_
    refine qy_call 13 rfl rfl rfl ?_
    refine qr_start (d := d + 0) qv_e176 (Nat.le_of_ble_eq_true rfl) ?_
    show qr_W (qe L xs vb) (d + 0) qx_e176 _ (0, [(0, .long (ql x0)), (2, .long (ql 0)), (4, .long (ql (-1)))], [], _, 0, 0)
    refine qr_lload_n 1 rfl rfl rfl ?_
    refine qr_lload_n 2 rfl rfl rfl ?_
    refine qr_lc_lt 17 6 rfl rfl rfl rfl (by omega) (by decide) (fun h => False.elim (by omega)) (fun h4 => ?_)
    refine qr_lload_n 7 rfl rfl rfl ?_
    refine qr_lload 9 rfl rfl rfl ?_
    refine qr_lc_gt 17 13 rfl rfl rfl rfl (by omega) (by decide) (fun h5 => ?_) (fun h => False.elim (by omega))
    refine qr_iconst 18 rfl rfl ?_
    refine qr_retZ rfl rfl (by omega) (by decide) (by decide) ?_
    show qr_W (qe L xs vb) (d + 1) qx_e193 _ (13, [(0, .ref 86), (1, .int (qz x0)), (2, .int (qz x1))], [.int (qz 0)], _, 0, 0)
    refine qr_if_eq 40 16 rfl rfl rfl (by decide) (fun _ => ?_) (fun h => absurd h (by decide))
    refine qr_iconst 41 rfl rfl ?_
    refine qr_retI rfl rfl (by decide) (by decide) ?_
    exact rfl

set_option maxHeartbeats 8000000 in
set_option maxRecDepth 20000 in
/-- near on the fresh objects: both answer alike -/
theorem sx_near {L : Nat} {xs : Nat → Int} {vb : Bool} {d : Nat} {s g : Nat → Nat → Int} {x0 : Int} {x1 : Int} {x2 : Int} {x3 : Int} (hok : qo_ok s g) (rx0 : -2147483648 ≤ x0 ∧ x0 ≤ 2147483647) (rx1 : -2147483648 ≤ x1 ∧ x1 ≤ 2147483647) (rx2 : -2147483648 ≤ x2 ∧ x2 ≤ 2147483647) (rx3 : -2147483648 ≤ x3 ∧ x3 ≤ 2147483647) : qm_T (qe L xs vb) (d + 3) 65 [.ref 16, .int (qz x0), .int (qz x1), .int (qz x2), .int (qz x3)] (qw (qo_s s) (qo_r g) qo_k 82) (fun r w => (∃ y : Int, r = some (.int (qz y))) ∧ (∃ σ α κ ρ, w = qw σ α κ ρ) ∧ qm_T (qe L xs vb) (d + 3) 194 [.ref 86, .int (qz x0), .int (qz x1), .int (qz x2), .int (qz x3)] w (fun r' _ => r' = r)) := by
  refine qr_start (d := d + 2) qv_e65 (Nat.le_of_ble_eq_true rfl) ?_
  show qr_W (qe L xs vb) (d + 2) qx_e65 _ (0, [(0, .ref 16), (1, .int (qz x0)), (2, .int (qz x1)), (3, .int (qz x2)), (4, .int (qz x3))], [], _, 0, 0)
  refine qr_aload_n 1 rfl rfl rfl ?_
  refine qr_get 4 rfl rfl rfl (by decide) rfl ?_
  refine qr_iload_n 5 rfl rfl rfl ?_
  refine qy_call 8 rfl rfl rfl ?_
  refine qr_start (d := d + 1) qv_e40 (Nat.le_of_ble_eq_true rfl) ?_
  show qr_W (qe L xs vb) (d + 1) qx_e40 _ (0, [(0, .ref 17), (1, .int (qz x0))], [], _, 0, 0)
  refine qr_iload_n 1 rfl rfl rfl ?_
  refine qr_if_lt 16 4 rfl rfl rfl (by omega) (fun h1 => ?_) (fun h1 => ?_)
  · skip
    refine qr_iconst 17 rfl rfl ?_
    refine qr_retZ rfl rfl (by omega) (by decide) (by decide) ?_
    show qr_W (qe L xs vb) (d + 2) qx_e65 _ (8, [(0, .ref 16), (1, .int (qz x0)), (2, .int (qz x1)), (3, .int (qz x2)), (4, .int (qz x3))], [.int (qz 0)], _, 0, 0)
    refine qr_if_eq 37 11 rfl rfl rfl (by decide) (fun _ => ?_) (fun h => absurd h (by decide))
    refine qr_iconst 38 rfl rfl ?_
    refine qr_retI rfl rfl (by decide) (by decide) ?_
    refine ⟨⟨_, rfl⟩, ⟨_, _, _, _, rfl⟩, ?_⟩
    refine qr_start (d := d + 2) qv_e194 (Nat.le_of_ble_eq_true rfl) ?_
    show qr_W (qe L xs vb) (d + 2) qx_e194 _ (0, [(0, .ref 86), (1, .int (qz x0)), (2, .int (qz x1)), (3, .int (qz x2)), (4, .int (qz x3))], [], _, 0, 0)
    refine qr_aload_n 1 rfl rfl rfl ?_
    refine qr_iload_n 2 rfl rfl rfl ?_
    refine qy_call 5 rfl rfl rfl ?_
    refine qr_start (d := d + 1) qv_e180 (Nat.le_of_ble_eq_true rfl) ?_
    show qr_W (qe L xs vb) (d + 1) qx_e180 _ (0, [(0, .ref 86), (1, .int (qz x0))], [], _, 0, 0)
    refine qr_iload_n 1 rfl rfl rfl ?_
    refine qr_i2l 2 rfl (by omega) rfl ?_
    refine qr_lconst 3 rfl rfl ?_
    refine qy_vl 0 rfl ?_
    refine qr_aload_n 4 rfl rfl rfl ?_
    refine qr_get 7 rfl rfl rfl (by decide) rfl ?_
    refine qy_v 0 rfl ?_
    refine qr_iconst 8 rfl rfl ?_
    refine qr_isub 9 rfl rfl ?_
    refine qy_v (-1) rfl ?_
    refine qr_i2l 10 rfl (by omega) rfl ?_
    refine qy_vl (-1) rfl ?_
    refine qy_call 13 rfl rfl rfl ?_
    refine qr_start (d := d + 0) qv_e176 (Nat.le_of_ble_eq_true rfl) ?_
    show qr_W (qe L xs vb) (d + 0) qx_e176 _ (0, [(0, .long (ql x0)), (2, .long (ql 0)), (4, .long (ql (-1)))], [], _, 0, 0)
    refine qr_lload_n 1 rfl rfl rfl ?_
    refine qr_lload_n 2 rfl rfl rfl ?_
    refine qr_lc_lt 17 6 rfl rfl rfl rfl (by omega) (by decide) (fun h2 => ?_) (fun h => False.elim (by omega))
    refine qr_iconst 18 rfl rfl ?_
    refine qr_retZ rfl rfl (by omega) (by decide) (by decide) ?_
    show qr_W (qe L xs vb) (d + 1) qx_e180 _ (13, [(0, .ref 86), (1, .int (qz x0))], [.int (qz 0)], _, 0, 0)
    refine qr_retZ rfl rfl (by omega) (by decide) (by decide) ?_
    show qr_W (qe L xs vb) (d + 2) qx_e194 _ (5, [(0, .ref 86), (1, .int (qz x0)), (2, .int (qz x1)), (3, .int (qz x2)), (4, .int (qz x3))], [.int (qz 0)], _, 0, 0)
    refine qr_if_eq 34 8 rfl rfl rfl (by decide) (fun _ => ?_) (fun h => absurd h (by decide))
    refine qr_iconst 35 rfl rfl ?_
    refine qr_retI rfl rfl (by decide) (by decide) ?_
    exact rfl
  · skip
    refine qr_iload_n 5 rfl rfl rfl ?_
    refine qr_aload_n 6 rfl rfl rfl ?_
    refine qr_get 9 rfl rfl rfl (by decide) rfl ?_
    refine qy_v 0 rfl ?_
    refine qr_icmp_ge 16 12 rfl rfl rfl (by omega) (by decide) (fun h3 => ?_) (fun h => False.elim (by omega))
    refine qr_iconst 17 rfl rfl ?_
    refine qr_retZ rfl rfl (by omega) (by decide) (by decide) ?_
    show qr_W (qe L xs vb) (d + 2) qx_e65 _ (8, [(0, .ref 16), (1, .int (qz x0)), (2, .int (qz x1)), (3, .int (qz x2)), (4, .int (qz x3))], [.int (qz 0)], _, 0, 0)
    refine qr_if_eq 37 11 rfl rfl rfl (by decide) (fun _ => ?_) (fun h => absurd h (by decide))
    refine qr_iconst 38 rfl rfl ?_
    refine qr_retI rfl rfl (by decide) (by decide) ?_
    refine ⟨⟨_, rfl⟩, ⟨_, _, _, _, rfl⟩, ?_⟩
    refine qr_start (d := d + 2) qv_e194 (Nat.le_of_ble_eq_true rfl) ?_
    show qr_W (qe L xs vb) (d + 2) qx_e194 _ (0, [(0, .ref 86), (1, .int (qz x0)), (2, .int (qz x1)), (3, .int (qz x2)), (4, .int (qz x3))], [], _, 0, 0)
    refine qr_aload_n 1 rfl rfl rfl ?_
    refine qr_iload_n 2 rfl rfl rfl ?_
    refine qy_call 5 rfl rfl rfl ?_
    refine qr_start (d := d + 1) qv_e180 (Nat.le_of_ble_eq_true rfl) ?_
    show qr_W (qe L xs vb) (d + 1) qx_e180 _ (0, [(0, .ref 86), (1, .int (qz x0))], [], _, 0, 0)
    refine qr_iload_n 1 rfl rfl rfl ?_
    refine qr_i2l 2 rfl (by omega) rfl ?_
    refine qr_lconst 3 rfl rfl ?_
    refine qy_vl 0 rfl ?_
    refine qr_aload_n 4 rfl rfl rfl ?_
    refine qr_get 7 rfl rfl rfl (by decide) rfl ?_
    refine qy_v 0 rfl ?_
    refine qr_iconst 8 rfl rfl ?_
    refine qr_isub 9 rfl rfl ?_
    refine qy_v (-1) rfl ?_
    refine qr_i2l 10 rfl (by omega) rfl ?_
    refine qy_vl (-1) rfl ?_
    refine qy_call 13 rfl rfl rfl ?_
    refine qr_start (d := d + 0) qv_e176 (Nat.le_of_ble_eq_true rfl) ?_
    show qr_W (qe L xs vb) (d + 0) qx_e176 _ (0, [(0, .long (ql x0)), (2, .long (ql 0)), (4, .long (ql (-1)))], [], _, 0, 0)
    refine qr_lload_n 1 rfl rfl rfl ?_
    refine qr_lload_n 2 rfl rfl rfl ?_
    refine qr_lc_lt 17 6 rfl rfl rfl rfl (by omega) (by decide) (fun h => False.elim (by omega)) (fun h4 => ?_)
    refine qr_lload_n 7 rfl rfl rfl ?_
    refine qr_lload 9 rfl rfl rfl ?_
    refine qr_lc_gt 17 13 rfl rfl rfl rfl (by omega) (by decide) (fun h5 => ?_) (fun h => False.elim (by omega))
    refine qr_iconst 18 rfl rfl ?_
    refine qr_retZ rfl rfl (by omega) (by decide) (by decide) ?_
    show qr_W (qe L xs vb) (d + 1) qx_e180 _ (13, [(0, .ref 86), (1, .int (qz x0))], [.int (qz 0)], _, 0, 0)
    refine qr_retZ rfl rfl (by omega) (by decide) (by decide) ?_
    show qr_W (qe L xs vb) (d + 2) qx_e194 _ (5, [(0, .ref 86), (1, .int (qz x0)), (2, .int (qz x1)), (3, .int (qz x2)), (4, .int (qz x3))], [.int (qz 0)], _, 0, 0)
    refine qr_if_eq 34 8 rfl rfl rfl (by decide) (fun _ => ?_) (fun h => absurd h (by decide))
    refine qr_iconst 35 rfl rfl ?_
    refine qr_retI rfl rfl (by decide) (by decide) ?_
    exact rfl

set_option maxHeartbeats 8000000 in
set_option maxRecDepth 20000 in
/-- peace on the fresh objects: both answer alike -/
theorem sx_peace {L : Nat} {xs : Nat → Int} {vb : Bool} {d : Nat} {s g : Nat → Nat → Int} {x0 : Int} {x1 : Int} {x2 : Int} {x3 : Int} (hok : qo_ok s g) (rx0 : -2147483648 ≤ x0 ∧ x0 ≤ 2147483647) (rx1 : -9223372036854775808 ≤ x1 ∧ x1 ≤ 9223372036854775807) (rx2 : -2147483648 ≤ x2 ∧ x2 ≤ 2147483647) (rx3 : -2147483648 ≤ x3 ∧ x3 ≤ 2147483647) : qm_T (qe L xs vb) (d + 3) 69 [.ref 16, .int (qz x0), .long (ql x1), .int (qz x2), .int (qz x3)] (qw (qo_s s) (qo_r g) qo_k 82) (fun r w => (∃ y : Int, r = some (.int (qz y))) ∧ (∃ σ α κ ρ, w = qw σ α κ ρ) ∧ qm_T (qe L xs vb) (d + 3) 198 [.ref 86, .int (qz x0), .long (ql x1), .int (qz x2), .int (qz x3)] w (fun r' _ => r' = r)) := by
  refine qr_start (d := d + 2) qv_e69 (Nat.le_of_ble_eq_true rfl) ?_
  show qr_W (qe L xs vb) (d + 2) qx_e69 _ (0, [(0, .ref 16), (1, .int (qz x0)), (2, .long (ql x1)), (4, .int (qz x2)), (5, .int (qz x3))], [], _, 0, 0)
  refine qr_iload_n 1 rfl rfl rfl ?_
  refine qr_if_lt 26 4 rfl rfl rfl (by omega) (fun h1 => ?_) (fun h1 => ?_)
  · skip
    refine qr_iconst 27 rfl rfl ?_
    refine qr_retI rfl rfl (by decide) (by decide) ?_
    refine ⟨⟨_, rfl⟩, ⟨_, _, _, _, rfl⟩, ?_⟩
    refine qr_start (d := d + 2) qv_e198 (Nat.le_of_ble_eq_true rfl) ?_
    show qr_W (qe L xs vb) (d + 2) qx_e198 _ (0, [(0, .ref 86), (1, .int (qz x0)), (2, .long (ql x1)), (4, .int (qz x2)), (5, .int (qz x3))], [], _, 0, 0)
    refine qr_iload_n 1 rfl rfl rfl ?_
    refine qr_if_lt 95 4 rfl rfl rfl (by omega) (fun h2 => ?_) (fun h => False.elim (by omega))
    refine qr_iconst 96 rfl rfl ?_
    refine qr_istore [(6, .int (qz 0)), (0, .ref 86), (1, .int (qz x0)), (2, .long (ql x1)), (4, .int (qz x2)), (5, .int (qz x3))] 98 rfl (by decide) rfl rfl ?_
    refine qr_iload 100 rfl rfl rfl ?_
    refine qr_if_ne 105 103 rfl rfl rfl (by decide) (fun h => absurd h (by decide)) (fun _ => ?_)
    refine qr_iconst 104 rfl rfl ?_
    refine qr_retI rfl rfl (by decide) (by decide) ?_
    exact rfl
  · skip
    refine qr_iload_n 5 rfl rfl rfl ?_
    refine qr_bipush 7 rfl (by decide) rfl ?_
    refine qr_irem 8 rfl (by omega) (by omega) rfl ?_
    refine qr_iconst 9 rfl rfl ?_
    refine qr_icmp_gt 26 12 rfl rfl rfl (by omega) (by decide) (fun h3 => ?_) (fun h3 => ?_)
    · skip
      refine qr_iconst 27 rfl rfl ?_
      refine qr_retI rfl rfl (by decide) (by decide) ?_
      refine ⟨⟨_, rfl⟩, ⟨_, _, _, _, rfl⟩, ?_⟩
      refine qr_start (d := d + 2) qv_e198 (Nat.le_of_ble_eq_true rfl) ?_
      show qr_W (qe L xs vb) (d + 2) qx_e198 _ (0, [(0, .ref 86), (1, .int (qz x0)), (2, .long (ql x1)), (4, .int (qz x2)), (5, .int (qz x3))], [], _, 0, 0)
      refine qr_iload_n 1 rfl rfl rfl ?_
      refine qr_if_lt 95 4 rfl rfl rfl (by omega) (fun h => False.elim (by omega)) (fun h4 => ?_)
      refine qr_aload_n 5 rfl rfl rfl ?_
      refine qr_iload_n 6 rfl rfl rfl ?_
      refine qr_bipush 8 rfl (by decide) rfl ?_
      refine qr_idiv 9 rfl (by omega) (by omega) rfl ?_
      refine qy_call 12 rfl rfl rfl ?_
      refine qr_start (d := d + 1) qv_e180 (Nat.le_of_ble_eq_true rfl) ?_
      show qr_W (qe L xs vb) (d + 1) qx_e180 _ (0, [(0, .ref 86), (1, .int (qz (x0 / 10)))], [], _, 0, 0)
      refine qr_iload_n 1 rfl rfl rfl ?_
      refine qr_i2l 2 rfl (by omega) rfl ?_
      refine qr_lconst 3 rfl rfl ?_
      refine qy_vl 0 rfl ?_
      refine qr_aload_n 4 rfl rfl rfl ?_
      refine qr_get 7 rfl rfl rfl (by decide) rfl ?_
      refine qy_v 0 rfl ?_
      refine qr_iconst 8 rfl rfl ?_
      refine qr_isub 9 rfl rfl ?_
      refine qy_v (-1) rfl ?_
      refine qr_i2l 10 rfl (by omega) rfl ?_
      refine qy_vl (-1) rfl ?_
      refine qy_call 13 rfl rfl rfl ?_
      refine qr_start (d := d + 0) qv_e176 (Nat.le_of_ble_eq_true rfl) ?_
      show qr_W (qe L xs vb) (d + 0) qx_e176 _ (0, [(0, .long (ql (x0 / 10))), (2, .long (ql 0)), (4, .long (ql (-1)))], [], _, 0, 0)
      refine qr_lload_n 1 rfl rfl rfl ?_
      refine qr_lload_n 2 rfl rfl rfl ?_
      refine qr_lc_lt 17 6 rfl rfl rfl rfl (by omega) (by decide) (fun h => False.elim (by omega)) (fun h5 => ?_)
      refine qr_lload_n 7 rfl rfl rfl ?_
      refine qr_lload 9 rfl rfl rfl ?_
      refine qr_lc_gt 17 13 rfl rfl rfl rfl (by omega) (by decide) (fun h6 => ?_) (fun h => False.elim (by omega))
      refine qr_iconst 18 rfl rfl ?_
      refine qr_retZ rfl rfl (by omega) (by decide) (by decide) ?_
      show qr_W (qe L xs vb) (d + 1) qx_e180 _ (13, [(0, .ref 86), (1, .int (qz (x0 / 10)))], [.int (qz 0)], _, 0, 0)
      refine qr_retZ rfl rfl (by omega) (by decide) (by decide) ?_
      show qr_W (qe L xs vb) (d + 2) qx_e198 _ (12, [(0, .ref 86), (1, .int (qz x0)), (2, .long (ql x1)), (4, .int (qz x2)), (5, .int (qz x3))], [.int (qz 0)], _, 0, 0)
      refine qr_if_eq 95 15 rfl rfl rfl (by decide) (fun _ => ?_) (fun h => absurd h (by decide))
      refine qr_iconst 96 rfl rfl ?_
      refine qr_istore [(6, .int (qz 0)), (0, .ref 86), (1, .int (qz x0)), (2, .long (ql x1)), (4, .int (qz x2)), (5, .int (qz x3))] 98 rfl (by decide) rfl rfl ?_
      refine qr_iload 100 rfl rfl rfl ?_
      refine qr_if_ne 105 103 rfl rfl rfl (by decide) (fun h => absurd h (by decide)) (fun _ => ?_)
      refine qr_iconst 104 rfl rfl ?_
      refine qr_retI rfl rfl (by decide) (by decide) ?_
      exact rfl
    · skip
      refine qr_aload_n 13 rfl rfl rfl ?_
      refine qr_get 16 rfl rfl rfl (by decide) rfl ?_
      refine qr_iload_n 17 rfl rfl rfl ?_
      refine qr_bipush 19 rfl (by decide) rfl ?_
      refine qr_idiv 20 rfl (by omega) (by omega) rfl ?_
      refine qy_call 23 rfl rfl rfl ?_
      refine qr_start (d := d + 1) qv_e40 (Nat.le_of_ble_eq_true rfl) ?_
      show qr_W (qe L xs vb) (d + 1) qx_e40 _ (0, [(0, .ref 17), (1, .int (qz (x0 / 10)))], [], _, 0, 0)
      refine qr_iload_n 1 rfl rfl rfl ?_
      refine qr_if_lt 16 4 rfl rfl rfl (by omega) (fun h => False.elim (by omega)) (fun h7 => ?_)
      refine qr_iload_n 5 rfl rfl rfl ?_
      refine qr_aload_n 6 rfl rfl rfl ?_
      refine qr_get 9 rfl rfl rfl (by decide) rfl ?_
      refine qy_v 0 rfl ?_
      refine qr_icmp_ge 16 12 rfl rfl rfl (by omega) (by decide) (fun h8 => ?_) (fun h => False.elim (by omega))
      refine qr_iconst 17 rfl rfl ?_
      refine qr_retZ rfl rfl (by omega) (by decide) (by decide) ?_
      show qr_W (qe L xs vb) (d + 2) qx_e69 _ (23, [(0, .ref 16), (1, .int (qz x0)), (2, .long (ql x1)), (4, .int (qz x2)), (5, .int (qz x3))], [.int (qz 0)], _, 0, 0)
      refine qr_if_ne 28 26 rfl rfl rfl (by decide) (fun h => absurd h (by decide)) (fun _ => ?_)
      refine qr_iconst 27 rfl rfl ?_
      refine qr_retI rfl rfl (by decide) (by decide) ?_
      refine ⟨⟨_, rfl⟩, ⟨_, _, _, _, rfl⟩, ?_⟩
      refine qr_start (d := d + 2) qv_e198 (Nat.le_of_ble_eq_true rfl) ?_
      show qr_W (qe L xs vb) (d + 2) qx_e198 _ (0, [(0, .ref 86), (1, .int (qz x0)), (2, .long (ql x1)), (4, .int (qz x2)), (5, .int (qz x3))], [], _, 0, 0)
      refine qr_iload_n 1 rfl rfl rfl ?_
      refine qr_if_lt 95 4 rfl rfl rfl (by omega) (fun h => False.elim (by omega)) (fun h9 => ?_)
      refine qr_aload_n 5 rfl rfl rfl ?_
      refine qr_iload_n 6 rfl rfl rfl ?_
      refine qr_bipush 8 rfl (by decide) rfl ?_
      refine qr_idiv 9 rfl (by omega) (by omega) rfl ?_
      refine qy_call 12 rfl rfl rfl ?_
      refine qr_start (d := d + 1) qv_e180 (Nat.le_of_ble_eq_true rfl) ?_
      show qr_W (qe L xs vb) (d + 1) qx_e180 _ (0, [(0, .ref 86), (1, .int (qz (x0 / 10)))], [], _, 0, 0)
      refine qr_iload_n 1 rfl rfl rfl ?_
      refine qr_i2l 2 rfl (by omega) rfl ?_
      refine qr_lconst 3 rfl rfl ?_
      refine qy_vl 0 rfl ?_
      refine qr_aload_n 4 rfl rfl rfl ?_
      refine qr_get 7 rfl rfl rfl (by decide) rfl ?_
      refine qy_v 0 rfl ?_
      refine qr_iconst 8 rfl rfl ?_
      refine qr_isub 9 rfl rfl ?_
      refine qy_v (-1) rfl ?_
      refine qr_i2l 10 rfl (by omega) rfl ?_
      refine qy_vl (-1) rfl ?_
      refine qy_call 13 rfl rfl rfl ?_
      refine qr_start (d := d + 0) qv_e176 (Nat.le_of_ble_eq_true rfl) ?_
      show qr_W (qe L xs vb) (d + 0) qx_e176 _ (0, [(0, .long (ql (x0 / 10))), (2, .long (ql 0)), (4, .long (ql (-1)))], [], _, 0, 0)
      refine qr_lload_n 1 rfl rfl rfl ?_
      refine qr_lload_n 2 rfl rfl rfl ?_
      refine qr_lc_lt 17 6 rfl rfl rfl rfl (by omega) (by decide) (fun h => False.elim (by omega)) (fun h10 => ?_)
      refine qr_lload_n 7 rfl rfl rfl ?_
      refine qr_lload 9 rfl rfl rfl ?_
      refine qr_lc_gt 17 13 rfl rfl rfl rfl (by omega) (by decide) (fun h11 => ?_) (fun h => False.elim (by omega))
      refine qr_iconst 18 rfl rfl ?_
      refine qr_retZ rfl rfl (by omega) (by decide) (by decide) ?_
      show qr_W (qe L xs vb) (d + 1) qx_e180 _ (13, [(0, .ref 86), (1, .int (qz (x0 / 10)))], [.int (qz 0)], _, 0, 0)
      refine qr_retZ rfl rfl (by omega) (by decide) (by decide) ?_
      show qr_W (qe L xs vb) (d + 2) qx_e198 _ (12, [(0, .ref 86), (1, .int (qz x0)), (2, .long (ql x1)), (4, .int (qz x2)), (5, .int (qz x3))], [.int (qz 0)], _, 0, 0)
      refine qr_if_eq 95 15 rfl rfl rfl (by decide) (fun _ => ?_) (fun h => absurd h (by decide))
      refine qr_iconst 96 rfl rfl ?_
      refine qr_istore [(6, .int (qz 0)), (0, .ref 86), (1, .int (qz x0)), (2, .long (ql x1)), (4, .int (qz x2)), (5, .int (qz x3))] 98 rfl (by decide) rfl rfl ?_
      refine qr_iload 100 rfl rfl rfl ?_
      refine qr_if_ne 105 103 rfl rfl rfl (by decide) (fun h => absurd h (by decide)) (fun _ => ?_)
      refine qr_iconst 104 rfl rfl ?_
      refine qr_retI rfl rfl (by decide) (by decide) ?_
      exact rfl

set_option maxHeartbeats 8000000 in
set_option maxRecDepth 20000 in
/-- ofPeace on the fresh objects: both answer alike -/
theorem sx_ofPeace {L : Nat} {xs : Nat → Int} {vb : Bool} {d : Nat} {s g : Nat → Nat → Int} {x0 : Int} {x1 : Int} (hok : qo_ok s g) (rx0 : -2147483648 ≤ x0 ∧ x0 ≤ 2147483647) (rx1 : -2147483648 ≤ x1 ∧ x1 ≤ 2147483647) : qm_T (qe L xs vb) (d + 3) 72 [.ref 16, .int (qz x0), .int (qz x1)] (qw (qo_s s) (qo_r g) qo_k 82) (fun r w => (∃ y : Int, r = some (.int (qz y))) ∧ (∃ σ α κ ρ, w = qw σ α κ ρ) ∧ qm_T (qe L xs vb) (d + 3) 199 [.ref 86, .int (qz x0), .int (qz x1)] w (fun r' _ => r' = r)) := by
  refine qr_start (d := d + 2) qv_e72 (Nat.le_of_ble_eq_true rfl) ?_
  show qr_W (qe L xs vb) (d + 2) qx_e72 _ (0, [(0, .ref 16), (1, .int (qz x0)), (2, .int (qz x1))], [], _, 0, 0)
  refine qr_aload_n 1 rfl rfl rfl ?_
  refine qr_get 4 rfl rfl rfl (by decide) rfl ?_
  refine qr_iload_n 5 rfl rfl rfl ?_
  refine qy_call 8 rfl rfl rfl ?_
  refine qr_start (d := d + 1) qv_e73 (Nat.le_of_ble_eq_true rfl) ?_
  show qr_W (qe L xs vb) (d + 1) qx_e73 _ (0, [(0, .ref 34), (1, .int (qz x0))], [], _, 0, 0)
  refine qr_iload_n 1 rfl rfl rfl ?_
  refine qr_if_lt 16 4 rfl rfl rfl (by omega) (fun h1 => ?_) (fun h1 => ?_)
  · skip
    refine qr_iconst 17 rfl rfl ?_
    refine qr_retZ rfl rfl (by omega) (by decide) (by decide) ?_
    show qr_W (qe L xs vb) (d + 2) qx_e72 _ (8, [(0, .ref 16), (1, .int (qz x0)), (2, .int (qz x1))], [.int (qz 0)], _, 0, 0)
    refine qr_if_ne 13 11 rfl rfl rfl (by decide) (fun h => absurd h (by decide)) (fun _ => ?_)
    refine qr_iconst 12 rfl rfl ?_
    refine qr_retI rfl rfl (by decide) (by decide) ?_
    refine ⟨⟨_, rfl⟩, ⟨_, _, _, _, rfl⟩, ?_⟩
    refine qr_start (d := d + 2) qv_e199 (Nat.le_of_ble_eq_true rfl) ?_
    show qr_W (qe L xs vb) (d + 2) qx_e199 _ (0, [(0, .ref 86), (1, .int (qz x0)), (2, .int (qz x1))], [], _, 0, 0)
    refine qr_aload_n 1 rfl rfl rfl ?_
    refine qr_iload_n 2 rfl rfl rfl ?_
    refine qy_call 5 rfl rfl rfl ?_
    refine qr_start (d := d + 1) qv_e200 (Nat.le_of_ble_eq_true rfl) ?_
    show qr_W (qe L xs vb) (d + 1) qx_e200 _ (0, [(0, .ref 86), (1, .int (qz x0))], [], _, 0, 0)
    refine qr_iload_n 1 rfl rfl rfl ?_
    refine qr_i2l 2 rfl (by omega) rfl ?_
    refine qr_lconst 3 rfl rfl ?_
    refine qy_vl 0 rfl ?_
    refine qr_aload_n 4 rfl rfl rfl ?_
    refine qr_get 7 rfl rfl rfl (by decide) rfl ?_
    refine qy_v 0 rfl ?_
    refine qr_iconst 8 rfl rfl ?_
    refine qr_isub 9 rfl rfl ?_
    refine qy_v (-1) rfl ?_
    refine qr_i2l 10 rfl (by omega) rfl ?_
    refine qy_vl (-1) rfl ?_
    refine qy_call 13 rfl rfl rfl ?_
    refine qr_start (d := d + 0) qv_e176 (Nat.le_of_ble_eq_true rfl) ?_
    show qr_W (qe L xs vb) (d + 0) qx_e176 _ (0, [(0, .long (ql x0)), (2, .long (ql 0)), (4, .long (ql (-1)))], [], _, 0, 0)
    refine qr_lload_n 1 rfl rfl rfl ?_
    refine qr_lload_n 2 rfl rfl rfl ?_
    refine qr_lc_lt 17 6 rfl rfl rfl rfl (by omega) (by decide) (fun h2 => ?_) (fun h => False.elim (by omega))
    refine qr_iconst 18 rfl rfl ?_
    refine qr_retZ rfl rfl (by omega) (by decide) (by decide) ?_
    show qr_W (qe L xs vb) (d + 1) qx_e200 _ (13, [(0, .ref 86), (1, .int (qz x0))], [.int (qz 0)], _, 0, 0)
    refine qr_retZ rfl rfl (by omega) (by decide) (by decide) ?_
    show qr_W (qe L xs vb) (d + 2) qx_e199 _ (5, [(0, .ref 86), (1, .int (qz x0)), (2, .int (qz x1))], [.int (qz 0)], _, 0, 0)
    refine qr_if_ne 10 8 rfl rfl rfl (by decide) (fun h => absurd h (by decide)) (fun _ => ?_)
    refine qr_iconst 9 rfl rfl ?_
    refine qr_retI rfl rfl (by decide) (by decide) ?_
    exact rfl
  · skip
    refine qr_iload_n 5 rfl rfl rfl ?_
    refine qr_aload_n 6 rfl rfl rfl ?_
    refine qr_get 9 rfl rfl rfl (by decide) rfl ?_
    refine qy_v 0 rfl ?_
    refine qr_icmp_ge 16 12 rfl rfl rfl (by omega) (by decide) (fun h3 => ?_) (fun h => False.elim (by omega))
    refine qr_iconst 17 rfl rfl ?_
    refine qr_retZ rfl rfl (by omega) (by decide) (by decide) ?_
    show qr_W (qe L xs vb) (d + 2) qx_e72 _ (8, [(0, .ref 16), (1, .int (qz x0)), (2, .int (qz x1))], [.int (qz 0)], _, 0, 0)
    refine qr_if_ne 13 11 rfl rfl rfl (by decide) (fun h => absurd h (by decide)) (fun _ => ?_)
    refine qr_iconst 12 rfl rfl ?_
    refine qr_retI rfl rfl (by decide) (by decide) ?_
    refine ⟨⟨_, rfl⟩, ⟨_, _, _, _, rfl⟩, ?_⟩
    refine qr_start (d := d + 2) qv_e199 (Nat.le_of_ble_eq_true rfl) ?_
    show qr_W (qe L xs vb) (d + 2) qx_e199 _ (0, [(0, .ref 86), (1, .int (qz x0)), (2, .int (qz x1))], [], _, 0, 0)
    refine qr_aload_n 1 rfl rfl rfl ?_
    refine qr_iload_n 2 rfl rfl rfl ?_
    refine qy_call 5 rfl rfl rfl ?_
    refine qr_start (d := d + 1) qv_e200 (Nat.le_of_ble_eq_true rfl) ?_
    show qr_W (qe L xs vb) (d + 1) qx_e200 _ (0, [(0, .ref 86), (1, .int (qz x0))], [], _, 0, 0)
    refine qr_iload_n 1 rfl rfl rfl ?_
    refine qr_i2l 2 rfl (by omega) rfl ?_
    refine qr_lconst 3 rfl rfl ?_
    refine qy_vl 0 rfl ?_
    refine qr_aload_n 4 rfl rfl rfl ?_
    refine qr_get 7 rfl rfl rfl (by decide) rfl ?_
    refine qy_v 0 rfl ?_
    refine qr_iconst 8 rfl rfl ?_
    refine qr_isub 9 rfl rfl ?_
    refine qy_v (-1) rfl ?_
    refine qr_i2l 10 rfl (by omega) rfl ?_
    refine qy_vl (-1) rfl ?_
    refine qy_call 13 rfl rfl rfl ?_
    refine qr_start (d := d + 0) qv_e176 (Nat.le_of_ble_eq_true rfl) ?_
    show qr_W (qe L xs vb) (d + 0) qx_e176 _ (0, [(0, .long (ql x0)), (2, .long (ql 0)), (4, .long (ql (-1)))], [], _, 0, 0)
    refine qr_lload_n 1 rfl rfl rfl ?_
    refine qr_lload_n 2 rfl rfl rfl ?_
    refine qr_lc_lt 17 6 rfl rfl rfl rfl (by omega) (by decide) (fun h => False.elim (by omega)) (fun h4 => ?_)
    refine qr_lload_n 7 rfl rfl rfl ?_
    refine qr_lload 9 rfl rfl rfl ?_
    refine qr_lc_gt 17 13 rfl rfl rfl rfl (by omega) (by decide) (fun h5 => ?_) (fun h => False.elim (by omega))
    refine qr_iconst 18 rfl rfl ?_
    refine qr_retZ rfl rfl (by omega) (by decide) (by decide) ?_
    show qr_W (qe L xs vb) (d + 1) qx_e200 _ (13, [(0, .ref 86), (1, .int (qz x0))], [.int (qz 0)], _, 0, 0)
    refine qr_retZ rfl rfl (by omega) (by decide) (by decide) ?_
    show qr_W (qe L xs vb) (d + 2) qx_e199 _ (5, [(0, .ref 86), (1, .int (qz x0)), (2, .int (qz x1))], [.int (qz 0)], _, 0, 0)
    refine qr_if_ne 10 8 rfl rfl rfl (by decide) (fun h => absurd h (by decide)) (fun _ => ?_)
    refine qr_iconst 9 rfl rfl ?_
    refine qr_retI rfl rfl (by decide) (by decide) ?_
    exact rfl

set_option maxHeartbeats 8000000 in
set_option maxRecDepth 20000 in
/-- cover on the fresh objects: both answer alike -/
theorem sx_cover {L : Nat} {xs : Nat → Int} {vb : Bool} {d : Nat} {s g : Nat → Nat → Int} {x0 : Int} {x1 : Int} {x2 : Int} (hok : qo_ok s g) (rx0 : -2147483648 ≤ x0 ∧ x0 ≤ 2147483647) (rx1 : -2147483648 ≤ x1 ∧ x1 ≤ 2147483647) (rx2 : -2147483648 ≤ x2 ∧ x2 ≤ 2147483647) : qm_T (qe L xs vb) (d + 3) 75 [.ref 16, .int (qz x0), .int (qz x1), .int (qz x2)] (qw (qo_s s) (qo_r g) qo_k 82) (fun r w => (∃ y : Int, r = some (.int (qz y))) ∧ (∃ σ α κ ρ, w = qw σ α κ ρ) ∧ qm_T (qe L xs vb) (d + 3) 203 [.ref 86, .int (qz x0), .int (qz x1), .int (qz x2)] w (fun r' _ => r' = r)) := by
  refine qr_start (d := d + 2) qv_e75 (Nat.le_of_ble_eq_true rfl) ?_
  show qr_W (qe L xs vb) (d + 2) qx_e75 _ (0, [(0, .ref 16), (1, .int (qz x0)), (2, .int (qz x1)), (3, .int (qz x2))], [], _, 0, 0)
  refine qr_aload_n 1 rfl rfl rfl ?_
  refine qr_get 4 rfl rfl rfl (by decide) rfl ?_
  refine qr_iload_n 5 rfl rfl rfl ?_
  refine qy_call 8 rfl rfl rfl ?_
  refine qr_start (d := d + 1) qv_e73 (Nat.le_of_ble_eq_true rfl) ?_
  show qr_W (qe L xs vb) (d + 1) qx_e73 _ (0, [(0, .ref 34), (1, .int (qz x0))], [], _, 0, 0)
  refine qr_iload_n 1 rfl rfl rfl ?_
  refine qr_if_lt 16 4 rfl rfl rfl (by omega) (fun h1 => ?_) (fun h1 => ?_)
  · skip
    refine qr_iconst 17 rfl rfl ?_
    refine qr_retZ rfl rfl (by omega) (by decide) (by decide) ?_
    show qr_W (qe L xs vb) (d + 2) qx_e75 _ (8, [(0, .ref 16), (1, .int (qz x0)), (2, .int (qz x1)), (3, .int (qz x2))], [.int (qz 0)], _, 0, 0)
    refine qr_if_eq 29 11 rfl rfl rfl (by decide) (fun _ => ?_) (fun h => absurd h (by decide))
    refine qr_iconst 30 rfl rfl ?_
    refine qr_retI rfl rfl (by decide) (by decide) ?_
    refine ⟨⟨_, rfl⟩, ⟨_, _, _, _, rfl⟩, ?_⟩
    refine qr_start (d := d + 2) qv_e203 (Nat.le_of_ble_eq_true rfl) ?_
    show qr_W (qe L xs vb) (d + 2) qx_e203 _ (0, [(0, .ref 86), (1, .int (qz x0)), (2, .int (qz x1)), (3, .int (qz x2))], [], _, 0, 0)
    refine qr_aload_n 1 rfl rfl rfl ?_
    refine qr_iload_n 2 rfl rfl rfl ?_
    refine qy_call 5 rfl rfl rfl ?_
    refine qr_start (d := d + 1) qv_e200 (Nat.le_of_ble_eq_true rfl) ?_
    show qr_W (qe L xs vb) (d + 1) qx_e200 _ (0, [(0, .ref 86), (1, .int (qz x0))], [], _, 0, 0)
    refine qr_iload_n 1 rfl rfl rfl ?_
    refine qr_i2l 2 rfl (by omega) rfl ?_
    refine qr_lconst 3 rfl rfl ?_
    refine qy_vl 0 rfl ?_
    refine qr_aload_n 4 rfl rfl rfl ?_
    refine qr_get 7 rfl rfl rfl (by decide) rfl ?_
    refine qy_v 0 rfl ?_
    refine qr_iconst 8 rfl rfl ?_
    refine qr_isub 9 rfl rfl ?_
    refine qy_v (-1) rfl ?_
    refine qr_i2l 10 rfl (by omega) rfl ?_
    refine qy_vl (-1) rfl ?_
    refine qy_call 13 rfl rfl rfl ?_
    refine qr_start (d := d + 0) qv_e176 (Nat.le_of_ble_eq_true rfl) ?_
    show qr_W (qe L xs vb) (d + 0) qx_e176 _ (0, [(0, .long (ql x0)), (2, .long (ql 0)), (4, .long (ql (-1)))], [], _, 0, 0)
    refine qr_lload_n 1 rfl rfl rfl ?_
    refine qr_lload_n 2 rfl rfl rfl ?_
    refine qr_lc_lt 17 6 rfl rfl rfl rfl (by omega) (by decide) (fun h2 => ?_) (fun h => False.elim (by omega))
    refine qr_iconst 18 rfl rfl ?_
    refine qr_retZ rfl rfl (by omega) (by decide) (by decide) ?_
    show qr_W (qe L xs vb) (d + 1) qx_e200 _ (13, [(0, .ref 86), (1, .int (qz x0))], [.int (qz 0)], _, 0, 0)
    refine qr_retZ rfl rfl (by omega) (by decide) (by decide) ?_
    show qr_W (qe L xs vb) (d + 2) qx_e203 _ (5, [(0, .ref 86), (1, .int (qz x0)), (2, .int (qz x1)), (3, .int (qz x2))], [.int (qz 0)], _, 0, 0)
    refine qr_if_eq 26 8 rfl rfl rfl (by decide) (fun _ => ?_) (fun h => absurd h (by decide))
    refine qr_iconst 27 rfl rfl ?_
    refine qr_retI rfl rfl (by decide) (by decide) ?_
    exact rfl
  · skip
    refine qr_iload_n 5 rfl rfl rfl ?_
    refine qr_aload_n 6 rfl rfl rfl ?_
    refine qr_get 9 rfl rfl rfl (by decide) rfl ?_
    refine qy_v 0 rfl ?_
    refine qr_icmp_ge 16 12 rfl rfl rfl (by omega) (by decide) (fun h3 => ?_) (fun h => False.elim (by omega))
    refine qr_iconst 17 rfl rfl ?_
    refine qr_retZ rfl rfl (by omega) (by decide) (by decide) ?_
    show qr_W (qe L xs vb) (d + 2) qx_e75 _ (8, [(0, .ref 16), (1, .int (qz x0)), (2, .int (qz x1)), (3, .int (qz x2))], [.int (qz 0)], _, 0, 0)
    refine qr_if_eq 29 11 rfl rfl rfl (by decide) (fun _ => ?_) (fun h => absurd h (by decide))
    refine qr_iconst 30 rfl rfl ?_
    refine qr_retI rfl rfl (by decide) (by decide) ?_
    refine ⟨⟨_, rfl⟩, ⟨_, _, _, _, rfl⟩, ?_⟩
    refine qr_start (d := d + 2) qv_e203 (Nat.le_of_ble_eq_true rfl) ?_
    show qr_W (qe L xs vb) (d + 2) qx_e203 _ (0, [(0, .ref 86), (1, .int (qz x0)), (2, .int (qz x1)), (3, .int (qz x2))], [], _, 0, 0)
    refine qr_aload_n 1 rfl rfl rfl ?_
    refine qr_iload_n 2 rfl rfl rfl ?_
    refine qy_call 5 rfl rfl rfl ?_
    refine qr_start (d := d + 1) qv_e200 (Nat.le_of_ble_eq_true rfl) ?_
    show qr_W (qe L xs vb) (d + 1) qx_e200 _ (0, [(0, .ref 86), (1, .int (qz x0))], [], _, 0, 0)
    refine qr_iload_n 1 rfl rfl rfl ?_
    refine qr_i2l 2 rfl (by omega) rfl ?_
    refine qr_lconst 3 rfl rfl ?_
    refine qy_vl 0 rfl ?_
    refine qr_aload_n 4 rfl rfl rfl ?_
    refine qr_get 7 rfl rfl rfl (by decide) rfl ?_
    refine qy_v 0 rfl ?_
    refine qr_iconst 8 rfl rfl ?_
    refine qr_isub 9 rfl rfl ?_
    refine qy_v (-1) rfl ?_
    refine qr_i2l 10 rfl (by omega) rfl ?_
    refine qy_vl (-1) rfl ?_
    refine qy_call 13 rfl rfl rfl ?_
    refine qr_start (d := d + 0) qv_e176 (Nat.le_of_ble_eq_true rfl) ?_
    show qr_W (qe L xs vb) (d + 0) qx_e176 _ (0, [(0, .long (ql x0)), (2, .long (ql 0)), (4, .long (ql (-1)))], [], _, 0, 0)
    refine qr_lload_n 1 rfl rfl rfl ?_
    refine qr_lload_n 2 rfl rfl rfl ?_
    refine qr_lc_lt 17 6 rfl rfl rfl rfl (by omega) (by decide) (fun h => False.elim (by omega)) (fun h4 => ?_)
    refine qr_lload_n 7 rfl rfl rfl ?_
    refine qr_lload 9 rfl rfl rfl ?_
    refine qr_lc_gt 17 13 rfl rfl rfl rfl (by omega) (by decide) (fun h5 => ?_) (fun h => False.elim (by omega))
    refine qr_iconst 18 rfl rfl ?_
    refine qr_retZ rfl rfl (by omega) (by decide) (by decide) ?_
    show qr_W (qe L xs vb) (d + 1) qx_e200 _ (13, [(0, .ref 86), (1, .int (qz x0))], [.int (qz 0)], _, 0, 0)
    refine qr_retZ rfl rfl (by omega) (by decide) (by decide) ?_
    show qr_W (qe L xs vb) (d + 2) qx_e203 _ (5, [(0, .ref 86), (1, .int (qz x0)), (2, .int (qz x1)), (3, .int (qz x2))], [.int (qz 0)], _, 0, 0)
    refine qr_if_eq 26 8 rfl rfl rfl (by decide) (fun _ => ?_) (fun h => absurd h (by decide))
    refine qr_iconst 27 rfl rfl ?_
    refine qr_retI rfl rfl (by decide) (by decide) ?_
    exact rfl

set_option maxHeartbeats 8000000 in
set_option maxRecDepth 20000 in
/-- holds on the fresh objects: both answer alike -/
theorem sx_holds {L : Nat} {xs : Nat → Int} {vb : Bool} {d : Nat} {s g : Nat → Nat → Int} {x0 : Int} {x1 : Int} {x2 : Int} (hok : qo_ok s g) (rx0 : -2147483648 ≤ x0 ∧ x0 ≤ 2147483647) (rx1 : -2147483648 ≤ x1 ∧ x1 ≤ 2147483647) (rx2 : -2147483648 ≤ x2 ∧ x2 ≤ 2147483647) : qm_T (qe L xs vb) (d + 3) 76 [.ref 16, .int (qz x0), .int (qz x1), .int (qz x2)] (qw (qo_s s) (qo_r g) qo_k 82) (fun r w => (∃ y : Int, r = some (.int (qz y))) ∧ (∃ σ α κ ρ, w = qw σ α κ ρ) ∧ qm_T (qe L xs vb) (d + 3) 204 [.ref 86, .int (qz x0), .int (qz x1), .int (qz x2)] w (fun r' _ => r' = r)) := by
  refine qr_start (d := d + 2) qv_e76 (Nat.le_of_ble_eq_true rfl) ?_
  show qr_W (qe L xs vb) (d + 2) qx_e76 _ (0, [(0, .ref 16), (1, .int (qz x0)), (2, .int (qz x1)), (3, .int (qz x2))], [], _, 0, 0)
  refine qr_aload_n 1 rfl rfl rfl ?_
  refine qr_get 4 rfl rfl rfl (by decide) rfl ?_
  refine qr_iload_n 5 rfl rfl rfl ?_
  refine qy_call 8 rfl rfl rfl ?_
  refine qr_start (d := d + 1) qv_e73 (Nat.le_of_ble_eq_true rfl) ?_
  show qr_W (qe L xs vb) (d + 1) qx_e73 _ (0, [(0, .ref 34), (1, .int (qz x0))], [], _, 0, 0)
  refine qr_iload_n 1 rfl rfl rfl ?_
  refine qr_if_lt 16 4 rfl rfl rfl (by omega) (fun h1 => ?_) (fun h1 => ?_)
  · skip
    refine qr_iconst 17 rfl rfl ?_
    refine qr_retZ rfl rfl (by omega) (by decide) (by decide) ?_
    show qr_W (qe L xs vb) (d + 2) qx_e76 _ (8, [(0, .ref 16), (1, .int (qz x0)), (2, .int (qz x1)), (3, .int (qz x2))], [.int (qz 0)], _, 0, 0)
    refine qr_if_eq 29 11 rfl rfl rfl (by decide) (fun _ => ?_) (fun h => absurd h (by decide))
    refine qr_iconst 30 rfl rfl ?_
    refine qr_retI rfl rfl (by decide) (by decide) ?_
    refine ⟨⟨_, rfl⟩, ⟨_, _, _, _, rfl⟩, ?_⟩
    refine qr_start (d := d + 2) qv_e204 (Nat.le_of_ble_eq_true rfl) ?_
    show qr_W (qe L xs vb) (d + 2) qx_e204 _ (0, [(0, .ref 86), (1, .int (qz x0)), (2, .int (qz x1)), (3, .int (qz x2))], [], _, 0, 0)
    refine qr_aload_n 1 rfl rfl rfl ?_
    refine qr_iload_n 2 rfl rfl rfl ?_
    refine qy_call 5 rfl rfl rfl ?_
    refine qr_start (d := d + 1) qv_e200 (Nat.le_of_ble_eq_true rfl) ?_
    show qr_W (qe L xs vb) (d + 1) qx_e200 _ (0, [(0, .ref 86), (1, .int (qz x0))], [], _, 0, 0)
    refine qr_iload_n 1 rfl rfl rfl ?_
    refine qr_i2l 2 rfl (by omega) rfl ?_
    refine qr_lconst 3 rfl rfl ?_
    refine qy_vl 0 rfl ?_
    refine qr_aload_n 4 rfl rfl rfl ?_
    refine qr_get 7 rfl rfl rfl (by decide) rfl ?_
    refine qy_v 0 rfl ?_
    refine qr_iconst 8 rfl rfl ?_
    refine qr_isub 9 rfl rfl ?_
    refine qy_v (-1) rfl ?_
    refine qr_i2l 10 rfl (by omega) rfl ?_
    refine qy_vl (-1) rfl ?_
    refine qy_call 13 rfl rfl rfl ?_
    refine qr_start (d := d + 0) qv_e176 (Nat.le_of_ble_eq_true rfl) ?_
    show qr_W (qe L xs vb) (d + 0) qx_e176 _ (0, [(0, .long (ql x0)), (2, .long (ql 0)), (4, .long (ql (-1)))], [], _, 0, 0)
    refine qr_lload_n 1 rfl rfl rfl ?_
    refine qr_lload_n 2 rfl rfl rfl ?_
    refine qr_lc_lt 17 6 rfl rfl rfl rfl (by omega) (by decide) (fun h2 => ?_) (fun h => False.elim (by omega))
    refine qr_iconst 18 rfl rfl ?_
    refine qr_retZ rfl rfl (by omega) (by decide) (by decide) ?_
    show qr_W (qe L xs vb) (d + 1) qx_e200 _ (13, [(0, .ref 86), (1, .int (qz x0))], [.int (qz 0)], _, 0, 0)
    refine qr_retZ rfl rfl (by omega) (by decide) (by decide) ?_
    show qr_W (qe L xs vb) (d + 2) qx_e204 _ (5, [(0, .ref 86), (1, .int (qz x0)), (2, .int (qz x1)), (3, .int (qz x2))], [.int (qz 0)], _, 0, 0)
    refine qr_if_eq 48 8 rfl rfl rfl (by decide) (fun _ => ?_) (fun h => absurd h (by decide))
    refine qr_iconst 49 rfl rfl ?_
    refine qr_retI rfl rfl (by decide) (by decide) ?_
    exact rfl
  · skip
    refine qr_iload_n 5 rfl rfl rfl ?_
    refine qr_aload_n 6 rfl rfl rfl ?_
    refine qr_get 9 rfl rfl rfl (by decide) rfl ?_
    refine qy_v 0 rfl ?_
    refine qr_icmp_ge 16 12 rfl rfl rfl (by omega) (by decide) (fun h3 => ?_) (fun h => False.elim (by omega))
    refine qr_iconst 17 rfl rfl ?_
    refine qr_retZ rfl rfl (by omega) (by decide) (by decide) ?_
    show qr_W (qe L xs vb) (d + 2) qx_e76 _ (8, [(0, .ref 16), (1, .int (qz x0)), (2, .int (qz x1)), (3, .int (qz x2))], [.int (qz 0)], _, 0, 0)
    refine qr_if_eq 29 11 rfl rfl rfl (by decide) (fun _ => ?_) (fun h => absurd h (by decide))
    refine qr_iconst 30 rfl rfl ?_
    refine qr_retI rfl rfl (by decide) (by decide) ?_
    refine ⟨⟨_, rfl⟩, ⟨_, _, _, _, rfl⟩, ?_⟩
    refine qr_start (d := d + 2) qv_e204 (Nat.le_of_ble_eq_true rfl) ?_
    show qr_W (qe L xs vb) (d + 2) qx_e204 _ (0, [(0, .ref 86), (1, .int (qz x0)), (2, .int (qz x1)), (3, .int (qz x2))], [], _, 0, 0)
    refine qr_aload_n 1 rfl rfl rfl ?_
    refine qr_iload_n 2 rfl rfl rfl ?_
    refine qy_call 5 rfl rfl rfl ?_
    refine qr_start (d := d + 1) qv_e200 (Nat.le_of_ble_eq_true rfl) ?_
    show qr_W (qe L xs vb) (d + 1) qx_e200 _ (0, [(0, .ref 86), (1, .int (qz x0))], [], _, 0, 0)
    refine qr_iload_n 1 rfl rfl rfl ?_
    refine qr_i2l 2 rfl (by omega) rfl ?_
    refine qr_lconst 3 rfl rfl ?_
    refine qy_vl 0 rfl ?_
    refine qr_aload_n 4 rfl rfl rfl ?_
    refine qr_get 7 rfl rfl rfl (by decide) rfl ?_
    refine qy_v 0 rfl ?_
    refine qr_iconst 8 rfl rfl ?_
    refine qr_isub 9 rfl rfl ?_
    refine qy_v (-1) rfl ?_
    refine qr_i2l 10 rfl (by omega) rfl ?_
    refine qy_vl (-1) rfl ?_
    refine qy_call 13 rfl rfl rfl ?_
    refine qr_start (d := d + 0) qv_e176 (Nat.le_of_ble_eq_true rfl) ?_
    show qr_W (qe L xs vb) (d + 0) qx_e176 _ (0, [(0, .long (ql x0)), (2, .long (ql 0)), (4, .long (ql (-1)))], [], _, 0, 0)
    refine qr_lload_n 1 rfl rfl rfl ?_
    refine qr_lload_n 2 rfl rfl rfl ?_
    refine qr_lc_lt 17 6 rfl rfl rfl rfl (by omega) (by decide) (fun h => False.elim (by omega)) (fun h4 => ?_)
    refine qr_lload_n 7 rfl rfl rfl ?_
    refine qr_lload 9 rfl rfl rfl ?_
    refine qr_lc_gt 17 13 rfl rfl rfl rfl (by omega) (by decide) (fun h5 => ?_) (fun h => False.elim (by omega))
    refine qr_iconst 18 rfl rfl ?_
    refine qr_retZ rfl rfl (by omega) (by decide) (by decide) ?_
    show qr_W (qe L xs vb) (d + 1) qx_e200 _ (13, [(0, .ref 86), (1, .int (qz x0))], [.int (qz 0)], _, 0, 0)
    refine qr_retZ rfl rfl (by omega) (by decide) (by decide) ?_
    show qr_W (qe L xs vb) (d + 2) qx_e204 _ (5, [(0, .ref 86), (1, .int (qz x0)), (2, .int (qz x1)), (3, .int (qz x2))], [.int (qz 0)], _, 0, 0)
    refine qr_if_eq 48 8 rfl rfl rfl (by decide) (fun _ => ?_) (fun h => absurd h (by decide))
    refine qr_iconst 49 rfl rfl ?_
    refine qr_retI rfl rfl (by decide) (by decide) ?_
    exact rfl

set_option maxHeartbeats 8000000 in
set_option maxRecDepth 20000 in
/-- between on the fresh objects: both answer alike -/
theorem sx_between {L : Nat} {xs : Nat → Int} {vb : Bool} {d : Nat} {s g : Nat → Nat → Int} {x0 : Int} {x1 : Int} (hok : qo_ok s g) (rx0 : -2147483648 ≤ x0 ∧ x0 ≤ 2147483647) (rx1 : -2147483648 ≤ x1 ∧ x1 ≤ 2147483647) : qm_T (qe L xs vb) (d + 4) 79 [.ref 16, .int (qz x0), .int (qz x1)] (qw (qo_s s) (qo_r g) qo_k 82) (fun r w => (∃ y : Int, r = some (.int (qz y))) ∧ (∃ σ α κ ρ, w = qw σ α κ ρ) ∧ qm_T (qe L xs vb) (d + 4) 208 [.ref 86, .int (qz x0), .int (qz x1)] w (fun r' _ => r' = r)) := by
  refine qr_start (d := d + 3) qv_e79 (Nat.le_of_ble_eq_true rfl) ?_
  show qr_W (qe L xs vb) (d + 3) qx_e79 _ (0, [(0, .ref 16), (1, .int (qz x0)), (2, .int (qz x1))], [], _, 0, 0)
  refine qr_aload_n 1 rfl rfl rfl ?_
  refine qr_get 4 rfl rfl rfl (by decide) rfl ?_
  refine qr_iload_n 5 rfl rfl rfl ?_
  refine qy_call 8 rfl rfl rfl ?_
  refine qr_start (d := d + 2) qv_e61 (Nat.le_of_ble_eq_true rfl) ?_
  show qr_W (qe L xs vb) (d + 2) qx_e61 _ (0, [(0, .ref 17), (1, .int (qz x0))], [], _, 0, 0)
  refine qr_iload_n 1 rfl rfl rfl ?_
  refine qr_if_lt 41 4 rfl rfl rfl (by omega) (fun h1 => ?_) (fun h1 => ?_)
  · skip
    refine qr_iconst 42 rfl rfl ?_
    refine qr_retZ rfl rfl (by omega) (by decide) (by decide) ?_
    show qr_W (qe L xs vb) (d + 3) qx_e79 _ (8, [(0, .ref 16), (1, .int (qz x0)), (2, .int (qz x1))], [.int (qz 0)], _, 0, 0)
    refine qr_if_eq 18 11 rfl rfl rfl (by decide) (fun _ => ?_) (fun h => absurd h (by decide))
    refine qr_iconst 19 rfl rfl ?_
    refine qr_retI rfl rfl (by decide) (by decide) ?_
    refine ⟨⟨_, rfl⟩, ⟨_, _, _, _, rfl⟩, ?_⟩
    refine qr_start (d := d + 3) qv_e208 (Nat.le_of_ble_eq_true rfl) ?_
    show qr_W (qe L xs vb) (d + 3) qx_e208 _ (0, [(0, .ref 86), (1, .int (qz x0)), (2, .int (qz x1))], [], _, 0, 0)
    refine qr_aload_n 1 rfl rfl rfl ?_
    refine qr_iload_n 2 rfl rfl rfl ?_
    refine qy_call 5 rfl rfl rfl ?_
    refine qr_start (d := d + 2) qv_e191 (Nat.le_of_ble_eq_true rfl) ?_
    show qr_W (qe L xs vb) (d + 2) qx_e191 _ (0, [(0, .ref 86), (1, .int (qz x0))], [], _, 0, 0)
    refine qr_iload_n 1 rfl rfl rfl ?_
    refine qr_if_lt 41 4 rfl rfl rfl (by omega) (fun h2 => ?_) (fun h => False.elim (by omega))
    refine qr_iconst 42 rfl rfl ?_
    refine qr_retZ rfl rfl (by omega) (by decide) (by decide) ?_
    show qr_W (qe L xs vb) (d + 3) qx_e208 _ (5, [(0, .ref 86), (1, .int (qz x0)), (2, .int (qz x1))], [.int (qz 0)], _, 0, 0)
    refine qr_if_eq 31 8 rfl rfl rfl (by decide) (fun _ => ?_) (fun h => absurd h (by decide))
    refine qr_iconst 32 rfl rfl ?_
    refine qr_retI rfl rfl (by decide) (by decide) ?_
    exact rfl
  · skip
    refine qr_aload_n 5 rfl rfl rfl ?_
    refine qr_iload_n 6 rfl rfl rfl ?_
    refine qr_bipush 8 rfl (by decide) rfl ?_
    refine qr_idiv 9 rfl (by omega) (by omega) rfl ?_
    refine qy_call 12 rfl rfl rfl ?_
    refine qr_start (d := d + 1) qv_e40 (Nat.le_of_ble_eq_true rfl) ?_
    show qr_W (qe L xs vb) (d + 1) qx_e40 _ (0, [(0, .ref 17), (1, .int (qz (x0 / 100)))], [], _, 0, 0)
    refine qr_iload_n 1 rfl rfl rfl ?_
    refine qr_if_lt 16 4 rfl rfl rfl (by omega) (fun h => False.elim (by omega)) (fun h3 => ?_)
    refine qr_iload_n 5 rfl rfl rfl ?_
    refine qr_aload_n 6 rfl rfl rfl ?_
    refine qr_get 9 rfl rfl rfl (by decide) rfl ?_
    refine qy_v 0 rfl ?_
    refine qr_icmp_ge 16 12 rfl rfl rfl (by omega) (by decide) (fun h4 => ?_) (fun h => False.elim (by omega))
    refine qr_iconst 17 rfl rfl ?_
    refine qr_retZ rfl rfl (by omega) (by decide) (by decide) ?_
    show qr_W (qe L xs vb) (d + 2) qx_e61 _ (12, [(0, .ref 17), (1, .int (qz x0))], [.int (qz 0)], _, 0, 0)
    refine qr_if_eq 41 15 rfl rfl rfl (by decide) (fun _ => ?_) (fun h => absurd h (by decide))
    refine qr_iconst 42 rfl rfl ?_
    refine qr_retZ rfl rfl (by omega) (by decide) (by decide) ?_
    show qr_W (qe L xs vb) (d + 3) qx_e79 _ (8, [(0, .ref 16), (1, .int (qz x0)), (2, .int (qz x1))], [.int (qz 0)], _, 0, 0)
    refine qr_if_eq 18 11 rfl rfl rfl (by decide) (fun _ => ?_) (fun h => absurd h (by decide))
    refine qr_iconst 19 rfl rfl ?_
    refine qr_retI rfl rfl (by decide) (by decide) ?_
    refine ⟨⟨_, rfl⟩, ⟨_, _, _, _, rfl⟩, ?_⟩
    refine qr_start (d := d + 3) qv_e208 (Nat.le_of_ble_eq_true rfl) ?_
    show qr_W (qe L xs vb) (d + 3) qx_e208 _ (0, [(0, .ref 86), (1, .int (qz x0)), (2, .int (qz x1))], [], _, 0, 0)
    refine qr_aload_n 1 rfl rfl rfl ?_
    refine qr_iload_n 2 rfl rfl rfl ?_
    refine qy_call 5 rfl rfl rfl ?_
    refine qr_start (d := d + 2) qv_e191 (Nat.le_of_ble_eq_true rfl) ?_
    show qr_W (qe L xs vb) (d + 2) qx_e191 _ (0, [(0, .ref 86), (1, .int (qz x0))], [], _, 0, 0)
    refine qr_iload_n 1 rfl rfl rfl ?_
    refine qr_if_lt 41 4 rfl rfl rfl (by omega) (fun h => False.elim (by omega)) (fun h5 => ?_)
    refine qr_aload_n 5 rfl rfl rfl ?_
    refine qr_iload_n 6 rfl rfl rfl ?_
    refine qr_bipush 8 rfl (by decide) rfl ?_
    refine qr_idiv 9 rfl (by omega) (by omega) rfl ?_
    refine qy_call 12 rfl rfl rfl ?_
    refine qr_start (d := d + 1) qv_e180 (Nat.le_of_ble_eq_true rfl) ?_
    show qr_W (qe L xs vb) (d + 1) qx_e180 _ (0, [(0, .ref 86), (1, .int (qz (x0 / 100)))], [], _, 0, 0)
    refine qr_iload_n 1 rfl rfl rfl ?_
    refine qr_i2l 2 rfl (by omega) rfl ?_
    refine qr_lconst 3 rfl rfl ?_
    refine qy_vl 0 rfl ?_
    refine qr_aload_n 4 rfl rfl rfl ?_
    refine qr_get 7 rfl rfl rfl (by decide) rfl ?_
    refine qy_v 0 rfl ?_
    refine qr_iconst 8 rfl rfl ?_
    refine qr_isub 9 rfl rfl ?_
    refine qy_v (-1) rfl ?_
    refine qr_i2l 10 rfl (by omega) rfl ?_
    refine qy_vl (-1) rfl ?_
    refine qy_call 13 rfl rfl rfl ?_
    refine qr_start (d := d + 0) qv_e176 (Nat.le_of_ble_eq_true rfl) ?_
    show qr_W (qe L xs vb) (d + 0) qx_e176 _ (0, [(0, .long (ql (x0 / 100))), (2, .long (ql 0)), (4, .long (ql (-1)))], [], _, 0, 0)
    refine qr_lload_n 1 rfl rfl rfl ?_
    refine qr_lload_n 2 rfl rfl rfl ?_
    refine qr_lc_lt 17 6 rfl rfl rfl rfl (by omega) (by decide) (fun h => False.elim (by omega)) (fun h6 => ?_)
    refine qr_lload_n 7 rfl rfl rfl ?_
    refine qr_lload 9 rfl rfl rfl ?_
    refine qr_lc_gt 17 13 rfl rfl rfl rfl (by omega) (by decide) (fun h7 => ?_) (fun h => False.elim (by omega))
    refine qr_iconst 18 rfl rfl ?_
    refine qr_retZ rfl rfl (by omega) (by decide) (by decide) ?_
    show qr_W (qe L xs vb) (d + 1) qx_e180 _ (13, [(0, .ref 86), (1, .int (qz (x0 / 100)))], [.int (qz 0)], _, 0, 0)
    refine qr_retZ rfl rfl (by omega) (by decide) (by decide) ?_
    show qr_W (qe L xs vb) (d + 2) qx_e191 _ (12, [(0, .ref 86), (1, .int (qz x0))], [.int (qz 0)], _, 0, 0)
    refine qr_if_eq 41 15 rfl rfl rfl (by decide) (fun _ => ?_) (fun h => absurd h (by decide))
    refine qr_iconst 42 rfl rfl ?_
    refine qr_retZ rfl rfl (by omega) (by decide) (by decide) ?_
    show qr_W (qe L xs vb) (d + 3) qx_e208 _ (5, [(0, .ref 86), (1, .int (qz x0)), (2, .int (qz x1))], [.int (qz 0)], _, 0, 0)
    refine qr_if_eq 31 8 rfl rfl rfl (by decide) (fun _ => ?_) (fun h => absurd h (by decide))
    refine qr_iconst 32 rfl rfl ?_
    refine qr_retI rfl rfl (by decide) (by decide) ?_
    exact rfl

set_option maxHeartbeats 8000000 in
set_option maxRecDepth 20000 in
/-- proof on the fresh objects: both answer alike -/
theorem sx_proof {L : Nat} {xs : Nat → Int} {vb : Bool} {d : Nat} {s g : Nat → Nat → Int} {x0 : Int} {x1 : Int} (hok : qo_ok s g) (rx0 : -2147483648 ≤ x0 ∧ x0 ≤ 2147483647) (rx1 : -2147483648 ≤ x1 ∧ x1 ≤ 2147483647) : qm_T (qe L xs vb) (d + 4) 81 [.ref 16, .int (qz x0), .int (qz x1)] (qw (qo_s s) (qo_r g) qo_k 82) (fun r w => (∃ y : Int, r = some (.int (qz y))) ∧ (∃ σ α κ ρ, w = qw σ α κ ρ) ∧ qm_T (qe L xs vb) (d + 4) 210 [.ref 86, .int (qz x0), .int (qz x1)] w (fun r' _ => r' = r)) := by
  refine qr_start (d := d + 3) qv_e81 (Nat.le_of_ble_eq_true rfl) ?_
  show qr_W (qe L xs vb) (d + 3) qx_e81 _ (0, [(0, .ref 16), (1, .int (qz x0)), (2, .int (qz x1))], [], _, 0, 0)
  refine qr_aload_n 1 rfl rfl rfl ?_
  refine qr_get 4 rfl rfl rfl (by decide) rfl ?_
  refine qr_iload_n 5 rfl rfl rfl ?_
  refine qy_call 8 rfl rfl rfl ?_
  refine qr_start (d := d + 2) qv_e61 (Nat.le_of_ble_eq_true rfl) ?_
  show qr_W (qe L xs vb) (d + 2) qx_e61 _ (0, [(0, .ref 17), (1, .int (qz x0))], [], _, 0, 0)
  refine qr_iload_n 1 rfl rfl rfl ?_
  refine qr_if_lt 41 4 rfl rfl rfl (by omega) (fun h1 => ?_) (fun h1 => ?_)
  · skip
    refine qr_iconst 42 rfl rfl ?_
    refine qr_retZ rfl rfl (by omega) (by decide) (by decide) ?_
    show qr_W (qe L xs vb) (d + 3) qx_e81 _ (8, [(0, .ref 16), (1, .int (qz x0)), (2, .int (qz x1))], [.int (qz 0)], _, 0, 0)
    refine qr_if_eq 18 11 rfl rfl rfl (by decide) (fun _ => ?_) (fun h => absurd h (by decide))
    refine qr_iconst 19 rfl rfl ?_
    refine qr_retI rfl rfl (by decide) (by decide) ?_
    refine ⟨⟨_, rfl⟩, ⟨_, _, _, _, rfl⟩, ?_⟩
    refine qr_start (d := d + 3) qv_e210 (Nat.le_of_ble_eq_true rfl) ?_
    show qr_W (qe L xs vb) (d + 3) qx_e210 _ (0, [(0, .ref 86), (1, .int (qz x0)), (2, .int (qz x1))], [], _, 0, 0)
    refine qr_aload_n 1 rfl rfl rfl ?_
    refine qr_iload_n 2 rfl rfl rfl ?_
    refine qy_call 5 rfl rfl rfl ?_
    refine qr_start (d := d + 2) qv_e191 (Nat.le_of_ble_eq_true rfl) ?_
    show qr_W (qe L xs vb) (d + 2) qx_e191 _ (0, [(0, .ref 86), (1, .int (qz x0))], [], _, 0, 0)
    refine qr_iload_n 1 rfl rfl rfl ?_
    refine qr_if_lt 41 4 rfl rfl rfl (by omega) (fun h2 => ?_) (fun h => False.elim (by omega))
    refine qr_iconst 42 rfl rfl ?_
    refine qr_retZ rfl rfl (by omega) (by decide) (by decide) ?_
    show qr_W (qe L xs vb) (d + 3) qx_e210 _ (5, [(0, .ref 86), (1, .int (qz x0)), (2, .int (qz x1))], [.int (qz 0)], _, 0, 0)
    refine qr_if_eq 15 8 rfl rfl rfl (by decide) (fun _ => ?_) (fun h => absurd h (by decide))
    refine qr_iconst 16 rfl rfl ?_
    refine qr_retI rfl rfl (by decide) (by decide) ?_
    exact rfl
  · skip
    refine qr_aload_n 5 rfl rfl rfl ?_
    refine qr_iload_n 6 rfl rfl rfl ?_
    refine qr_bipush 8 rfl (by decide) rfl ?_
    refine qr_idiv 9 rfl (by omega) (by omega) rfl ?_
    refine qy_call 12 rfl rfl rfl ?_
    refine qr_start (d := d + 1) qv_e40 (Nat.le_of_ble_eq_true rfl) ?_
    show qr_W (qe L xs vb) (d + 1) qx_e40 _ (0, [(0, .ref 17), (1, .int (qz (x0 / 100)))], [], _, 0, 0)
    refine qr_iload_n 1 rfl rfl rfl ?_
    refine qr_if_lt 16 4 rfl rfl rfl (by omega) (fun h => False.elim (by omega)) (fun h3 => ?_)
    refine qr_iload_n 5 rfl rfl rfl ?_
    refine qr_aload_n 6 rfl rfl rfl ?_
    refine qr_get 9 rfl rfl rfl (by decide) rfl ?_
    refine qy_v 0 rfl ?_
    refine qr_icmp_ge 16 12 rfl rfl rfl (by omega) (by decide) (fun h4 => ?_) (fun h => False.elim (by omega))
    refine qr_iconst 17 rfl rfl ?_
    refine qr_retZ rfl rfl (by omega) (by decide) (by decide) ?_
    show qr_W (qe L xs vb) (d + 2) qx_e61 _ (12, [(0, .ref 17), (1, .int (qz x0))], [.int (qz 0)], _, 0, 0)
    refine qr_if_eq 41 15 rfl rfl rfl (by decide) (fun _ => ?_) (fun h => absurd h (by decide))
    refine qr_iconst 42 rfl rfl ?_
    refine qr_retZ rfl rfl (by omega) (by decide) (by decide) ?_
    show qr_W (qe L xs vb) (d + 3) qx_e81 _ (8, [(0, .ref 16), (1, .int (qz x0)), (2, .int (qz x1))], [.int (qz 0)], _, 0, 0)
    refine qr_if_eq 18 11 rfl rfl rfl (by decide) (fun _ => ?_) (fun h => absurd h (by decide))
    refine qr_iconst 19 rfl rfl ?_
    refine qr_retI rfl rfl (by decide) (by decide) ?_
    refine ⟨⟨_, rfl⟩, ⟨_, _, _, _, rfl⟩, ?_⟩
    refine qr_start (d := d + 3) qv_e210 (Nat.le_of_ble_eq_true rfl) ?_
    show qr_W (qe L xs vb) (d + 3) qx_e210 _ (0, [(0, .ref 86), (1, .int (qz x0)), (2, .int (qz x1))], [], _, 0, 0)
    refine qr_aload_n 1 rfl rfl rfl ?_
    refine qr_iload_n 2 rfl rfl rfl ?_
    refine qy_call 5 rfl rfl rfl ?_
    refine qr_start (d := d + 2) qv_e191 (Nat.le_of_ble_eq_true rfl) ?_
    show qr_W (qe L xs vb) (d + 2) qx_e191 _ (0, [(0, .ref 86), (1, .int (qz x0))], [], _, 0, 0)
    refine qr_iload_n 1 rfl rfl rfl ?_
    refine qr_if_lt 41 4 rfl rfl rfl (by omega) (fun h => False.elim (by omega)) (fun h5 => ?_)
    refine qr_aload_n 5 rfl rfl rfl ?_
    refine qr_iload_n 6 rfl rfl rfl ?_
    refine qr_bipush 8 rfl (by decide) rfl ?_
    refine qr_idiv 9 rfl (by omega) (by omega) rfl ?_
    refine qy_call 12 rfl rfl rfl ?_
    refine qr_start (d := d + 1) qv_e180 (Nat.le_of_ble_eq_true rfl) ?_
    show qr_W (qe L xs vb) (d + 1) qx_e180 _ (0, [(0, .ref 86), (1, .int (qz (x0 / 100)))], [], _, 0, 0)
    refine qr_iload_n 1 rfl rfl rfl ?_
    refine qr_i2l 2 rfl (by omega) rfl ?_
    refine qr_lconst 3 rfl rfl ?_
    refine qy_vl 0 rfl ?_
    refine qr_aload_n 4 rfl rfl rfl ?_
    refine qr_get 7 rfl rfl rfl (by decide) rfl ?_
    refine qy_v 0 rfl ?_
    refine qr_iconst 8 rfl rfl ?_
    refine qr_isub 9 rfl rfl ?_
    refine qy_v (-1) rfl ?_
    refine qr_i2l 10 rfl (by omega) rfl ?_
    refine qy_vl (-1) rfl ?_
    refine qy_call 13 rfl rfl rfl ?_
    refine qr_start (d := d + 0) qv_e176 (Nat.le_of_ble_eq_true rfl) ?_
    show qr_W (qe L xs vb) (d + 0) qx_e176 _ (0, [(0, .long (ql (x0 / 100))), (2, .long (ql 0)), (4, .long (ql (-1)))], [], _, 0, 0)
    refine qr_lload_n 1 rfl rfl rfl ?_
    refine qr_lload_n 2 rfl rfl rfl ?_
    refine qr_lc_lt 17 6 rfl rfl rfl rfl (by omega) (by decide) (fun h => False.elim (by omega)) (fun h6 => ?_)
    refine qr_lload_n 7 rfl rfl rfl ?_
    refine qr_lload 9 rfl rfl rfl ?_
    refine qr_lc_gt 17 13 rfl rfl rfl rfl (by omega) (by decide) (fun h7 => ?_) (fun h => False.elim (by omega))
    refine qr_iconst 18 rfl rfl ?_
    refine qr_retZ rfl rfl (by omega) (by decide) (by decide) ?_
    show qr_W (qe L xs vb) (d + 1) qx_e180 _ (13, [(0, .ref 86), (1, .int (qz (x0 / 100)))], [.int (qz 0)], _, 0, 0)
    refine qr_retZ rfl rfl (by omega) (by decide) (by decide) ?_
    show qr_W (qe L xs vb) (d + 2) qx_e191 _ (12, [(0, .ref 86), (1, .int (qz x0))], [.int (qz 0)], _, 0, 0)
    refine qr_if_eq 41 15 rfl rfl rfl (by decide) (fun _ => ?_) (fun h => absurd h (by decide))
    refine qr_iconst 42 rfl rfl ?_
    refine qr_retZ rfl rfl (by omega) (by decide) (by decide) ?_
    show qr_W (qe L xs vb) (d + 3) qx_e210 _ (5, [(0, .ref 86), (1, .int (qz x0)), (2, .int (qz x1))], [.int (qz 0)], _, 0, 0)
    refine qr_if_eq 15 8 rfl rfl rfl (by decide) (fun _ => ?_) (fun h => absurd h (by decide))
    refine qr_iconst 16 rfl rfl ?_
    refine qr_retI rfl rfl (by decide) (by decide) ?_
    exact rfl

set_option maxHeartbeats 8000000 in
set_option maxRecDepth 20000 in
/-- must on the fresh objects: both answer alike -/
theorem sx_must {L : Nat} {xs : Nat → Int} {vb : Bool} {d : Nat} {s g : Nat → Nat → Int} {x0 : Int} {x1 : Int} {x2 : Int} (hok : qo_ok s g) (rx0 : -2147483648 ≤ x0 ∧ x0 ≤ 2147483647) (rx1 : -9223372036854775808 ≤ x1 ∧ x1 ≤ 9223372036854775807) (rx2 : -2147483648 ≤ x2 ∧ x2 ≤ 2147483647) : qm_T (qe L xs vb) (d + 4) 87 [.ref 16, .int (qz x0), .long (ql x1), .int (qz x2)] (qw (qo_s s) (qo_r g) qo_k 82) (fun r w => (∃ y : Int, r = some (.int (qz y))) ∧ (∃ σ α κ ρ, w = qw σ α κ ρ) ∧ qm_T (qe L xs vb) (d + 4) 224 [.ref 86, .int (qz x0), .long (ql x1), .int (qz x2)] w (fun r' _ => r' = r)) := by
  refine qr_start (d := d + 3) qv_e87 (Nat.le_of_ble_eq_true rfl) ?_
  show qr_W (qe L xs vb) (d + 3) qx_e87 _ (0, [(0, .ref 16), (1, .int (qz x0)), (2, .long (ql x1)), (4, .int (qz x2))], [], _, 0, 0)
  refine qr_aload_n 1 rfl rfl rfl ?_
  refine qr_get 4 rfl rfl rfl (by decide) rfl ?_
  refine qr_iload_n 5 rfl rfl rfl ?_
  refine qy_call 8 rfl rfl rfl ?_
  refine qr_start (d := d + 2) qv_e61 (Nat.le_of_ble_eq_true rfl) ?_
  show qr_W (qe L xs vb) (d + 2) qx_e61 _ (0, [(0, .ref 17), (1, .int (qz x0))], [], _, 0, 0)
  refine qr_iload_n 1 rfl rfl rfl ?_
  refine qr_if_lt 41 4 rfl rfl rfl (by omega) (fun h1 => ?_) (fun h1 => ?_)
  · skip
    refine qr_iconst 42 rfl rfl ?_
    refine qr_retZ rfl rfl (by omega) (by decide) (by decide) ?_
    show qr_W (qe L xs vb) (d + 3) qx_e87 _ (8, [(0, .ref 16), (1, .int (qz x0)), (2, .long (ql x1)), (4, .int (qz x2))], [.int (qz 0)], _, 0, 0)
    refine qr_if_eq 30 11 rfl rfl rfl (by decide) (fun _ => ?_) (fun h => absurd h (by decide))
    refine qr_ldc (-2000000000) 32 rfl (by decide) rfl ?_
    refine qr_retI rfl rfl (by decide) (by decide) ?_
    refine ⟨⟨_, rfl⟩, ⟨_, _, _, _, rfl⟩, ?_⟩
    refine qr_start (d := d + 3) qv_e224 (Nat.le_of_ble_eq_true rfl) ?_
    show qr_W (qe L xs vb) (d + 3) qx_e224 _ (0, [(0, .ref 86), (1, .int (qz x0)), (2, .long (ql x1)), (4, .int (qz x2))], [], _, 0, 0)
    refine qr_aload_n 1 rfl rfl rfl ?_
    refine qr_iload_n 2 rfl rfl rfl ?_
    refine qy_call 5 rfl rfl rfl ?_
    refine qr_start (d := d + 2) qv_e191 (Nat.le_of_ble_eq_true rfl) ?_
    show qr_W (qe L xs vb) (d + 2) qx_e191 _ (0, [(0, .ref 86), (1, .int (qz x0))], [], _, 0, 0)
    refine qr_iload_n 1 rfl rfl rfl ?_
    refine qr_if_lt 41 4 rfl rfl rfl (by omega) (fun h2 => ?_) (fun h => False.elim (by omega))
    refine qr_iconst 42 rfl rfl ?_
    refine qr_retZ rfl rfl (by omega) (by decide) (by decide) ?_
    show qr_W (qe L xs vb) (d + 3) qx_e224 _ (5, [(0, .ref 86), (1, .int (qz x0)), (2, .long (ql x1)), (4, .int (qz x2))], [.int (qz 0)], _, 0, 0)
    refine qr_if_eq 24 8 rfl rfl rfl (by decide) (fun _ => ?_) (fun h => absurd h (by decide))
    refine qr_ldcw (-2000000000) 27 rfl (by decide) rfl ?_
    refine qr_retI rfl rfl (by decide) (by decide) ?_
    exact rfl
  · skip
    refine qr_aload_n 5 rfl rfl rfl ?_
    refine qr_iload_n 6 rfl rfl rfl ?_
    refine qr_bipush 8 rfl (by decide) rfl ?_
    refine qr_idiv 9 rfl (by omega) (by omega) rfl ?_
    refine qy_call 12 rfl rfl rfl ?_
    refine qr_start (d := d + 1) qv_e40 (Nat.le_of_ble_eq_true rfl) ?_
    show qr_W (qe L xs vb) (d + 1) qx_e40 _ (0, [(0, .ref 17), (1, .int (qz (x0 / 100)))], [], _, 0, 0)
    refine qr_iload_n 1 rfl rfl rfl ?_
    refine qr_if_lt 16 4 rfl rfl rfl (by omega) (fun h => False.elim (by omega)) (fun h3 => ?_)
    refine qr_iload_n 5 rfl rfl rfl ?_
    refine qr_aload_n 6 rfl rfl rfl ?_
    refine qr_get 9 rfl rfl rfl (by decide) rfl ?_
    refine qy_v 0 rfl ?_
    refine qr_icmp_ge 16 12 rfl rfl rfl (by omega) (by decide) (fun h4 => ?_) (fun h => False.elim (by omega))
    refine qr_iconst 17 rfl rfl ?_
    refine qr_retZ rfl rfl (by omega) (by decide) (by decide) ?_
    show qr_W (qe L xs vb) (d + 2) qx_e61 _ (12, [(0, .ref 17), (1, .int (qz x0))], [.int (qz 0)], _, 0, 0)
    refine qr_if_eq 41 15 rfl rfl rfl (by decide) (fun _ => ?_) (fun h => absurd h (by decide))
    refine qr_iconst 42 rfl rfl ?_
    refine qr_retZ rfl rfl (by omega) (by decide) (by decide) ?_
    show qr_W (qe L xs vb) (d + 3) qx_e87 _ (8, [(0, .ref 16), (1, .int (qz x0)), (2, .long (ql x1)), (4, .int (qz x2))], [.int (qz 0)], _, 0, 0)
    refine qr_if_eq 30 11 rfl rfl rfl (by decide) (fun _ => ?_) (fun h => absurd h (by decide))
    refine qr_ldc (-2000000000) 32 rfl (by decide) rfl ?_
    refine qr_retI rfl rfl (by decide) (by decide) ?_
    refine ⟨⟨_, rfl⟩, ⟨_, _, _, _, rfl⟩, ?_⟩
    refine qr_start (d := d + 3) qv_e224 (Nat.le_of_ble_eq_true rfl) ?_
    show qr_W (qe L xs vb) (d + 3) qx_e224 _ (0, [(0, .ref 86), (1, .int (qz x0)), (2, .long (ql x1)), (4, .int (qz x2))], [], _, 0, 0)
    refine qr_aload_n 1 rfl rfl rfl ?_
    refine qr_iload_n 2 rfl rfl rfl ?_
    refine qy_call 5 rfl rfl rfl ?_
    refine qr_start (d := d + 2) qv_e191 (Nat.le_of_ble_eq_true rfl) ?_
    show qr_W (qe L xs vb) (d + 2) qx_e191 _ (0, [(0, .ref 86), (1, .int (qz x0))], [], _, 0, 0)
    refine qr_iload_n 1 rfl rfl rfl ?_
    refine qr_if_lt 41 4 rfl rfl rfl (by omega) (fun h => False.elim (by omega)) (fun h5 => ?_)
    refine qr_aload_n 5 rfl rfl rfl ?_
    refine qr_iload_n 6 rfl rfl rfl ?_
    refine qr_bipush 8 rfl (by decide) rfl ?_
    refine qr_idiv 9 rfl (by omega) (by omega) rfl ?_
    refine qy_call 12 rfl rfl rfl ?_
    refine qr_start (d := d + 1) qv_e180 (Nat.le_of_ble_eq_true rfl) ?_
    show qr_W (qe L xs vb) (d + 1) qx_e180 _ (0, [(0, .ref 86), (1, .int (qz (x0 / 100)))], [], _, 0, 0)
    refine qr_iload_n 1 rfl rfl rfl ?_
    refine qr_i2l 2 rfl (by omega) rfl ?_
    refine qr_lconst 3 rfl rfl ?_
    refine qy_vl 0 rfl ?_
    refine qr_aload_n 4 rfl rfl rfl ?_
    refine qr_get 7 rfl rfl rfl (by decide) rfl ?_
    refine qy_v 0 rfl ?_
    refine qr_iconst 8 rfl rfl ?_
    refine qr_isub 9 rfl rfl ?_
    refine qy_v (-1) rfl ?_
    refine qr_i2l 10 rfl (by omega) rfl ?_
    refine qy_vl (-1) rfl ?_
    refine qy_call 13 rfl rfl rfl ?_
    refine qr_start (d := d + 0) qv_e176 (Nat.le_of_ble_eq_true rfl) ?_
    show qr_W (qe L xs vb) (d + 0) qx_e176 _ (0, [(0, .long (ql (x0 / 100))), (2, .long (ql 0)), (4, .long (ql (-1)))], [], _, 0, 0)
    refine qr_lload_n 1 rfl rfl rfl ?_
    refine qr_lload_n 2 rfl rfl rfl ?_
    refine qr_lc_lt 17 6 rfl rfl rfl rfl (by omega) (by decide) (fun h => False.elim (by omega)) (fun h6 => ?_)
    refine qr_lload_n 7 rfl rfl rfl ?_
    refine qr_lload 9 rfl rfl rfl ?_
    refine qr_lc_gt 17 13 rfl rfl rfl rfl (by omega) (by decide) (fun h7 => ?_) (fun h => False.elim (by omega))
    refine qr_iconst 18 rfl rfl ?_
    refine qr_retZ rfl rfl (by omega) (by decide) (by decide) ?_
    show qr_W (qe L xs vb) (d + 1) qx_e180 _ (13, [(0, .ref 86), (1, .int (qz (x0 / 100)))], [.int (qz 0)], _, 0, 0)
    refine qr_retZ rfl rfl (by omega) (by decide) (by decide) ?_
    show qr_W (qe L xs vb) (d + 2) qx_e191 _ (12, [(0, .ref 86), (1, .int (qz x0))], [.int (qz 0)], _, 0, 0)
    refine qr_if_eq 41 15 rfl rfl rfl (by decide) (fun _ => ?_) (fun h => absurd h (by decide))
    refine qr_iconst 42 rfl rfl ?_
    refine qr_retZ rfl rfl (by omega) (by decide) (by decide) ?_
    show qr_W (qe L xs vb) (d + 3) qx_e224 _ (5, [(0, .ref 86), (1, .int (qz x0)), (2, .long (ql x1)), (4, .int (qz x2))], [.int (qz 0)], _, 0, 0)
    refine qr_if_eq 24 8 rfl rfl rfl (by decide) (fun _ => ?_) (fun h => absurd h (by decide))
    refine qr_ldcw (-2000000000) 27 rfl (by decide) rfl ?_
    refine qr_retI rfl rfl (by decide) (by decide) ?_
    exact rfl

set_option maxHeartbeats 8000000 in
set_option maxRecDepth 20000 in
/-- bars on the fresh objects: both answer alike -/
theorem sx_bars {L : Nat} {xs : Nat → Int} {vb : Bool} {d : Nat} {s g : Nat → Nat → Int} {x0 : Int} {x1 : Int} (hok : qo_ok s g) (rx0 : -2147483648 ≤ x0 ∧ x0 ≤ 2147483647) (rx1 : -2147483648 ≤ x1 ∧ x1 ≤ 2147483647) : qm_T (qe L xs vb) (d + 4) 105 [.ref 16, .int (qz x0), .int (qz x1)] (qw (qo_s s) (qo_r g) qo_k 82) (fun r w => (∃ y : Int, r = some (.int (qz y))) ∧ (∃ σ α κ ρ, w = qw σ α κ ρ) ∧ qm_T (qe L xs vb) (d + 4) 231 [.ref 86, .int (qz x0), .int (qz x1)] w (fun r' _ => r' = r)) := by
  refine qr_start (d := d + 3) qv_e105 (Nat.le_of_ble_eq_true rfl) ?_
  show qr_W (qe L xs vb) (d + 3) qx_e105 _ (0, [(0, .ref 16), (1, .int (qz x0)), (2, .int (qz x1))], [], _, 0, 0)
  refine qr_aload_n 1 rfl rfl rfl ?_
  refine qr_get 4 rfl rfl rfl (by decide) rfl ?_
  refine qr_iload_n 5 rfl rfl rfl ?_
  refine qy_call 8 rfl rfl rfl ?_
  refine qr_start (d := d + 2) qv_e61 (Nat.le_of_ble_eq_true rfl) ?_
  show qr_W (qe L xs vb) (d + 2) qx_e61 _ (0, [(0, .ref 17), (1, .int (qz x0))], [], _, 0, 0)
  refine qr_iload_n 1 rfl rfl rfl ?_
  refine qr_if_lt 41 4 rfl rfl rfl (by omega) (fun h1 => ?_) (fun h1 => ?_)
  · skip
    refine qr_iconst 42 rfl rfl ?_
    refine qr_retZ rfl rfl (by omega) (by decide) (by decide) ?_
    show qr_W (qe L xs vb) (d + 3) qx_e105 _ (8, [(0, .ref 16), (1, .int (qz x0)), (2, .int (qz x1))], [.int (qz 0)], _, 0, 0)
    refine qr_if_eq 18 11 rfl rfl rfl (by decide) (fun _ => ?_) (fun h => absurd h (by decide))
    refine qr_iconst 19 rfl rfl ?_
    refine qr_retI rfl rfl (by decide) (by decide) ?_
    refine ⟨⟨_, rfl⟩, ⟨_, _, _, _, rfl⟩, ?_⟩
    refine qr_start (d := d + 3) qv_e231 (Nat.le_of_ble_eq_true rfl) ?_
    show qr_W (qe L xs vb) (d + 3) qx_e231 _ (0, [(0, .ref 86), (1, .int (qz x0)), (2, .int (qz x1))], [], _, 0, 0)
    refine qr_aload_n 1 rfl rfl rfl ?_
    refine qr_iload_n 2 rfl rfl rfl ?_
    refine qy_call 5 rfl rfl rfl ?_
    refine qr_start (d := d + 2) qv_e191 (Nat.le_of_ble_eq_true rfl) ?_
    show qr_W (qe L xs vb) (d + 2) qx_e191 _ (0, [(0, .ref 86), (1, .int (qz x0))], [], _, 0, 0)
    refine qr_iload_n 1 rfl rfl rfl ?_
    refine qr_if_lt 41 4 rfl rfl rfl (by omega) (fun h2 => ?_) (fun h => False.elim (by omega))
    refine qr_iconst 42 rfl rfl ?_
    refine qr_retZ rfl rfl (by omega) (by decide) (by decide) ?_
    show qr_W (qe L xs vb) (d + 3) qx_e231 _ (5, [(0, .ref 86), (1, .int (qz x0)), (2, .int (qz x1))], [.int (qz 0)], _, 0, 0)
    refine qr_if_eq 15 8 rfl rfl rfl (by decide) (fun _ => ?_) (fun h => absurd h (by decide))
    refine qr_iconst 16 rfl rfl ?_
    refine qr_retI rfl rfl (by decide) (by decide) ?_
    exact rfl
  · skip
    refine qr_aload_n 5 rfl rfl rfl ?_
    refine qr_iload_n 6 rfl rfl rfl ?_
    refine qr_bipush 8 rfl (by decide) rfl ?_
    refine qr_idiv 9 rfl (by omega) (by omega) rfl ?_
    refine qy_call 12 rfl rfl rfl ?_
    refine qr_start (d := d + 1) qv_e40 (Nat.le_of_ble_eq_true rfl) ?_
    show qr_W (qe L xs vb) (d + 1) qx_e40 _ (0, [(0, .ref 17), (1, .int (qz (x0 / 100)))], [], _, 0, 0)
    refine qr_iload_n 1 rfl rfl rfl ?_
    refine qr_if_lt 16 4 rfl rfl rfl (by omega) (fun h => False.elim (by omega)) (fun h3 => ?_)
    refine qr_iload_n 5 rfl rfl rfl ?_
    refine qr_aload_n 6 rfl rfl rfl ?_
    refine qr_get 9 rfl rfl rfl (by decide) rfl ?_
    refine qy_v 0 rfl ?_
    refine qr_icmp_ge 16 12 rfl rfl rfl (by omega) (by decide) (fun h4 => ?_) (fun h => False.elim (by omega))
    refine qr_iconst 17 rfl rfl ?_
    refine qr_retZ rfl rfl (by omega) (by decide) (by decide) ?_
    show qr_W (qe L xs vb) (d + 2) qx_e61 _ (12, [(0, .ref 17), (1, .int (qz x0))], [.int (qz 0)], _, 0, 0)
    refine qr_if_eq 41 15 rfl rfl rfl (by decide) (fun _ => ?_) (fun h => absurd h (by decide))
    refine qr_iconst 42 rfl rfl ?_
    refine qr_retZ rfl rfl (by omega) (by decide) (by decide) ?_
    show qr_W (qe L xs vb) (d + 3) qx_e105 _ (8, [(0, .ref 16), (1, .int (qz x0)), (2, .int (qz x1))], [.int (qz 0)], _, 0, 0)
    refine qr_if_eq 18 11 rfl rfl rfl (by decide) (fun _ => ?_) (fun h => absurd h (by decide))
    refine qr_iconst 19 rfl rfl ?_
    refine qr_retI rfl rfl (by decide) (by decide) ?_
    refine ⟨⟨_, rfl⟩, ⟨_, _, _, _, rfl⟩, ?_⟩
    refine qr_start (d := d + 3) qv_e231 (Nat.le_of_ble_eq_true rfl) ?_
    show qr_W (qe L xs vb) (d + 3) qx_e231 _ (0, [(0, .ref 86), (1, .int (qz x0)), (2, .int (qz x1))], [], _, 0, 0)
    refine qr_aload_n 1 rfl rfl rfl ?_
    refine qr_iload_n 2 rfl rfl rfl ?_
    refine qy_call 5 rfl rfl rfl ?_
    refine qr_start (d := d + 2) qv_e191 (Nat.le_of_ble_eq_true rfl) ?_
    show qr_W (qe L xs vb) (d + 2) qx_e191 _ (0, [(0, .ref 86), (1, .int (qz x0))], [], _, 0, 0)
    refine qr_iload_n 1 rfl rfl rfl ?_
    refine qr_if_lt 41 4 rfl rfl rfl (by omega) (fun h => False.elim (by omega)) (fun h5 => ?_)
    refine qr_aload_n 5 rfl rfl rfl ?_
    refine qr_iload_n 6 rfl rfl rfl ?_
    refine qr_bipush 8 rfl (by decide) rfl ?_
    refine qr_idiv 9 rfl (by omega) (by omega) rfl ?_
    refine qy_call 12 rfl rfl rfl ?_
    refine qr_start (d := d + 1) qv_e180 (Nat.le_of_ble_eq_true rfl) ?_
    show qr_W (qe L xs vb) (d + 1) qx_e180 _ (0, [(0, .ref 86), (1, .int (qz (x0 / 100)))], [], _, 0, 0)
    refine qr_iload_n 1 rfl rfl rfl ?_
    refine qr_i2l 2 rfl (by omega) rfl ?_
    refine qr_lconst 3 rfl rfl ?_
    refine qy_vl 0 rfl ?_
    refine qr_aload_n 4 rfl rfl rfl ?_
    refine qr_get 7 rfl rfl rfl (by decide) rfl ?_
    refine qy_v 0 rfl ?_
    refine qr_iconst 8 rfl rfl ?_
    refine qr_isub 9 rfl rfl ?_
    refine qy_v (-1) rfl ?_
    refine qr_i2l 10 rfl (by omega) rfl ?_
    refine qy_vl (-1) rfl ?_
    refine qy_call 13 rfl rfl rfl ?_
    refine qr_start (d := d + 0) qv_e176 (Nat.le_of_ble_eq_true rfl) ?_
    show qr_W (qe L xs vb) (d + 0) qx_e176 _ (0, [(0, .long (ql (x0 / 100))), (2, .long (ql 0)), (4, .long (ql (-1)))], [], _, 0, 0)
    refine qr_lload_n 1 rfl rfl rfl ?_
    refine qr_lload_n 2 rfl rfl rfl ?_
    refine qr_lc_lt 17 6 rfl rfl rfl rfl (by omega) (by decide) (fun h => False.elim (by omega)) (fun h6 => ?_)
    refine qr_lload_n 7 rfl rfl rfl ?_
    refine qr_lload 9 rfl rfl rfl ?_
    refine qr_lc_gt 17 13 rfl rfl rfl rfl (by omega) (by decide) (fun h7 => ?_) (fun h => False.elim (by omega))
    refine qr_iconst 18 rfl rfl ?_
    refine qr_retZ rfl rfl (by omega) (by decide) (by decide) ?_
    show qr_W (qe L xs vb) (d + 1) qx_e180 _ (13, [(0, .ref 86), (1, .int (qz (x0 / 100)))], [.int (qz 0)], _, 0, 0)
    refine qr_retZ rfl rfl (by omega) (by decide) (by decide) ?_
    show qr_W (qe L xs vb) (d + 2) qx_e191 _ (12, [(0, .ref 86), (1, .int (qz x0))], [.int (qz 0)], _, 0, 0)
    refine qr_if_eq 41 15 rfl rfl rfl (by decide) (fun _ => ?_) (fun h => absurd h (by decide))
    refine qr_iconst 42 rfl rfl ?_
    refine qr_retZ rfl rfl (by omega) (by decide) (by decide) ?_
    show qr_W (qe L xs vb) (d + 3) qx_e231 _ (5, [(0, .ref 86), (1, .int (qz x0)), (2, .int (qz x1))], [.int (qz 0)], _, 0, 0)
    refine qr_if_eq 15 8 rfl rfl rfl (by decide) (fun _ => ?_) (fun h => absurd h (by decide))
    refine qr_iconst 16 rfl rfl ?_
    refine qr_retI rfl rfl (by decide) (by decide) ?_
    exact rfl

set_option maxHeartbeats 8000000 in
set_option maxRecDepth 20000 in
/-- road on the fresh objects: both answer alike -/
theorem sx_road {L : Nat} {xs : Nat → Int} {vb : Bool} {d : Nat} {s g : Nat → Nat → Int} {x0 : Int} {x1 : Int} (hok : qo_ok s g) (rx0 : -2147483648 ≤ x0 ∧ x0 ≤ 2147483647) (rx1 : -2147483648 ≤ x1 ∧ x1 ≤ 2147483647) : qm_T (qe L xs vb) (d + 3) 126 [.ref 16, .int (qz x0), .int (qz x1)] (qw (qo_s s) (qo_r g) qo_k 82) (fun r w => (∃ y : Int, r = some (.int (qz y))) ∧ (∃ σ α κ ρ, w = qw σ α κ ρ) ∧ qm_T (qe L xs vb) (d + 3) 241 [.ref 86, .int (qz x0), .int (qz x1)] w (fun r' _ => r' = r)) := by
  refine qr_start (d := d + 2) qv_e126 (Nat.le_of_ble_eq_true rfl) ?_
  show qr_W (qe L xs vb) (d + 2) qx_e126 _ (0, [(0, .ref 16), (1, .int (qz x0)), (2, .int (qz x1))], [], _, 0, 0)
  refine qr_aload_n 1 rfl rfl rfl ?_
  refine qr_get 4 rfl rfl rfl (by decide) rfl ?_
  refine qr_iload_n 5 rfl rfl rfl ?_
  refine qy_call 8 rfl rfl rfl ?_
  refine qr_start (d := d + 1) qv_e40 (Nat.le_of_ble_eq_true rfl) ?_
  show qr_W (qe L xs vb) (d + 1) qx_e40 _ (0, [(0, .ref 17), (1, .int (qz x0))], [], _, 0, 0)
  refine qr_iload_n 1 rfl rfl rfl ?_
  refine qr_if_lt 16 4 rfl rfl rfl (by omega) (fun h1 => ?_) (fun h1 => ?_)
  · skip
    refine qr_iconst 17 rfl rfl ?_
    refine qr_retZ rfl rfl (by omega) (by decide) (by decide) ?_
    show qr_W (qe L xs vb) (d + 2) qx_e126 _ (8, [(0, .ref 16), (1, .int (qz x0)), (2, .int (qz x1))], [.int (qz 0)], _, 0, 0)
    refine qr_if_eq 20 11 rfl rfl rfl (by decide) (fun _ => ?_) (fun h => absurd h (by decide))
    refine qr_iconst 21 rfl rfl ?_
    refine qr_retI rfl rfl (by decide) (by decide) ?_
    refine ⟨⟨_, rfl⟩, ⟨_, _, _, _, rfl⟩, ?_⟩
    refine qr_start (d := d + 2) qv_e241 (Nat.le_of_ble_eq_true rfl) ?_
    show qr_W (qe L xs vb) (d + 2) qx_e241 _ (0, [(0, .ref 86), (1, .int (qz x0)), (2, .int (qz x1))], [], _, 0, 0)
    refine qr_aload_n 1 rfl rfl rfl ?_
    refine qr_iload_n 2 rfl rfl rfl ?_
    refine qy_call 5 rfl rfl rfl ?_
    refine qr_start (d := d + 1) qv_e180 (Nat.le_of_ble_eq_true rfl) ?_
    show qr_W (qe L xs vb) (d + 1) qx_e180 _ (0, [(0, .ref 86), (1, .int (qz x0))], [], _, 0, 0)
    refine qr_iload_n 1 rfl rfl rfl ?_
    refine qr_i2l 2 rfl (by omega) rfl ?_
    refine qr_lconst 3 rfl rfl ?_
    refine qy_vl 0 rfl ?_
    refine qr_aload_n 4 rfl rfl rfl ?_
    refine qr_get 7 rfl rfl rfl (by decide) rfl ?_
    refine qy_v 0 rfl ?_
    refine qr_iconst 8 rfl rfl ?_
    refine qr_isub 9 rfl rfl ?_
    refine qy_v (-1) rfl ?_
    refine qr_i2l 10 rfl (by omega) rfl ?_
    refine qy_vl (-1) rfl ?_
    refine qy_call 13 rfl rfl rfl ?_
    refine qr_start (d := d + 0) qv_e176 (Nat.le_of_ble_eq_true rfl) ?_
    show qr_W (qe L xs vb) (d + 0) qx_e176 _ (0, [(0, .long (ql x0)), (2, .long (ql 0)), (4, .long (ql (-1)))], [], _, 0, 0)
    refine qr_lload_n 1 rfl rfl rfl ?_
    refine qr_lload_n 2 rfl rfl rfl ?_
    refine qr_lc_lt 17 6 rfl rfl rfl rfl (by omega) (by decide) (fun h2 => ?_) (fun h => False.elim (by omega))
    refine qr_iconst 18 rfl rfl ?_
    refine qr_retZ rfl rfl (by omega) (by decide) (by decide) ?_
    show qr_W (qe L xs vb) (d + 1) qx_e180 _ (13, [(0, .ref 86), (1, .int (qz x0))], [.int (qz 0)], _, 0, 0)
    refine qr_retZ rfl rfl (by omega) (by decide) (by decide) ?_
    show qr_W (qe L xs vb) (d + 2) qx_e241 _ (5, [(0, .ref 86), (1, .int (qz x0)), (2, .int (qz x1))], [.int (qz 0)], _, 0, 0)
    refine qr_if_eq 20 8 rfl rfl rfl (by decide) (fun _ => ?_) (fun h => absurd h (by decide))
    refine qr_iconst 21 rfl rfl ?_
    refine qr_retI rfl rfl (by decide) (by decide) ?_
    exact rfl
  · skip
    refine qr_iload_n 5 rfl rfl rfl ?_
    refine qr_aload_n 6 rfl rfl rfl ?_
    refine qr_get 9 rfl rfl rfl (by decide) rfl ?_
    refine qy_v 0 rfl ?_
    refine qr_icmp_ge 16 12 rfl rfl rfl (by omega) (by decide) (fun h3 => ?_) (fun h => False.elim (by omega))
    refine qr_iconst 17 rfl rfl ?_
    refine qr_retZ rfl rfl (by omega) (by decide) (by decide) ?_
    show qr_W (qe L xs vb) (d + 2) qx_e126 _ (8, [(0, .ref 16), (1, .int (qz x0)), (2, .int (qz x1))], [.int (qz 0)], _, 0, 0)
    refine qr_if_eq 20 11 rfl rfl rfl (by decide) (fun _ => ?_) (fun h => absurd h (by decide))
    refine qr_iconst 21 rfl rfl ?_
    refine qr_retI rfl rfl (by decide) (by decide) ?_
    refine ⟨⟨_, rfl⟩, ⟨_, _, _, _, rfl⟩, ?_⟩
    refine qr_start (d := d + 2) qv_e241 (Nat.le_of_ble_eq_true rfl) ?_
    show qr_W (qe L xs vb) (d + 2) qx_e241 _ (0, [(0, .ref 86), (1, .int (qz x0)), (2, .int (qz x1))], [], _, 0, 0)
    refine qr_aload_n 1 rfl rfl rfl ?_
    refine qr_iload_n 2 rfl rfl rfl ?_
    refine qy_call 5 rfl rfl rfl ?_
    refine qr_start (d := d + 1) qv_e180 (Nat.le_of_ble_eq_true rfl) ?_
    show qr_W (qe L xs vb) (d + 1) qx_e180 _ (0, [(0, .ref 86), (1, .int (qz x0))], [], _, 0, 0)
    refine qr_iload_n 1 rfl rfl rfl ?_
    refine qr_i2l 2 rfl (by omega) rfl ?_
    refine qr_lconst 3 rfl rfl ?_
    refine qy_vl 0 rfl ?_
    refine qr_aload_n 4 rfl rfl rfl ?_
    refine qr_get 7 rfl rfl rfl (by decide) rfl ?_
    refine qy_v 0 rfl ?_
    refine qr_iconst 8 rfl rfl ?_
    refine qr_isub 9 rfl rfl ?_
    refine qy_v (-1) rfl ?_
    refine qr_i2l 10 rfl (by omega) rfl ?_
    refine qy_vl (-1) rfl ?_
    refine qy_call 13 rfl rfl rfl ?_
    refine qr_start (d := d + 0) qv_e176 (Nat.le_of_ble_eq_true rfl) ?_
    show qr_W (qe L xs vb) (d + 0) qx_e176 _ (0, [(0, .long (ql x0)), (2, .long (ql 0)), (4, .long (ql (-1)))], [], _, 0, 0)
    refine qr_lload_n 1 rfl rfl rfl ?_
    refine qr_lload_n 2 rfl rfl rfl ?_
    refine qr_lc_lt 17 6 rfl rfl rfl rfl (by omega) (by decide) (fun h => False.elim (by omega)) (fun h4 => ?_)
    refine qr_lload_n 7 rfl rfl rfl ?_
    refine qr_lload 9 rfl rfl rfl ?_
    refine qr_lc_gt 17 13 rfl rfl rfl rfl (by omega) (by decide) (fun h5 => ?_) (fun h => False.elim (by omega))
    refine qr_iconst 18 rfl rfl ?_
    refine qr_retZ rfl rfl (by omega) (by decide) (by decide) ?_
    show qr_W (qe L xs vb) (d + 1) qx_e180 _ (13, [(0, .ref 86), (1, .int (qz x0))], [.int (qz 0)], _, 0, 0)
    refine qr_retZ rfl rfl (by omega) (by decide) (by decide) ?_
    show qr_W (qe L xs vb) (d + 2) qx_e241 _ (5, [(0, .ref 86), (1, .int (qz x0)), (2, .int (qz x1))], [.int (qz 0)], _, 0, 0)
    refine qr_if_eq 20 8 rfl rfl rfl (by decide) (fun _ => ?_) (fun h => absurd h (by decide))
    refine qr_iconst 21 rfl rfl ?_
    refine qr_retI rfl rfl (by decide) (by decide) ?_
    exact rfl

set_option maxHeartbeats 8000000 in
set_option maxRecDepth 20000 in
/-- strike on the fresh objects: both answer alike -/
theorem sx_strike {L : Nat} {xs : Nat → Int} {vb : Bool} {d : Nat} {s g : Nat → Nat → Int} {x0 : Int} {x1 : Int} {x2 : Int} {x3 : Int} (hok : qo_ok s g) (rx0 : -2147483648 ≤ x0 ∧ x0 ≤ 2147483647) (rx1 : -9223372036854775808 ≤ x1 ∧ x1 ≤ 9223372036854775807) (rx2 : -2147483648 ≤ x2 ∧ x2 ≤ 2147483647) (rx3 : -2147483648 ≤ x3 ∧ x3 ≤ 2147483647) : qm_T (qe L xs vb) (d + 4) 133 [.ref 16, .int (qz x0), .long (ql x1), .int (qz x2), .int (qz x3)] (qw (qo_s s) (qo_r g) qo_k 82) (fun r w => (∃ y : Int, r = some (.int (qz y))) ∧ (∃ σ α κ ρ, w = qw σ α κ ρ) ∧ qm_T (qe L xs vb) (d + 4) 245 [.ref 86, .int (qz x0), .long (ql x1), .int (qz x2), .int (qz x3)] w (fun r' _ => r' = r)) := by
  refine qr_start (d := d + 3) qv_e133 (Nat.le_of_ble_eq_true rfl) ?_
  show qr_W (qe L xs vb) (d + 3) qx_e133 _ (0, [(0, .ref 16), (1, .int (qz x0)), (2, .long (ql x1)), (4, .int (qz x2)), (5, .int (qz x3))], [], _, 0, 0)
  refine qr_aload_n 1 rfl rfl rfl ?_
  refine qr_get 4 rfl rfl rfl (by decide) rfl ?_
  refine qr_iload_n 5 rfl rfl rfl ?_
  refine qy_call 8 rfl rfl rfl ?_
  refine qr_start (d := d + 2) qv_e61 (Nat.le_of_ble_eq_true rfl) ?_
  show qr_W (qe L xs vb) (d + 2) qx_e61 _ (0, [(0, .ref 17), (1, .int (qz x0))], [], _, 0, 0)
  refine qr_iload_n 1 rfl rfl rfl ?_
  refine qr_if_lt 41 4 rfl rfl rfl (by omega) (fun h1 => ?_) (fun h1 => ?_)
  · skip
    refine qr_iconst 42 rfl rfl ?_
    refine qr_retZ rfl rfl (by omega) (by decide) (by decide) ?_
    show qr_W (qe L xs vb) (d + 3) qx_e133 _ (8, [(0, .ref 16), (1, .int (qz x0)), (2, .long (ql x1)), (4, .int (qz x2)), (5, .int (qz x3))], [.int (qz 0)], _, 0, 0)
    refine qr_if_eq 38 11 rfl rfl rfl (by decide) (fun _ => ?_) (fun h => absurd h (by decide))
    refine qr_iconst 39 rfl rfl ?_
    refine qr_retI rfl rfl (by decide) (by decide) ?_
    refine ⟨⟨_, rfl⟩, ⟨_, _, _, _, rfl⟩, ?_⟩
    refine qr_start (d := d + 3) qv_e245 (Nat.le_of_ble_eq_true rfl) ?_
    show qr_W (qe L xs vb) (d + 3) qx_e245 _ (0, [(0, .ref 86), (1, .int (qz x0)), (2, .long (ql x1)), (4, .int (qz x2)), (5, .int (qz x3))], [], _, 0, 0)
    refine qr_aload_n 1 rfl rfl rfl ?_
    refine qr_iload_n 2 rfl rfl rfl ?_
    refine qy_call 5 rfl rfl rfl ?_
    refine qr_start (d := d + 2) qv_e191 (Nat.le_of_ble_eq_true rfl) ?_
    show qr_W (qe L xs vb) (d + 2) qx_e191 _ (0, [(0, .ref 86), (1, .int (qz x0))], [], _, 0, 0)
    refine qr_iload_n 1 rfl rfl rfl ?_
    refine qr_if_lt 41 4 rfl rfl rfl (by omega) (fun h2 => ?_) (fun h => False.elim (by omega))
    refine qr_iconst 42 rfl rfl ?_
    refine qr_retZ rfl rfl (by omega) (by decide) (by decide) ?_
    show qr_W (qe L xs vb) (d + 3) qx_e245 _ (5, [(0, .ref 86), (1, .int (qz x0)), (2, .long (ql x1)), (4, .int (qz x2)), (5, .int (qz x3))], [.int (qz 0)], _, 0, 0)
    refine qr_if_eq 35 8 rfl rfl rfl (by decide) (fun _ => ?_) (fun h => absurd h (by decide))
    refine qr_iconst 36 rfl rfl ?_
    refine qr_retI rfl rfl (by decide) (by decide) ?_
    exact rfl
  · skip
    refine qr_aload_n 5 rfl rfl rfl ?_
    refine qr_iload_n 6 rfl rfl rfl ?_
    refine qr_bipush 8 rfl (by decide) rfl ?_
    refine qr_idiv 9 rfl (by omega) (by omega) rfl ?_
    refine qy_call 12 rfl rfl rfl ?_
    refine qr_start (d := d + 1) qv_e40 (Nat.le_of_ble_eq_true rfl) ?_
    show qr_W (qe L xs vb) (d + 1) qx_e40 _ (0, [(0, .ref 17), (1, .int (qz (x0 / 100)))], [], _, 0, 0)
    refine qr_iload_n 1 rfl rfl rfl ?_
    refine qr_if_lt 16 4 rfl rfl rfl (by omega) (fun h => False.elim (by omega)) (fun h3 => ?_)
    refine qr_iload_n 5 rfl rfl rfl ?_
    refine qr_aload_n 6 rfl rfl rfl ?_
    refine qr_get 9 rfl rfl rfl (by decide) rfl ?_
    refine qy_v 0 rfl ?_
    refine qr_icmp_ge 16 12 rfl rfl rfl (by omega) (by decide) (fun h4 => ?_) (fun h => False.elim (by omega))
    refine qr_iconst 17 rfl rfl ?_
    refine qr_retZ rfl rfl (by omega) (by decide) (by decide) ?_
    show qr_W (qe L xs vb) (d + 2) qx_e61 _ (12, [(0, .ref 17), (1, .int (qz x0))], [.int (qz 0)], _, 0, 0)
    refine qr_if_eq 41 15 rfl rfl rfl (by decide) (fun _ => ?_) (fun h => absurd h (by decide))
    refine qr_iconst 42 rfl rfl ?_
    refine qr_retZ rfl rfl (by omega) (by decide) (by decide) ?_
    show qr_W (qe L xs vb) (d + 3) qx_e133 _ (8, [(0, .ref 16), (1, .int (qz x0)), (2, .long (ql x1)), (4, .int (qz x2)), (5, .int (qz x3))], [.int (qz 0)], _, 0, 0)
    refine qr_if_eq 38 11 rfl rfl rfl (by decide) (fun _ => ?_) (fun h => absurd h (by decide))
    refine qr_iconst 39 rfl rfl ?_
    refine qr_retI rfl rfl (by decide) (by decide) ?_
    refine ⟨⟨_, rfl⟩, ⟨_, _, _, _, rfl⟩, ?_⟩
    refine qr_start (d := d + 3) qv_e245 (Nat.le_of_ble_eq_true rfl) ?_
    show qr_W (qe L xs vb) (d + 3) qx_e245 _ (0, [(0, .ref 86), (1, .int (qz x0)), (2, .long (ql x1)), (4, .int (qz x2)), (5, .int (qz x3))], [], _, 0, 0)
    refine qr_aload_n 1 rfl rfl rfl ?_
    refine qr_iload_n 2 rfl rfl rfl ?_
    refine qy_call 5 rfl rfl rfl ?_
    refine qr_start (d := d + 2) qv_e191 (Nat.le_of_ble_eq_true rfl) ?_
    show qr_W (qe L xs vb) (d + 2) qx_e191 _ (0, [(0, .ref 86), (1, .int (qz x0))], [], _, 0, 0)
    refine qr_iload_n 1 rfl rfl rfl ?_
    refine qr_if_lt 41 4 rfl rfl rfl (by omega) (fun h => False.elim (by omega)) (fun h5 => ?_)
    refine qr_aload_n 5 rfl rfl rfl ?_
    refine qr_iload_n 6 rfl rfl rfl ?_
    refine qr_bipush 8 rfl (by decide) rfl ?_
    refine qr_idiv 9 rfl (by omega) (by omega) rfl ?_
    refine qy_call 12 rfl rfl rfl ?_
    refine qr_start (d := d + 1) qv_e180 (Nat.le_of_ble_eq_true rfl) ?_
    show qr_W (qe L xs vb) (d + 1) qx_e180 _ (0, [(0, .ref 86), (1, .int (qz (x0 / 100)))], [], _, 0, 0)
    refine qr_iload_n 1 rfl rfl rfl ?_
    refine qr_i2l 2 rfl (by omega) rfl ?_
    refine qr_lconst 3 rfl rfl ?_
    refine qy_vl 0 rfl ?_
    refine qr_aload_n 4 rfl rfl rfl ?_
    refine qr_get 7 rfl rfl rfl (by decide) rfl ?_
    refine qy_v 0 rfl ?_
    refine qr_iconst 8 rfl rfl ?_
    refine qr_isub 9 rfl rfl ?_
    refine qy_v (-1) rfl ?_
    refine qr_i2l 10 rfl (by omega) rfl ?_
    refine qy_vl (-1) rfl ?_
    refine qy_call 13 rfl rfl rfl ?_
    refine qr_start (d := d + 0) qv_e176 (Nat.le_of_ble_eq_true rfl) ?_
    show qr_W (qe L xs vb) (d + 0) qx_e176 _ (0, [(0, .long (ql (x0 / 100))), (2, .long (ql 0)), (4, .long (ql (-1)))], [], _, 0, 0)
    refine qr_lload_n 1 rfl rfl rfl ?_
    refine qr_lload_n 2 rfl rfl rfl ?_
    refine qr_lc_lt 17 6 rfl rfl rfl rfl (by omega) (by decide) (fun h => False.elim (by omega)) (fun h6 => ?_)
    refine qr_lload_n 7 rfl rfl rfl ?_
    refine qr_lload 9 rfl rfl rfl ?_
    refine qr_lc_gt 17 13 rfl rfl rfl rfl (by omega) (by decide) (fun h7 => ?_) (fun h => False.elim (by omega))
    refine qr_iconst 18 rfl rfl ?_
    refine qr_retZ rfl rfl (by omega) (by decide) (by decide) ?_
    show qr_W (qe L xs vb) (d + 1) qx_e180 _ (13, [(0, .ref 86), (1, .int (qz (x0 / 100)))], [.int (qz 0)], _, 0, 0)
    refine qr_retZ rfl rfl (by omega) (by decide) (by decide) ?_
    show qr_W (qe L xs vb) (d + 2) qx_e191 _ (12, [(0, .ref 86), (1, .int (qz x0))], [.int (qz 0)], _, 0, 0)
    refine qr_if_eq 41 15 rfl rfl rfl (by decide) (fun _ => ?_) (fun h => absurd h (by decide))
    refine qr_iconst 42 rfl rfl ?_
    refine qr_retZ rfl rfl (by omega) (by decide) (by decide) ?_
    show qr_W (qe L xs vb) (d + 3) qx_e245 _ (5, [(0, .ref 86), (1, .int (qz x0)), (2, .long (ql x1)), (4, .int (qz x2)), (5, .int (qz x3))], [.int (qz 0)], _, 0, 0)
    refine qr_if_eq 35 8 rfl rfl rfl (by decide) (fun _ => ?_) (fun h => absurd h (by decide))
    refine qr_iconst 36 rfl rfl ?_
    refine qr_retI rfl rfl (by decide) (by decide) ?_
    exact rfl

set_option maxHeartbeats 8000000 in
set_option maxRecDepth 20000 in
/-- blow on the fresh objects: both answer alike -/
theorem sx_blow {L : Nat} {xs : Nat → Int} {vb : Bool} {d : Nat} {s g : Nat → Nat → Int} {x0 : Int} (hok : qo_ok s g) (rx0 : -2147483648 ≤ x0 ∧ x0 ≤ 2147483647) : qm_T (qe L xs vb) (d + 1) 138 [.ref 16, .int (qz x0)] (qw (qo_s s) (qo_r g) qo_k 82) (fun r w => (∃ y : Int, r = some (.int (qz y))) ∧ (∃ σ α κ ρ, w = qw σ α κ ρ) ∧ qm_T (qe L xs vb) (d + 1) 250 [.ref 86, .int (qz x0)] w (fun r' _ => r' = r)) := by
  refine qr_start (d := d + 0) qv_e138 (Nat.le_of_ble_eq_true rfl) ?_
  show qr_W (qe L xs vb) (d + 0) qx_e138 _ (0, [(0, .ref 16), (1, .int (qz x0))], [], _, 0, 0)
  refine qr_iload_n 1 rfl rfl rfl ?_
  refine qr_if_lt 15 4 rfl rfl rfl (by omega) (fun h1 => ?_) (fun h1 => ?_)
  · skip
    refine qr_iconst 16 rfl rfl ?_
    refine qr_retI rfl rfl (by decide) (by decide) ?_
    refine ⟨⟨_, rfl⟩, ⟨_, _, _, _, rfl⟩, ?_⟩
    refine qr_start (d := d + 0) qv_e250 (Nat.le_of_ble_eq_true rfl) ?_
    show qr_W (qe L xs vb) (d + 0) qx_e250 _ (0, [(0, .ref 86), (1, .int (qz x0))], [], _, 0, 0)
    refine qr_iload_n 1 rfl rfl rfl ?_
    refine qr_if_lt 31 4 rfl rfl rfl (by omega) (fun h2 => ?_) (fun h => False.elim (by omega))
    refine qr_iconst 32 rfl rfl ?_
    refine qr_retI rfl rfl (by decide) (by decide) ?_
    exact rfl
  · skip
    refine qr_iload_n 5 rfl rfl rfl ?_
    refine qr_aload_n 6 rfl rfl rfl ?_
    refine qr_get 9 rfl rfl rfl (by decide) rfl ?_
    refine qr_get 12 rfl rfl rfl (by decide) rfl ?_
    refine qy_v 0 rfl ?_
    refine qr_icmp_lt 17 15 rfl rfl rfl (by omega) (by decide) (fun h => False.elim (by omega)) (fun h3 => ?_)
    refine qr_iconst 16 rfl rfl ?_
    refine qr_retI rfl rfl (by decide) (by decide) ?_
    refine ⟨⟨_, rfl⟩, ⟨_, _, _, _, rfl⟩, ?_⟩
    refine qr_start (d := d + 0) qv_e250 (Nat.le_of_ble_eq_true rfl) ?_
    show qr_W (qe L xs vb) (d + 0) qx_e250 _ (0, [(0, .ref 86), (1, .int (qz x0))], [], _, 0, 0)
    refine qr_iload_n 1 rfl rfl rfl ?_
    refine qr_if_lt 31 4 rfl rfl rfl (by omega) (fun h => False.elim (by omega)) (fun h4 => ?_)
    refine qr_iload_n 5 rfl rfl rfl ?_
    refine qr_aload_n 6 rfl rfl rfl ?_
    refine qr_get 9 rfl rfl rfl (by decide) rfl ?_
    refine qy_v 0 rfl ?_
    refine qr_icmp_ge 31 12 rfl rfl rfl (by omega) (by decide) (fun h5 => ?_) (fun h => False.elim (by omega))
    refine qr_iconst 32 rfl rfl ?_
    refine qr_retI rfl rfl (by decide) (by decide) ?_
    exact rfl

set_option maxHeartbeats 8000000 in
set_option maxRecDepth 20000 in
/-- alive on the fresh objects: both answer alike -/
theorem sx_alive {L : Nat} {xs : Nat → Int} {vb : Bool} {d : Nat} {s g : Nat → Nat → Int}  (hok : qo_ok s g)  : qm_T (qe L xs vb) (d + 1) 139 [.ref 16] (qw (qo_s s) (qo_r g) qo_k 82) (fun r w => (∃ y : Int, r = some (.long (ql y))) ∧ (∃ σ α κ ρ, w = qw σ α κ ρ) ∧ qm_T (qe L xs vb) (d + 1) 251 [.ref 86] w (fun r' _ => r' = r)) := by
  refine qr_start (d := d + 0) qv_e139 (Nat.le_of_ble_eq_true rfl) ?_
  show qr_W (qe L xs vb) (d + 0) qx_e139 _ (0, [(0, .ref 16)], [], _, 0, 0)
  refine qr_aload_n 1 rfl rfl rfl ?_
  refine qr_get 4 rfl rfl rfl (by decide) rfl ?_
  refine qr_get 7 rfl rfl rfl (by decide) rfl ?_
  refine qy_v 0 rfl ?_
  refine qr_if_ne 16 10 rfl rfl rfl (by decide) (fun h => absurd h (by decide)) (fun _ => ?_)
  refine qr_ldc2 (-1) 13 rfl (by decide) rfl ?_
  refine qr_goto 23 rfl rfl ?_
  refine qr_retL rfl rfl (by decide) (by decide) ?_
  refine ⟨⟨_, rfl⟩, ⟨_, _, _, _, rfl⟩, ?_⟩
  refine qr_start (d := d + 0) qv_e251 (Nat.le_of_ble_eq_true rfl) ?_
  show qr_W (qe L xs vb) (d + 0) qx_e251 _ (0, [(0, .ref 86)], [], _, 0, 0)
  refine qr_aload_n 1 rfl rfl rfl ?_
  refine qr_get 4 rfl rfl rfl (by decide) rfl ?_
  refine qy_vl (-1) rfl ?_
  refine qr_retL rfl rfl (by decide) (by decide) ?_
  exact rfl

set_option maxHeartbeats 8000000 in
set_option maxRecDepth 20000 in
/-- wed on the fresh objects: both answer alike -/
theorem sx_wed {L : Nat} {xs : Nat → Int} {vb : Bool} {d : Nat} {s g : Nat → Nat → Int} {x0 : Int} {x1 : Int} {x2 : Int} (hok : qo_ok s g) (rx0 : -2147483648 ≤ x0 ∧ x0 ≤ 2147483647) (rx1 : -2147483648 ≤ x1 ∧ x1 ≤ 2147483647) (rx2 : -2147483648 ≤ x2 ∧ x2 ≤ 2147483647) : qm_T (qe L xs vb) (d + 4) 141 [.ref 16, .int (qz x0), .int (qz x1), .int (qz x2)] (qw (qo_s s) (qo_r g) qo_k 82) (fun r w => (∃ y : Int, r = some (.int (qz y))) ∧ (∃ σ α κ ρ, w = qw σ α κ ρ) ∧ qm_T (qe L xs vb) (d + 4) 254 [.ref 86, .int (qz x0), .int (qz x1), .int (qz x2)] w (fun r' _ => r' = r)) := by
  refine qr_start (d := d + 3) qv_e141 (Nat.le_of_ble_eq_true rfl) ?_
  show qr_W (qe L xs vb) (d + 3) qx_e141 _ (0, [(0, .ref 16), (1, .int (qz x0)), (2, .int (qz x1)), (3, .int (qz x2))], [], _, 0, 0)
  refine qr_aload_n 1 rfl rfl rfl ?_
  refine qr_get 4 rfl rfl rfl (by decide) rfl ?_
  refine qr_iload_n 5 rfl rfl rfl ?_
  refine qy_call 8 rfl rfl rfl ?_
  refine qr_start (d := d + 2) qv_e61 (Nat.le_of_ble_eq_true rfl) ?_
  show qr_W (qe L xs vb) (d + 2) qx_e61 _ (0, [(0, .ref 17), (1, .int (qz x0))], [], _, 0, 0)
  refine qr_iload_n 1 rfl rfl rfl ?_
  refine qr_if_lt 41 4 rfl rfl rfl (by omega) (fun h1 => ?_) (fun h1 => ?_)
  · skip
    refine qr_iconst 42 rfl rfl ?_
    refine qr_retZ rfl rfl (by omega) (by decide) (by decide) ?_
    show qr_W (qe L xs vb) (d + 3) qx_e141 _ (8, [(0, .ref 16), (1, .int (qz x0)), (2, .int (qz x1)), (3, .int (qz x2))], [.int (qz 0)], _, 0, 0)
    refine qr_if_eq 25 11 rfl rfl rfl (by decide) (fun _ => ?_) (fun h => absurd h (by decide))
    refine qr_iconst 26 rfl rfl ?_
    refine qr_retI rfl rfl (by decide) (by decide) ?_
    refine ⟨⟨_, rfl⟩, ⟨_, _, _, _, rfl⟩, ?_⟩
    refine qr_start (d := d + 3) qv_e254 (Nat.le_of_ble_eq_true rfl) ?_
    show qr_W (qe L xs vb) (d + 3) qx_e254 _ (0, [(0, .ref 86), (1, .int (qz x0)), (2, .int (qz x1)), (3, .int (qz x2))], [], _, 0, 0)
    refine qr_aload_n 1 rfl rfl rfl ?_
    refine qr_iload_n 2 rfl rfl rfl ?_
    refine qy_call 5 rfl rfl rfl ?_
    refine qr_start (d := d + 2) qv_e191 (Nat.le_of_ble_eq_true rfl) ?_
    show qr_W (qe L xs vb) (d + 2) qx_e191 _ (0, [(0, .ref 86), (1, .int (qz x0))], [], _, 0, 0)
    refine qr_iload_n 1 rfl rfl rfl ?_
    refine qr_if_lt 41 4 rfl rfl rfl (by omega) (fun h2 => ?_) (fun h => False.elim (by omega))
    refine qr_iconst 42 rfl rfl ?_
    refine qr_retZ rfl rfl (by omega) (by decide) (by decide) ?_
    show qr_W (qe L xs vb) (d + 3) qx_e254 _ (5, [(0, .ref 86), (1, .int (qz x0)), (2, .int (qz x1)), (3, .int (qz x2))], [.int (qz 0)], _, 0, 0)
    refine qr_if_eq 40 8 rfl rfl rfl (by decide) (fun _ => ?_) (fun h => absurd h (by decide))
    refine qr_iconst 41 rfl rfl ?_
    refine qr_retI rfl rfl (by decide) (by decide) ?_
    exact rfl
  · skip
    refine qr_aload_n 5 rfl rfl rfl ?_
    refine qr_iload_n 6 rfl rfl rfl ?_
    refine qr_bipush 8 rfl (by decide) rfl ?_
    refine qr_idiv 9 rfl (by omega) (by omega) rfl ?_
    refine qy_call 12 rfl rfl rfl ?_
    refine qr_start (d := d + 1) qv_e40 (Nat.le_of_ble_eq_true rfl) ?_
    show qr_W (qe L xs vb) (d + 1) qx_e40 _ (0, [(0, .ref 17), (1, .int (qz (x0 / 100)))], [], _, 0, 0)
    refine qr_iload_n 1 rfl rfl rfl ?_
    refine qr_if_lt 16 4 rfl rfl rfl (by omega) (fun h => False.elim (by omega)) (fun h3 => ?_)
    refine qr_iload_n 5 rfl rfl rfl ?_
    refine qr_aload_n 6 rfl rfl rfl ?_
    refine qr_get 9 rfl rfl rfl (by decide) rfl ?_
    refine qy_v 0 rfl ?_
    refine qr_icmp_ge 16 12 rfl rfl rfl (by omega) (by decide) (fun h4 => ?_) (fun h => False.elim (by omega))
    refine qr_iconst 17 rfl rfl ?_
    refine qr_retZ rfl rfl (by omega) (by decide) (by decide) ?_
    show qr_W (qe L xs vb) (d + 2) qx_e61 _ (12, [(0, .ref 17), (1, .int (qz x0))], [.int (qz 0)], _, 0, 0)
    refine qr_if_eq 41 15 rfl rfl rfl (by decide) (fun _ => ?_) (fun h => absurd h (by decide))
    refine qr_iconst 42 rfl rfl ?_
    refine qr_retZ rfl rfl (by omega) (by decide) (by decide) ?_
    show qr_W (qe L xs vb) (d + 3) qx_e141 _ (8, [(0, .ref 16), (1, .int (qz x0)), (2, .int (qz x1)), (3, .int (qz x2))], [.int (qz 0)], _, 0, 0)
    refine qr_if_eq 25 11 rfl rfl rfl (by decide) (fun _ => ?_) (fun h => absurd h (by decide))
    refine qr_iconst 26 rfl rfl ?_
    refine qr_retI rfl rfl (by decide) (by decide) ?_
    refine ⟨⟨_, rfl⟩, ⟨_, _, _, _, rfl⟩, ?_⟩
    refine qr_start (d := d + 3) qv_e254 (Nat.le_of_ble_eq_true rfl) ?_
    show qr_W (qe L xs vb) (d + 3) qx_e254 _ (0, [(0, .ref 86), (1, .int (qz x0)), (2, .int (qz x1)), (3, .int (qz x2))], [], _, 0, 0)
    refine qr_aload_n 1 rfl rfl rfl ?_
    refine qr_iload_n 2 rfl rfl rfl ?_
    refine qy_call 5 rfl rfl rfl ?_
    refine qr_start (d := d + 2) qv_e191 (Nat.le_of_ble_eq_true rfl) ?_
    show qr_W (qe L xs vb) (d + 2) qx_e191 _ (0, [(0, .ref 86), (1, .int (qz x0))], [], _, 0, 0)
    refine qr_iload_n 1 rfl rfl rfl ?_
    refine qr_if_lt 41 4 rfl rfl rfl (by omega) (fun h => False.elim (by omega)) (fun h5 => ?_)
    refine qr_aload_n 5 rfl rfl rfl ?_
    refine qr_iload_n 6 rfl rfl rfl ?_
    refine qr_bipush 8 rfl (by decide) rfl ?_
    refine qr_idiv 9 rfl (by omega) (by omega) rfl ?_
    refine qy_call 12 rfl rfl rfl ?_
    refine qr_start (d := d + 1) qv_e180 (Nat.le_of_ble_eq_true rfl) ?_
    show qr_W (qe L xs vb) (d + 1) qx_e180 _ (0, [(0, .ref 86), (1, .int (qz (x0 / 100)))], [], _, 0, 0)
    refine qr_iload_n 1 rfl rfl rfl ?_
    refine qr_i2l 2 rfl (by omega) rfl ?_
    refine qr_lconst 3 rfl rfl ?_
    refine qy_vl 0 rfl ?_
    refine qr_aload_n 4 rfl rfl rfl ?_
    refine qr_get 7 rfl rfl rfl (by decide) rfl ?_
    refine qy_v 0 rfl ?_
    refine qr_iconst 8 rfl rfl ?_
    refine qr_isub 9 rfl rfl ?_
    refine qy_v (-1) rfl ?_
    refine qr_i2l 10 rfl (by omega) rfl ?_
    refine qy_vl (-1) rfl ?_
    refine qy_call 13 rfl rfl rfl ?_
    refine qr_start (d := d + 0) qv_e176 (Nat.le_of_ble_eq_true rfl) ?_
    show qr_W (qe L xs vb) (d + 0) qx_e176 _ (0, [(0, .long (ql (x0 / 100))), (2, .long (ql 0)), (4, .long (ql (-1)))], [], _, 0, 0)
    refine qr_lload_n 1 rfl rfl rfl ?_
    refine qr_lload_n 2 rfl rfl rfl ?_
    refine qr_lc_lt 17 6 rfl rfl rfl rfl (by omega) (by decide) (fun h => False.elim (by omega)) (fun h6 => ?_)
    refine qr_lload_n 7 rfl rfl rfl ?_
    refine qr_lload 9 rfl rfl rfl ?_
    refine qr_lc_gt 17 13 rfl rfl rfl rfl (by omega) (by decide) (fun h7 => ?_) (fun h => False.elim (by omega))
    refine qr_iconst 18 rfl rfl ?_
    refine qr_retZ rfl rfl (by omega) (by decide) (by decide) ?_
    show qr_W (qe L xs vb) (d + 1) qx_e180 _ (13, [(0, .ref 86), (1, .int (qz (x0 / 100)))], [.int (qz 0)], _, 0, 0)
    refine qr_retZ rfl rfl (by omega) (by decide) (by decide) ?_
    show qr_W (qe L xs vb) (d + 2) qx_e191 _ (12, [(0, .ref 86), (1, .int (qz x0))], [.int (qz 0)], _, 0, 0)
    refine qr_if_eq 41 15 rfl rfl rfl (by decide) (fun _ => ?_) (fun h => absurd h (by decide))
    refine qr_iconst 42 rfl rfl ?_
    refine qr_retZ rfl rfl (by omega) (by decide) (by decide) ?_
    show qr_W (qe L xs vb) (d + 3) qx_e254 _ (5, [(0, .ref 86), (1, .int (qz x0)), (2, .int (qz x1)), (3, .int (qz x2))], [.int (qz 0)], _, 0, 0)
    refine qr_if_eq 40 8 rfl rfl rfl (by decide) (fun _ => ?_) (fun h => absurd h (by decide))
    refine qr_iconst 41 rfl rfl ?_
    refine qr_retI rfl rfl (by decide) (by decide) ?_
    exact rfl

set_option maxHeartbeats 8000000 in
set_option maxRecDepth 20000 in
/-- undo on the fresh objects: both answer alike -/
theorem sx_undo {L : Nat} {xs : Nat → Int} {vb : Bool} {d : Nat} {s g : Nat → Nat → Int}  (hok : qo_ok s g)  : qm_T (qe L xs vb) (d + 2) 144 [.ref 16] (qw (qo_s s) (qo_r g) qo_k 82) (fun r w => (∃ y : Int, r = some (.int (qz y))) ∧ (∃ σ α κ ρ, w = qw σ α κ ρ) ∧ qm_T (qe L xs vb) (d + 2) 172 [.ref 86] w (fun r' _ => r' = r)) := by
  refine qr_start (d := d + 1) qv_e144 (Nat.le_of_ble_eq_true rfl) ?_
  show qr_W (qe L xs vb) (d + 1) qx_e144 _ (0, [(0, .ref 16)], [], _, 0, 0)
  refine qr_aload_n 1 rfl rfl rfl ?_
  refine qr_get 4 rfl rfl rfl (by decide) rfl ?_
  refine qy_call 7 rfl rfl rfl ?_
  refine qr_start (d := d + 0) qv_e145 (Nat.le_of_ble_eq_true rfl) ?_
  show qr_W (qe L xs vb) (d + 0) qx_e145 _ (0, [(0, .ref 76)], [], _, 0, 0)
  refine qr_aload_n 1 rfl rfl rfl ?_
  refine qr_get 4 rfl rfl rfl (by decide) rfl ?_
  refine qy_v 0 rfl ?_
  refine qr_if_gt 10 7 rfl rfl rfl (by decide) (fun h => absurd h (by decide)) (fun _ => ?_)
  refine qr_bipush 9 rfl (by decide) rfl ?_
  refine qr_retI rfl rfl (by decide) (by decide) ?_
  show qr_W (qe L xs vb) (d + 1) qx_e144 _ (7, [(0, .ref 16)], [.int (qz (-5))], _, 0, 0)
  refine qr_retI rfl rfl (by decide) (by decide) ?_
  refine ⟨⟨_, rfl⟩, ⟨_, _, _, _, rfl⟩, ?_⟩
  refine qr_start (d := d + 1) qv_e172 (Nat.le_of_ble_eq_true rfl) ?_
  show qr_W (qe L xs vb) (d + 1) qx_e172 _ (0, [(0, .ref 86)], [], _, 0, 0)
  refine qr_aload_n 1 rfl rfl rfl ?_
  refine qr_get 4 rfl rfl rfl (by decide) rfl ?_
  refine qy_v 0 rfl ?_
  refine qr_if_ne 10 7 rfl rfl rfl (by decide) (fun h => absurd h (by decide)) (fun _ => ?_)
  refine qr_bipush 9 rfl (by decide) rfl ?_
  refine qr_retI rfl rfl (by decide) (by decide) ?_
  exact rfl

set_option maxHeartbeats 8000000 in
set_option maxRecDepth 20000 in
/-- redo on the fresh objects: both answer alike -/
theorem sx_redo {L : Nat} {xs : Nat → Int} {vb : Bool} {d : Nat} {s g : Nat → Nat → Int}  (hok : qo_ok s g)  : qm_T (qe L xs vb) (d + 2) 146 [.ref 16] (qw (qo_s s) (qo_r g) qo_k 82) (fun r w => (∃ y : Int, r = some (.int (qz y))) ∧ (∃ σ α κ ρ, w = qw σ α κ ρ) ∧ qm_T (qe L xs vb) (d + 2) 173 [.ref 86] w (fun r' _ => r' = r)) := by
  refine qr_start (d := d + 1) qv_e146 (Nat.le_of_ble_eq_true rfl) ?_
  show qr_W (qe L xs vb) (d + 1) qx_e146 _ (0, [(0, .ref 16)], [], _, 0, 0)
  refine qr_aload_n 1 rfl rfl rfl ?_
  refine qr_get 4 rfl rfl rfl (by decide) rfl ?_
  refine qy_call 7 rfl rfl rfl ?_
  refine qr_start (d := d + 0) qv_e147 (Nat.le_of_ble_eq_true rfl) ?_
  show qr_W (qe L xs vb) (d + 0) qx_e147 _ (0, [(0, .ref 76)], [], _, 0, 0)
  refine qr_aload_n 1 rfl rfl rfl ?_
  refine qr_get 4 rfl rfl rfl (by decide) rfl ?_
  refine qy_v 0 rfl ?_
  refine qr_aload_n 5 rfl rfl rfl ?_
  refine qr_get 8 rfl rfl rfl (by decide) rfl ?_
  refine qy_v 0 rfl ?_
  refine qr_icmp_ge 20 11 rfl rfl rfl (by decide) (by decide) (fun _ => ?_) (fun h => absurd h (by decide))
  refine qr_bipush 22 rfl (by decide) rfl ?_
  refine qr_retI rfl rfl (by decide) (by decide) ?_
  show qr_W (qe L xs vb) (d + 1) qx_e146 _ (7, [(0, .ref 16)], [.int (qz (-5))], _, 0, 0)
  refine qr_retI rfl rfl (by decide) (by decide) ?_
  refine ⟨⟨_, rfl⟩, ⟨_, _, _, _, rfl⟩, ?_⟩
  refine qr_start (d := d + 1) qv_e173 (Nat.le_of_ble_eq_true rfl) ?_
  show qr_W (qe L xs vb) (d + 1) qx_e173 _ (0, [(0, .ref 86)], [], _, 0, 0)
  refine qr_aload_n 1 rfl rfl rfl ?_
  refine qr_get 4 rfl rfl rfl (by decide) rfl ?_
  refine qy_v 0 rfl ?_
  refine qr_aload_n 5 rfl rfl rfl ?_
  refine qr_get 8 rfl rfl rfl (by decide) rfl ?_
  refine qy_v 0 rfl ?_
  refine qr_icmp_ne 14 11 rfl rfl rfl (by decide) (by decide) (fun h => absurd h (by decide)) (fun _ => ?_)
  refine qr_bipush 13 rfl (by decide) rfl ?_
  refine qr_retI rfl rfl (by decide) (by decide) ?_
  exact rfl

set_option maxHeartbeats 8000000 in
set_option maxRecDepth 20000 in
/-- act on the fresh objects: both answer alike -/
theorem sx_act {L : Nat} {xs : Nat → Int} {vb : Bool} {d : Nat} {s g : Nat → Nat → Int} {x0 : Int} {x1 : Int} {x2 : Int} (hok : qo_ok s g) (rx0 : -2147483648 ≤ x0 ∧ x0 ≤ 2147483647) (rx1 : -2147483648 ≤ x1 ∧ x1 ≤ 2147483647) (rx2 : -2147483648 ≤ x2 ∧ x2 ≤ 2147483647) : qm_T (qe L xs vb) (d + 3) 148 [.ref 16, .int (qz x0), .int (qz x1), .int (qz x2)] (qw (qo_s s) (qo_r g) qo_k 82) (fun r w => (∃ y : Int, r = some (.int (qz y))) ∧ (∃ σ α κ ρ, w = qw σ α κ ρ) ∧ qm_T (qe L xs vb) (d + 3) 255 [.ref 86, .int (qz x0), .int (qz x1), .int (qz x2)] w (fun r' _ => r' = r)) := by
  refine qr_start (d := d + 2) qv_e148 (Nat.le_of_ble_eq_true rfl) ?_
  show qr_W (qe L xs vb) (d + 2) qx_e148 _ (0, [(0, .ref 16), (1, .int (qz x0)), (2, .int (qz x1)), (3, .int (qz x2))], [], _, 0, 0)
  refine qr_aload_n 1 rfl rfl rfl ?_
  refine qr_get 4 rfl rfl rfl (by decide) rfl ?_
  refine qy_call 7 rfl rfl rfl ?_
  refine qr_start (d := d + 1) qv_e149 (Nat.le_of_ble_eq_true rfl) ?_
  show qr_W (qe L xs vb) (d + 1) qx_e149 _ (0, [(0, .ref 42)], [], _, 0, 0)
  refine qr_aload_n 1 rfl rfl rfl ?_
  refine qr_iconst 2 rfl rfl ?_
  refine qr_put 5 rfl (by decide) rfl (Nat.le_of_ble_eq_true rfl) (Nat.le_of_ble_eq_true rfl) (Or.inl rfl) (qr_fitI rfl _) rfl ?_
  refine qy_wS (qw_s (qo_s s) 42 1 0) rfl (fun σ1 e1 => ?_)
  refine qr_retV rfl rfl (by decide) (by decide) ?_
  show qr_W (qe L xs vb) (d + 2) qx_e148 _ (7, [(0, .ref 16), (1, .int (qz x0)), (2, .int (qz x1)), (3, .int (qz x2))], [], _, 0, 0)
  refine qr_aload_n 8 rfl rfl rfl ?_
  refine qr_get 11 rfl rfl rfl (by decide) rfl ?_
  refine qr_iload_n 12 rfl rfl rfl ?_
  refine qy_call 15 rfl rfl rfl ?_
  refine qr_start (d := d + 1) qv_e73 (Nat.le_of_ble_eq_true rfl) ?_
  show qr_W (qe L xs vb) (d + 1) qx_e73 _ (0, [(0, .ref 34), (1, .int (qz x0))], [], _, 0, 0)
  refine qr_iload_n 1 rfl rfl rfl ?_
  refine qr_if_lt 16 4 rfl rfl rfl (by omega) (fun h2 => ?_) (fun h2 => ?_)
  · skip
    refine qr_iconst 17 rfl rfl ?_
    refine qr_retZ rfl rfl (by omega) (by decide) (by decide) ?_
    show qr_W (qe L xs vb) (d + 2) qx_e148 _ (15, [(0, .ref 16), (1, .int (qz x0)), (2, .int (qz x1)), (3, .int (qz x2))], [.int (qz 0)], _, 0, 0)
    refine qr_if_eq 27 18 rfl rfl rfl (by decide) (fun _ => ?_) (fun h => absurd h (by decide))
    refine qr_iconst 28 rfl rfl ?_
    refine qr_retI rfl rfl (by decide) (by decide) ?_
    refine ⟨⟨_, rfl⟩, ⟨_, _, _, _, rfl⟩, ?_⟩
    refine qr_start (d := d + 2) qv_e255 (Nat.le_of_ble_eq_true rfl) ?_
    show qr_W (qe L xs vb) (d + 2) qx_e255 _ (0, [(0, .ref 86), (1, .int (qz x0)), (2, .int (qz x1)), (3, .int (qz x2))], [], _, 0, 0)
    refine qr_aload_n 1 rfl rfl rfl ?_
    refine qr_iconst 2 rfl rfl ?_
    refine qr_put 5 rfl (by decide) rfl (Nat.le_of_ble_eq_true rfl) (Nat.le_of_ble_eq_true rfl) (Or.inl rfl) (qr_fitI rfl _) rfl ?_
    refine qy_wS (qw_s σ1 86 56 0) rfl (fun σ3 e3 => ?_)
    refine qr_aload_n 6 rfl rfl rfl ?_
    refine qr_iload_n 7 rfl rfl rfl ?_
    refine qy_call 10 rfl rfl rfl ?_
    refine qr_start (d := d + 1) qv_e200 (Nat.le_of_ble_eq_true rfl) ?_
    show qr_W (qe L xs vb) (d + 1) qx_e200 _ (0, [(0, .ref 86), (1, .int (qz x0))], [], _, 0, 0)
    refine qr_iload_n 1 rfl rfl rfl ?_
    refine qr_i2l 2 rfl (by omega) rfl ?_
    refine qr_lconst 3 rfl rfl ?_
    refine qy_vl 0 rfl ?_
    refine qr_aload_n 4 rfl rfl rfl ?_
    refine qr_get 7 rfl rfl rfl (by decide) rfl ?_
    refine qy_v 0 (by subst_vars; rfl) ?_
    refine qr_iconst 8 rfl rfl ?_
    refine qr_isub 9 rfl rfl ?_
    refine qy_v (-1) rfl ?_
    refine qr_i2l 10 rfl (by omega) rfl ?_
    refine qy_vl (-1) rfl ?_
    refine qy_call 13 rfl rfl rfl ?_
    refine qr_start (d := d + 0) qv_e176 (Nat.le_of_ble_eq_true rfl) ?_
    show qr_W (qe L xs vb) (d + 0) qx_e176 _ (0, [(0, .long (ql x0)), (2, .long (ql 0)), (4, .long (ql (-1)))], [], _, 0, 0)
    refine qr_lload_n 1 rfl rfl rfl ?_
    refine qr_lload_n 2 rfl rfl rfl ?_
    refine qr_lc_lt 17 6 rfl rfl rfl rfl (by omega) (by decide) (fun h4 => ?_) (fun h => False.elim (by omega))
    refine qr_iconst 18 rfl rfl ?_
    refine qr_retZ rfl rfl (by omega) (by decide) (by decide) ?_
    show qr_W (qe L xs vb) (d + 1) qx_e200 _ (13, [(0, .ref 86), (1, .int (qz x0))], [.int (qz 0)], _, 0, 0)
    refine qr_retZ rfl rfl (by omega) (by decide) (by decide) ?_
    show qr_W (qe L xs vb) (d + 2) qx_e255 _ (10, [(0, .ref 86), (1, .int (qz x0)), (2, .int (qz x1)), (3, .int (qz x2))], [.int (qz 0)], _, 0, 0)
    refine qr_if_ne 15 13 rfl rfl rfl (by decide) (fun h => absurd h (by decide)) (fun _ => ?_)
    refine qr_iconst 14 rfl rfl ?_
    refine qr_retI rfl rfl (by decide) (by decide) ?_
    exact rfl
  · skip
    refine qr_iload_n 5 rfl rfl rfl ?_
    refine qr_aload_n 6 rfl rfl rfl ?_
    refine qr_get 9 rfl rfl rfl (by decide) rfl ?_
    refine qy_v 0 (by subst_vars; rfl) ?_
    refine qr_icmp_ge 16 12 rfl rfl rfl (by omega) (by decide) (fun h5 => ?_) (fun h => False.elim (by omega))
    refine qr_iconst 17 rfl rfl ?_
    refine qr_retZ rfl rfl (by omega) (by decide) (by decide) ?_
    show qr_W (qe L xs vb) (d + 2) qx_e148 _ (15, [(0, .ref 16), (1, .int (qz x0)), (2, .int (qz x1)), (3, .int (qz x2))], [.int (qz 0)], _, 0, 0)
    refine qr_if_eq 27 18 rfl rfl rfl (by decide) (fun _ => ?_) (fun h => absurd h (by decide))
    refine qr_iconst 28 rfl rfl ?_
    refine qr_retI rfl rfl (by decide) (by decide) ?_
    refine ⟨⟨_, rfl⟩, ⟨_, _, _, _, rfl⟩, ?_⟩
    refine qr_start (d := d + 2) qv_e255 (Nat.le_of_ble_eq_true rfl) ?_
    show qr_W (qe L xs vb) (d + 2) qx_e255 _ (0, [(0, .ref 86), (1, .int (qz x0)), (2, .int (qz x1)), (3, .int (qz x2))], [], _, 0, 0)
    refine qr_aload_n 1 rfl rfl rfl ?_
    refine qr_iconst 2 rfl rfl ?_
    refine qr_put 5 rfl (by decide) rfl (Nat.le_of_ble_eq_true rfl) (Nat.le_of_ble_eq_true rfl) (Or.inl rfl) (qr_fitI rfl _) rfl ?_
    refine qy_wS (qw_s σ1 86 56 0) rfl (fun σ6 e6 => ?_)
    refine qr_aload_n 6 rfl rfl rfl ?_
    refine qr_iload_n 7 rfl rfl rfl ?_
    refine qy_call 10 rfl rfl rfl ?_
    refine qr_start (d := d + 1) qv_e200 (Nat.le_of_ble_eq_true rfl) ?_
    show qr_W (qe L xs vb) (d + 1) qx_e200 _ (0, [(0, .ref 86), (1, .int (qz x0))], [], _, 0, 0)
    refine qr_iload_n 1 rfl rfl rfl ?_
    refine qr_i2l 2 rfl (by omega) rfl ?_
    refine qr_lconst 3 rfl rfl ?_
    refine qy_vl 0 rfl ?_
    refine qr_aload_n 4 rfl rfl rfl ?_
    refine qr_get 7 rfl rfl rfl (by decide) rfl ?_
    refine qy_v 0 (by subst_vars; rfl) ?_
    refine qr_iconst 8 rfl rfl ?_
    refine qr_isub 9 rfl rfl ?_
    refine qy_v (-1) rfl ?_
    refine qr_i2l 10 rfl (by omega) rfl ?_
    refine qy_vl (-1) rfl ?_
    refine qy_call 13 rfl rfl rfl ?_
    refine qr_start (d := d + 0) qv_e176 (Nat.le_of_ble_eq_true rfl) ?_
    show qr_W (qe L xs vb) (d + 0) qx_e176 _ (0, [(0, .long (ql x0)), (2, .long (ql 0)), (4, .long (ql (-1)))], [], _, 0, 0)
    refine qr_lload_n 1 rfl rfl rfl ?_
    refine qr_lload_n 2 rfl rfl rfl ?_
    refine qr_lc_lt 17 6 rfl rfl rfl rfl (by omega) (by decide) (fun h => False.elim (by omega)) (fun h7 => ?_)
    refine qr_lload_n 7 rfl rfl rfl ?_
    refine qr_lload 9 rfl rfl rfl ?_
    refine qr_lc_gt 17 13 rfl rfl rfl rfl (by omega) (by decide) (fun h8 => ?_) (fun h => False.elim (by omega))
    refine qr_iconst 18 rfl rfl ?_
    refine qr_retZ rfl rfl (by omega) (by decide) (by decide) ?_
    show qr_W (qe L xs vb) (d + 1) qx_e200 _ (13, [(0, .ref 86), (1, .int (qz x0))], [.int (qz 0)], _, 0, 0)
    refine qr_retZ rfl rfl (by omega) (by decide) (by decide) ?_
    show qr_W (qe L xs vb) (d + 2) qx_e255 _ (10, [(0, .ref 86), (1, .int (qz x0)), (2, .int (qz x1)), (3, .int (qz x2))], [.int (qz 0)], _, 0, 0)
    refine qr_if_ne 15 13 rfl rfl rfl (by decide) (fun h => absurd h (by decide)) (fun _ => ?_)
    refine qr_iconst 14 rfl rfl ?_
    refine qr_retI rfl rfl (by decide) (by decide) ?_
    exact rfl

set_option maxHeartbeats 8000000 in
set_option maxRecDepth 20000 in
/-- trace on the fresh objects: both answer alike -/
theorem sx_trace {L : Nat} {xs : Nat → Int} {vb : Bool} {d : Nat} {s g : Nat → Nat → Int} {x0 : Int} (hok : qo_ok s g) (rx0 : -2147483648 ≤ x0 ∧ x0 ≤ 2147483647) : qm_T (qe L xs vb) (d + 1) 154 [.ref 16, .int (qz x0)] (qw (qo_s s) (qo_r g) qo_k 82) (fun r w => (∃ y : Int, r = some (.int (qz y))) ∧ (∃ σ α κ ρ, w = qw σ α κ ρ) ∧ qm_T (qe L xs vb) (d + 1) 261 [.ref 86, .int (qz x0)] w (fun r' _ => r' = r)) := by
  refine qr_start (d := d + 0) qv_e154 (Nat.le_of_ble_eq_true rfl) ?_
  show qr_W (qe L xs vb) (d + 0) qx_e154 _ (0, [(0, .ref 16), (1, .int (qz x0))], [], _, 0, 0)
  refine qr_iload_n 1 rfl rfl rfl ?_
  refine qr_if_lt 27 4 rfl rfl rfl (by omega) (fun h1 => ?_) (fun h1 => ?_)
  · skip
    refine qr_iconst 28 rfl rfl ?_
    refine qr_retI rfl rfl (by decide) (by decide) ?_
    refine ⟨⟨_, rfl⟩, ⟨_, _, _, _, rfl⟩, ?_⟩
    refine qr_start (d := d + 0) qv_e261 (Nat.le_of_ble_eq_true rfl) ?_
    show qr_W (qe L xs vb) (d + 0) qx_e261 _ (0, [(0, .ref 86), (1, .int (qz x0))], [], _, 0, 0)
    refine qr_iload_n 1 rfl rfl rfl ?_
    refine qr_if_lt 27 4 rfl rfl rfl (by omega) (fun h2 => ?_) (fun h => False.elim (by omega))
    refine qr_iconst 28 rfl rfl ?_
    refine qr_retI rfl rfl (by decide) (by decide) ?_
    exact rfl
  · skip
    refine qr_iload_n 5 rfl rfl rfl ?_
    refine qr_aload_n 6 rfl rfl rfl ?_
    refine qr_get 9 rfl rfl rfl (by decide) rfl ?_
    refine qr_get 12 rfl rfl rfl (by decide) rfl ?_
    refine qy_v 0 rfl ?_
    refine qr_icmp_ge 27 15 rfl rfl rfl (by omega) (by decide) (fun h3 => ?_) (fun h => False.elim (by omega))
    refine qr_iconst 28 rfl rfl ?_
    refine qr_retI rfl rfl (by decide) (by decide) ?_
    refine ⟨⟨_, rfl⟩, ⟨_, _, _, _, rfl⟩, ?_⟩
    refine qr_start (d := d + 0) qv_e261 (Nat.le_of_ble_eq_true rfl) ?_
    show qr_W (qe L xs vb) (d + 0) qx_e261 _ (0, [(0, .ref 86), (1, .int (qz x0))], [], _, 0, 0)
    refine qr_iload_n 1 rfl rfl rfl ?_
    refine qr_if_lt 27 4 rfl rfl rfl (by omega) (fun h => False.elim (by omega)) (fun h4 => ?_)
    refine qr_iload_n 5 rfl rfl rfl ?_
    refine qr_aload_n 6 rfl rfl rfl ?_
    refine qr_get 9 rfl rfl rfl (by decide) rfl ?_
    refine qy_v 0 rfl ?_
    refine qr_icmp_ge 27 12 rfl rfl rfl (by omega) (by decide) (fun h5 => ?_) (fun h => False.elim (by omega))
    refine qr_iconst 28 rfl rfl ?_
    refine qr_retI rfl rfl (by decide) (by decide) ?_
    exact rfl

set_option maxHeartbeats 8000000 in
set_option maxRecDepth 20000 in
/-- keep on the fresh objects: both answer alike -/
theorem sx_keep {L : Nat} {xs : Nat → Int} {vb : Bool} {d : Nat} {s g : Nat → Nat → Int} {x0 : Int} {x1 : Int} (hok : qo_ok s g) (rx0 : -2147483648 ≤ x0 ∧ x0 ≤ 2147483647) (rx1 : -2147483648 ≤ x1 ∧ x1 ≤ 2147483647) : qm_T (qe L xs vb) (d + 3) 155 [.ref 16, .int (qz x0), .int (qz x1)] (qw (qo_s s) (qo_r g) qo_k 82) (fun r w => (∃ y : Int, r = some (.int (qz y))) ∧ (∃ σ α κ ρ, w = qw σ α κ ρ) ∧ qm_T (qe L xs vb) (d + 3) 262 [.ref 86, .int (qz x0), .int (qz x1)] w (fun r' _ => r' = r)) := by
  refine qr_start (d := d + 2) qv_e155 (Nat.le_of_ble_eq_true rfl) ?_
  show qr_W (qe L xs vb) (d + 2) qx_e155 _ (0, [(0, .ref 16), (1, .int (qz x0)), (2, .int (qz x1))], [], _, 0, 0)
  refine qr_aload_n 1 rfl rfl rfl ?_
  refine qr_get 4 rfl rfl rfl (by decide) rfl ?_
  refine qr_iload_n 5 rfl rfl rfl ?_
  refine qy_call 8 rfl rfl rfl ?_
  refine qr_start (d := d + 1) qv_e44 (Nat.le_of_ble_eq_true rfl) ?_
  show qr_W (qe L xs vb) (d + 1) qx_e44 _ (0, [(0, .ref 44), (1, .int (qz x0))], [], _, 0, 0)
  refine qr_iload_n 1 rfl rfl rfl ?_
  refine qr_if_lt 14 4 rfl rfl rfl (by omega) (fun h1 => ?_) (fun h1 => ?_)
  · skip
    refine qr_iconst 15 rfl rfl ?_
    refine qr_retZ rfl rfl (by omega) (by decide) (by decide) ?_
    show qr_W (qe L xs vb) (d + 2) qx_e155 _ (8, [(0, .ref 16), (1, .int (qz x0)), (2, .int (qz x1))], [.int (qz 0)], _, 0, 0)
    refine qr_if_eq 27 11 rfl rfl rfl (by decide) (fun _ => ?_) (fun h => absurd h (by decide))
    refine qr_iconst 28 rfl rfl ?_
    refine qr_retI rfl rfl (by decide) (by decide) ?_
    refine ⟨⟨_, rfl⟩, ⟨_, _, _, _, rfl⟩, ?_⟩
    refine qr_start (d := d + 2) qv_e262 (Nat.le_of_ble_eq_true rfl) ?_
    show qr_W (qe L xs vb) (d + 2) qx_e262 _ (0, [(0, .ref 86), (1, .int (qz x0)), (2, .int (qz x1))], [], _, 0, 0)
    refine qr_iload_n 1 rfl rfl rfl ?_
    refine qy_call 4 rfl rfl rfl ?_
    refine qr_start (d := d + 1) qv_e178 (Nat.le_of_ble_eq_true rfl) ?_
    show qr_W (qe L xs vb) (d + 1) qx_e178 _ (0, [(0, .int (qz x0))], [], _, 0, 0)
    refine qr_iload_n 1 rfl rfl rfl ?_
    refine qr_i2l 2 rfl (by omega) rfl ?_
    refine qr_lconst 3 rfl rfl ?_
    refine qy_vl 0 rfl ?_
    refine qr_ldc2 5 6 rfl (by decide) rfl ?_
    refine qy_call 9 rfl rfl rfl ?_
    refine qr_start (d := d + 0) qv_e176 (Nat.le_of_ble_eq_true rfl) ?_
    show qr_W (qe L xs vb) (d + 0) qx_e176 _ (0, [(0, .long (ql x0)), (2, .long (ql 0)), (4, .long (ql 5))], [], _, 0, 0)
    refine qr_lload_n 1 rfl rfl rfl ?_
    refine qr_lload_n 2 rfl rfl rfl ?_
    refine qr_lc_lt 17 6 rfl rfl rfl rfl (by omega) (by decide) (fun h2 => ?_) (fun h => False.elim (by omega))
    refine qr_iconst 18 rfl rfl ?_
    refine qr_retZ rfl rfl (by omega) (by decide) (by decide) ?_
    show qr_W (qe L xs vb) (d + 1) qx_e178 _ (9, [(0, .int (qz x0))], [.int (qz 0)], _, 0, 0)
    refine qr_retZ rfl rfl (by omega) (by decide) (by decide) ?_
    show qr_W (qe L xs vb) (d + 2) qx_e262 _ (4, [(0, .ref 86), (1, .int (qz x0)), (2, .int (qz x1))], [.int (qz 0)], _, 0, 0)
    refine qr_if_eq 20 7 rfl rfl rfl (by decide) (fun _ => ?_) (fun h => absurd h (by decide))
    refine qr_iconst 21 rfl rfl ?_
    refine qr_retI rfl rfl (by decide) (by decide) ?_
    exact rfl
  · skip
    refine qr_iload_n 5 rfl rfl rfl ?_
    refine qr_bipush 7 rfl (by decide) rfl ?_
    refine qr_icmp_ge 14 10 rfl rfl rfl (by omega) (by decide) (fun h3 => ?_) (fun h3 => ?_)
    · skip
      refine qr_iconst 15 rfl rfl ?_
      refine qr_retZ rfl rfl (by omega) (by decide) (by decide) ?_
      show qr_W (qe L xs vb) (d + 2) qx_e155 _ (8, [(0, .ref 16), (1, .int (qz x0)), (2, .int (qz x1))], [.int (qz 0)], _, 0, 0)
      refine qr_if_eq 27 11 rfl rfl rfl (by decide) (fun _ => ?_) (fun h => absurd h (by decide))
      refine qr_iconst 28 rfl rfl ?_
      refine qr_retI rfl rfl (by decide) (by decide) ?_
      refine ⟨⟨_, rfl⟩, ⟨_, _, _, _, rfl⟩, ?_⟩
      refine qr_start (d := d + 2) qv_e262 (Nat.le_of_ble_eq_true rfl) ?_
      show qr_W (qe L xs vb) (d + 2) qx_e262 _ (0, [(0, .ref 86), (1, .int (qz x0)), (2, .int (qz x1))], [], _, 0, 0)
      refine qr_iload_n 1 rfl rfl rfl ?_
      refine qy_call 4 rfl rfl rfl ?_
      refine qr_start (d := d + 1) qv_e178 (Nat.le_of_ble_eq_true rfl) ?_
      show qr_W (qe L xs vb) (d + 1) qx_e178 _ (0, [(0, .int (qz x0))], [], _, 0, 0)
      refine qr_iload_n 1 rfl rfl rfl ?_
      refine qr_i2l 2 rfl (by omega) rfl ?_
      refine qr_lconst 3 rfl rfl ?_
      refine qy_vl 0 rfl ?_
      refine qr_ldc2 5 6 rfl (by decide) rfl ?_
      refine qy_call 9 rfl rfl rfl ?_
      refine qr_start (d := d + 0) qv_e176 (Nat.le_of_ble_eq_true rfl) ?_
      show qr_W (qe L xs vb) (d + 0) qx_e176 _ (0, [(0, .long (ql x0)), (2, .long (ql 0)), (4, .long (ql 5))], [], _, 0, 0)
      refine qr_lload_n 1 rfl rfl rfl ?_
      refine qr_lload_n 2 rfl rfl rfl ?_
      refine qr_lc_lt 17 6 rfl rfl rfl rfl (by omega) (by decide) (fun h => False.elim (by omega)) (fun h4 => ?_)
      refine qr_lload_n 7 rfl rfl rfl ?_
      refine qr_lload 9 rfl rfl rfl ?_
      refine qr_lc_gt 17 13 rfl rfl rfl rfl (by omega) (by decide) (fun h5 => ?_) (fun h => False.elim (by omega))
      refine qr_iconst 18 rfl rfl ?_
      refine qr_retZ rfl rfl (by omega) (by decide) (by decide) ?_
      show qr_W (qe L xs vb) (d + 1) qx_e178 _ (9, [(0, .int (qz x0))], [.int (qz 0)], _, 0, 0)
      refine qr_retZ rfl rfl (by omega) (by decide) (by decide) ?_
      show qr_W (qe L xs vb) (d + 2) qx_e262 _ (4, [(0, .ref 86), (1, .int (qz x0)), (2, .int (qz x1))], [.int (qz 0)], _, 0, 0)
      refine qr_if_eq 20 7 rfl rfl rfl (by decide) (fun _ => ?_) (fun h => absurd h (by decide))
      refine qr_iconst 21 rfl rfl ?_
      refine qr_retI rfl rfl (by decide) (by decide) ?_
      exact rfl
    · skip
      refine qr_iconst 11 rfl rfl ?_
      refine qr_goto 15 rfl rfl ?_
      refine qr_retZ rfl rfl (by omega) (by decide) (by decide) ?_
      show qr_W (qe L xs vb) (d + 2) qx_e155 _ (8, [(0, .ref 16), (1, .int (qz x0)), (2, .int (qz x1))], [.int (qz 1)], _, 0, 0)
      refine qr_if_eq 27 11 rfl rfl rfl (by decide) (fun h => absurd h (by decide)) (fun _ => ?_)
      refine qr_iload_n 12 rfl rfl rfl ?_
      refine qr_iconst 13 rfl rfl ?_
      refine qr_icmp_eq 29 16 rfl rfl rfl (by omega) (by decide) (fun h6 => ?_) (fun h6 => ?_)
      · skip
        subst h6
        refine qr_aload_n 30 rfl rfl rfl ?_
        refine qr_get 33 rfl rfl rfl (by decide) rfl ?_
        refine qr_iload_n 34 rfl rfl rfl ?_
        refine qr_iload_n 35 rfl rfl rfl ?_
        refine qy_call 38 rfl rfl rfl ?_
        refine qr_start (d := d + 1) qv_e156 (Nat.le_of_ble_eq_true rfl) ?_
        show qr_W (qe L xs vb) (d + 1) qx_e156 _ (0, [(0, .ref 44), (1, .int (qz x0)), (2, .int (qz (-1)))], [], _, 0, 0)
        refine qr_aload_n 1 rfl rfl rfl ?_
        refine qr_get 4 rfl rfl rfl (by decide) rfl ?_
        refine qr_iload_n 5 rfl rfl rfl ?_
        refine qr_iload_n 6 rfl rfl rfl ?_
        refine qr_if_ge 14 9 rfl rfl rfl (by decide) (fun h => absurd h (by decide)) (fun _ => ?_)
        refine qr_bipush 11 rfl (by decide) rfl ?_
        refine qr_goto 15 rfl rfl ?_
        refine qr_iastore 16 rfl (by decide) rfl (by omega) (by decide) rfl ?_
        refine qy_wA (qw_r (qo_r g) 45 (qzu ((qo_r g) 45) (x0 : Int).toNat 6)) rfl (fun α7 e7 => ?_)
        refine qr_aload_n 17 rfl rfl rfl ?_
        refine qr_get 20 rfl rfl rfl (by decide) rfl ?_
        refine qr_iload_n 21 rfl rfl rfl ?_
        refine qr_iload_n 22 rfl rfl rfl ?_
        refine qr_iastore 23 rfl (by decide) rfl (by omega) (by decide) rfl ?_
        refine qy_wA (qw_r α7 47 (qzu (α7 47) (x0 : Int).toNat (-1))) rfl (fun α8 e8 => ?_)
        refine qr_aload_n 24 rfl rfl rfl ?_
        refine qr_get 27 rfl rfl rfl (by decide) rfl ?_
        refine qr_iload_n 28 rfl rfl rfl ?_
        refine qr_iconst 29 rfl rfl ?_
        refine qr_iastore 30 rfl (by decide) rfl (by omega) (by decide) rfl ?_
        refine qy_wA (qw_r α8 46 (qzu (α8 46) (x0 : Int).toNat 0)) rfl (fun α9 e9 => ?_)
        refine qr_retV rfl rfl (by decide) (by decide) ?_
        show qr_W (qe L xs vb) (d + 2) qx_e155 _ (38, [(0, .ref 16), (1, .int (qz x0)), (2, .int (qz (-1)))], [], _, 0, 0)
        refine qr_iconst 39 rfl rfl ?_
        refine qr_retI rfl rfl (by decide) (by decide) ?_
        refine ⟨⟨_, rfl⟩, ⟨_, _, _, _, rfl⟩, ?_⟩
        refine qr_start (d := d + 2) qv_e262 (Nat.le_of_ble_eq_true rfl) ?_
        show qr_W (qe L xs vb) (d + 2) qx_e262 _ (0, [(0, .ref 86), (1, .int (qz x0)), (2, .int (qz (-1)))], [], _, 0, 0)
        refine qr_iload_n 1 rfl rfl rfl ?_
        refine qy_call 4 rfl rfl rfl ?_
        refine qr_start (d := d + 1) qv_e178 (Nat.le_of_ble_eq_true rfl) ?_
        show qr_W (qe L xs vb) (d + 1) qx_e178 _ (0, [(0, .int (qz x0))], [], _, 0, 0)
        refine qr_iload_n 1 rfl rfl rfl ?_
        refine qr_i2l 2 rfl (by omega) rfl ?_
        refine qr_lconst 3 rfl rfl ?_
        refine qy_vl 0 rfl ?_
        refine qr_ldc2 5 6 rfl (by decide) rfl ?_
        refine qy_call 9 rfl rfl rfl ?_
        refine qr_start (d := d + 0) qv_e176 (Nat.le_of_ble_eq_true rfl) ?_
        show qr_W (qe L xs vb) (d + 0) qx_e176 _ (0, [(0, .long (ql x0)), (2, .long (ql 0)), (4, .long (ql 5))], [], _, 0, 0)
        refine qr_lload_n 1 rfl rfl rfl ?_
        refine qr_lload_n 2 rfl rfl rfl ?_
        refine qr_lc_lt 17 6 rfl rfl rfl rfl (by omega) (by decide) (fun h => False.elim (by omega)) (fun h10 => ?_)
        refine qr_lload_n 7 rfl rfl rfl ?_
        refine qr_lload 9 rfl rfl rfl ?_
        refine qr_lc_gt 17 13 rfl rfl rfl rfl (by omega) (by decide) (fun h => False.elim (by omega)) (fun h11 => ?_)
        refine qr_iconst 14 rfl rfl ?_
        refine qr_goto 18 rfl rfl ?_
        refine qr_retZ rfl rfl (by omega) (by decide) (by decide) ?_
        show qr_W (qe L xs vb) (d + 1) qx_e178 _ (9, [(0, .int (qz x0))], [.int (qz 1)], _, 0, 0)
        refine qr_retZ rfl rfl (by omega) (by decide) (by decide) ?_
        show qr_W (qe L xs vb) (d + 2) qx_e262 _ (4, [(0, .ref 86), (1, .int (qz x0)), (2, .int (qz (-1)))], [.int (qz 1)], _, 0, 0)
        refine qr_if_eq 20 7 rfl rfl rfl (by decide) (fun h => absurd h (by decide)) (fun _ => ?_)
        as_aux_lemma =>
          refine qr_iload_n 8 rfl rfl rfl ?_
          refine qr_iconst 9 rfl rfl ?_
          refine qr_icmp_eq 22 12 rfl rfl rfl (by decide) (by decide) (fun _ => ?_) (fun h => absurd h (by decide))
          refine qr_aload_n 23 rfl rfl rfl ?_
          refine qr_get 26 rfl rfl rfl (by decide) rfl ?_
          refine qr_iload_n 27 rfl rfl rfl ?_
          refine qr_iload_n 28 rfl rfl rfl ?_
          refine qr_iastore 29 rfl (by decide) rfl (by omega) (by decide) rfl ?_
          refine qy_wA (qw_r α9 121 (qzu (α9 121) (x0 : Int).toNat (-1))) rfl (fun α12 e12 => ?_)
          refine qr_aload_n 30 rfl rfl rfl ?_
          refine qr_get 33 rfl rfl rfl (by decide) rfl ?_
          refine qr_iload_n 34 rfl rfl rfl ?_
          refine qr_iconst 35 rfl rfl ?_
          refine qr_iastore 36 rfl (by decide) rfl (by omega) (by decide) rfl ?_
          refine qy_wA (qw_r α12 122 (qzu (α12 122) (x0 : Int).toNat 0)) rfl (fun α13 e13 => ?_)
          refine qr_iconst 37 rfl rfl ?_
          refine qr_retI rfl rfl (by decide) (by decide) ?_
          exact rfl
      · skip
        refine qr_aload_n 17 rfl rfl rfl ?_
        refine qr_get 20 rfl rfl rfl (by decide) rfl ?_
        refine qr_iload_n 21 rfl rfl rfl ?_
        refine qy_call 24 rfl rfl rfl ?_
        refine qr_start (d := d + 1) qv_e73 (Nat.le_of_ble_eq_true rfl) ?_
        show qr_W (qe L xs vb) (d + 1) qx_e73 _ (0, [(0, .ref 34), (1, .int (qz x1))], [], _, 0, 0)
        refine qr_iload_n 1 rfl rfl rfl ?_
        refine qr_if_lt 16 4 rfl rfl rfl (by omega) (fun h14 => ?_) (fun h14 => ?_)
        · skip
          refine qr_iconst 17 rfl rfl ?_
          refine qr_retZ rfl rfl (by omega) (by decide) (by decide) ?_
          show qr_W (qe L xs vb) (d + 2) qx_e155 _ (24, [(0, .ref 16), (1, .int (qz x0)), (2, .int (qz x1))], [.int (qz 0)], _, 0, 0)
          refine qr_if_ne 29 27 rfl rfl rfl (by decide) (fun h => absurd h (by decide)) (fun _ => ?_)
          refine qr_iconst 28 rfl rfl ?_
          refine qr_retI rfl rfl (by decide) (by decide) ?_
          refine ⟨⟨_, rfl⟩, ⟨_, _, _, _, rfl⟩, ?_⟩
          refine qr_start (d := d + 2) qv_e262 (Nat.le_of_ble_eq_true rfl) ?_
          show qr_W (qe L xs vb) (d + 2) qx_e262 _ (0, [(0, .ref 86), (1, .int (qz x0)), (2, .int (qz x1))], [], _, 0, 0)
          refine qr_iload_n 1 rfl rfl rfl ?_
          refine qy_call 4 rfl rfl rfl ?_
          refine qr_start (d := d + 1) qv_e178 (Nat.le_of_ble_eq_true rfl) ?_
          show qr_W (qe L xs vb) (d + 1) qx_e178 _ (0, [(0, .int (qz x0))], [], _, 0, 0)
          refine qr_iload_n 1 rfl rfl rfl ?_
          refine qr_i2l 2 rfl (by omega) rfl ?_
          refine qr_lconst 3 rfl rfl ?_
          refine qy_vl 0 rfl ?_
          refine qr_ldc2 5 6 rfl (by decide) rfl ?_
          refine qy_call 9 rfl rfl rfl ?_
          refine qr_start (d := d + 0) qv_e176 (Nat.le_of_ble_eq_true rfl) ?_
          show qr_W (qe L xs vb) (d + 0) qx_e176 _ (0, [(0, .long (ql x0)), (2, .long (ql 0)), (4, .long (ql 5))], [], _, 0, 0)
          refine qr_lload_n 1 rfl rfl rfl ?_
          refine qr_lload_n 2 rfl rfl rfl ?_
          refine qr_lc_lt 17 6 rfl rfl rfl rfl (by omega) (by decide) (fun h => False.elim (by omega)) (fun h15 => ?_)
          refine qr_lload_n 7 rfl rfl rfl ?_
          refine qr_lload 9 rfl rfl rfl ?_
          refine qr_lc_gt 17 13 rfl rfl rfl rfl (by omega) (by decide) (fun h => False.elim (by omega)) (fun h16 => ?_)
          refine qr_iconst 14 rfl rfl ?_
          refine qr_goto 18 rfl rfl ?_
          refine qr_retZ rfl rfl (by omega) (by decide) (by decide) ?_
          show qr_W (qe L xs vb) (d + 1) qx_e178 _ (9, [(0, .int (qz x0))], [.int (qz 1)], _, 0, 0)
          refine qr_retZ rfl rfl (by omega) (by decide) (by decide) ?_
          show qr_W (qe L xs vb) (d + 2) qx_e262 _ (4, [(0, .ref 86), (1, .int (qz x0)), (2, .int (qz x1))], [.int (qz 1)], _, 0, 0)
          refine qr_if_eq 20 7 rfl rfl rfl (by decide) (fun h => absurd h (by decide)) (fun _ => ?_)
          refine qr_iload_n 8 rfl rfl rfl ?_
          refine qr_iconst 9 rfl rfl ?_
          refine qr_icmp_eq 22 12 rfl rfl rfl (by omega) (by decide) (fun h => False.elim (by omega)) (fun h17 => ?_)
          refine qr_aload_n 13 rfl rfl rfl ?_
          refine qr_iload_n 14 rfl rfl rfl ?_
          refine qy_call 17 rfl rfl rfl ?_
          refine qr_start (d := d + 1) qv_e200 (Nat.le_of_ble_eq_true rfl) ?_
          show qr_W (qe L xs vb) (d + 1) qx_e200 _ (0, [(0, .ref 86), (1, .int (qz x1))], [], _, 0, 0)
          refine qr_iload_n 1 rfl rfl rfl ?_
          refine qr_i2l 2 rfl (by omega) rfl ?_
          refine qr_lconst 3 rfl rfl ?_
          refine qy_vl 0 rfl ?_
          refine qr_aload_n 4 rfl rfl rfl ?_
          refine qr_get 7 rfl rfl rfl (by decide) rfl ?_
          refine qy_v 0 rfl ?_
          refine qr_iconst 8 rfl rfl ?_
          refine qr_isub 9 rfl rfl ?_
          refine qy_v (-1) rfl ?_
          refine qr_i2l 10 rfl (by omega) rfl ?_
          refine qy_vl (-1) rfl ?_
          refine qy_call 13 rfl rfl rfl ?_
          refine qr_start (d := d + 0) qv_e176 (Nat.le_of_ble_eq_true rfl) ?_
          show qr_W (qe L xs vb) (d + 0) qx_e176 _ (0, [(0, .long (ql x1)), (2, .long (ql 0)), (4, .long (ql (-1)))], [], _, 0, 0)
          as_aux_lemma =>
            refine qr_lload_n 1 rfl rfl rfl ?_
            refine qr_lload_n 2 rfl rfl rfl ?_
            refine qr_lc_lt 17 6 rfl rfl rfl rfl (by omega) (by decide) (fun h18 => ?_) (fun h => False.elim (by omega))
            refine qr_iconst 18 rfl rfl ?_
            refine qr_retZ rfl rfl (by omega) (by decide) (by decide) ?_
            show qr_W (qe L xs vb) (d + 1) qx_e200 _ (13, [(0, .ref 86), (1, .int (qz x1))], [.int (qz 0)], _, 0, 0)
            refine qr_retZ rfl rfl (by omega) (by decide) (by decide) ?_
            show qr_W (qe L xs vb) (d + 2) qx_e262 _ (17, [(0, .ref 86), (1, .int (qz x0)), (2, .int (qz x1))], [.int (qz 0)], _, 0, 0)
            refine qr_if_ne 22 20 rfl rfl rfl (by decide) (fun h => absurd h (by decide)) (fun _ => ?_)
            refine qr_iconst 21 rfl rfl ?_
            refine qr_retI rfl rfl (by decide) (by decide) ?_
            exact rfl
        · skip
          refine qr_iload_n 5 rfl rfl rfl ?_
          refine qr_aload_n 6 rfl rfl rfl ?_
          refine qr_get 9 rfl rfl rfl (by decide) rfl ?_
          refine qy_v 0 rfl ?_
          refine qr_icmp_ge 16 12 rfl rfl rfl (by omega) (by decide) (fun h19 => ?_) (fun h => False.elim (by omega))
          refine qr_iconst 17 rfl rfl ?_
          refine qr_retZ rfl rfl (by omega) (by decide) (by decide) ?_
          show qr_W (qe L xs vb) (d + 2) qx_e155 _ (24, [(0, .ref 16), (1, .int (qz x0)), (2, .int (qz x1))], [.int (qz 0)], _, 0, 0)
          refine qr_if_ne 29 27 rfl rfl rfl (by decide) (fun h => absurd h (by decide)) (fun _ => ?_)
          refine qr_iconst 28 rfl rfl ?_
          refine qr_retI rfl rfl (by decide) (by decide) ?_
          refine ⟨⟨_, rfl⟩, ⟨_, _, _, _, rfl⟩, ?_⟩
          refine qr_start (d := d + 2) qv_e262 (Nat.le_of_ble_eq_true rfl) ?_
          show qr_W (qe L xs vb) (d + 2) qx_e262 _ (0, [(0, .ref 86), (1, .int (qz x0)), (2, .int (qz x1))], [], _, 0, 0)
          refine qr_iload_n 1 rfl rfl rfl ?_
          refine qy_call 4 rfl rfl rfl ?_
          refine qr_start (d := d + 1) qv_e178 (Nat.le_of_ble_eq_true rfl) ?_
          show qr_W (qe L xs vb) (d + 1) qx_e178 _ (0, [(0, .int (qz x0))], [], _, 0, 0)
          refine qr_iload_n 1 rfl rfl rfl ?_
          refine qr_i2l 2 rfl (by omega) rfl ?_
          refine qr_lconst 3 rfl rfl ?_
          refine qy_vl 0 rfl ?_
          refine qr_ldc2 5 6 rfl (by decide) rfl ?_
          refine qy_call 9 rfl rfl rfl ?_
          refine qr_start (d := d + 0) qv_e176 (Nat.le_of_ble_eq_true rfl) ?_
          show qr_W (qe L xs vb) (d + 0) qx_e176 _ (0, [(0, .long (ql x0)), (2, .long (ql 0)), (4, .long (ql 5))], [], _, 0, 0)
          refine qr_lload_n 1 rfl rfl rfl ?_
          refine qr_lload_n 2 rfl rfl rfl ?_
          refine qr_lc_lt 17 6 rfl rfl rfl rfl (by omega) (by decide) (fun h => False.elim (by omega)) (fun h20 => ?_)
          refine qr_lload_n 7 rfl rfl rfl ?_
          refine qr_lload 9 rfl rfl rfl ?_
          refine qr_lc_gt 17 13 rfl rfl rfl rfl (by omega) (by decide) (fun h => False.elim (by omega)) (fun h21 => ?_)
          refine qr_iconst 14 rfl rfl ?_
          refine qr_goto 18 rfl rfl ?_
          refine qr_retZ rfl rfl (by omega) (by decide) (by decide) ?_
          show qr_W (qe L xs vb) (d + 1) qx_e178 _ (9, [(0, .int (qz x0))], [.int (qz 1)], _, 0, 0)
          refine qr_retZ rfl rfl (by omega) (by decide) (by decide) ?_
          show qr_W (qe L xs vb) (d + 2) qx_e262 _ (4, [(0, .ref 86), (1, .int (qz x0)), (2, .int (qz x1))], [.int (qz 1)], _, 0, 0)
          refine qr_if_eq 20 7 rfl rfl rfl (by decide) (fun h => absurd h (by decide)) (fun _ => ?_)
          refine qr_iload_n 8 rfl rfl rfl ?_
          refine qr_iconst 9 rfl rfl ?_
          refine qr_icmp_eq 22 12 rfl rfl rfl (by omega) (by decide) (fun h => False.elim (by omega)) (fun h22 => ?_)
          refine qr_aload_n 13 rfl rfl rfl ?_
          refine qr_iload_n 14 rfl rfl rfl ?_
          refine qy_call 17 rfl rfl rfl ?_
          refine qr_start (d := d + 1) qv_e200 (Nat.le_of_ble_eq_true rfl) ?_
          show qr_W (qe L xs vb) (d + 1) qx_e200 _ (0, [(0, .ref 86), (1, .int (qz x1))], [], _, 0, 0)
          refine qr_iload_n 1 rfl rfl rfl ?_
          refine qr_i2l 2 rfl (by omega) rfl ?_
          refine qr_lconst 3 rfl rfl ?_
          refine qy_vl 0 rfl ?_
          refine qr_aload_n 4 rfl rfl rfl ?_
          refine qr_get 7 rfl rfl rfl (by decide) rfl ?_
          refine qy_v 0 rfl ?_
          as_aux_lemma =>
            refine qr_iconst 8 rfl rfl ?_
            refine qr_isub 9 rfl rfl ?_
            refine qy_v (-1) rfl ?_
            refine qr_i2l 10 rfl (by omega) rfl ?_
            refine qy_vl (-1) rfl ?_
            refine qy_call 13 rfl rfl rfl ?_
            refine qr_start (d := d + 0) qv_e176 (Nat.le_of_ble_eq_true rfl) ?_
            show qr_W (qe L xs vb) (d + 0) qx_e176 _ (0, [(0, .long (ql x1)), (2, .long (ql 0)), (4, .long (ql (-1)))], [], _, 0, 0)
            refine qr_lload_n 1 rfl rfl rfl ?_
            refine qr_lload_n 2 rfl rfl rfl ?_
            refine qr_lc_lt 17 6 rfl rfl rfl rfl (by omega) (by decide) (fun h => False.elim (by omega)) (fun h23 => ?_)
            refine qr_lload_n 7 rfl rfl rfl ?_
            refine qr_lload 9 rfl rfl rfl ?_
            refine qr_lc_gt 17 13 rfl rfl rfl rfl (by omega) (by decide) (fun h24 => ?_) (fun h => False.elim (by omega))
            refine qr_iconst 18 rfl rfl ?_
            refine qr_retZ rfl rfl (by omega) (by decide) (by decide) ?_
            show qr_W (qe L xs vb) (d + 1) qx_e200 _ (13, [(0, .ref 86), (1, .int (qz x1))], [.int (qz 0)], _, 0, 0)
            refine qr_retZ rfl rfl (by omega) (by decide) (by decide) ?_
            show qr_W (qe L xs vb) (d + 2) qx_e262 _ (17, [(0, .ref 86), (1, .int (qz x0)), (2, .int (qz x1))], [.int (qz 0)], _, 0, 0)
            refine qr_if_ne 22 20 rfl rfl rfl (by decide) (fun h => absurd h (by decide)) (fun _ => ?_)
            refine qr_iconst 21 rfl rfl ?_
            refine qr_retI rfl rfl (by decide) (by decide) ?_
            exact rfl

set_option maxHeartbeats 8000000 in
set_option maxRecDepth 20000 in
/-- put on the fresh objects: both answer alike -/
theorem sx_put {L : Nat} {xs : Nat → Int} {vb : Bool} {d : Nat} {s g : Nat → Nat → Int} {x0 : Int} {x1 : Int} {x2 : Int} (hok : qo_ok s g) (rx0 : -2147483648 ≤ x0 ∧ x0 ≤ 2147483647) (rx1 : -2147483648 ≤ x1 ∧ x1 ≤ 2147483647) (rx2 : -9223372036854775808 ≤ x2 ∧ x2 ≤ 9223372036854775807) : qm_T (qe L xs vb) (d + 4) 159 [.ref 16, .int (qz x0), .int (qz x1), .long (ql x2)] (qw (qo_s s) (qo_r g) qo_k 82) (fun r w => (∃ y : Int, r = some (.int (qz y))) ∧ (∃ σ α κ ρ, w = qw σ α κ ρ) ∧ qm_T (qe L xs vb) (d + 4) 264 [.ref 86, .int (qz x0), .int (qz x1), .long (ql x2)] w (fun r' _ => r' = r)) := by
  refine qr_start (d := d + 3) qv_e159 (Nat.le_of_ble_eq_true rfl) ?_
  show qr_W (qe L xs vb) (d + 3) qx_e159 _ (0, [(0, .ref 16), (1, .int (qz x0)), (2, .int (qz x1)), (3, .long (ql x2))], [], _, 0, 0)
  refine qr_aload_n 1 rfl rfl rfl ?_
  refine qr_get 4 rfl rfl rfl (by decide) rfl ?_
  refine qr_iload_n 5 rfl rfl rfl ?_
  refine qy_call 8 rfl rfl rfl ?_
  refine qr_start (d := d + 2) qv_e44 (Nat.le_of_ble_eq_true rfl) ?_
  show qr_W (qe L xs vb) (d + 2) qx_e44 _ (0, [(0, .ref 44), (1, .int (qz x0))], [], _, 0, 0)
  refine qr_iload_n 1 rfl rfl rfl ?_
  refine qr_if_lt 14 4 rfl rfl rfl (by omega) (fun h1 => ?_) (fun h1 => ?_)
  · skip
    refine qr_iconst 15 rfl rfl ?_
    refine qr_retZ rfl rfl (by omega) (by decide) (by decide) ?_
    show qr_W (qe L xs vb) (d + 3) qx_e159 _ (8, [(0, .ref 16), (1, .int (qz x0)), (2, .int (qz x1)), (3, .long (ql x2))], [.int (qz 0)], _, 0, 0)
    refine qr_if_ne 13 11 rfl rfl rfl (by decide) (fun h => absurd h (by decide)) (fun _ => ?_)
    refine qr_iconst 12 rfl rfl ?_
    refine qr_retI rfl rfl (by decide) (by decide) ?_
    refine ⟨⟨_, rfl⟩, ⟨_, _, _, _, rfl⟩, ?_⟩
    refine qr_start (d := d + 3) qv_e264 (Nat.le_of_ble_eq_true rfl) ?_
    show qr_W (qe L xs vb) (d + 3) qx_e264 _ (0, [(0, .ref 86), (1, .int (qz x0)), (2, .int (qz x1)), (3, .long (ql x2))], [], _, 0, 0)
    refine qr_aload_n 1 rfl rfl rfl ?_
    refine qr_iload_n 2 rfl rfl rfl ?_
    refine qr_iload_n 3 rfl rfl rfl ?_
    refine qy_call 6 rfl rfl rfl ?_
    refine qr_start (d := d + 2) qv_e265 (Nat.le_of_ble_eq_true rfl) ?_
    show qr_W (qe L xs vb) (d + 2) qx_e265 _ (0, [(0, .ref 86), (1, .int (qz x0)), (2, .int (qz x1))], [], _, 0, 0)
    refine qr_iload_n 1 rfl rfl rfl ?_
    refine qy_call 4 rfl rfl rfl ?_
    refine qr_start (d := d + 1) qv_e178 (Nat.le_of_ble_eq_true rfl) ?_
    show qr_W (qe L xs vb) (d + 1) qx_e178 _ (0, [(0, .int (qz x0))], [], _, 0, 0)
    refine qr_iload_n 1 rfl rfl rfl ?_
    refine qr_i2l 2 rfl (by omega) rfl ?_
    refine qr_lconst 3 rfl rfl ?_
    refine qy_vl 0 rfl ?_
    refine qr_ldc2 5 6 rfl (by decide) rfl ?_
    refine qy_call 9 rfl rfl rfl ?_
    refine qr_start (d := d + 0) qv_e176 (Nat.le_of_ble_eq_true rfl) ?_
    show qr_W (qe L xs vb) (d + 0) qx_e176 _ (0, [(0, .long (ql x0)), (2, .long (ql 0)), (4, .long (ql 5))], [], _, 0, 0)
    refine qr_lload_n 1 rfl rfl rfl ?_
    refine qr_lload_n 2 rfl rfl rfl ?_
    refine qr_lc_lt 17 6 rfl rfl rfl rfl (by omega) (by decide) (fun h2 => ?_) (fun h => False.elim (by omega))
    refine qr_iconst 18 rfl rfl ?_
    refine qr_retZ rfl rfl (by omega) (by decide) (by decide) ?_
    show qr_W (qe L xs vb) (d + 1) qx_e178 _ (9, [(0, .int (qz x0))], [.int (qz 0)], _, 0, 0)
    refine qr_retZ rfl rfl (by omega) (by decide) (by decide) ?_
    show qr_W (qe L xs vb) (d + 2) qx_e265 _ (4, [(0, .ref 86), (1, .int (qz x0)), (2, .int (qz x1))], [.int (qz 0)], _, 0, 0)
    refine qr_if_ne 9 7 rfl rfl rfl (by decide) (fun h => absurd h (by decide)) (fun _ => ?_)
    refine qr_iconst 8 rfl rfl ?_
    refine qr_retI rfl rfl (by decide) (by decide) ?_
    show qr_W (qe L xs vb) (d + 3) qx_e264 _ (6, [(0, .ref 86), (1, .int (qz x0)), (2, .int (qz x1)), (3, .long (ql x2))], [.int (qz (-1))], _, 0, 0)
    refine qr_istore [(5, .int (qz (-1))), (0, .ref 86), (1, .int (qz x0)), (2, .int (qz x1)), (3, .long (ql x2))] 8 rfl (by decide) rfl rfl ?_
    refine qr_iload 10 rfl rfl rfl ?_
    refine qr_if_ne 37 13 rfl rfl rfl (by decide) (fun _ => ?_) (fun h => absurd h (by decide))
    refine qr_iload 39 rfl rfl rfl ?_
    refine qr_if_ne 46 42 rfl rfl rfl (by decide) (fun _ => ?_) (fun h => absurd h (by decide))
    refine qr_iload 48 rfl rfl rfl ?_
    refine qr_retI rfl rfl (by decide) (by decide) ?_
    exact rfl
  · skip
    refine qr_iload_n 5 rfl rfl rfl ?_
    refine qr_bipush 7 rfl (by decide) rfl ?_
    refine qr_icmp_ge 14 10 rfl rfl rfl (by omega) (by decide) (fun h3 => ?_) (fun h3 => ?_)
    · skip
      refine qr_iconst 15 rfl rfl ?_
      refine qr_retZ rfl rfl (by omega) (by decide) (by decide) ?_
      show qr_W (qe L xs vb) (d + 3) qx_e159 _ (8, [(0, .ref 16), (1, .int (qz x0)), (2, .int (qz x1)), (3, .long (ql x2))], [.int (qz 0)], _, 0, 0)
      refine qr_if_ne 13 11 rfl rfl rfl (by decide) (fun h => absurd h (by decide)) (fun _ => ?_)
      refine qr_iconst 12 rfl rfl ?_
      refine qr_retI rfl rfl (by decide) (by decide) ?_
      refine ⟨⟨_, rfl⟩, ⟨_, _, _, _, rfl⟩, ?_⟩
      refine qr_start (d := d + 3) qv_e264 (Nat.le_of_ble_eq_true rfl) ?_
      show qr_W (qe L xs vb) (d + 3) qx_e264 _ (0, [(0, .ref 86), (1, .int (qz x0)), (2, .int (qz x1)), (3, .long (ql x2))], [], _, 0, 0)
      refine qr_aload_n 1 rfl rfl rfl ?_
      refine qr_iload_n 2 rfl rfl rfl ?_
      refine qr_iload_n 3 rfl rfl rfl ?_
      refine qy_call 6 rfl rfl rfl ?_
      refine qr_start (d := d + 2) qv_e265 (Nat.le_of_ble_eq_true rfl) ?_
      show qr_W (qe L xs vb) (d + 2) qx_e265 _ (0, [(0, .ref 86), (1, .int (qz x0)), (2, .int (qz x1))], [], _, 0, 0)
      refine qr_iload_n 1 rfl rfl rfl ?_
      refine qy_call 4 rfl rfl rfl ?_
      refine qr_start (d := d + 1) qv_e178 (Nat.le_of_ble_eq_true rfl) ?_
      show qr_W (qe L xs vb) (d + 1) qx_e178 _ (0, [(0, .int (qz x0))], [], _, 0, 0)
      refine qr_iload_n 1 rfl rfl rfl ?_
      refine qr_i2l 2 rfl (by omega) rfl ?_
      refine qr_lconst 3 rfl rfl ?_
      refine qy_vl 0 rfl ?_
      refine qr_ldc2 5 6 rfl (by decide) rfl ?_
      refine qy_call 9 rfl rfl rfl ?_
      refine qr_start (d := d + 0) qv_e176 (Nat.le_of_ble_eq_true rfl) ?_
      show qr_W (qe L xs vb) (d + 0) qx_e176 _ (0, [(0, .long (ql x0)), (2, .long (ql 0)), (4, .long (ql 5))], [], _, 0, 0)
      refine qr_lload_n 1 rfl rfl rfl ?_
      refine qr_lload_n 2 rfl rfl rfl ?_
      refine qr_lc_lt 17 6 rfl rfl rfl rfl (by omega) (by decide) (fun h => False.elim (by omega)) (fun h4 => ?_)
      refine qr_lload_n 7 rfl rfl rfl ?_
      refine qr_lload 9 rfl rfl rfl ?_
      refine qr_lc_gt 17 13 rfl rfl rfl rfl (by omega) (by decide) (fun h5 => ?_) (fun h => False.elim (by omega))
      refine qr_iconst 18 rfl rfl ?_
      refine qr_retZ rfl rfl (by omega) (by decide) (by decide) ?_
      show qr_W (qe L xs vb) (d + 1) qx_e178 _ (9, [(0, .int (qz x0))], [.int (qz 0)], _, 0, 0)
      refine qr_retZ rfl rfl (by omega) (by decide) (by decide) ?_
      show qr_W (qe L xs vb) (d + 2) qx_e265 _ (4, [(0, .ref 86), (1, .int (qz x0)), (2, .int (qz x1))], [.int (qz 0)], _, 0, 0)
      refine qr_if_ne 9 7 rfl rfl rfl (by decide) (fun h => absurd h (by decide)) (fun _ => ?_)
      refine qr_iconst 8 rfl rfl ?_
      refine qr_retI rfl rfl (by decide) (by decide) ?_
      show qr_W (qe L xs vb) (d + 3) qx_e264 _ (6, [(0, .ref 86), (1, .int (qz x0)), (2, .int (qz x1)), (3, .long (ql x2))], [.int (qz (-1))], _, 0, 0)
      refine qr_istore [(5, .int (qz (-1))), (0, .ref 86), (1, .int (qz x0)), (2, .int (qz x1)), (3, .long (ql x2))] 8 rfl (by decide) rfl rfl ?_
      refine qr_iload 10 rfl rfl rfl ?_
      refine qr_if_ne 37 13 rfl rfl rfl (by decide) (fun _ => ?_) (fun h => absurd h (by decide))
      refine qr_iload 39 rfl rfl rfl ?_
      refine qr_if_ne 46 42 rfl rfl rfl (by decide) (fun _ => ?_) (fun h => absurd h (by decide))
      refine qr_iload 48 rfl rfl rfl ?_
      refine qr_retI rfl rfl (by decide) (by decide) ?_
      exact rfl
    · skip
      refine qr_iconst 11 rfl rfl ?_
      refine qr_goto 15 rfl rfl ?_
      refine qr_retZ rfl rfl (by omega) (by decide) (by decide) ?_
      show qr_W (qe L xs vb) (d + 3) qx_e159 _ (8, [(0, .ref 16), (1, .int (qz x0)), (2, .int (qz x1)), (3, .long (ql x2))], [.int (qz 1)], _, 0, 0)
      refine qr_if_ne 13 11 rfl rfl rfl (by decide) (fun _ => ?_) (fun h => absurd h (by decide))
      refine qr_aload_n 14 rfl rfl rfl ?_
      refine qr_get 17 rfl rfl rfl (by decide) rfl ?_
      refine qr_iload_n 18 rfl rfl rfl ?_
      refine qr_iload_n 19 rfl rfl rfl ?_
      refine qy_call 22 rfl rfl rfl ?_
      refine qr_start (d := d + 2) qv_e160 (Nat.le_of_ble_eq_true rfl) ?_
      show qr_W (qe L xs vb) (d + 2) qx_e160 _ (0, [(0, .ref 44), (1, .int (qz x0)), (2, .int (qz x1))], [], _, 0, 0)
      refine qr_aload_n 1 rfl rfl rfl ?_
      refine qr_iload_n 2 rfl rfl rfl ?_
      refine qy_call 5 rfl rfl rfl ?_
      refine qr_start (d := d + 1) qv_e45 (Nat.le_of_ble_eq_true rfl) ?_
      show qr_W (qe L xs vb) (d + 1) qx_e45 _ (0, [(0, .ref 44), (1, .int (qz x0))], [], _, 0, 0)
      refine qr_aload_n 1 rfl rfl rfl ?_
      refine qr_get 4 rfl rfl rfl (by decide) rfl ?_
      refine qr_iload_n 5 rfl rfl rfl ?_
      refine qr_iaload 6 rfl rfl (by omega) (by decide) rfl ?_
      refine qy_v 6 (qo_r45 (by omega)) ?_
      refine qr_bipush 8 rfl (by decide) rfl ?_
      refine qr_icmp_ne 15 11 rfl rfl rfl (by decide) (by decide) (fun h => absurd h (by decide)) (fun _ => ?_)
      refine qr_iconst 12 rfl rfl ?_
      refine qr_goto 16 rfl rfl ?_
      refine qr_retZ rfl rfl (by omega) (by decide) (by decide) ?_
      show qr_W (qe L xs vb) (d + 2) qx_e160 _ (5, [(0, .ref 44), (1, .int (qz x0)), (2, .int (qz x1))], [.int (qz 1)], _, 0, 0)
      refine qr_if_eq 11 8 rfl rfl rfl (by decide) (fun h => absurd h (by decide)) (fun _ => ?_)
      refine qr_bipush 10 rfl (by decide) rfl ?_
      refine qr_retI rfl rfl (by decide) (by decide) ?_
      show qr_W (qe L xs vb) (d + 3) qx_e159 _ (22, [(0, .ref 16), (1, .int (qz x0)), (2, .int (qz x1)), (3, .long (ql x2))], [.int (qz (-11))], _, 0, 0)
      refine qr_istore [(5, .int (qz (-11))), (0, .ref 16), (1, .int (qz x0)), (2, .int (qz x1)), (3, .long (ql x2))] 24 rfl (by decide) rfl rfl ?_
      refine qr_iload 26 rfl rfl rfl ?_
      refine qr_if_eq 32 29 rfl rfl rfl (by decide) (fun h => absurd h (by decide)) (fun _ => ?_)
      refine qr_iload 31 rfl rfl rfl ?_
      refine qr_retI rfl rfl (by decide) (by decide) ?_
      refine ⟨⟨_, rfl⟩, ⟨_, _, _, _, rfl⟩, ?_⟩
      refine qr_start (d := d + 3) qv_e264 (Nat.le_of_ble_eq_true rfl) ?_
      show qr_W (qe L xs vb) (d + 3) qx_e264 _ (0, [(0, .ref 86), (1, .int (qz x0)), (2, .int (qz x1)), (3, .long (ql x2))], [], _, 0, 0)
      refine qr_aload_n 1 rfl rfl rfl ?_
      refine qr_iload_n 2 rfl rfl rfl ?_
      refine qr_iload_n 3 rfl rfl rfl ?_
      refine qy_call 6 rfl rfl rfl ?_
      refine qr_start (d := d + 2) qv_e265 (Nat.le_of_ble_eq_true rfl) ?_
      show qr_W (qe L xs vb) (d + 2) qx_e265 _ (0, [(0, .ref 86), (1, .int (qz x0)), (2, .int (qz x1))], [], _, 0, 0)
      refine qr_iload_n 1 rfl rfl rfl ?_
      refine qy_call 4 rfl rfl rfl ?_
      refine qr_start (d := d + 1) qv_e178 (Nat.le_of_ble_eq_true rfl) ?_
      show qr_W (qe L xs vb) (d + 1) qx_e178 _ (0, [(0, .int (qz x0))], [], _, 0, 0)
      refine qr_iload_n 1 rfl rfl rfl ?_
      refine qr_i2l 2 rfl (by omega) rfl ?_
      refine qr_lconst 3 rfl rfl ?_
      refine qy_vl 0 rfl ?_
      refine qr_ldc2 5 6 rfl (by decide) rfl ?_
      refine qy_call 9 rfl rfl rfl ?_
      refine qr_start (d := d + 0) qv_e176 (Nat.le_of_ble_eq_true rfl) ?_
      show qr_W (qe L xs vb) (d + 0) qx_e176 _ (0, [(0, .long (ql x0)), (2, .long (ql 0)), (4, .long (ql 5))], [], _, 0, 0)
      refine qr_lload_n 1 rfl rfl rfl ?_
      refine qr_lload_n 2 rfl rfl rfl ?_
      refine qr_lc_lt 17 6 rfl rfl rfl rfl (by omega) (by decide) (fun h => False.elim (by omega)) (fun h6 => ?_)
      refine qr_lload_n 7 rfl rfl rfl ?_
      refine qr_lload 9 rfl rfl rfl ?_
      refine qr_lc_gt 17 13 rfl rfl rfl rfl (by omega) (by decide) (fun h => False.elim (by omega)) (fun h7 => ?_)
      refine qr_iconst 14 rfl rfl ?_
      refine qr_goto 18 rfl rfl ?_
      refine qr_retZ rfl rfl (by omega) (by decide) (by decide) ?_
      show qr_W (qe L xs vb) (d + 1) qx_e178 _ (9, [(0, .int (qz x0))], [.int (qz 1)], _, 0, 0)
      refine qr_retZ rfl rfl (by omega) (by decide) (by decide) ?_
      show qr_W (qe L xs vb) (d + 2) qx_e265 _ (4, [(0, .ref 86), (1, .int (qz x0)), (2, .int (qz x1))], [.int (qz 1)], _, 0, 0)
      refine qr_if_ne 9 7 rfl rfl rfl (by decide) (fun _ => ?_) (fun h => absurd h (by decide))
      as_aux_lemma =>
        refine qr_aload_n 10 rfl rfl rfl ?_
        refine qr_get 13 rfl rfl rfl (by decide) rfl ?_
        refine qr_iload_n 14 rfl rfl rfl ?_
        refine qr_iaload 15 rfl rfl (by omega) (by decide) rfl ?_
        refine qy_v (-1) (qo_r121 (by omega)) ?_
        refine qr_if_ge 21 18 rfl rfl rfl (by decide) (fun h => absurd h (by decide)) (fun _ => ?_)
        refine qr_bipush 20 rfl (by decide) rfl ?_
        refine qr_retI rfl rfl (by decide) (by decide) ?_
        show qr_W (qe L xs vb) (d + 3) qx_e264 _ (6, [(0, .ref 86), (1, .int (qz x0)), (2, .int (qz x1)), (3, .long (ql x2))], [.int (qz (-11))], _, 0, 0)
        refine qr_istore [(5, .int (qz (-11))), (0, .ref 86), (1, .int (qz x0)), (2, .int (qz x1)), (3, .long (ql x2))] 8 rfl (by decide) rfl rfl ?_
        refine qr_iload 10 rfl rfl rfl ?_
        refine qr_if_ne 37 13 rfl rfl rfl (by decide) (fun _ => ?_) (fun h => absurd h (by decide))
        refine qr_iload 39 rfl rfl rfl ?_
        refine qr_if_ne 46 42 rfl rfl rfl (by decide) (fun _ => ?_) (fun h => absurd h (by decide))
        refine qr_iload 48 rfl rfl rfl ?_
        refine qr_retI rfl rfl (by decide) (by decide) ?_
        exact rfl

set_option maxHeartbeats 8000000 in
set_option maxRecDepth 20000 in
/-- element on the fresh objects: both answer alike -/
theorem sx_element {L : Nat} {xs : Nat → Int} {vb : Bool} {d : Nat} {s g : Nat → Nat → Int} {x0 : Int} {x1 : Int} (hok : qo_ok s g) (rx0 : -2147483648 ≤ x0 ∧ x0 ≤ 2147483647) (rx1 : -2147483648 ≤ x1 ∧ x1 ≤ 2147483647) : qm_T (qe L xs vb) (d + 4) 163 [.ref 16, .int (qz x0), .int (qz x1)] (qw (qo_s s) (qo_r g) qo_k 82) (fun r w => (∃ y : Int, r = some (.long (ql y))) ∧ (∃ σ α κ ρ, w = qw σ α κ ρ) ∧ qm_T (qe L xs vb) (d + 4) 267 [.ref 86, .int (qz x0), .int (qz x1)] w (fun r' _ => r' = r)) := by
  refine qr_start (d := d + 3) qv_e163 (Nat.le_of_ble_eq_true rfl) ?_
  show qr_W (qe L xs vb) (d + 3) qx_e163 _ (0, [(0, .ref 16), (1, .int (qz x0)), (2, .int (qz x1))], [], _, 0, 0)
  refine qr_aload_n 1 rfl rfl rfl ?_
  refine qr_get 4 rfl rfl rfl (by decide) rfl ?_
  refine qr_iload_n 5 rfl rfl rfl ?_
  refine qy_call 8 rfl rfl rfl ?_
  refine qr_start (d := d + 2) qv_e44 (Nat.le_of_ble_eq_true rfl) ?_
  show qr_W (qe L xs vb) (d + 2) qx_e44 _ (0, [(0, .ref 44), (1, .int (qz x0))], [], _, 0, 0)
  refine qr_iload_n 1 rfl rfl rfl ?_
  refine qr_if_lt 14 4 rfl rfl rfl (by omega) (fun h1 => ?_) (fun h1 => ?_)
  · skip
    refine qr_iconst 15 rfl rfl ?_
    refine qr_retZ rfl rfl (by omega) (by decide) (by decide) ?_
    show qr_W (qe L xs vb) (d + 3) qx_e163 _ (8, [(0, .ref 16), (1, .int (qz x0)), (2, .int (qz x1))], [.int (qz 0)], _, 0, 0)
    refine qr_if_eq 23 11 rfl rfl rfl (by decide) (fun _ => ?_) (fun h => absurd h (by decide))
    refine qr_ldc2 (-9223372036854775808) 26 rfl (by decide) rfl ?_
    refine qr_retL rfl rfl (by decide) (by decide) ?_
    refine ⟨⟨_, rfl⟩, ⟨_, _, _, _, rfl⟩, ?_⟩
    refine qr_start (d := d + 3) qv_e267 (Nat.le_of_ble_eq_true rfl) ?_
    show qr_W (qe L xs vb) (d + 3) qx_e267 _ (0, [(0, .ref 86), (1, .int (qz x0)), (2, .int (qz x1))], [], _, 0, 0)
    refine qr_aload_n 1 rfl rfl rfl ?_
    refine qr_iload_n 2 rfl rfl rfl ?_
    refine qr_iload_n 3 rfl rfl rfl ?_
    refine qy_call 6 rfl rfl rfl ?_
    refine qr_start (d := d + 2) qv_e265 (Nat.le_of_ble_eq_true rfl) ?_
    show qr_W (qe L xs vb) (d + 2) qx_e265 _ (0, [(0, .ref 86), (1, .int (qz x0)), (2, .int (qz x1))], [], _, 0, 0)
    refine qr_iload_n 1 rfl rfl rfl ?_
    refine qy_call 4 rfl rfl rfl ?_
    refine qr_start (d := d + 1) qv_e178 (Nat.le_of_ble_eq_true rfl) ?_
    show qr_W (qe L xs vb) (d + 1) qx_e178 _ (0, [(0, .int (qz x0))], [], _, 0, 0)
    refine qr_iload_n 1 rfl rfl rfl ?_
    refine qr_i2l 2 rfl (by omega) rfl ?_
    refine qr_lconst 3 rfl rfl ?_
    refine qy_vl 0 rfl ?_
    refine qr_ldc2 5 6 rfl (by decide) rfl ?_
    refine qy_call 9 rfl rfl rfl ?_
    refine qr_start (d := d + 0) qv_e176 (Nat.le_of_ble_eq_true rfl) ?_
    show qr_W (qe L xs vb) (d + 0) qx_e176 _ (0, [(0, .long (ql x0)), (2, .long (ql 0)), (4, .long (ql 5))], [], _, 0, 0)
    refine qr_lload_n 1 rfl rfl rfl ?_
    refine qr_lload_n 2 rfl rfl rfl ?_
    refine qr_lc_lt 17 6 rfl rfl rfl rfl (by omega) (by decide) (fun h2 => ?_) (fun h => False.elim (by omega))
    refine qr_iconst 18 rfl rfl ?_
    refine qr_retZ rfl rfl (by omega) (by decide) (by decide) ?_
    show qr_W (qe L xs vb) (d + 1) qx_e178 _ (9, [(0, .int (qz x0))], [.int (qz 0)], _, 0, 0)
    refine qr_retZ rfl rfl (by omega) (by decide) (by decide) ?_
    show qr_W (qe L xs vb) (d + 2) qx_e265 _ (4, [(0, .ref 86), (1, .int (qz x0)), (2, .int (qz x1))], [.int (qz 0)], _, 0, 0)
    refine qr_if_ne 9 7 rfl rfl rfl (by decide) (fun h => absurd h (by decide)) (fun _ => ?_)
    refine qr_iconst 8 rfl rfl ?_
    refine qr_retI rfl rfl (by decide) (by decide) ?_
    show qr_W (qe L xs vb) (d + 3) qx_e267 _ (6, [(0, .ref 86), (1, .int (qz x0)), (2, .int (qz x1))], [.int (qz (-1))], _, 0, 0)
    refine qr_if_eq 15 9 rfl rfl rfl (by decide) (fun h => absurd h (by decide)) (fun _ => ?_)
    refine qr_ldc2 (-9223372036854775808) 12 rfl (by decide) rfl ?_
    refine qr_goto 26 rfl rfl ?_
    refine qr_retL rfl rfl (by decide) (by decide) ?_
    exact rfl
  · skip
    refine qr_iload_n 5 rfl rfl rfl ?_
    refine qr_bipush 7 rfl (by decide) rfl ?_
    refine qr_icmp_ge 14 10 rfl rfl rfl (by omega) (by decide) (fun h3 => ?_) (fun h3 => ?_)
    · skip
      refine qr_iconst 15 rfl rfl ?_
      refine qr_retZ rfl rfl (by omega) (by decide) (by decide) ?_
      show qr_W (qe L xs vb) (d + 3) qx_e163 _ (8, [(0, .ref 16), (1, .int (qz x0)), (2, .int (qz x1))], [.int (qz 0)], _, 0, 0)
      refine qr_if_eq 23 11 rfl rfl rfl (by decide) (fun _ => ?_) (fun h => absurd h (by decide))
      refine qr_ldc2 (-9223372036854775808) 26 rfl (by decide) rfl ?_
      refine qr_retL rfl rfl (by decide) (by decide) ?_
      refine ⟨⟨_, rfl⟩, ⟨_, _, _, _, rfl⟩, ?_⟩
      refine qr_start (d := d + 3) qv_e267 (Nat.le_of_ble_eq_true rfl) ?_
      show qr_W (qe L xs vb) (d + 3) qx_e267 _ (0, [(0, .ref 86), (1, .int (qz x0)), (2, .int (qz x1))], [], _, 0, 0)
      refine qr_aload_n 1 rfl rfl rfl ?_
      refine qr_iload_n 2 rfl rfl rfl ?_
      refine qr_iload_n 3 rfl rfl rfl ?_
      refine qy_call 6 rfl rfl rfl ?_
      refine qr_start (d := d + 2) qv_e265 (Nat.le_of_ble_eq_true rfl) ?_
      show qr_W (qe L xs vb) (d + 2) qx_e265 _ (0, [(0, .ref 86), (1, .int (qz x0)), (2, .int (qz x1))], [], _, 0, 0)
      refine qr_iload_n 1 rfl rfl rfl ?_
      refine qy_call 4 rfl rfl rfl ?_
      refine qr_start (d := d + 1) qv_e178 (Nat.le_of_ble_eq_true rfl) ?_
      show qr_W (qe L xs vb) (d + 1) qx_e178 _ (0, [(0, .int (qz x0))], [], _, 0, 0)
      refine qr_iload_n 1 rfl rfl rfl ?_
      refine qr_i2l 2 rfl (by omega) rfl ?_
      refine qr_lconst 3 rfl rfl ?_
      refine qy_vl 0 rfl ?_
      refine qr_ldc2 5 6 rfl (by decide) rfl ?_
      refine qy_call 9 rfl rfl rfl ?_
      refine qr_start (d := d + 0) qv_e176 (Nat.le_of_ble_eq_true rfl) ?_
      show qr_W (qe L xs vb) (d + 0) qx_e176 _ (0, [(0, .long (ql x0)), (2, .long (ql 0)), (4, .long (ql 5))], [], _, 0, 0)
      refine qr_lload_n 1 rfl rfl rfl ?_
      refine qr_lload_n 2 rfl rfl rfl ?_
      refine qr_lc_lt 17 6 rfl rfl rfl rfl (by omega) (by decide) (fun h => False.elim (by omega)) (fun h4 => ?_)
      refine qr_lload_n 7 rfl rfl rfl ?_
      refine qr_lload 9 rfl rfl rfl ?_
      refine qr_lc_gt 17 13 rfl rfl rfl rfl (by omega) (by decide) (fun h5 => ?_) (fun h => False.elim (by omega))
      refine qr_iconst 18 rfl rfl ?_
      refine qr_retZ rfl rfl (by omega) (by decide) (by decide) ?_
      show qr_W (qe L xs vb) (d + 1) qx_e178 _ (9, [(0, .int (qz x0))], [.int (qz 0)], _, 0, 0)
      refine qr_retZ rfl rfl (by omega) (by decide) (by decide) ?_
      show qr_W (qe L xs vb) (d + 2) qx_e265 _ (4, [(0, .ref 86), (1, .int (qz x0)), (2, .int (qz x1))], [.int (qz 0)], _, 0, 0)
      refine qr_if_ne 9 7 rfl rfl rfl (by decide) (fun h => absurd h (by decide)) (fun _ => ?_)
      refine qr_iconst 8 rfl rfl ?_
      refine qr_retI rfl rfl (by decide) (by decide) ?_
      show qr_W (qe L xs vb) (d + 3) qx_e267 _ (6, [(0, .ref 86), (1, .int (qz x0)), (2, .int (qz x1))], [.int (qz (-1))], _, 0, 0)
      refine qr_if_eq 15 9 rfl rfl rfl (by decide) (fun h => absurd h (by decide)) (fun _ => ?_)
      refine qr_ldc2 (-9223372036854775808) 12 rfl (by decide) rfl ?_
      refine qr_goto 26 rfl rfl ?_
      refine qr_retL rfl rfl (by decide) (by decide) ?_
      exact rfl
    · skip
      refine qr_iconst 11 rfl rfl ?_
      refine qr_goto 15 rfl rfl ?_
      refine qr_retZ rfl rfl (by omega) (by decide) (by decide) ?_
      show qr_W (qe L xs vb) (d + 3) qx_e163 _ (8, [(0, .ref 16), (1, .int (qz x0)), (2, .int (qz x1))], [.int (qz 1)], _, 0, 0)
      refine qr_if_eq 23 11 rfl rfl rfl (by decide) (fun h => absurd h (by decide)) (fun _ => ?_)
      refine qr_aload_n 12 rfl rfl rfl ?_
      refine qr_get 15 rfl rfl rfl (by decide) rfl ?_
      refine qr_iload_n 16 rfl rfl rfl ?_
      refine qr_iload_n 17 rfl rfl rfl ?_
      refine qy_call 20 rfl rfl rfl ?_
      refine qr_start (d := d + 2) qv_e160 (Nat.le_of_ble_eq_true rfl) ?_
      show qr_W (qe L xs vb) (d + 2) qx_e160 _ (0, [(0, .ref 44), (1, .int (qz x0)), (2, .int (qz x1))], [], _, 0, 0)
      refine qr_aload_n 1 rfl rfl rfl ?_
      refine qr_iload_n 2 rfl rfl rfl ?_
      refine qy_call 5 rfl rfl rfl ?_
      refine qr_start (d := d + 1) qv_e45 (Nat.le_of_ble_eq_true rfl) ?_
      show qr_W (qe L xs vb) (d + 1) qx_e45 _ (0, [(0, .ref 44), (1, .int (qz x0))], [], _, 0, 0)
      refine qr_aload_n 1 rfl rfl rfl ?_
      refine qr_get 4 rfl rfl rfl (by decide) rfl ?_
      refine qr_iload_n 5 rfl rfl rfl ?_
      refine qr_iaload 6 rfl rfl (by omega) (by decide) rfl ?_
      refine qy_v 6 (qo_r45 (by omega)) ?_
      refine qr_bipush 8 rfl (by decide) rfl ?_
      refine qr_icmp_ne 15 11 rfl rfl rfl (by decide) (by decide) (fun h => absurd h (by decide)) (fun _ => ?_)
      refine qr_iconst 12 rfl rfl ?_
      refine qr_goto 16 rfl rfl ?_
      refine qr_retZ rfl rfl (by omega) (by decide) (by decide) ?_
      show qr_W (qe L xs vb) (d + 2) qx_e160 _ (5, [(0, .ref 44), (1, .int (qz x0)), (2, .int (qz x1))], [.int (qz 1)], _, 0, 0)
      refine qr_if_eq 11 8 rfl rfl rfl (by decide) (fun h => absurd h (by decide)) (fun _ => ?_)
      refine qr_bipush 10 rfl (by decide) rfl ?_
      refine qr_retI rfl rfl (by decide) (by decide) ?_
      show qr_W (qe L xs vb) (d + 3) qx_e163 _ (20, [(0, .ref 16), (1, .int (qz x0)), (2, .int (qz x1))], [.int (qz (-11))], _, 0, 0)
      refine qr_if_eq 27 23 rfl rfl rfl (by decide) (fun h => absurd h (by decide)) (fun _ => ?_)
      refine qr_ldc2 (-9223372036854775808) 26 rfl (by decide) rfl ?_
      refine qr_retL rfl rfl (by decide) (by decide) ?_
      refine ⟨⟨_, rfl⟩, ⟨_, _, _, _, rfl⟩, ?_⟩
      refine qr_start (d := d + 3) qv_e267 (Nat.le_of_ble_eq_true rfl) ?_
      show qr_W (qe L xs vb) (d + 3) qx_e267 _ (0, [(0, .ref 86), (1, .int (qz x0)), (2, .int (qz x1))], [], _, 0, 0)
      refine qr_aload_n 1 rfl rfl rfl ?_
      refine qr_iload_n 2 rfl rfl rfl ?_
      refine qr_iload_n 3 rfl rfl rfl ?_
      refine qy_call 6 rfl rfl rfl ?_
      refine qr_start (d := d + 2) qv_e265 (Nat.le_of_ble_eq_true rfl) ?_
      show qr_W (qe L xs vb) (d + 2) qx_e265 _ (0, [(0, .ref 86), (1, .int (qz x0)), (2, .int (qz x1))], [], _, 0, 0)
      refine qr_iload_n 1 rfl rfl rfl ?_
      refine qy_call 4 rfl rfl rfl ?_
      refine qr_start (d := d + 1) qv_e178 (Nat.le_of_ble_eq_true rfl) ?_
      show qr_W (qe L xs vb) (d + 1) qx_e178 _ (0, [(0, .int (qz x0))], [], _, 0, 0)
      refine qr_iload_n 1 rfl rfl rfl ?_
      refine qr_i2l 2 rfl (by omega) rfl ?_
      refine qr_lconst 3 rfl rfl ?_
      refine qy_vl 0 rfl ?_
      refine qr_ldc2 5 6 rfl (by decide) rfl ?_
      refine qy_call 9 rfl rfl rfl ?_
      refine qr_start (d := d + 0) qv_e176 (Nat.le_of_ble_eq_true rfl) ?_
      show qr_W (qe L xs vb) (d + 0) qx_e176 _ (0, [(0, .long (ql x0)), (2, .long (ql 0)), (4, .long (ql 5))], [], _, 0, 0)
      refine qr_lload_n 1 rfl rfl rfl ?_
      refine qr_lload_n 2 rfl rfl rfl ?_
      refine qr_lc_lt 17 6 rfl rfl rfl rfl (by omega) (by decide) (fun h => False.elim (by omega)) (fun h6 => ?_)
      refine qr_lload_n 7 rfl rfl rfl ?_
      refine qr_lload 9 rfl rfl rfl ?_
      refine qr_lc_gt 17 13 rfl rfl rfl rfl (by omega) (by decide) (fun h => False.elim (by omega)) (fun h7 => ?_)
      refine qr_iconst 14 rfl rfl ?_
      refine qr_goto 18 rfl rfl ?_
      refine qr_retZ rfl rfl (by omega) (by decide) (by decide) ?_
      show qr_W (qe L xs vb) (d + 1) qx_e178 _ (9, [(0, .int (qz x0))], [.int (qz 1)], _, 0, 0)
      refine qr_retZ rfl rfl (by omega) (by decide) (by decide) ?_
      show qr_W (qe L xs vb) (d + 2) qx_e265 _ (4, [(0, .ref 86), (1, .int (qz x0)), (2, .int (qz x1))], [.int (qz 1)], _, 0, 0)
      refine qr_if_ne 9 7 rfl rfl rfl (by decide) (fun _ => ?_) (fun h => absurd h (by decide))
      refine qr_aload_n 10 rfl rfl rfl ?_
      refine qr_get 13 rfl rfl rfl (by decide) rfl ?_
      as_aux_lemma =>
        refine qr_iload_n 14 rfl rfl rfl ?_
        refine qr_iaload 15 rfl rfl (by omega) (by decide) rfl ?_
        refine qy_v (-1) (qo_r121 (by omega)) ?_
        refine qr_if_ge 21 18 rfl rfl rfl (by decide) (fun h => absurd h (by decide)) (fun _ => ?_)
        refine qr_bipush 20 rfl (by decide) rfl ?_
        refine qr_retI rfl rfl (by decide) (by decide) ?_
        show qr_W (qe L xs vb) (d + 3) qx_e267 _ (6, [(0, .ref 86), (1, .int (qz x0)), (2, .int (qz x1))], [.int (qz (-11))], _, 0, 0)
        refine qr_if_eq 15 9 rfl rfl rfl (by decide) (fun h => absurd h (by decide)) (fun _ => ?_)
        refine qr_ldc2 (-9223372036854775808) 12 rfl (by decide) rfl ?_
        refine qr_goto 26 rfl rfl ?_
        refine qr_retL rfl rfl (by decide) (by decide) ?_
        exact rfl

set_option maxHeartbeats 8000000 in
set_option maxRecDepth 20000 in
/-- shift on the fresh objects: both answer alike -/
theorem sx_shift {L : Nat} {xs : Nat → Int} {vb : Bool} {d : Nat} {s g : Nat → Nat → Int} {x0 : Int} {x1 : Int} {x2 : Int} {x3 : Int} {x4 : Int} (hok : qo_ok s g) (rx0 : -2147483648 ≤ x0 ∧ x0 ≤ 2147483647) (rx1 : -2147483648 ≤ x1 ∧ x1 ≤ 2147483647) (rx2 : -2147483648 ≤ x2 ∧ x2 ≤ 2147483647) (rx3 : -2147483648 ≤ x3 ∧ x3 ≤ 2147483647) (rx4 : -2147483648 ≤ x4 ∧ x4 ≤ 2147483647) : qm_T (qe L xs vb) (d + 3) 164 [.ref 16, .int (qz x0), .int (qz x1), .int (qz x2), .int (qz x3), .int (qz x4)] (qw (qo_s s) (qo_r g) qo_k 82) (fun r w => (∃ y : Int, r = some (.int (qz y))) ∧ (∃ σ α κ ρ, w = qw σ α κ ρ) ∧ qm_T (qe L xs vb) (d + 3) 268 [.ref 86, .int (qz x0), .int (qz x1), .int (qz x2), .int (qz x3), .int (qz x4)] w (fun r' _ => r' = r)) := by
  refine qr_start (d := d + 2) qv_e164 (Nat.le_of_ble_eq_true rfl) ?_
  show qr_W (qe L xs vb) (d + 2) qx_e164 _ (0, [(0, .ref 16), (1, .int (qz x0)), (2, .int (qz x1)), (3, .int (qz x2)), (4, .int (qz x3)), (5, .int (qz x4))], [], _, 0, 0)
  refine qr_aload_n 1 rfl rfl rfl ?_
  refine qr_get 4 rfl rfl rfl (by decide) rfl ?_
  refine qr_iload_n 5 rfl rfl rfl ?_
  refine qy_call 8 rfl rfl rfl ?_
  refine qr_start (d := d + 1) qv_e44 (Nat.le_of_ble_eq_true rfl) ?_
  show qr_W (qe L xs vb) (d + 1) qx_e44 _ (0, [(0, .ref 44), (1, .int (qz x0))], [], _, 0, 0)
  refine qr_iload_n 1 rfl rfl rfl ?_
  refine qr_if_lt 14 4 rfl rfl rfl (by omega) (fun h1 => ?_) (fun h1 => ?_)
  · skip
    refine qr_iconst 15 rfl rfl ?_
    refine qr_retZ rfl rfl (by omega) (by decide) (by decide) ?_
    show qr_W (qe L xs vb) (d + 2) qx_e164 _ (8, [(0, .ref 16), (1, .int (qz x0)), (2, .int (qz x1)), (3, .int (qz x2)), (4, .int (qz x3)), (5, .int (qz x4))], [.int (qz 0)], _, 0, 0)
    refine qr_if_eq 22 11 rfl rfl rfl (by decide) (fun _ => ?_) (fun h => absurd h (by decide))
    refine qr_iconst 23 rfl rfl ?_
    refine qr_retI rfl rfl (by decide) (by decide) ?_
    refine ⟨⟨_, rfl⟩, ⟨_, _, _, _, rfl⟩, ?_⟩
    refine qr_start (d := d + 2) qv_e268 (Nat.le_of_ble_eq_true rfl) ?_
    show qr_W (qe L xs vb) (d + 2) qx_e268 _ (0, [(0, .ref 86), (1, .int (qz x0)), (2, .int (qz x1)), (3, .int (qz x2)), (4, .int (qz x3)), (5, .int (qz x4))], [], _, 0, 0)
    refine qr_iload_n 1 rfl rfl rfl ?_
    refine qy_call 4 rfl rfl rfl ?_
    refine qr_start (d := d + 1) qv_e178 (Nat.le_of_ble_eq_true rfl) ?_
    show qr_W (qe L xs vb) (d + 1) qx_e178 _ (0, [(0, .int (qz x0))], [], _, 0, 0)
    refine qr_iload_n 1 rfl rfl rfl ?_
    refine qr_i2l 2 rfl (by omega) rfl ?_
    refine qr_lconst 3 rfl rfl ?_
    refine qy_vl 0 rfl ?_
    refine qr_ldc2 5 6 rfl (by decide) rfl ?_
    refine qy_call 9 rfl rfl rfl ?_
    refine qr_start (d := d + 0) qv_e176 (Nat.le_of_ble_eq_true rfl) ?_
    show qr_W (qe L xs vb) (d + 0) qx_e176 _ (0, [(0, .long (ql x0)), (2, .long (ql 0)), (4, .long (ql 5))], [], _, 0, 0)
    refine qr_lload_n 1 rfl rfl rfl ?_
    refine qr_lload_n 2 rfl rfl rfl ?_
    refine qr_lc_lt 17 6 rfl rfl rfl rfl (by omega) (by decide) (fun h2 => ?_) (fun h => False.elim (by omega))
    refine qr_iconst 18 rfl rfl ?_
    refine qr_retZ rfl rfl (by omega) (by decide) (by decide) ?_
    show qr_W (qe L xs vb) (d + 1) qx_e178 _ (9, [(0, .int (qz x0))], [.int (qz 0)], _, 0, 0)
    refine qr_retZ rfl rfl (by omega) (by decide) (by decide) ?_
    show qr_W (qe L xs vb) (d + 2) qx_e268 _ (4, [(0, .ref 86), (1, .int (qz x0)), (2, .int (qz x1)), (3, .int (qz x2)), (4, .int (qz x3)), (5, .int (qz x4))], [.int (qz 0)], _, 0, 0)
    refine qr_if_eq 14 7 rfl rfl rfl (by decide) (fun _ => ?_) (fun h => absurd h (by decide))
    refine qr_iconst 15 rfl rfl ?_
    refine qr_retI rfl rfl (by decide) (by decide) ?_
    exact rfl
  · skip
    refine qr_iload_n 5 rfl rfl rfl ?_
    refine qr_bipush 7 rfl (by decide) rfl ?_
    refine qr_icmp_ge 14 10 rfl rfl rfl (by omega) (by decide) (fun h3 => ?_) (fun h3 => ?_)
    · skip
      refine qr_iconst 15 rfl rfl ?_
      refine qr_retZ rfl rfl (by omega) (by decide) (by decide) ?_
      show qr_W (qe L xs vb) (d + 2) qx_e164 _ (8, [(0, .ref 16), (1, .int (qz x0)), (2, .int (qz x1)), (3, .int (qz x2)), (4, .int (qz x3)), (5, .int (qz x4))], [.int (qz 0)], _, 0, 0)
      refine qr_if_eq 22 11 rfl rfl rfl (by decide) (fun _ => ?_) (fun h => absurd h (by decide))
      refine qr_iconst 23 rfl rfl ?_
      refine qr_retI rfl rfl (by decide) (by decide) ?_
      refine ⟨⟨_, rfl⟩, ⟨_, _, _, _, rfl⟩, ?_⟩
      refine qr_start (d := d + 2) qv_e268 (Nat.le_of_ble_eq_true rfl) ?_
      show qr_W (qe L xs vb) (d + 2) qx_e268 _ (0, [(0, .ref 86), (1, .int (qz x0)), (2, .int (qz x1)), (3, .int (qz x2)), (4, .int (qz x3)), (5, .int (qz x4))], [], _, 0, 0)
      refine qr_iload_n 1 rfl rfl rfl ?_
      refine qy_call 4 rfl rfl rfl ?_
      refine qr_start (d := d + 1) qv_e178 (Nat.le_of_ble_eq_true rfl) ?_
      show qr_W (qe L xs vb) (d + 1) qx_e178 _ (0, [(0, .int (qz x0))], [], _, 0, 0)
      refine qr_iload_n 1 rfl rfl rfl ?_
      refine qr_i2l 2 rfl (by omega) rfl ?_
      refine qr_lconst 3 rfl rfl ?_
      refine qy_vl 0 rfl ?_
      refine qr_ldc2 5 6 rfl (by decide) rfl ?_
      refine qy_call 9 rfl rfl rfl ?_
      refine qr_start (d := d + 0) qv_e176 (Nat.le_of_ble_eq_true rfl) ?_
      show qr_W (qe L xs vb) (d + 0) qx_e176 _ (0, [(0, .long (ql x0)), (2, .long (ql 0)), (4, .long (ql 5))], [], _, 0, 0)
      refine qr_lload_n 1 rfl rfl rfl ?_
      refine qr_lload_n 2 rfl rfl rfl ?_
      refine qr_lc_lt 17 6 rfl rfl rfl rfl (by omega) (by decide) (fun h => False.elim (by omega)) (fun h4 => ?_)
      refine qr_lload_n 7 rfl rfl rfl ?_
      refine qr_lload 9 rfl rfl rfl ?_
      refine qr_lc_gt 17 13 rfl rfl rfl rfl (by omega) (by decide) (fun h5 => ?_) (fun h => False.elim (by omega))
      refine qr_iconst 18 rfl rfl ?_
      refine qr_retZ rfl rfl (by omega) (by decide) (by decide) ?_
      show qr_W (qe L xs vb) (d + 1) qx_e178 _ (9, [(0, .int (qz x0))], [.int (qz 0)], _, 0, 0)
      refine qr_retZ rfl rfl (by omega) (by decide) (by decide) ?_
      show qr_W (qe L xs vb) (d + 2) qx_e268 _ (4, [(0, .ref 86), (1, .int (qz x0)), (2, .int (qz x1)), (3, .int (qz x2)), (4, .int (qz x3)), (5, .int (qz x4))], [.int (qz 0)], _, 0, 0)
      refine qr_if_eq 14 7 rfl rfl rfl (by decide) (fun _ => ?_) (fun h => absurd h (by decide))
      refine qr_iconst 15 rfl rfl ?_
      refine qr_retI rfl rfl (by decide) (by decide) ?_
      exact rfl
    · skip
      refine qr_iconst 11 rfl rfl ?_
      refine qr_goto 15 rfl rfl ?_
      refine qr_retZ rfl rfl (by omega) (by decide) (by decide) ?_
      show qr_W (qe L xs vb) (d + 2) qx_e164 _ (8, [(0, .ref 16), (1, .int (qz x0)), (2, .int (qz x1)), (3, .int (qz x2)), (4, .int (qz x3)), (5, .int (qz x4))], [.int (qz 1)], _, 0, 0)
      refine qr_if_eq 22 11 rfl rfl rfl (by decide) (fun h => absurd h (by decide)) (fun _ => ?_)
      refine qr_aload_n 12 rfl rfl rfl ?_
      refine qr_get 15 rfl rfl rfl (by decide) rfl ?_
      refine qr_iload_n 16 rfl rfl rfl ?_
      refine qy_call 19 rfl rfl rfl ?_
      refine qr_start (d := d + 1) qv_e44 (Nat.le_of_ble_eq_true rfl) ?_
      show qr_W (qe L xs vb) (d + 1) qx_e44 _ (0, [(0, .ref 44), (1, .int (qz x2))], [], _, 0, 0)
      refine qr_iload_n 1 rfl rfl rfl ?_
      refine qr_if_lt 14 4 rfl rfl rfl (by omega) (fun h6 => ?_) (fun h6 => ?_)
      · skip
        refine qr_iconst 15 rfl rfl ?_
        refine qr_retZ rfl rfl (by omega) (by decide) (by decide) ?_
        show qr_W (qe L xs vb) (d + 2) qx_e164 _ (19, [(0, .ref 16), (1, .int (qz x0)), (2, .int (qz x1)), (3, .int (qz x2)), (4, .int (qz x3)), (5, .int (qz x4))], [.int (qz 0)], _, 0, 0)
        refine qr_if_ne 24 22 rfl rfl rfl (by decide) (fun h => absurd h (by decide)) (fun _ => ?_)
        refine qr_iconst 23 rfl rfl ?_
        refine qr_retI rfl rfl (by decide) (by decide) ?_
        refine ⟨⟨_, rfl⟩, ⟨_, _, _, _, rfl⟩, ?_⟩
        refine qr_start (d := d + 2) qv_e268 (Nat.le_of_ble_eq_true rfl) ?_
        show qr_W (qe L xs vb) (d + 2) qx_e268 _ (0, [(0, .ref 86), (1, .int (qz x0)), (2, .int (qz x1)), (3, .int (qz x2)), (4, .int (qz x3)), (5, .int (qz x4))], [], _, 0, 0)
        refine qr_iload_n 1 rfl rfl rfl ?_
        refine qy_call 4 rfl rfl rfl ?_
        refine qr_start (d := d + 1) qv_e178 (Nat.le_of_ble_eq_true rfl) ?_
        show qr_W (qe L xs vb) (d + 1) qx_e178 _ (0, [(0, .int (qz x0))], [], _, 0, 0)
        refine qr_iload_n 1 rfl rfl rfl ?_
        refine qr_i2l 2 rfl (by omega) rfl ?_
        refine qr_lconst 3 rfl rfl ?_
        refine qy_vl 0 rfl ?_
        refine qr_ldc2 5 6 rfl (by decide) rfl ?_
        refine qy_call 9 rfl rfl rfl ?_
        refine qr_start (d := d + 0) qv_e176 (Nat.le_of_ble_eq_true rfl) ?_
        show qr_W (qe L xs vb) (d + 0) qx_e176 _ (0, [(0, .long (ql x0)), (2, .long (ql 0)), (4, .long (ql 5))], [], _, 0, 0)
        refine qr_lload_n 1 rfl rfl rfl ?_
        refine qr_lload_n 2 rfl rfl rfl ?_
        refine qr_lc_lt 17 6 rfl rfl rfl rfl (by omega) (by decide) (fun h => False.elim (by omega)) (fun h7 => ?_)
        refine qr_lload_n 7 rfl rfl rfl ?_
        refine qr_lload 9 rfl rfl rfl ?_
        refine qr_lc_gt 17 13 rfl rfl rfl rfl (by omega) (by decide) (fun h => False.elim (by omega)) (fun h8 => ?_)
        refine qr_iconst 14 rfl rfl ?_
        refine qr_goto 18 rfl rfl ?_
        refine qr_retZ rfl rfl (by omega) (by decide) (by decide) ?_
        show qr_W (qe L xs vb) (d + 1) qx_e178 _ (9, [(0, .int (qz x0))], [.int (qz 1)], _, 0, 0)
        refine qr_retZ rfl rfl (by omega) (by decide) (by decide) ?_
        show qr_W (qe L xs vb) (d + 2) qx_e268 _ (4, [(0, .ref 86), (1, .int (qz x0)), (2, .int (qz x1)), (3, .int (qz x2)), (4, .int (qz x3)), (5, .int (qz x4))], [.int (qz 1)], _, 0, 0)
        refine qr_if_eq 14 7 rfl rfl rfl (by decide) (fun h => absurd h (by decide)) (fun _ => ?_)
        refine qr_iload_n 8 rfl rfl rfl ?_
        refine qy_call 11 rfl rfl rfl ?_
        refine qr_start (d := d + 1) qv_e178 (Nat.le_of_ble_eq_true rfl) ?_
        show qr_W (qe L xs vb) (d + 1) qx_e178 _ (0, [(0, .int (qz x2))], [], _, 0, 0)
        refine qr_iload_n 1 rfl rfl rfl ?_
        refine qr_i2l 2 rfl (by omega) rfl ?_
        refine qr_lconst 3 rfl rfl ?_
        refine qy_vl 0 rfl ?_
        refine qr_ldc2 5 6 rfl (by decide) rfl ?_
        refine qy_call 9 rfl rfl rfl ?_
        refine qr_start (d := d + 0) qv_e176 (Nat.le_of_ble_eq_true rfl) ?_
        show qr_W (qe L xs vb) (d + 0) qx_e176 _ (0, [(0, .long (ql x2)), (2, .long (ql 0)), (4, .long (ql 5))], [], _, 0, 0)
        refine qr_lload_n 1 rfl rfl rfl ?_
        refine qr_lload_n 2 rfl rfl rfl ?_
        refine qr_lc_lt 17 6 rfl rfl rfl rfl (by omega) (by decide) (fun h9 => ?_) (fun h => False.elim (by omega))
        refine qr_iconst 18 rfl rfl ?_
        refine qr_retZ rfl rfl (by omega) (by decide) (by decide) ?_
        show qr_W (qe L xs vb) (d + 1) qx_e178 _ (9, [(0, .int (qz x2))], [.int (qz 0)], _, 0, 0)
        refine qr_retZ rfl rfl (by omega) (by decide) (by decide) ?_
        show qr_W (qe L xs vb) (d + 2) qx_e268 _ (11, [(0, .ref 86), (1, .int (qz x0)), (2, .int (qz x1)), (3, .int (qz x2)), (4, .int (qz x3)), (5, .int (qz x4))], [.int (qz 0)], _, 0, 0)
        refine qr_if_ne 16 14 rfl rfl rfl (by decide) (fun h => absurd h (by decide)) (fun _ => ?_)
        refine qr_iconst 15 rfl rfl ?_
        refine qr_retI rfl rfl (by decide) (by decide) ?_
        exact rfl
      · skip
        refine qr_iload_n 5 rfl rfl rfl ?_
        refine qr_bipush 7 rfl (by decide) rfl ?_
        refine qr_icmp_ge 14 10 rfl rfl rfl (by omega) (by decide) (fun h10 => ?_) (fun h10 => ?_)
        · skip
          refine qr_iconst 15 rfl rfl ?_
          refine qr_retZ rfl rfl (by omega) (by decide) (by decide) ?_
          show qr_W (qe L xs vb) (d + 2) qx_e164 _ (19, [(0, .ref 16), (1, .int (qz x0)), (2, .int (qz x1)), (3, .int (qz x2)), (4, .int (qz x3)), (5, .int (qz x4))], [.int (qz 0)], _, 0, 0)
          refine qr_if_ne 24 22 rfl rfl rfl (by decide) (fun h => absurd h (by decide)) (fun _ => ?_)
          refine qr_iconst 23 rfl rfl ?_
          refine qr_retI rfl rfl (by decide) (by decide) ?_
          refine ⟨⟨_, rfl⟩, ⟨_, _, _, _, rfl⟩, ?_⟩
          refine qr_start (d := d + 2) qv_e268 (Nat.le_of_ble_eq_true rfl) ?_
          show qr_W (qe L xs vb) (d + 2) qx_e268 _ (0, [(0, .ref 86), (1, .int (qz x0)), (2, .int (qz x1)), (3, .int (qz x2)), (4, .int (qz x3)), (5, .int (qz x4))], [], _, 0, 0)
          refine qr_iload_n 1 rfl rfl rfl ?_
          refine qy_call 4 rfl rfl rfl ?_
          refine qr_start (d := d + 1) qv_e178 (Nat.le_of_ble_eq_true rfl) ?_
          show qr_W (qe L xs vb) (d + 1) qx_e178 _ (0, [(0, .int (qz x0))], [], _, 0, 0)
          refine qr_iload_n 1 rfl rfl rfl ?_
          refine qr_i2l 2 rfl (by omega) rfl ?_
          refine qr_lconst 3 rfl rfl ?_
          refine qy_vl 0 rfl ?_
          refine qr_ldc2 5 6 rfl (by decide) rfl ?_
          refine qy_call 9 rfl rfl rfl ?_
          refine qr_start (d := d + 0) qv_e176 (Nat.le_of_ble_eq_true rfl) ?_
          show qr_W (qe L xs vb) (d + 0) qx_e176 _ (0, [(0, .long (ql x0)), (2, .long (ql 0)), (4, .long (ql 5))], [], _, 0, 0)
          refine qr_lload_n 1 rfl rfl rfl ?_
          refine qr_lload_n 2 rfl rfl rfl ?_
          refine qr_lc_lt 17 6 rfl rfl rfl rfl (by omega) (by decide) (fun h => False.elim (by omega)) (fun h11 => ?_)
          refine qr_lload_n 7 rfl rfl rfl ?_
          refine qr_lload 9 rfl rfl rfl ?_
          refine qr_lc_gt 17 13 rfl rfl rfl rfl (by omega) (by decide) (fun h => False.elim (by omega)) (fun h12 => ?_)
          refine qr_iconst 14 rfl rfl ?_
          refine qr_goto 18 rfl rfl ?_
          refine qr_retZ rfl rfl (by omega) (by decide) (by decide) ?_
          show qr_W (qe L xs vb) (d + 1) qx_e178 _ (9, [(0, .int (qz x0))], [.int (qz 1)], _, 0, 0)
          refine qr_retZ rfl rfl (by omega) (by decide) (by decide) ?_
          show qr_W (qe L xs vb) (d + 2) qx_e268 _ (4, [(0, .ref 86), (1, .int (qz x0)), (2, .int (qz x1)), (3, .int (qz x2)), (4, .int (qz x3)), (5, .int (qz x4))], [.int (qz 1)], _, 0, 0)
          refine qr_if_eq 14 7 rfl rfl rfl (by decide) (fun h => absurd h (by decide)) (fun _ => ?_)
          refine qr_iload_n 8 rfl rfl rfl ?_
          refine qy_call 11 rfl rfl rfl ?_
          refine qr_start (d := d + 1) qv_e178 (Nat.le_of_ble_eq_true rfl) ?_
          show qr_W (qe L xs vb) (d + 1) qx_e178 _ (0, [(0, .int (qz x2))], [], _, 0, 0)
          refine qr_iload_n 1 rfl rfl rfl ?_
          refine qr_i2l 2 rfl (by omega) rfl ?_
          refine qr_lconst 3 rfl rfl ?_
          refine qy_vl 0 rfl ?_
          refine qr_ldc2 5 6 rfl (by decide) rfl ?_
          refine qy_call 9 rfl rfl rfl ?_
          refine qr_start (d := d + 0) qv_e176 (Nat.le_of_ble_eq_true rfl) ?_
          show qr_W (qe L xs vb) (d + 0) qx_e176 _ (0, [(0, .long (ql x2)), (2, .long (ql 0)), (4, .long (ql 5))], [], _, 0, 0)
          refine qr_lload_n 1 rfl rfl rfl ?_
          refine qr_lload_n 2 rfl rfl rfl ?_
          refine qr_lc_lt 17 6 rfl rfl rfl rfl (by omega) (by decide) (fun h => False.elim (by omega)) (fun h13 => ?_)
          refine qr_lload_n 7 rfl rfl rfl ?_
          refine qr_lload 9 rfl rfl rfl ?_
          refine qr_lc_gt 17 13 rfl rfl rfl rfl (by omega) (by decide) (fun h14 => ?_) (fun h => False.elim (by omega))
          refine qr_iconst 18 rfl rfl ?_
          refine qr_retZ rfl rfl (by omega) (by decide) (by decide) ?_
          show qr_W (qe L xs vb) (d + 1) qx_e178 _ (9, [(0, .int (qz x2))], [.int (qz 0)], _, 0, 0)
          as_aux_lemma =>
            refine qr_retZ rfl rfl (by omega) (by decide) (by decide) ?_
            show qr_W (qe L xs vb) (d + 2) qx_e268 _ (11, [(0, .ref 86), (1, .int (qz x0)), (2, .int (qz x1)), (3, .int (qz x2)), (4, .int (qz x3)), (5, .int (qz x4))], [.int (qz 0)], _, 0, 0)
            refine qr_if_ne 16 14 rfl rfl rfl (by decide) (fun h => absurd h (by decide)) (fun _ => ?_)
            refine qr_iconst 15 rfl rfl ?_
            refine qr_retI rfl rfl (by decide) (by decide) ?_
            exact rfl
        · skip
          refine qr_iconst 11 rfl rfl ?_
          refine qr_goto 15 rfl rfl ?_
          refine qr_retZ rfl rfl (by omega) (by decide) (by decide) ?_
          show qr_W (qe L xs vb) (d + 2) qx_e164 _ (19, [(0, .ref 16), (1, .int (qz x0)), (2, .int (qz x1)), (3, .int (qz x2)), (4, .int (qz x3)), (5, .int (qz x4))], [.int (qz 1)], _, 0, 0)
          refine qr_if_ne 24 22 rfl rfl rfl (by decide) (fun _ => ?_) (fun h => absurd h (by decide))
          refine qr_aload_n 25 rfl rfl rfl ?_
          refine qr_get 28 rfl rfl rfl (by decide) rfl ?_
          refine qr_iload_n 29 rfl rfl rfl ?_
          refine qy_call 32 rfl rfl rfl ?_
          refine qr_start (d := d + 1) qv_e45 (Nat.le_of_ble_eq_true rfl) ?_
          show qr_W (qe L xs vb) (d + 1) qx_e45 _ (0, [(0, .ref 44), (1, .int (qz x0))], [], _, 0, 0)
          refine qr_aload_n 1 rfl rfl rfl ?_
          refine qr_get 4 rfl rfl rfl (by decide) rfl ?_
          refine qr_iload_n 5 rfl rfl rfl ?_
          refine qr_iaload 6 rfl rfl (by omega) (by decide) rfl ?_
          refine qy_v 6 (qo_r45 (by omega)) ?_
          refine qr_bipush 8 rfl (by decide) rfl ?_
          refine qr_icmp_ne 15 11 rfl rfl rfl (by decide) (by decide) (fun h => absurd h (by decide)) (fun _ => ?_)
          refine qr_iconst 12 rfl rfl ?_
          refine qr_goto 16 rfl rfl ?_
          refine qr_retZ rfl rfl (by omega) (by decide) (by decide) ?_
          show qr_W (qe L xs vb) (d + 2) qx_e164 _ (32, [(0, .ref 16), (1, .int (qz x0)), (2, .int (qz x1)), (3, .int (qz x2)), (4, .int (qz x3)), (5, .int (qz x4))], [.int (qz 1)], _, 0, 0)
          refine qr_if_ne 46 35 rfl rfl rfl (by decide) (fun _ => ?_) (fun h => absurd h (by decide))
          refine qr_bipush 48 rfl (by decide) rfl ?_
          refine qr_retI rfl rfl (by decide) (by decide) ?_
          refine ⟨⟨_, rfl⟩, ⟨_, _, _, _, rfl⟩, ?_⟩
          refine qr_start (d := d + 2) qv_e268 (Nat.le_of_ble_eq_true rfl) ?_
          show qr_W (qe L xs vb) (d + 2) qx_e268 _ (0, [(0, .ref 86), (1, .int (qz x0)), (2, .int (qz x1)), (3, .int (qz x2)), (4, .int (qz x3)), (5, .int (qz x4))], [], _, 0, 0)
          refine qr_iload_n 1 rfl rfl rfl ?_
          refine qy_call 4 rfl rfl rfl ?_
          refine qr_start (d := d + 1) qv_e178 (Nat.le_of_ble_eq_true rfl) ?_
          show qr_W (qe L xs vb) (d + 1) qx_e178 _ (0, [(0, .int (qz x0))], [], _, 0, 0)
          refine qr_iload_n 1 rfl rfl rfl ?_
          refine qr_i2l 2 rfl (by omega) rfl ?_
          refine qr_lconst 3 rfl rfl ?_
          refine qy_vl 0 rfl ?_
          refine qr_ldc2 5 6 rfl (by decide) rfl ?_
          refine qy_call 9 rfl rfl rfl ?_
          refine qr_start (d := d + 0) qv_e176 (Nat.le_of_ble_eq_true rfl) ?_
          show qr_W (qe L xs vb) (d + 0) qx_e176 _ (0, [(0, .long (ql x0)), (2, .long (ql 0)), (4, .long (ql 5))], [], _, 0, 0)
          refine qr_lload_n 1 rfl rfl rfl ?_
          refine qr_lload_n 2 rfl rfl rfl ?_
          refine qr_lc_lt 17 6 rfl rfl rfl rfl (by omega) (by decide) (fun h => False.elim (by omega)) (fun h15 => ?_)
          refine qr_lload_n 7 rfl rfl rfl ?_
          refine qr_lload 9 rfl rfl rfl ?_
          refine qr_lc_gt 17 13 rfl rfl rfl rfl (by omega) (by decide) (fun h => False.elim (by omega)) (fun h16 => ?_)
          refine qr_iconst 14 rfl rfl ?_
          refine qr_goto 18 rfl rfl ?_
          refine qr_retZ rfl rfl (by omega) (by decide) (by decide) ?_
          show qr_W (qe L xs vb) (d + 1) qx_e178 _ (9, [(0, .int (qz x0))], [.int (qz 1)], _, 0, 0)
          refine qr_retZ rfl rfl (by omega) (by decide) (by decide) ?_
          show qr_W (qe L xs vb) (d + 2) qx_e268 _ (4, [(0, .ref 86), (1, .int (qz x0)), (2, .int (qz x1)), (3, .int (qz x2)), (4, .int (qz x3)), (5, .int (qz x4))], [.int (qz 1)], _, 0, 0)
          refine qr_if_eq 14 7 rfl rfl rfl (by decide) (fun h => absurd h (by decide)) (fun _ => ?_)
          as_aux_lemma =>
            refine qr_iload_n 8 rfl rfl rfl ?_
            refine qy_call 11 rfl rfl rfl ?_
            refine qr_start (d := d + 1) qv_e178 (Nat.le_of_ble_eq_true rfl) ?_
            show qr_W (qe L xs vb) (d + 1) qx_e178 _ (0, [(0, .int (qz x2))], [], _, 0, 0)
            refine qr_iload_n 1 rfl rfl rfl ?_
            refine qr_i2l 2 rfl (by omega) rfl ?_
            refine qr_lconst 3 rfl rfl ?_
            refine qy_vl 0 rfl ?_
            refine qr_ldc2 5 6 rfl (by decide) rfl ?_
            refine qy_call 9 rfl rfl rfl ?_
            refine qr_start (d := d + 0) qv_e176 (Nat.le_of_ble_eq_true rfl) ?_
            show qr_W (qe L xs vb) (d + 0) qx_e176 _ (0, [(0, .long (ql x2)), (2, .long (ql 0)), (4, .long (ql 5))], [], _, 0, 0)
            refine qr_lload_n 1 rfl rfl rfl ?_
            refine qr_lload_n 2 rfl rfl rfl ?_
            refine qr_lc_lt 17 6 rfl rfl rfl rfl (by omega) (by decide) (fun h => False.elim (by omega)) (fun h17 => ?_)
            refine qr_lload_n 7 rfl rfl rfl ?_
            refine qr_lload 9 rfl rfl rfl ?_
            refine qr_lc_gt 17 13 rfl rfl rfl rfl (by omega) (by decide) (fun h => False.elim (by omega)) (fun h18 => ?_)
            refine qr_iconst 14 rfl rfl ?_
            refine qr_goto 18 rfl rfl ?_
            refine qr_retZ rfl rfl (by omega) (by decide) (by decide) ?_
            show qr_W (qe L xs vb) (d + 1) qx_e178 _ (9, [(0, .int (qz x2))], [.int (qz 1)], _, 0, 0)
            refine qr_retZ rfl rfl (by omega) (by decide) (by decide) ?_
            show qr_W (qe L xs vb) (d + 2) qx_e268 _ (11, [(0, .ref 86), (1, .int (qz x0)), (2, .int (qz x1)), (3, .int (qz x2)), (4, .int (qz x3)), (5, .int (qz x4))], [.int (qz 1)], _, 0, 0)
            refine qr_if_ne 16 14 rfl rfl rfl (by decide) (fun _ => ?_) (fun h => absurd h (by decide))
            refine qr_aload_n 17 rfl rfl rfl ?_
            refine qr_get 20 rfl rfl rfl (by decide) rfl ?_
            refine qr_iload_n 21 rfl rfl rfl ?_
            refine qr_iaload 22 rfl rfl (by omega) (by decide) rfl ?_
            refine qy_v (-1) (qo_r121 (by omega)) ?_
            refine qr_if_lt 34 25 rfl rfl rfl (by decide) (fun _ => ?_) (fun h => absurd h (by decide))
            refine qr_bipush 36 rfl (by decide) rfl ?_
            refine qr_retI rfl rfl (by decide) (by decide) ?_
            exact rfl

set_option maxHeartbeats 8000000 in
set_option maxRecDepth 20000 in
/-- taken on the fresh objects: both answer alike -/
theorem sx_taken {L : Nat} {xs : Nat → Int} {vb : Bool} {d : Nat} {s g : Nat → Nat → Int} {x0 : Int} {x1 : Int} (hok : qo_ok s g) (rx0 : -2147483648 ≤ x0 ∧ x0 ≤ 2147483647) (rx1 : -2147483648 ≤ x1 ∧ x1 ≤ 2147483647) : qm_T (qe L xs vb) (d + 3) 167 [.ref 16, .int (qz x0), .int (qz x1)] (qw (qo_s s) (qo_r g) qo_k 82) (fun r w => (∃ y : Int, r = some (.int (qz y))) ∧ (∃ σ α κ ρ, w = qw σ α κ ρ) ∧ qm_T (qe L xs vb) (d + 3) 269 [.ref 86, .int (qz x0), .int (qz x1)] w (fun r' _ => r' = r)) := by
  refine qr_start (d := d + 2) qv_e167 (Nat.le_of_ble_eq_true rfl) ?_
  show qr_W (qe L xs vb) (d + 2) qx_e167 _ (0, [(0, .ref 16), (1, .int (qz x0)), (2, .int (qz x1))], [], _, 0, 0)
  refine qr_aload_n 1 rfl rfl rfl ?_
  refine qr_get 4 rfl rfl rfl (by decide) rfl ?_
  refine qr_iload_n 5 rfl rfl rfl ?_
  refine qy_call 8 rfl rfl rfl ?_
  refine qr_start (d := d + 1) qv_e44 (Nat.le_of_ble_eq_true rfl) ?_
  show qr_W (qe L xs vb) (d + 1) qx_e44 _ (0, [(0, .ref 44), (1, .int (qz x0))], [], _, 0, 0)
  refine qr_iload_n 1 rfl rfl rfl ?_
  refine qr_if_lt 14 4 rfl rfl rfl (by omega) (fun h1 => ?_) (fun h1 => ?_)
  · skip
    refine qr_iconst 15 rfl rfl ?_
    refine qr_retZ rfl rfl (by omega) (by decide) (by decide) ?_
    show qr_W (qe L xs vb) (d + 2) qx_e167 _ (8, [(0, .ref 16), (1, .int (qz x0)), (2, .int (qz x1))], [.int (qz 0)], _, 0, 0)
    refine qr_if_eq 21 11 rfl rfl rfl (by decide) (fun _ => ?_) (fun h => absurd h (by decide))
    refine qr_iconst 22 rfl rfl ?_
    refine qr_retI rfl rfl (by decide) (by decide) ?_
    refine ⟨⟨_, rfl⟩, ⟨_, _, _, _, rfl⟩, ?_⟩
    refine qr_start (d := d + 2) qv_e269 (Nat.le_of_ble_eq_true rfl) ?_
    show qr_W (qe L xs vb) (d + 2) qx_e269 _ (0, [(0, .ref 86), (1, .int (qz x0)), (2, .int (qz x1))], [], _, 0, 0)
    refine qr_iload_n 1 rfl rfl rfl ?_
    refine qy_call 4 rfl rfl rfl ?_
    refine qr_start (d := d + 1) qv_e178 (Nat.le_of_ble_eq_true rfl) ?_
    show qr_W (qe L xs vb) (d + 1) qx_e178 _ (0, [(0, .int (qz x0))], [], _, 0, 0)
    refine qr_iload_n 1 rfl rfl rfl ?_
    refine qr_i2l 2 rfl (by omega) rfl ?_
    refine qr_lconst 3 rfl rfl ?_
    refine qy_vl 0 rfl ?_
    refine qr_ldc2 5 6 rfl (by decide) rfl ?_
    refine qy_call 9 rfl rfl rfl ?_
    refine qr_start (d := d + 0) qv_e176 (Nat.le_of_ble_eq_true rfl) ?_
    show qr_W (qe L xs vb) (d + 0) qx_e176 _ (0, [(0, .long (ql x0)), (2, .long (ql 0)), (4, .long (ql 5))], [], _, 0, 0)
    refine qr_lload_n 1 rfl rfl rfl ?_
    refine qr_lload_n 2 rfl rfl rfl ?_
    refine qr_lc_lt 17 6 rfl rfl rfl rfl (by omega) (by decide) (fun h2 => ?_) (fun h => False.elim (by omega))
    refine qr_iconst 18 rfl rfl ?_
    refine qr_retZ rfl rfl (by omega) (by decide) (by decide) ?_
    show qr_W (qe L xs vb) (d + 1) qx_e178 _ (9, [(0, .int (qz x0))], [.int (qz 0)], _, 0, 0)
    refine qr_retZ rfl rfl (by omega) (by decide) (by decide) ?_
    show qr_W (qe L xs vb) (d + 2) qx_e269 _ (4, [(0, .ref 86), (1, .int (qz x0)), (2, .int (qz x1))], [.int (qz 0)], _, 0, 0)
    refine qr_if_eq 19 7 rfl rfl rfl (by decide) (fun _ => ?_) (fun h => absurd h (by decide))
    refine qr_iconst 20 rfl rfl ?_
    refine qr_retI rfl rfl (by decide) (by decide) ?_
    exact rfl
  · skip
    refine qr_iload_n 5 rfl rfl rfl ?_
    refine qr_bipush 7 rfl (by decide) rfl ?_
    refine qr_icmp_ge 14 10 rfl rfl rfl (by omega) (by decide) (fun h3 => ?_) (fun h3 => ?_)
    · skip
      refine qr_iconst 15 rfl rfl ?_
      refine qr_retZ rfl rfl (by omega) (by decide) (by decide) ?_
      show qr_W (qe L xs vb) (d + 2) qx_e167 _ (8, [(0, .ref 16), (1, .int (qz x0)), (2, .int (qz x1))], [.int (qz 0)], _, 0, 0)
      refine qr_if_eq 21 11 rfl rfl rfl (by decide) (fun _ => ?_) (fun h => absurd h (by decide))
      refine qr_iconst 22 rfl rfl ?_
      refine qr_retI rfl rfl (by decide) (by decide) ?_
      refine ⟨⟨_, rfl⟩, ⟨_, _, _, _, rfl⟩, ?_⟩
      refine qr_start (d := d + 2) qv_e269 (Nat.le_of_ble_eq_true rfl) ?_
      show qr_W (qe L xs vb) (d + 2) qx_e269 _ (0, [(0, .ref 86), (1, .int (qz x0)), (2, .int (qz x1))], [], _, 0, 0)
      refine qr_iload_n 1 rfl rfl rfl ?_
      refine qy_call 4 rfl rfl rfl ?_
      refine qr_start (d := d + 1) qv_e178 (Nat.le_of_ble_eq_true rfl) ?_
      show qr_W (qe L xs vb) (d + 1) qx_e178 _ (0, [(0, .int (qz x0))], [], _, 0, 0)
      refine qr_iload_n 1 rfl rfl rfl ?_
      refine qr_i2l 2 rfl (by omega) rfl ?_
      refine qr_lconst 3 rfl rfl ?_
      refine qy_vl 0 rfl ?_
      refine qr_ldc2 5 6 rfl (by decide) rfl ?_
      refine qy_call 9 rfl rfl rfl ?_
      refine qr_start (d := d + 0) qv_e176 (Nat.le_of_ble_eq_true rfl) ?_
      show qr_W (qe L xs vb) (d + 0) qx_e176 _ (0, [(0, .long (ql x0)), (2, .long (ql 0)), (4, .long (ql 5))], [], _, 0, 0)
      refine qr_lload_n 1 rfl rfl rfl ?_
      refine qr_lload_n 2 rfl rfl rfl ?_
      refine qr_lc_lt 17 6 rfl rfl rfl rfl (by omega) (by decide) (fun h => False.elim (by omega)) (fun h4 => ?_)
      refine qr_lload_n 7 rfl rfl rfl ?_
      refine qr_lload 9 rfl rfl rfl ?_
      refine qr_lc_gt 17 13 rfl rfl rfl rfl (by omega) (by decide) (fun h5 => ?_) (fun h => False.elim (by omega))
      refine qr_iconst 18 rfl rfl ?_
      refine qr_retZ rfl rfl (by omega) (by decide) (by decide) ?_
      show qr_W (qe L xs vb) (d + 1) qx_e178 _ (9, [(0, .int (qz x0))], [.int (qz 0)], _, 0, 0)
      refine qr_retZ rfl rfl (by omega) (by decide) (by decide) ?_
      show qr_W (qe L xs vb) (d + 2) qx_e269 _ (4, [(0, .ref 86), (1, .int (qz x0)), (2, .int (qz x1))], [.int (qz 0)], _, 0, 0)
      refine qr_if_eq 19 7 rfl rfl rfl (by decide) (fun _ => ?_) (fun h => absurd h (by decide))
      refine qr_iconst 20 rfl rfl ?_
      refine qr_retI rfl rfl (by decide) (by decide) ?_
      exact rfl
    · skip
      refine qr_iconst 11 rfl rfl ?_
      refine qr_goto 15 rfl rfl ?_
      refine qr_retZ rfl rfl (by omega) (by decide) (by decide) ?_
      show qr_W (qe L xs vb) (d + 2) qx_e167 _ (8, [(0, .ref 16), (1, .int (qz x0)), (2, .int (qz x1))], [.int (qz 1)], _, 0, 0)
      refine qr_if_eq 21 11 rfl rfl rfl (by decide) (fun h => absurd h (by decide)) (fun _ => ?_)
      refine qr_iload_n 12 rfl rfl rfl ?_
      refine qr_if_lt 21 15 rfl rfl rfl (by omega) (fun h6 => ?_) (fun h6 => ?_)
      · skip
        refine qr_iconst 22 rfl rfl ?_
        refine qr_retI rfl rfl (by decide) (by decide) ?_
        refine ⟨⟨_, rfl⟩, ⟨_, _, _, _, rfl⟩, ?_⟩
        refine qr_start (d := d + 2) qv_e269 (Nat.le_of_ble_eq_true rfl) ?_
        show qr_W (qe L xs vb) (d + 2) qx_e269 _ (0, [(0, .ref 86), (1, .int (qz x0)), (2, .int (qz x1))], [], _, 0, 0)
        refine qr_iload_n 1 rfl rfl rfl ?_
        refine qy_call 4 rfl rfl rfl ?_
        refine qr_start (d := d + 1) qv_e178 (Nat.le_of_ble_eq_true rfl) ?_
        show qr_W (qe L xs vb) (d + 1) qx_e178 _ (0, [(0, .int (qz x0))], [], _, 0, 0)
        refine qr_iload_n 1 rfl rfl rfl ?_
        refine qr_i2l 2 rfl (by omega) rfl ?_
        refine qr_lconst 3 rfl rfl ?_
        refine qy_vl 0 rfl ?_
        refine qr_ldc2 5 6 rfl (by decide) rfl ?_
        refine qy_call 9 rfl rfl rfl ?_
        refine qr_start (d := d + 0) qv_e176 (Nat.le_of_ble_eq_true rfl) ?_
        show qr_W (qe L xs vb) (d + 0) qx_e176 _ (0, [(0, .long (ql x0)), (2, .long (ql 0)), (4, .long (ql 5))], [], _, 0, 0)
        refine qr_lload_n 1 rfl rfl rfl ?_
        refine qr_lload_n 2 rfl rfl rfl ?_
        refine qr_lc_lt 17 6 rfl rfl rfl rfl (by omega) (by decide) (fun h => False.elim (by omega)) (fun h7 => ?_)
        refine qr_lload_n 7 rfl rfl rfl ?_
        refine qr_lload 9 rfl rfl rfl ?_
        refine qr_lc_gt 17 13 rfl rfl rfl rfl (by omega) (by decide) (fun h => False.elim (by omega)) (fun h8 => ?_)
        refine qr_iconst 14 rfl rfl ?_
        refine qr_goto 18 rfl rfl ?_
        refine qr_retZ rfl rfl (by omega) (by decide) (by decide) ?_
        show qr_W (qe L xs vb) (d + 1) qx_e178 _ (9, [(0, .int (qz x0))], [.int (qz 1)], _, 0, 0)
        refine qr_retZ rfl rfl (by omega) (by decide) (by decide) ?_
        show qr_W (qe L xs vb) (d + 2) qx_e269 _ (4, [(0, .ref 86), (1, .int (qz x0)), (2, .int (qz x1))], [.int (qz 1)], _, 0, 0)
        refine qr_if_eq 19 7 rfl rfl rfl (by decide) (fun h => absurd h (by decide)) (fun _ => ?_)
        refine qr_iload_n 8 rfl rfl rfl ?_
        refine qr_i2l 9 rfl (by omega) rfl ?_
        refine qr_lconst 10 rfl rfl ?_
        refine qy_vl 0 rfl ?_
        refine qr_ldc2 6 13 rfl (by decide) rfl ?_
        refine qy_call 16 rfl rfl rfl ?_
        refine qr_start (d := d + 1) qv_e176 (Nat.le_of_ble_eq_true rfl) ?_
        show qr_W (qe L xs vb) (d + 1) qx_e176 _ (0, [(0, .long (ql x1)), (2, .long (ql 0)), (4, .long (ql 6))], [], _, 0, 0)
        refine qr_lload_n 1 rfl rfl rfl ?_
        refine qr_lload_n 2 rfl rfl rfl ?_
        refine qr_lc_lt 17 6 rfl rfl rfl rfl (by omega) (by decide) (fun h9 => ?_) (fun h => False.elim (by omega))
        refine qr_iconst 18 rfl rfl ?_
        refine qr_retZ rfl rfl (by omega) (by decide) (by decide) ?_
        show qr_W (qe L xs vb) (d + 2) qx_e269 _ (16, [(0, .ref 86), (1, .int (qz x0)), (2, .int (qz x1))], [.int (qz 0)], _, 0, 0)
        refine qr_if_ne 21 19 rfl rfl rfl (by decide) (fun h => absurd h (by decide)) (fun _ => ?_)
        refine qr_iconst 20 rfl rfl ?_
        refine qr_retI rfl rfl (by decide) (by decide) ?_
        exact rfl
      · skip
        refine qr_iload_n 16 rfl rfl rfl ?_
        refine qr_bipush 18 rfl (by decide) rfl ?_
        refine qr_icmp_le 23 21 rfl rfl rfl (by omega) (by decide) (fun h10 => ?_) (fun h10 => ?_)
        · skip
          refine qr_aload_n 24 rfl rfl rfl ?_
          refine qr_get 27 rfl rfl rfl (by decide) rfl ?_
          refine qr_iload_n 28 rfl rfl rfl ?_
          refine qy_call 31 rfl rfl rfl ?_
          refine qr_start (d := d + 1) qv_e45 (Nat.le_of_ble_eq_true rfl) ?_
          show qr_W (qe L xs vb) (d + 1) qx_e45 _ (0, [(0, .ref 44), (1, .int (qz x0))], [], _, 0, 0)
          refine qr_aload_n 1 rfl rfl rfl ?_
          refine qr_get 4 rfl rfl rfl (by decide) rfl ?_
          refine qr_iload_n 5 rfl rfl rfl ?_
          refine qr_iaload 6 rfl rfl (by omega) (by decide) rfl ?_
          refine qy_v 6 (qo_r45 (by omega)) ?_
          refine qr_bipush 8 rfl (by decide) rfl ?_
          refine qr_icmp_ne 15 11 rfl rfl rfl (by decide) (by decide) (fun h => absurd h (by decide)) (fun _ => ?_)
          refine qr_iconst 12 rfl rfl ?_
          refine qr_goto 16 rfl rfl ?_
          refine qr_retZ rfl rfl (by omega) (by decide) (by decide) ?_
          show qr_W (qe L xs vb) (d + 2) qx_e167 _ (31, [(0, .ref 16), (1, .int (qz x0)), (2, .int (qz x1))], [.int (qz 1)], _, 0, 0)
          refine qr_if_eq 37 34 rfl rfl rfl (by decide) (fun h => absurd h (by decide)) (fun _ => ?_)
          refine qr_bipush 36 rfl (by decide) rfl ?_
          refine qr_retI rfl rfl (by decide) (by decide) ?_
          refine ⟨⟨_, rfl⟩, ⟨_, _, _, _, rfl⟩, ?_⟩
          refine qr_start (d := d + 2) qv_e269 (Nat.le_of_ble_eq_true rfl) ?_
          show qr_W (qe L xs vb) (d + 2) qx_e269 _ (0, [(0, .ref 86), (1, .int (qz x0)), (2, .int (qz x1))], [], _, 0, 0)
          refine qr_iload_n 1 rfl rfl rfl ?_
          refine qy_call 4 rfl rfl rfl ?_
          refine qr_start (d := d + 1) qv_e178 (Nat.le_of_ble_eq_true rfl) ?_
          show qr_W (qe L xs vb) (d + 1) qx_e178 _ (0, [(0, .int (qz x0))], [], _, 0, 0)
          refine qr_iload_n 1 rfl rfl rfl ?_
          refine qr_i2l 2 rfl (by omega) rfl ?_
          refine qr_lconst 3 rfl rfl ?_
          refine qy_vl 0 rfl ?_
          refine qr_ldc2 5 6 rfl (by decide) rfl ?_
          refine qy_call 9 rfl rfl rfl ?_
          refine qr_start (d := d + 0) qv_e176 (Nat.le_of_ble_eq_true rfl) ?_
          show qr_W (qe L xs vb) (d + 0) qx_e176 _ (0, [(0, .long (ql x0)), (2, .long (ql 0)), (4, .long (ql 5))], [], _, 0, 0)
          refine qr_lload_n 1 rfl rfl rfl ?_
          refine qr_lload_n 2 rfl rfl rfl ?_
          refine qr_lc_lt 17 6 rfl rfl rfl rfl (by omega) (by decide) (fun h => False.elim (by omega)) (fun h11 => ?_)
          refine qr_lload_n 7 rfl rfl rfl ?_
          refine qr_lload 9 rfl rfl rfl ?_
          refine qr_lc_gt 17 13 rfl rfl rfl rfl (by omega) (by decide) (fun h => False.elim (by omega)) (fun h12 => ?_)
          refine qr_iconst 14 rfl rfl ?_
          refine qr_goto 18 rfl rfl ?_
          refine qr_retZ rfl rfl (by omega) (by decide) (by decide) ?_
          show qr_W (qe L xs vb) (d + 1) qx_e178 _ (9, [(0, .int (qz x0))], [.int (qz 1)], _, 0, 0)
          refine qr_retZ rfl rfl (by omega) (by decide) (by decide) ?_
          show qr_W (qe L xs vb) (d + 2) qx_e269 _ (4, [(0, .ref 86), (1, .int (qz x0)), (2, .int (qz x1))], [.int (qz 1)], _, 0, 0)
          refine qr_if_eq 19 7 rfl rfl rfl (by decide) (fun h => absurd h (by decide)) (fun _ => ?_)
          refine qr_iload_n 8 rfl rfl rfl ?_
          refine qr_i2l 9 rfl (by omega) rfl ?_
          refine qr_lconst 10 rfl rfl ?_
          refine qy_vl 0 rfl ?_
          refine qr_ldc2 6 13 rfl (by decide) rfl ?_
          refine qy_call 16 rfl rfl rfl ?_
          refine qr_start (d := d + 1) qv_e176 (Nat.le_of_ble_eq_true rfl) ?_
          show qr_W (qe L xs vb) (d + 1) qx_e176 _ (0, [(0, .long (ql x1)), (2, .long (ql 0)), (4, .long (ql 6))], [], _, 0, 0)
          refine qr_lload_n 1 rfl rfl rfl ?_
          refine qr_lload_n 2 rfl rfl rfl ?_
          refine qr_lc_lt 17 6 rfl rfl rfl rfl (by omega) (by decide) (fun h => False.elim (by omega)) (fun h13 => ?_)
          as_aux_lemma =>
            refine qr_lload_n 7 rfl rfl rfl ?_
            refine qr_lload 9 rfl rfl rfl ?_
            refine qr_lc_gt 17 13 rfl rfl rfl rfl (by omega) (by decide) (fun h => False.elim (by omega)) (fun h14 => ?_)
            refine qr_iconst 14 rfl rfl ?_
            refine qr_goto 18 rfl rfl ?_
            refine qr_retZ rfl rfl (by omega) (by decide) (by decide) ?_
            show qr_W (qe L xs vb) (d + 2) qx_e269 _ (16, [(0, .ref 86), (1, .int (qz x0)), (2, .int (qz x1))], [.int (qz 1)], _, 0, 0)
            refine qr_if_ne 21 19 rfl rfl rfl (by decide) (fun _ => ?_) (fun h => absurd h (by decide))
            refine qr_aload_n 22 rfl rfl rfl ?_
            refine qr_get 25 rfl rfl rfl (by decide) rfl ?_
            refine qr_iload_n 26 rfl rfl rfl ?_
            refine qr_iaload 27 rfl rfl (by omega) (by decide) rfl ?_
            refine qy_v (-1) (qo_r121 (by omega)) ?_
            refine qr_if_ge 33 30 rfl rfl rfl (by decide) (fun h => absurd h (by decide)) (fun _ => ?_)
            refine qr_bipush 32 rfl (by decide) rfl ?_
            refine qr_retI rfl rfl (by decide) (by decide) ?_
            exact rfl
        · skip
          refine qr_iconst 22 rfl rfl ?_
          refine qr_retI rfl rfl (by decide) (by decide) ?_
          refine ⟨⟨_, rfl⟩, ⟨_, _, _, _, rfl⟩, ?_⟩
          refine qr_start (d := d + 2) qv_e269 (Nat.le_of_ble_eq_true rfl) ?_
          show qr_W (qe L xs vb) (d + 2) qx_e269 _ (0, [(0, .ref 86), (1, .int (qz x0)), (2, .int (qz x1))], [], _, 0, 0)
          refine qr_iload_n 1 rfl rfl rfl ?_
          refine qy_call 4 rfl rfl rfl ?_
          refine qr_start (d := d + 1) qv_e178 (Nat.le_of_ble_eq_true rfl) ?_
          show qr_W (qe L xs vb) (d + 1) qx_e178 _ (0, [(0, .int (qz x0))], [], _, 0, 0)
          refine qr_iload_n 1 rfl rfl rfl ?_
          refine qr_i2l 2 rfl (by omega) rfl ?_
          refine qr_lconst 3 rfl rfl ?_
          refine qy_vl 0 rfl ?_
          refine qr_ldc2 5 6 rfl (by decide) rfl ?_
          refine qy_call 9 rfl rfl rfl ?_
          refine qr_start (d := d + 0) qv_e176 (Nat.le_of_ble_eq_true rfl) ?_
          show qr_W (qe L xs vb) (d + 0) qx_e176 _ (0, [(0, .long (ql x0)), (2, .long (ql 0)), (4, .long (ql 5))], [], _, 0, 0)
          refine qr_lload_n 1 rfl rfl rfl ?_
          refine qr_lload_n 2 rfl rfl rfl ?_
          refine qr_lc_lt 17 6 rfl rfl rfl rfl (by omega) (by decide) (fun h => False.elim (by omega)) (fun h15 => ?_)
          refine qr_lload_n 7 rfl rfl rfl ?_
          refine qr_lload 9 rfl rfl rfl ?_
          refine qr_lc_gt 17 13 rfl rfl rfl rfl (by omega) (by decide) (fun h => False.elim (by omega)) (fun h16 => ?_)
          refine qr_iconst 14 rfl rfl ?_
          refine qr_goto 18 rfl rfl ?_
          refine qr_retZ rfl rfl (by omega) (by decide) (by decide) ?_
          show qr_W (qe L xs vb) (d + 1) qx_e178 _ (9, [(0, .int (qz x0))], [.int (qz 1)], _, 0, 0)
          refine qr_retZ rfl rfl (by omega) (by decide) (by decide) ?_
          show qr_W (qe L xs vb) (d + 2) qx_e269 _ (4, [(0, .ref 86), (1, .int (qz x0)), (2, .int (qz x1))], [.int (qz 1)], _, 0, 0)
          refine qr_if_eq 19 7 rfl rfl rfl (by decide) (fun h => absurd h (by decide)) (fun _ => ?_)
          refine qr_iload_n 8 rfl rfl rfl ?_
          refine qr_i2l 9 rfl (by omega) rfl ?_
          refine qr_lconst 10 rfl rfl ?_
          refine qy_vl 0 rfl ?_
          refine qr_ldc2 6 13 rfl (by decide) rfl ?_
          refine qy_call 16 rfl rfl rfl ?_
          refine qr_start (d := d + 1) qv_e176 (Nat.le_of_ble_eq_true rfl) ?_
          show qr_W (qe L xs vb) (d + 1) qx_e176 _ (0, [(0, .long (ql x1)), (2, .long (ql 0)), (4, .long (ql 6))], [], _, 0, 0)
          refine qr_lload_n 1 rfl rfl rfl ?_
          refine qr_lload_n 2 rfl rfl rfl ?_
          refine qr_lc_lt 17 6 rfl rfl rfl rfl (by omega) (by decide) (fun h => False.elim (by omega)) (fun h17 => ?_)
          refine qr_lload_n 7 rfl rfl rfl ?_
          refine qr_lload 9 rfl rfl rfl ?_
          refine qr_lc_gt 17 13 rfl rfl rfl rfl (by omega) (by decide) (fun h18 => ?_) (fun h => False.elim (by omega))
          refine qr_iconst 18 rfl rfl ?_
          refine qr_retZ rfl rfl (by omega) (by decide) (by decide) ?_
          show qr_W (qe L xs vb) (d + 2) qx_e269 _ (16, [(0, .ref 86), (1, .int (qz x0)), (2, .int (qz x1))], [.int (qz 0)], _, 0, 0)
          refine qr_if_ne 21 19 rfl rfl rfl (by decide) (fun h => absurd h (by decide)) (fun _ => ?_)
          refine qr_iconst 20 rfl rfl ?_
          refine qr_retI rfl rfl (by decide) (by decide) ?_
          exact rfl

set_option maxHeartbeats 8000000 in
set_option maxRecDepth 20000 in
/-- count on the fresh objects: both answer alike -/
theorem sx_count {L : Nat} {xs : Nat → Int} {vb : Bool} {d : Nat} {s g : Nat → Nat → Int} {x0 : Int} (hok : qo_ok s g) (rx0 : -2147483648 ≤ x0 ∧ x0 ≤ 2147483647) : qm_T (qe L xs vb) (d + 2) 170 [.ref 16, .int (qz x0)] (qw (qo_s s) (qo_r g) qo_k 82) (fun r w => (∃ y : Int, r = some (.int (qz y))) ∧ (∃ σ α κ ρ, w = qw σ α κ ρ) ∧ qm_T (qe L xs vb) (d + 2) 271 [.ref 86, .int (qz x0)] w (fun r' _ => r' = r)) := by
  refine qr_start (d := d + 1) qv_e170 (Nat.le_of_ble_eq_true rfl) ?_
  show qr_W (qe L xs vb) (d + 1) qx_e170 _ (0, [(0, .ref 16), (1, .int (qz x0))], [], _, 0, 0)
  refine qr_iload_n 1 rfl rfl rfl ?_
  have h1 : x0 = 0 ∨ x0 = 1 ∨ x0 = 2 ∨ x0 = 3 ∨ x0 = 4 ∨ x0 = 5 ∨ x0 = 6 ∨ x0 = 7 ∨ (x0 < 0 ∨ 7 < x0) := by omega
  rcases h1 with h1 | h1 | h1 | h1 | h1 | h1 | h1 | h1 | h1
  · skip
    refine qr_tabIn 48 rfl (by omega) (by omega) (by rw [h1]; rfl) rfl ?_
    subst h1
    refine qr_aload_n 49 rfl rfl rfl ?_
    refine qr_get 52 rfl rfl rfl (by decide) rfl ?_
    refine qr_get 55 rfl rfl rfl (by decide) rfl ?_
    refine qy_v 0 rfl ?_
    refine qr_retI rfl rfl (by decide) (by decide) ?_
    refine ⟨⟨_, rfl⟩, ⟨_, _, _, _, rfl⟩, ?_⟩
    refine qr_start (d := d + 1) qv_e271 (Nat.le_of_ble_eq_true rfl) ?_
    show qr_W (qe L xs vb) (d + 1) qx_e271 _ (0, [(0, .ref 86), (1, .int (qz 0))], [], _, 0, 0)
    refine qr_iload_n 1 rfl rfl rfl ?_
    refine qr_tabIn 48 rfl (by decide) (by decide) rfl rfl ?_
    refine qr_aload_n 49 rfl rfl rfl ?_
    refine qr_get 52 rfl rfl rfl (by decide) rfl ?_
    refine qy_v 0 rfl ?_
    refine qr_retI rfl rfl (by decide) (by decide) ?_
    exact rfl
  · skip
    refine qr_tabIn 56 rfl (by omega) (by omega) (by rw [h1]; rfl) rfl ?_
    subst h1
    refine qr_aload_n 57 rfl rfl rfl ?_
    refine qr_get 60 rfl rfl rfl (by decide) rfl ?_
    refine qr_get 63 rfl rfl rfl (by decide) rfl ?_
    refine qy_v 0 rfl ?_
    refine qr_retI rfl rfl (by decide) (by decide) ?_
    refine ⟨⟨_, rfl⟩, ⟨_, _, _, _, rfl⟩, ?_⟩
    refine qr_start (d := d + 1) qv_e271 (Nat.le_of_ble_eq_true rfl) ?_
    show qr_W (qe L xs vb) (d + 1) qx_e271 _ (0, [(0, .ref 86), (1, .int (qz 1))], [], _, 0, 0)
    refine qr_iload_n 1 rfl rfl rfl ?_
    refine qr_tabIn 53 rfl (by decide) (by decide) rfl rfl ?_
    refine qr_aload_n 54 rfl rfl rfl ?_
    refine qr_get 57 rfl rfl rfl (by decide) rfl ?_
    refine qy_v 0 rfl ?_
    refine qr_retI rfl rfl (by decide) (by decide) ?_
    exact rfl
  · skip
    refine qr_tabIn 64 rfl (by omega) (by omega) (by rw [h1]; rfl) rfl ?_
    subst h1
    refine qr_aload_n 65 rfl rfl rfl ?_
    refine qr_get 68 rfl rfl rfl (by decide) rfl ?_
    refine qr_get 71 rfl rfl rfl (by decide) rfl ?_
    refine qy_v 0 rfl ?_
    refine qr_retI rfl rfl (by decide) (by decide) ?_
    refine ⟨⟨_, rfl⟩, ⟨_, _, _, _, rfl⟩, ?_⟩
    refine qr_start (d := d + 1) qv_e271 (Nat.le_of_ble_eq_true rfl) ?_
    show qr_W (qe L xs vb) (d + 1) qx_e271 _ (0, [(0, .ref 86), (1, .int (qz 2))], [], _, 0, 0)
    refine qr_iload_n 1 rfl rfl rfl ?_
    refine qr_tabIn 58 rfl (by decide) (by decide) rfl rfl ?_
    refine qr_aload_n 59 rfl rfl rfl ?_
    refine qr_get 62 rfl rfl rfl (by decide) rfl ?_
    refine qy_v 0 rfl ?_
    refine qr_retI rfl rfl (by decide) (by decide) ?_
    exact rfl
  · skip
    refine qr_tabIn 72 rfl (by omega) (by omega) (by rw [h1]; rfl) rfl ?_
    subst h1
    refine qr_aload_n 73 rfl rfl rfl ?_
    refine qr_get 76 rfl rfl rfl (by decide) rfl ?_
    refine qr_get 79 rfl rfl rfl (by decide) rfl ?_
    refine qy_v 0 rfl ?_
    refine qr_retI rfl rfl (by decide) (by decide) ?_
    refine ⟨⟨_, rfl⟩, ⟨_, _, _, _, rfl⟩, ?_⟩
    refine qr_start (d := d + 1) qv_e271 (Nat.le_of_ble_eq_true rfl) ?_
    show qr_W (qe L xs vb) (d + 1) qx_e271 _ (0, [(0, .ref 86), (1, .int (qz 3))], [], _, 0, 0)
    refine qr_iload_n 1 rfl rfl rfl ?_
    refine qr_tabIn 63 rfl (by decide) (by decide) rfl rfl ?_
    refine qr_aload_n 64 rfl rfl rfl ?_
    refine qr_get 67 rfl rfl rfl (by decide) rfl ?_
    refine qy_v 0 rfl ?_
    refine qr_retI rfl rfl (by decide) (by decide) ?_
    exact rfl
  · skip
    refine qr_tabIn 80 rfl (by omega) (by omega) (by rw [h1]; rfl) rfl ?_
    subst h1
    refine qr_aload_n 81 rfl rfl rfl ?_
    refine qr_get 84 rfl rfl rfl (by decide) rfl ?_
    refine qy_v 0 rfl ?_
    refine qr_retI rfl rfl (by decide) (by decide) ?_
    refine ⟨⟨_, rfl⟩, ⟨_, _, _, _, rfl⟩, ?_⟩
    refine qr_start (d := d + 1) qv_e271 (Nat.le_of_ble_eq_true rfl) ?_
    show qr_W (qe L xs vb) (d + 1) qx_e271 _ (0, [(0, .ref 86), (1, .int (qz 4))], [], _, 0, 0)
    refine qr_iload_n 1 rfl rfl rfl ?_
    refine qr_tabIn 68 rfl (by decide) (by decide) rfl rfl ?_
    refine qr_aload_n 69 rfl rfl rfl ?_
    refine qr_get 72 rfl rfl rfl (by decide) rfl ?_
    refine qy_v 0 rfl ?_
    refine qr_retI rfl rfl (by decide) (by decide) ?_
    exact rfl
  · skip
    refine qr_tabIn 85 rfl (by omega) (by omega) (by rw [h1]; rfl) rfl ?_
    subst h1
    refine qr_aload_n 86 rfl rfl rfl ?_
    refine qr_get 89 rfl rfl rfl (by decide) rfl ?_
    refine qr_get 92 rfl rfl rfl (by decide) rfl ?_
    refine qy_v 0 rfl ?_
    refine qr_retI rfl rfl (by decide) (by decide) ?_
    refine ⟨⟨_, rfl⟩, ⟨_, _, _, _, rfl⟩, ?_⟩
    refine qr_start (d := d + 1) qv_e271 (Nat.le_of_ble_eq_true rfl) ?_
    show qr_W (qe L xs vb) (d + 1) qx_e271 _ (0, [(0, .ref 86), (1, .int (qz 5))], [], _, 0, 0)
    refine qr_iload_n 1 rfl rfl rfl ?_
    refine qr_tabIn 73 rfl (by decide) (by decide) rfl rfl ?_
    refine qr_aload_n 74 rfl rfl rfl ?_
    refine qr_get 77 rfl rfl rfl (by decide) rfl ?_
    refine qy_v 0 rfl ?_
    refine qr_retI rfl rfl (by decide) (by decide) ?_
    exact rfl
  · skip
    refine qr_tabIn 93 rfl (by omega) (by omega) (by rw [h1]; rfl) rfl ?_
    subst h1
    refine qr_aload_n 94 rfl rfl rfl ?_
    refine qr_get 97 rfl rfl rfl (by decide) rfl ?_
    refine qr_get 100 rfl rfl rfl (by decide) rfl ?_
    refine qy_vl 0 rfl ?_
    refine qy_call 103 rfl rfl rfl ?_
    refine qr_start (d := d + 0) qv_e74 (Nat.le_of_ble_eq_true rfl) ?_
    show qr_W (qe L xs vb) (d + 0) qx_e74 _ (0, [(0, .long (ql 0))], [], _, 0, 0)
    refine qr_lload_n 1 rfl rfl rfl ?_
    refine qr_lload_n 2 rfl rfl rfl ?_
    refine qr_iconst 3 rfl rfl ?_
    refine qr_lushr 4 rfl rfl ?_
    refine qy_vl 0 rfl ?_
    refine qr_ldc2 6148914691236517205 7 rfl (by decide) rfl ?_
    refine qr_land 8 rfl rfl ?_
    refine qy_vl 0 rfl ?_
    refine qr_lsub 9 rfl rfl ?_
    refine qy_vl 0 rfl ?_
    refine qr_lstore_n [(0, .long (ql 0))] 10 rfl (by decide) rfl rfl ?_
    refine qr_lload_n 11 rfl rfl rfl ?_
    refine qr_ldc2 3689348814741910323 14 rfl (by decide) rfl ?_
    refine qr_land 15 rfl rfl ?_
    refine qy_vl 0 rfl ?_
    refine qr_lload_n 16 rfl rfl rfl ?_
    refine qr_iconst 17 rfl rfl ?_
    refine qr_lushr 18 rfl rfl ?_
    refine qy_vl 0 rfl ?_
    refine qr_ldc2 3689348814741910323 21 rfl (by decide) rfl ?_
    refine qr_land 22 rfl rfl ?_
    refine qy_vl 0 rfl ?_
    refine qr_ladd 23 rfl rfl ?_
    refine qy_vl 0 rfl ?_
    refine qr_lstore_n [(0, .long (ql 0))] 24 rfl (by decide) rfl rfl ?_
    refine qr_lload_n 25 rfl rfl rfl ?_
    refine qr_lload_n 26 rfl rfl rfl ?_
    refine qr_iconst 27 rfl rfl ?_
    refine qr_lushr 28 rfl rfl ?_
    refine qy_vl 0 rfl ?_
    refine qr_ladd 29 rfl rfl ?_
    refine qy_vl 0 rfl ?_
    refine qr_ldc2 1085102592571150095 32 rfl (by decide) rfl ?_
    refine qr_land 33 rfl rfl ?_
    refine qy_vl 0 rfl ?_
    refine qr_lstore_n [(0, .long (ql 0))] 34 rfl (by decide) rfl rfl ?_
    refine qr_lload_n 35 rfl rfl rfl ?_
    refine qr_lload_n 36 rfl rfl rfl ?_
    refine qr_bipush 38 rfl (by decide) rfl ?_
    refine qr_lushr 39 rfl rfl ?_
    refine qy_vl 0 rfl ?_
    refine qr_ladd 40 rfl rfl ?_
    refine qy_vl 0 rfl ?_
    refine qr_lstore_n [(0, .long (ql 0))] 41 rfl (by decide) rfl rfl ?_
    refine qr_lload_n 42 rfl rfl rfl ?_
    refine qr_lload_n 43 rfl rfl rfl ?_
    refine qr_bipush 45 rfl (by decide) rfl ?_
    refine qr_lushr 46 rfl rfl ?_
    refine qy_vl 0 rfl ?_
    refine qr_ladd 47 rfl rfl ?_
    refine qy_vl 0 rfl ?_
    refine qr_lstore_n [(0, .long (ql 0))] 48 rfl (by decide) rfl rfl ?_
    refine qr_lload_n 49 rfl rfl rfl ?_
    refine qr_lload_n 50 rfl rfl rfl ?_
    refine qr_bipush 52 rfl (by decide) rfl ?_
    refine qr_lushr 53 rfl rfl ?_
    refine qy_vl 0 rfl ?_
    refine qr_ladd 54 rfl rfl ?_
    refine qy_vl 0 rfl ?_
    refine qr_lstore_n [(0, .long (ql 0))] 55 rfl (by decide) rfl rfl ?_
    refine qr_lload_n 56 rfl rfl rfl ?_
    refine qr_l2i 57 rfl rfl ?_
    refine qy_v 0 rfl ?_
    refine qr_bipush 59 rfl (by decide) rfl ?_
    refine qr_iand 60 rfl rfl ?_
    refine qy_v 0 rfl ?_
    refine qr_retI rfl rfl (by decide) (by decide) ?_
    show qr_W (qe L xs vb) (d + 1) qx_e170 _ (103, [(0, .ref 16), (1, .int (qz 6))], [.int (qz 0)], _, 0, 0)
    refine qr_retI rfl rfl (by decide) (by decide) ?_
    refine ⟨⟨_, rfl⟩, ⟨_, _, _, _, rfl⟩, ?_⟩
    refine qr_start (d := d + 1) qv_e271 (Nat.le_of_ble_eq_true rfl) ?_
    show qr_W (qe L xs vb) (d + 1) qx_e271 _ (0, [(0, .ref 86), (1, .int (qz 6))], [], _, 0, 0)
    refine qr_iload_n 1 rfl rfl rfl ?_
    refine qr_tabIn 78 rfl (by decide) (by decide) rfl rfl ?_
    refine qr_aload_n 79 rfl rfl rfl ?_
    refine qr_get 82 rfl rfl rfl (by decide) rfl ?_
    refine qy_vl 0 rfl ?_
    as_aux_lemma =>
      refine qy_call 85 rfl rfl rfl ?_
      refine qr_start (d := d + 0) qv_e253 (Nat.le_of_ble_eq_true rfl) ?_
      show qr_W (qe L xs vb) (d + 0) qx_e253 _ (0, [(0, .long (ql 0))], [], _, 0, 0)
      refine qr_iconst 1 rfl rfl ?_
      refine qr_istore_n [(2, .int (qz 0)), (0, .long (ql 0))] 2 rfl (by decide) rfl rfl ?_
      refine qr_lload_n 3 rfl rfl rfl ?_
      refine qr_lstore_n [(3, .long (ql 0)), (2, .int (qz 0)), (0, .long (ql 0))] 4 rfl (by decide) rfl rfl ?_
      refine qr_lload_n 5 rfl rfl rfl ?_
      refine qr_lconst 6 rfl rfl ?_
      refine qy_vl 0 rfl ?_
      refine qr_lc_eq 22 10 rfl rfl rfl rfl (by decide) (by decide) (fun _ => ?_) (fun h => absurd h (by decide))
      refine qr_iload_n 23 rfl rfl rfl ?_
      refine qr_retI rfl rfl (by decide) (by decide) ?_
      show qr_W (qe L xs vb) (d + 1) qx_e271 _ (85, [(0, .ref 86), (1, .int (qz 6))], [.int (qz 0)], _, 0, 0)
      refine qr_retI rfl rfl (by decide) (by decide) ?_
      exact rfl
  · skip
    refine qr_tabIn 104 rfl (by omega) (by omega) (by rw [h1]; rfl) rfl ?_
    subst h1
    refine qr_aload_n 105 rfl rfl rfl ?_
    refine qr_get 108 rfl rfl rfl (by decide) rfl ?_
    refine qr_get 111 rfl rfl rfl (by decide) rfl ?_
    refine qy_v 0 rfl ?_
    refine qr_retI rfl rfl (by decide) (by decide) ?_
    refine ⟨⟨_, rfl⟩, ⟨_, _, _, _, rfl⟩, ?_⟩
    refine qr_start (d := d + 1) qv_e271 (Nat.le_of_ble_eq_true rfl) ?_
    show qr_W (qe L xs vb) (d + 1) qx_e271 _ (0, [(0, .ref 86), (1, .int (qz 7))], [], _, 0, 0)
    refine qr_iload_n 1 rfl rfl rfl ?_
    refine qr_tabIn 86 rfl (by decide) (by decide) rfl rfl ?_
    refine qr_aload_n 87 rfl rfl rfl ?_
    refine qr_get 90 rfl rfl rfl (by decide) rfl ?_
    refine qy_v 0 rfl ?_
    refine qr_retI rfl rfl (by decide) (by decide) ?_
    exact rfl
  · skip
    refine qr_tabOut 112 rfl (by omega) (by omega) rfl ?_
    refine qr_iconst 113 rfl rfl ?_
    refine qr_retI rfl rfl (by decide) (by decide) ?_
    refine ⟨⟨_, rfl⟩, ⟨_, _, _, _, rfl⟩, ?_⟩
    refine qr_start (d := d + 1) qv_e271 (Nat.le_of_ble_eq_true rfl) ?_
    show qr_W (qe L xs vb) (d + 1) qx_e271 _ (0, [(0, .ref 86), (1, .int (qz x0))], [], _, 0, 0)
    refine qr_iload_n 1 rfl rfl rfl ?_
    have h2 : (x0 < 0 ∨ 7 < x0) := by omega
    refine qr_tabOut 91 rfl (by omega) (by omega) rfl ?_
    refine qr_iconst 92 rfl rfl ?_
    refine qr_retI rfl rfl (by decide) (by decide) ?_
    exact rfl

set_option maxHeartbeats 8000000 in
set_option maxRecDepth 20000 in
/-- person on the fresh objects: both answer alike -/
theorem sx_person {L : Nat} {xs : Nat → Int} {vb : Bool} {d : Nat} {s g : Nat → Nat → Int} {x0 : Int} {x1 : Int} {x2 : Int} (hok : qo_ok s g) (rx0 : -2147483648 ≤ x0 ∧ x0 ≤ 2147483647) (rx1 : -2147483648 ≤ x1 ∧ x1 ≤ 2147483647) (rx2 : -2147483648 ≤ x2 ∧ x2 ≤ 2147483647) : qm_T (qe L xs vb) (d + 3) 38 [.ref 16, .int (qz x0), .int (qz x1), .int (qz x2)] (qw (qo_s s) (qo_r g) qo_k 82) (fun r w => (∃ y : Int, r = some (.int (qz y))) ∧ (∃ σ α κ ρ, w = qw σ α κ ρ) ∧ qm_T (qe L xs vb) (d + 3) 174 [.ref 86, .int (qz x0), .int (qz x1), .int (qz x2)] w (fun r' _ => r' = r)) := by
  refine qr_start (d := d + 2) qv_e38 (Nat.le_of_ble_eq_true rfl) ?_
  show qr_W (qe L xs vb) (d + 2) qx_e38 _ (0, [(0, .ref 16), (1, .int (qz x0)), (2, .int (qz x1)), (3, .int (qz x2))], [], _, 0, 0)
  refine qr_aload_n 1 rfl rfl rfl ?_
  refine qr_get 4 rfl rfl rfl (by decide) rfl ?_
  refine qr_iload_n 5 rfl rfl rfl ?_
  refine qr_iload_n 6 rfl rfl rfl ?_
  refine qr_iload_n 7 rfl rfl rfl ?_
  refine qy_call 10 rfl rfl rfl ?_
  refine qr_start (d := d + 1) qv_e39 (Nat.le_of_ble_eq_true rfl) ?_
  show qr_W (qe L xs vb) (d + 1) qx_e39 _ (0, [(0, .ref 17), (1, .int (qz x0)), (2, .int (qz x1)), (3, .int (qz x2))], [], _, 0, 0)
  refine qr_iload_n 1 rfl rfl rfl ?_
  refine qr_iconst 2 rfl rfl ?_
  refine qr_icmp_eq 13 5 rfl rfl rfl (by omega) (by decide) (fun h1 => ?_) (fun h1 => ?_)
  · skip
    subst h1
    refine qr_iload_n 14 rfl rfl rfl ?_
    refine qr_iconst 15 rfl rfl ?_
    refine qr_icmp_lt 35 18 rfl rfl rfl (by omega) (by decide) (fun h2 => ?_) (fun h2 => ?_)
    · skip
      refine qr_iconst 36 rfl rfl ?_
      refine qr_retZ rfl rfl (by omega) (by decide) (by decide) ?_
      show qr_W (qe L xs vb) (d + 2) qx_e38 _ (10, [(0, .ref 16), (1, .int (qz (-1))), (2, .int (qz x1)), (3, .int (qz x2))], [.int (qz 0)], _, 0, 0)
      refine qr_if_ne 15 13 rfl rfl rfl (by decide) (fun h => absurd h (by decide)) (fun _ => ?_)
      refine qr_iconst 14 rfl rfl ?_
      refine qr_retI rfl rfl (by decide) (by decide) ?_
      refine ⟨⟨_, rfl⟩, ⟨_, _, _, _, rfl⟩, ?_⟩
      refine qr_start (d := d + 2) qv_e174 (Nat.le_of_ble_eq_true rfl) ?_
      show qr_W (qe L xs vb) (d + 2) qx_e174 _ (0, [(0, .ref 86), (1, .int (qz (-1))), (2, .int (qz x1)), (3, .int (qz x2))], [], _, 0, 0)
      refine qr_aload_n 1 rfl rfl rfl ?_
      refine qr_iload_n 2 rfl rfl rfl ?_
      refine qr_iload_n 3 rfl rfl rfl ?_
      refine qr_iload_n 4 rfl rfl rfl ?_
      refine qy_call 7 rfl rfl rfl ?_
      refine qr_start (d := d + 1) qv_e175 (Nat.le_of_ble_eq_true rfl) ?_
      show qr_W (qe L xs vb) (d + 1) qx_e175 _ (0, [(0, .ref 86), (1, .int (qz (-1))), (2, .int (qz x1)), (3, .int (qz x2))], [], _, 0, 0)
      refine qr_iload_n 1 rfl rfl rfl ?_
      refine qr_i2l 2 rfl (by omega) rfl ?_
      refine qy_vl (-1) rfl ?_
      refine qr_ldc2 (-1) 5 rfl (by decide) rfl ?_
      refine qr_aload_n 6 rfl rfl rfl ?_
      refine qr_get 9 rfl rfl rfl (by decide) rfl ?_
      refine qy_v 0 rfl ?_
      refine qr_iconst 10 rfl rfl ?_
      refine qr_isub 11 rfl rfl ?_
      refine qy_v (-1) rfl ?_
      refine qr_i2l 12 rfl (by omega) rfl ?_
      refine qy_vl (-1) rfl ?_
      refine qy_call 15 rfl rfl rfl ?_
      refine qr_start (d := d + 0) qv_e176 (Nat.le_of_ble_eq_true rfl) ?_
      show qr_W (qe L xs vb) (d + 0) qx_e176 _ (0, [(0, .long (ql (-1))), (2, .long (ql (-1))), (4, .long (ql (-1)))], [], _, 0, 0)
      refine qr_lload_n 1 rfl rfl rfl ?_
      refine qr_lload_n 2 rfl rfl rfl ?_
      refine qr_lc_lt 17 6 rfl rfl rfl rfl (by decide) (by decide) (fun h => absurd h (by decide)) (fun _ => ?_)
      refine qr_lload_n 7 rfl rfl rfl ?_
      refine qr_lload 9 rfl rfl rfl ?_
      refine qr_lc_gt 17 13 rfl rfl rfl rfl (by decide) (by decide) (fun h => absurd h (by decide)) (fun _ => ?_)
      refine qr_iconst 14 rfl rfl ?_
      refine qr_goto 18 rfl rfl ?_
      refine qr_retZ rfl rfl (by omega) (by decide) (by decide) ?_
      show qr_W (qe L xs vb) (d + 1) qx_e175 _ (15, [(0, .ref 86), (1, .int (qz (-1))), (2, .int (qz x1)), (3, .int (qz x2))], [.int (qz 1)], _, 0, 0)
      refine qr_if_eq 44 18 rfl rfl rfl (by decide) (fun h => absurd h (by decide)) (fun _ => ?_)
      refine qr_iload_n 19 rfl rfl rfl ?_
      refine qr_i2l 20 rfl (by omega) rfl ?_
      refine qr_lconst 21 rfl rfl ?_
      refine qy_vl 1 rfl ?_
      refine qr_ldc2 99 24 rfl (by decide) rfl ?_
      refine qy_call 27 rfl rfl rfl ?_
      refine qr_start (d := d + 0) qv_e176 (Nat.le_of_ble_eq_true rfl) ?_
      show qr_W (qe L xs vb) (d + 0) qx_e176 _ (0, [(0, .long (ql x1)), (2, .long (ql 1)), (4, .long (ql 99))], [], _, 0, 0)
      refine qr_lload_n 1 rfl rfl rfl ?_
      refine qr_lload_n 2 rfl rfl rfl ?_
      refine qr_lc_lt 17 6 rfl rfl rfl rfl (by omega) (by decide) (fun h3 => ?_) (fun h => False.elim (by omega))
      refine qr_iconst 18 rfl rfl ?_
      refine qr_retZ rfl rfl (by omega) (by decide) (by decide) ?_
      show qr_W (qe L xs vb) (d + 1) qx_e175 _ (27, [(0, .ref 86), (1, .int (qz (-1))), (2, .int (qz x1)), (3, .int (qz x2))], [.int (qz 0)], _, 0, 0)
      refine qr_if_eq 44 30 rfl rfl rfl (by decide) (fun _ => ?_) (fun h => absurd h (by decide))
      refine qr_iconst 45 rfl rfl ?_
      refine qr_retZ rfl rfl (by omega) (by decide) (by decide) ?_
      show qr_W (qe L xs vb) (d + 2) qx_e174 _ (7, [(0, .ref 86), (1, .int (qz (-1))), (2, .int (qz x1)), (3, .int (qz x2))], [.int (qz 0)], _, 0, 0)
      refine qr_if_ne 12 10 rfl rfl rfl (by decide) (fun h => absurd h (by decide)) (fun _ => ?_)
      refine qr_iconst 11 rfl rfl ?_
      refine qr_retI rfl rfl (by decide) (by decide) ?_
      exact rfl
    · skip
      refine qr_iload_n 19 rfl rfl rfl ?_
      refine qr_bipush 21 rfl (by decide) rfl ?_
      refine qr_icmp_gt 35 24 rfl rfl rfl (by omega) (by decide) (fun h4 => ?_) (fun h4 => ?_)
      · skip
        refine qr_iconst 36 rfl rfl ?_
        refine qr_retZ rfl rfl (by omega) (by decide) (by decide) ?_
        show qr_W (qe L xs vb) (d + 2) qx_e38 _ (10, [(0, .ref 16), (1, .int (qz (-1))), (2, .int (qz x1)), (3, .int (qz x2))], [.int (qz 0)], _, 0, 0)
        refine qr_if_ne 15 13 rfl rfl rfl (by decide) (fun h => absurd h (by decide)) (fun _ => ?_)
        refine qr_iconst 14 rfl rfl ?_
        refine qr_retI rfl rfl (by decide) (by decide) ?_
        refine ⟨⟨_, rfl⟩, ⟨_, _, _, _, rfl⟩, ?_⟩
        refine qr_start (d := d + 2) qv_e174 (Nat.le_of_ble_eq_true rfl) ?_
        show qr_W (qe L xs vb) (d + 2) qx_e174 _ (0, [(0, .ref 86), (1, .int (qz (-1))), (2, .int (qz x1)), (3, .int (qz x2))], [], _, 0, 0)
        refine qr_aload_n 1 rfl rfl rfl ?_
        refine qr_iload_n 2 rfl rfl rfl ?_
        refine qr_iload_n 3 rfl rfl rfl ?_
        refine qr_iload_n 4 rfl rfl rfl ?_
        refine qy_call 7 rfl rfl rfl ?_
        refine qr_start (d := d + 1) qv_e175 (Nat.le_of_ble_eq_true rfl) ?_
        show qr_W (qe L xs vb) (d + 1) qx_e175 _ (0, [(0, .ref 86), (1, .int (qz (-1))), (2, .int (qz x1)), (3, .int (qz x2))], [], _, 0, 0)
        refine qr_iload_n 1 rfl rfl rfl ?_
        refine qr_i2l 2 rfl (by omega) rfl ?_
        refine qy_vl (-1) rfl ?_
        refine qr_ldc2 (-1) 5 rfl (by decide) rfl ?_
        refine qr_aload_n 6 rfl rfl rfl ?_
        refine qr_get 9 rfl rfl rfl (by decide) rfl ?_
        refine qy_v 0 rfl ?_
        refine qr_iconst 10 rfl rfl ?_
        refine qr_isub 11 rfl rfl ?_
        refine qy_v (-1) rfl ?_
        refine qr_i2l 12 rfl (by omega) rfl ?_
        refine qy_vl (-1) rfl ?_
        refine qy_call 15 rfl rfl rfl ?_
        refine qr_start (d := d + 0) qv_e176 (Nat.le_of_ble_eq_true rfl) ?_
        show qr_W (qe L xs vb) (d + 0) qx_e176 _ (0, [(0, .long (ql (-1))), (2, .long (ql (-1))), (4, .long (ql (-1)))], [], _, 0, 0)
        refine qr_lload_n 1 rfl rfl rfl ?_
        refine qr_lload_n 2 rfl rfl rfl ?_
        refine qr_lc_lt 17 6 rfl rfl rfl rfl (by decide) (by decide) (fun h => absurd h (by decide)) (fun _ => ?_)
        refine qr_lload_n 7 rfl rfl rfl ?_
        refine qr_lload 9 rfl rfl rfl ?_
        refine qr_lc_gt 17 13 rfl rfl rfl rfl (by decide) (by decide) (fun h => absurd h (by decide)) (fun _ => ?_)
        refine qr_iconst 14 rfl rfl ?_
        refine qr_goto 18 rfl rfl ?_
        refine qr_retZ rfl rfl (by omega) (by decide) (by decide) ?_
        show qr_W (qe L xs vb) (d + 1) qx_e175 _ (15, [(0, .ref 86), (1, .int (qz (-1))), (2, .int (qz x1)), (3, .int (qz x2))], [.int (qz 1)], _, 0, 0)
        refine qr_if_eq 44 18 rfl rfl rfl (by decide) (fun h => absurd h (by decide)) (fun _ => ?_)
        refine qr_iload_n 19 rfl rfl rfl ?_
        refine qr_i2l 20 rfl (by omega) rfl ?_
        refine qr_lconst 21 rfl rfl ?_
        refine qy_vl 1 rfl ?_
        refine qr_ldc2 99 24 rfl (by decide) rfl ?_
        refine qy_call 27 rfl rfl rfl ?_
        refine qr_start (d := d + 0) qv_e176 (Nat.le_of_ble_eq_true rfl) ?_
        show qr_W (qe L xs vb) (d + 0) qx_e176 _ (0, [(0, .long (ql x1)), (2, .long (ql 1)), (4, .long (ql 99))], [], _, 0, 0)
        refine qr_lload_n 1 rfl rfl rfl ?_
        refine qr_lload_n 2 rfl rfl rfl ?_
        refine qr_lc_lt 17 6 rfl rfl rfl rfl (by omega) (by decide) (fun h => False.elim (by omega)) (fun h5 => ?_)
        refine qr_lload_n 7 rfl rfl rfl ?_
        refine qr_lload 9 rfl rfl rfl ?_
        refine qr_lc_gt 17 13 rfl rfl rfl rfl (by omega) (by decide) (fun h6 => ?_) (fun h => False.elim (by omega))
        refine qr_iconst 18 rfl rfl ?_
        refine qr_retZ rfl rfl (by omega) (by decide) (by decide) ?_
        show qr_W (qe L xs vb) (d + 1) qx_e175 _ (27, [(0, .ref 86), (1, .int (qz (-1))), (2, .int (qz x1)), (3, .int (qz x2))], [.int (qz 0)], _, 0, 0)
        refine qr_if_eq 44 30 rfl rfl rfl (by decide) (fun _ => ?_) (fun h => absurd h (by decide))
        refine qr_iconst 45 rfl rfl ?_
        refine qr_retZ rfl rfl (by omega) (by decide) (by decide) ?_
        show qr_W (qe L xs vb) (d + 2) qx_e174 _ (7, [(0, .ref 86), (1, .int (qz (-1))), (2, .int (qz x1)), (3, .int (qz x2))], [.int (qz 0)], _, 0, 0)
        as_aux_lemma =>
          refine qr_if_ne 12 10 rfl rfl rfl (by decide) (fun h => absurd h (by decide)) (fun _ => ?_)
          refine qr_iconst 11 rfl rfl ?_
          refine qr_retI rfl rfl (by decide) (by decide) ?_
          exact rfl
      · skip
        refine qr_iload_n 25 rfl rfl rfl ?_
        refine qy_call 28 rfl rfl rfl ?_
        refine qr_start (d := d + 0) qv_e41 (Nat.le_of_ble_eq_true rfl) ?_
        show qr_W (qe L xs vb) (d + 0) qx_e41 _ (0, [(0, .int (qz x2))], [], _, 0, 0)
        refine qr_iload_n 1 rfl rfl rfl ?_
        refine qr_if_eq 9 4 rfl rfl rfl (by omega) (fun h7 => ?_) (fun h7 => ?_)
        · skip
          subst h7
          refine qr_iconst 10 rfl rfl ?_
          refine qr_goto 14 rfl rfl ?_
          refine qr_retZ rfl rfl (by omega) (by decide) (by decide) ?_
          show qr_W (qe L xs vb) (d + 1) qx_e39 _ (28, [(0, .ref 17), (1, .int (qz (-1))), (2, .int (qz x1)), (3, .int (qz 0))], [.int (qz 1)], _, 0, 0)
          refine qr_if_eq 35 31 rfl rfl rfl (by decide) (fun h => absurd h (by decide)) (fun _ => ?_)
          refine qr_iconst 32 rfl rfl ?_
          refine qr_goto 36 rfl rfl ?_
          refine qr_retZ rfl rfl (by omega) (by decide) (by decide) ?_
          show qr_W (qe L xs vb) (d + 2) qx_e38 _ (10, [(0, .ref 16), (1, .int (qz (-1))), (2, .int (qz x1)), (3, .int (qz 0))], [.int (qz 1)], _, 0, 0)
          refine qr_if_ne 15 13 rfl rfl rfl (by decide) (fun _ => ?_) (fun h => absurd h (by decide))
          refine qr_aload_n 16 rfl rfl rfl ?_
          refine qr_get 19 rfl rfl rfl (by decide) rfl ?_
          refine qr_get 22 rfl rfl rfl (by decide) rfl ?_
          refine qy_v 0 rfl ?_
          refine qr_bipush 24 rfl (by decide) rfl ?_
          refine qr_icmp_lt 30 27 rfl rfl rfl (by decide) (by decide) (fun _ => ?_) (fun h => absurd h (by decide))
          refine qr_aload_n 31 rfl rfl rfl ?_
          refine qr_get 34 rfl rfl rfl (by decide) rfl ?_
          refine qr_iload_n 35 rfl rfl rfl ?_
          refine qr_iload_n 36 rfl rfl rfl ?_
          refine qr_iload_n 37 rfl rfl rfl ?_
          refine qy_call 40 rfl rfl rfl ?_
          refine qr_start (d := d + 1) qv_e42 (Nat.le_of_ble_eq_true rfl) ?_
          show qr_W (qe L xs vb) (d + 1) qx_e42 _ (0, [(0, .ref 17), (1, .int (qz (-1))), (2, .int (qz x1)), (3, .int (qz 0))], [], _, 0, 0)
          refine qr_aload_n 1 rfl rfl rfl ?_
          refine qr_get 4 rfl rfl rfl (by decide) rfl ?_
          refine qr_aload_n 5 rfl rfl rfl ?_
          refine qr_get 8 rfl rfl rfl (by decide) rfl ?_
          refine qy_v 0 rfl ?_
          refine qr_iload_n 9 rfl rfl rfl ?_
          refine qr_iastore 10 rfl (by decide) rfl (by omega) (by decide) rfl ?_
          refine qy_wA (qw_r (qo_r g) 18 (qzu ((qo_r g) 18) (0 : Int).toNat (-1))) rfl (fun α8 e8 => ?_)
          refine qr_aload_n 11 rfl rfl rfl ?_
          refine qr_get 14 rfl rfl rfl (by decide) rfl ?_
          refine qr_aload_n 15 rfl rfl rfl ?_
          refine qr_get 18 rfl rfl rfl (by decide) rfl ?_
          refine qy_v 0 (by subst_vars; rfl) ?_
          refine qr_iload_n 19 rfl rfl rfl ?_
          refine qr_iastore 20 rfl (by decide) rfl (by omega) (by decide) rfl ?_
          refine qy_wA (qw_r α8 19 (qzu (α8 19) (0 : Int).toNat x1)) rfl (fun α9 e9 => ?_)
          refine qr_aload_n 21 rfl rfl rfl ?_
          refine qr_get 24 rfl rfl rfl (by decide) rfl ?_
          refine qr_aload_n 25 rfl rfl rfl ?_
          refine qr_get 28 rfl rfl rfl (by decide) rfl ?_
          refine qy_v 0 (by subst_vars; rfl) ?_
          refine qr_iload_n 29 rfl rfl rfl ?_
          refine qr_iastore 30 rfl (by decide) rfl (by omega) (by decide) rfl ?_
          refine qy_wA (qw_r α9 20 (qzu (α9 20) (0 : Int).toNat 0)) rfl (fun α10 e10 => ?_)
          refine qr_aload_n 31 rfl rfl rfl ?_
          refine qr_get 34 rfl rfl rfl (by decide) rfl ?_
          refine qr_aload_n 35 rfl rfl rfl ?_
          refine qr_get 38 rfl rfl rfl (by decide) rfl ?_
          refine qy_v 0 (by subst_vars; rfl) ?_
          as_aux_lemma =>
            refine qr_lconst 39 rfl rfl ?_
            refine qy_vl 1 rfl ?_
            refine qr_aload_n 40 rfl rfl rfl ?_
            refine qr_get 43 rfl rfl rfl (by decide) rfl ?_
            refine qy_v 0 (by subst_vars; rfl) ?_
            refine qr_lshl 44 rfl rfl ?_
            refine qy_vl 1 rfl ?_
            refine qr_iload_n 45 rfl rfl rfl ?_
            refine qr_if_ge 52 48 rfl rfl rfl (by decide) (fun h => absurd h (by decide)) (fun _ => ?_)
            refine qr_lconst 49 rfl rfl ?_
            refine qy_vl 0 rfl ?_
            refine qr_goto 58 rfl rfl ?_
            refine qr_lor 59 rfl rfl ?_
            refine qy_vl 1 rfl ?_
            refine qr_lastore 60 rfl (by decide) rfl (by omega) (by decide) rfl ?_
            refine qy_wA (qw_r α10 22 (qzu (α10 22) (0 : Int).toNat 1)) rfl (fun α11 e11 => ?_)
            refine qr_aload_n 61 rfl rfl rfl ?_
            refine qr_dup 62 rfl rfl rfl ?_
            refine qr_get 65 rfl rfl rfl (by decide) rfl ?_
            refine qy_v 0 (by subst_vars; rfl) ?_
            refine qr_dup_x1 66 rfl rfl rfl rfl ?_
            refine qr_iconst 67 rfl rfl ?_
            refine qr_iadd 68 rfl rfl ?_
            refine qy_v 1 rfl ?_
            refine qr_put 71 rfl (by decide) rfl (Nat.le_of_ble_eq_true rfl) (Nat.le_of_ble_eq_true rfl) (Or.inl rfl) (qr_fitI rfl _) rfl ?_
            refine qy_wS (qw_s (qo_s s) 17 6 1) rfl (fun σ12 e12 => ?_)
            refine qr_retI rfl rfl (by decide) (by decide) ?_
            show qr_W (qe L xs vb) (d + 2) qx_e38 _ (40, [(0, .ref 16), (1, .int (qz (-1))), (2, .int (qz x1)), (3, .int (qz 0))], [.int (qz 0)], _, 0, 0)
            refine qr_retI rfl rfl (by decide) (by decide) ?_
            refine ⟨⟨_, rfl⟩, ⟨_, _, _, _, rfl⟩, ?_⟩
            refine qr_start (d := d + 2) qv_e174 (Nat.le_of_ble_eq_true rfl) ?_
            show qr_W (qe L xs vb) (d + 2) qx_e174 _ (0, [(0, .ref 86), (1, .int (qz (-1))), (2, .int (qz x1)), (3, .int (qz 0))], [], _, 0, 0)
            refine qr_aload_n 1 rfl rfl rfl ?_
            refine qr_iload_n 2 rfl rfl rfl ?_
            refine qr_iload_n 3 rfl rfl rfl ?_
            refine qr_iload_n 4 rfl rfl rfl ?_
            refine qy_call 7 rfl rfl rfl ?_
            refine qr_start (d := d + 1) qv_e175 (Nat.le_of_ble_eq_true rfl) ?_
            show qr_W (qe L xs vb) (d + 1) qx_e175 _ (0, [(0, .ref 86), (1, .int (qz (-1))), (2, .int (qz x1)), (3, .int (qz 0))], [], _, 0, 0)
            refine qr_iload_n 1 rfl rfl rfl ?_
            refine qr_i2l 2 rfl (by omega) rfl ?_
            refine qy_vl (-1) rfl ?_
            refine qr_ldc2 (-1) 5 rfl (by decide) rfl ?_
            refine qr_aload_n 6 rfl rfl rfl ?_
            refine qr_get 9 rfl rfl rfl (by decide) rfl ?_
            refine qy_v 0 (by subst_vars; rfl) ?_
            refine qr_iconst 10 rfl rfl ?_
            refine qr_isub 11 rfl rfl ?_
            refine qy_v (-1) rfl ?_
            refine qr_i2l 12 rfl (by omega) rfl ?_
            refine qy_vl (-1) rfl ?_
            refine qy_call 15 rfl rfl rfl ?_
            refine qr_start (d := d + 0) qv_e176 (Nat.le_of_ble_eq_true rfl) ?_
            show qr_W (qe L xs vb) (d + 0) qx_e176 _ (0, [(0, .long (ql (-1))), (2, .long (ql (-1))), (4, .long (ql (-1)))], [], _, 0, 0)
            refine qr_lload_n 1 rfl rfl rfl ?_
            refine qr_lload_n 2 rfl rfl rfl ?_
            refine qr_lc_lt 17 6 rfl rfl rfl rfl (by decide) (by decide) (fun h => absurd h (by decide)) (fun _ => ?_)
            refine qr_lload_n 7 rfl rfl rfl ?_
            refine qr_lload 9 rfl rfl rfl ?_
            refine qr_lc_gt 17 13 rfl rfl rfl rfl (by decide) (by decide) (fun h => absurd h (by decide)) (fun _ => ?_)
            refine qr_iconst 14 rfl rfl ?_
            refine qr_goto 18 rfl rfl ?_
            refine qr_retZ rfl rfl (by omega) (by decide) (by decide) ?_
            show qr_W (qe L xs vb) (d + 1) qx_e175 _ (15, [(0, .ref 86), (1, .int (qz (-1))), (2, .int (qz x1)), (3, .int (qz 0))], [.int (qz 1)], _, 0, 0)
            refine qr_if_eq 44 18 rfl rfl rfl (by decide) (fun h => absurd h (by decide)) (fun _ => ?_)
            refine qr_iload_n 19 rfl rfl rfl ?_
            refine qr_i2l 20 rfl (by omega) rfl ?_
            refine qr_lconst 21 rfl rfl ?_
            refine qy_vl 1 rfl ?_
            refine qr_ldc2 99 24 rfl (by decide) rfl ?_
            refine qy_call 27 rfl rfl rfl ?_
            refine qr_start (d := d + 0) qv_e176 (Nat.le_of_ble_eq_true rfl) ?_
            show qr_W (qe L xs vb) (d + 0) qx_e176 _ (0, [(0, .long (ql x1)), (2, .long (ql 1)), (4, .long (ql 99))], [], _, 0, 0)
            refine qr_lload_n 1 rfl rfl rfl ?_
            refine qr_lload_n 2 rfl rfl rfl ?_
            refine qr_lc_lt 17 6 rfl rfl rfl rfl (by omega) (by decide) (fun h => False.elim (by omega)) (fun h13 => ?_)
            refine qr_lload_n 7 rfl rfl rfl ?_
            refine qr_lload 9 rfl rfl rfl ?_
            refine qr_lc_gt 17 13 rfl rfl rfl rfl (by omega) (by decide) (fun h => False.elim (by omega)) (fun h14 => ?_)
            refine qr_iconst 14 rfl rfl ?_
            refine qr_goto 18 rfl rfl ?_
            refine qr_retZ rfl rfl (by omega) (by decide) (by decide) ?_
            show qr_W (qe L xs vb) (d + 1) qx_e175 _ (27, [(0, .ref 86), (1, .int (qz (-1))), (2, .int (qz x1)), (3, .int (qz 0))], [.int (qz 1)], _, 0, 0)
            refine qr_if_eq 44 30 rfl rfl rfl (by decide) (fun h => absurd h (by decide)) (fun _ => ?_)
            refine qr_iload_n 31 rfl rfl rfl ?_
            refine qr_i2l 32 rfl (by omega) rfl ?_
            refine qy_vl 0 rfl ?_
            refine qr_lconst 33 rfl rfl ?_
            refine qy_vl 0 rfl ?_
            as_aux_lemma =>
              refine qr_lconst 34 rfl rfl ?_
              refine qy_vl 1 rfl ?_
              refine qy_call 37 rfl rfl rfl ?_
              refine qr_start (d := d + 0) qv_e176 (Nat.le_of_ble_eq_true rfl) ?_
              show qr_W (qe L xs vb) (d + 0) qx_e176 _ (0, [(0, .long (ql 0)), (2, .long (ql 0)), (4, .long (ql 1))], [], _, 0, 0)
              refine qr_lload_n 1 rfl rfl rfl ?_
              refine qr_lload_n 2 rfl rfl rfl ?_
              refine qr_lc_lt 17 6 rfl rfl rfl rfl (by decide) (by decide) (fun h => absurd h (by decide)) (fun _ => ?_)
              refine qr_lload_n 7 rfl rfl rfl ?_
              refine qr_lload 9 rfl rfl rfl ?_
              refine qr_lc_gt 17 13 rfl rfl rfl rfl (by decide) (by decide) (fun h => absurd h (by decide)) (fun _ => ?_)
              refine qr_iconst 14 rfl rfl ?_
              refine qr_goto 18 rfl rfl ?_
              refine qr_retZ rfl rfl (by omega) (by decide) (by decide) ?_
              show qr_W (qe L xs vb) (d + 1) qx_e175 _ (37, [(0, .ref 86), (1, .int (qz (-1))), (2, .int (qz x1)), (3, .int (qz 0))], [.int (qz 1)], _, 0, 0)
              refine qr_if_eq 44 40 rfl rfl rfl (by decide) (fun h => absurd h (by decide)) (fun _ => ?_)
              refine qr_iconst 41 rfl rfl ?_
              refine qr_goto 45 rfl rfl ?_
              refine qr_retZ rfl rfl (by omega) (by decide) (by decide) ?_
              show qr_W (qe L xs vb) (d + 2) qx_e174 _ (7, [(0, .ref 86), (1, .int (qz (-1))), (2, .int (qz x1)), (3, .int (qz 0))], [.int (qz 1)], _, 0, 0)
              refine qr_if_ne 12 10 rfl rfl rfl (by decide) (fun _ => ?_) (fun h => absurd h (by decide))
              refine qr_aload_n 13 rfl rfl rfl ?_
              refine qr_get 16 rfl rfl rfl (by decide) rfl ?_
              refine qy_v 0 (by subst_vars; rfl) ?_
              refine qr_bipush 18 rfl (by decide) rfl ?_
              refine qr_icmp_ne 24 21 rfl rfl rfl (by decide) (by decide) (fun _ => ?_) (fun h => absurd h (by decide))
              refine qr_aload_n 25 rfl rfl rfl ?_
              refine qr_get 28 rfl rfl rfl (by decide) rfl ?_
              refine qr_aload_n 29 rfl rfl rfl ?_
              refine qr_get 32 rfl rfl rfl (by decide) rfl ?_
              refine qy_v 0 (by subst_vars; rfl) ?_
              refine qr_iload_n 33 rfl rfl rfl ?_
              refine qr_iastore 34 rfl (by decide) rfl (by omega) (by decide) rfl ?_
              refine qy_wA (qw_r α11 91 (qzu (α11 91) (0 : Int).toNat (-1))) rfl (fun α15 e15 => ?_)
              refine qr_aload_n 35 rfl rfl rfl ?_
              refine qr_get 38 rfl rfl rfl (by decide) rfl ?_
              refine qr_aload_n 39 rfl rfl rfl ?_
              refine qr_get 42 rfl rfl rfl (by decide) rfl ?_
              refine qy_v 0 (by subst_vars; rfl) ?_
              refine qr_iload_n 43 rfl rfl rfl ?_
              refine qr_iastore 44 rfl (by decide) rfl (by omega) (by decide) rfl ?_
              refine qy_wA (qw_r α15 92 (qzu (α15 92) (0 : Int).toNat x1)) rfl (fun α16 e16 => ?_)
              refine qr_aload_n 45 rfl rfl rfl ?_
              refine qr_get 48 rfl rfl rfl (by decide) rfl ?_
              refine qr_iconst 49 rfl rfl ?_
              refine qr_aload_n 50 rfl rfl rfl ?_
              refine qr_get 53 rfl rfl rfl (by decide) rfl ?_
              refine qy_v 0 (by subst_vars; rfl) ?_
              refine qr_iadd 54 rfl rfl ?_
              refine qy_v 0 rfl ?_
              refine qr_iload_n 55 rfl rfl rfl ?_
              refine qr_iastore 56 rfl (by decide) rfl (by omega) (by decide) rfl ?_
              refine qy_wA (qw_r α16 87 (qzu (α16 87) (0 : Int).toNat 0)) rfl (fun α17 e17 => ?_)
              refine qr_aload_n 57 rfl rfl rfl ?_
              refine qr_iconst 58 rfl rfl ?_
              refine qr_put 61 rfl (by decide) rfl (Nat.le_of_ble_eq_true rfl) (Nat.le_of_ble_eq_true rfl) (Or.inl rfl) (qr_fitZ rfl (by omega)) rfl ?_
              refine qy_wS (qw_s σ12 86 15 0) rfl (fun σ18 e18 => ?_)
              refine qr_aload_n 62 rfl rfl rfl ?_
              refine qr_dup 63 rfl rfl rfl ?_
              refine qr_get 66 rfl rfl rfl (by decide) rfl ?_
              refine qy_v 0 (by subst_vars; rfl) ?_
              refine qr_iconst 67 rfl rfl ?_
              refine qr_iadd 68 rfl rfl ?_
              refine qy_v 1 rfl ?_
              refine qr_put 71 rfl (by decide) rfl (Nat.le_of_ble_eq_true rfl) (Nat.le_of_ble_eq_true rfl) (Or.inl rfl) (qr_fitI rfl _) rfl ?_
              refine qy_wS (qw_s σ18 86 6 1) rfl (fun σ19 e19 => ?_)
              refine qr_aload_n 72 rfl rfl rfl ?_
              refine qr_get 75 rfl rfl rfl (by decide) rfl ?_
              refine qy_v 1 (by subst_vars; rfl) ?_
              refine qr_iconst 76 rfl rfl ?_
              refine qr_isub 77 rfl rfl ?_
              refine qy_v 0 rfl ?_
              refine qr_retI rfl rfl (by decide) (by decide) ?_
              exact rfl
        · skip
          refine qr_iload_n 5 rfl rfl rfl ?_
          refine qr_iconst 6 rfl rfl ?_
          refine qr_icmp_ne 13 9 rfl rfl rfl (by omega) (by decide) (fun h20 => ?_) (fun h20 => ?_)
          · skip
            refine qr_iconst 14 rfl rfl ?_
            refine qr_retZ rfl rfl (by omega) (by decide) (by decide) ?_
            show qr_W (qe L xs vb) (d + 1) qx_e39 _ (28, [(0, .ref 17), (1, .int (qz (-1))), (2, .int (qz x1)), (3, .int (qz x2))], [.int (qz 0)], _, 0, 0)
            refine qr_if_eq 35 31 rfl rfl rfl (by decide) (fun _ => ?_) (fun h => absurd h (by decide))
            refine qr_iconst 36 rfl rfl ?_
            refine qr_retZ rfl rfl (by omega) (by decide) (by decide) ?_
            show qr_W (qe L xs vb) (d + 2) qx_e38 _ (10, [(0, .ref 16), (1, .int (qz (-1))), (2, .int (qz x1)), (3, .int (qz x2))], [.int (qz 0)], _, 0, 0)
            refine qr_if_ne 15 13 rfl rfl rfl (by decide) (fun h => absurd h (by decide)) (fun _ => ?_)
            refine qr_iconst 14 rfl rfl ?_
            refine qr_retI rfl rfl (by decide) (by decide) ?_
            refine ⟨⟨_, rfl⟩, ⟨_, _, _, _, rfl⟩, ?_⟩
            refine qr_start (d := d + 2) qv_e174 (Nat.le_of_ble_eq_true rfl) ?_
            show qr_W (qe L xs vb) (d + 2) qx_e174 _ (0, [(0, .ref 86), (1, .int (qz (-1))), (2, .int (qz x1)), (3, .int (qz x2))], [], _, 0, 0)
            refine qr_aload_n 1 rfl rfl rfl ?_
            refine qr_iload_n 2 rfl rfl rfl ?_
            refine qr_iload_n 3 rfl rfl rfl ?_
            refine qr_iload_n 4 rfl rfl rfl ?_
            refine qy_call 7 rfl rfl rfl ?_
            refine qr_start (d := d + 1) qv_e175 (Nat.le_of_ble_eq_true rfl) ?_
            show qr_W (qe L xs vb) (d + 1) qx_e175 _ (0, [(0, .ref 86), (1, .int (qz (-1))), (2, .int (qz x1)), (3, .int (qz x2))], [], _, 0, 0)
            refine qr_iload_n 1 rfl rfl rfl ?_
            refine qr_i2l 2 rfl (by omega) rfl ?_
            refine qy_vl (-1) rfl ?_
            refine qr_ldc2 (-1) 5 rfl (by decide) rfl ?_
            refine qr_aload_n 6 rfl rfl rfl ?_
            refine qr_get 9 rfl rfl rfl (by decide) rfl ?_
            refine qy_v 0 rfl ?_
            refine qr_iconst 10 rfl rfl ?_
            refine qr_isub 11 rfl rfl ?_
            refine qy_v (-1) rfl ?_
            refine qr_i2l 12 rfl (by omega) rfl ?_
            refine qy_vl (-1) rfl ?_
            refine qy_call 15 rfl rfl rfl ?_
            refine qr_start (d := d + 0) qv_e176 (Nat.le_of_ble_eq_true rfl) ?_
            show qr_W (qe L xs vb) (d + 0) qx_e176 _ (0, [(0, .long (ql (-1))), (2, .long (ql (-1))), (4, .long (ql (-1)))], [], _, 0, 0)
            refine qr_lload_n 1 rfl rfl rfl ?_
            refine qr_lload_n 2 rfl rfl rfl ?_
            refine qr_lc_lt 17 6 rfl rfl rfl rfl (by decide) (by decide) (fun h => absurd h (by decide)) (fun _ => ?_)
            refine qr_lload_n 7 rfl rfl rfl ?_
            refine qr_lload 9 rfl rfl rfl ?_
            refine qr_lc_gt 17 13 rfl rfl rfl rfl (by decide) (by decide) (fun h => absurd h (by decide)) (fun _ => ?_)
            refine qr_iconst 14 rfl rfl ?_
            refine qr_goto 18 rfl rfl ?_
            refine qr_retZ rfl rfl (by omega) (by decide) (by decide) ?_
            show qr_W (qe L xs vb) (d + 1) qx_e175 _ (15, [(0, .ref 86), (1, .int (qz (-1))), (2, .int (qz x1)), (3, .int (qz x2))], [.int (qz 1)], _, 0, 0)
            refine qr_if_eq 44 18 rfl rfl rfl (by decide) (fun h => absurd h (by decide)) (fun _ => ?_)
            refine qr_iload_n 19 rfl rfl rfl ?_
            refine qr_i2l 20 rfl (by omega) rfl ?_
            refine qr_lconst 21 rfl rfl ?_
            refine qy_vl 1 rfl ?_
            refine qr_ldc2 99 24 rfl (by decide) rfl ?_
            refine qy_call 27 rfl rfl rfl ?_
            refine qr_start (d := d + 0) qv_e176 (Nat.le_of_ble_eq_true rfl) ?_
            show qr_W (qe L xs vb) (d + 0) qx_e176 _ (0, [(0, .long (ql x1)), (2, .long (ql 1)), (4, .long (ql 99))], [], _, 0, 0)
            refine qr_lload_n 1 rfl rfl rfl ?_
            as_aux_lemma =>
              refine qr_lload_n 2 rfl rfl rfl ?_
              refine qr_lc_lt 17 6 rfl rfl rfl rfl (by omega) (by decide) (fun h => False.elim (by omega)) (fun h21 => ?_)
              refine qr_lload_n 7 rfl rfl rfl ?_
              refine qr_lload 9 rfl rfl rfl ?_
              refine qr_lc_gt 17 13 rfl rfl rfl rfl (by omega) (by decide) (fun h => False.elim (by omega)) (fun h22 => ?_)
              refine qr_iconst 14 rfl rfl ?_
              refine qr_goto 18 rfl rfl ?_
              refine qr_retZ rfl rfl (by omega) (by decide) (by decide) ?_
              show qr_W (qe L xs vb) (d + 1) qx_e175 _ (27, [(0, .ref 86), (1, .int (qz (-1))), (2, .int (qz x1)), (3, .int (qz x2))], [.int (qz 1)], _, 0, 0)
              refine qr_if_eq 44 30 rfl rfl rfl (by decide) (fun h => absurd h (by decide)) (fun _ => ?_)
              refine qr_iload_n 31 rfl rfl rfl ?_
              refine qr_i2l 32 rfl (by omega) rfl ?_
              refine qr_lconst 33 rfl rfl ?_
              refine qy_vl 0 rfl ?_
              refine qr_lconst 34 rfl rfl ?_
              refine qy_vl 1 rfl ?_
              refine qy_call 37 rfl rfl rfl ?_
              refine qr_start (d := d + 0) qv_e176 (Nat.le_of_ble_eq_true rfl) ?_
              show qr_W (qe L xs vb) (d + 0) qx_e176 _ (0, [(0, .long (ql x2)), (2, .long (ql 0)), (4, .long (ql 1))], [], _, 0, 0)
              refine qr_lload_n 1 rfl rfl rfl ?_
              refine qr_lload_n 2 rfl rfl rfl ?_
              refine qr_lc_lt 17 6 rfl rfl rfl rfl (by omega) (by decide) (fun h23 => ?_) (fun h23 => ?_)
              · skip
                refine qr_iconst 18 rfl rfl ?_
                refine qr_retZ rfl rfl (by omega) (by decide) (by decide) ?_
                show qr_W (qe L xs vb) (d + 1) qx_e175 _ (37, [(0, .ref 86), (1, .int (qz (-1))), (2, .int (qz x1)), (3, .int (qz x2))], [.int (qz 0)], _, 0, 0)
                refine qr_if_eq 44 40 rfl rfl rfl (by decide) (fun _ => ?_) (fun h => absurd h (by decide))
                refine qr_iconst 45 rfl rfl ?_
                refine qr_retZ rfl rfl (by omega) (by decide) (by decide) ?_
                show qr_W (qe L xs vb) (d + 2) qx_e174 _ (7, [(0, .ref 86), (1, .int (qz (-1))), (2, .int (qz x1)), (3, .int (qz x2))], [.int (qz 0)], _, 0, 0)
                refine qr_if_ne 12 10 rfl rfl rfl (by decide) (fun h => absurd h (by decide)) (fun _ => ?_)
                refine qr_iconst 11 rfl rfl ?_
                refine qr_retI rfl rfl (by decide) (by decide) ?_
                exact rfl
              · skip
                refine qr_lload_n 7 rfl rfl rfl ?_
                refine qr_lload 9 rfl rfl rfl ?_
                refine qr_lc_gt 17 13 rfl rfl rfl rfl (by omega) (by decide) (fun h24 => ?_) (fun h => False.elim (by omega))
                refine qr_iconst 18 rfl rfl ?_
                refine qr_retZ rfl rfl (by omega) (by decide) (by decide) ?_
                show qr_W (qe L xs vb) (d + 1) qx_e175 _ (37, [(0, .ref 86), (1, .int (qz (-1))), (2, .int (qz x1)), (3, .int (qz x2))], [.int (qz 0)], _, 0, 0)
                refine qr_if_eq 44 40 rfl rfl rfl (by decide) (fun _ => ?_) (fun h => absurd h (by decide))
                refine qr_iconst 45 rfl rfl ?_
                refine qr_retZ rfl rfl (by omega) (by decide) (by decide) ?_
                show qr_W (qe L xs vb) (d + 2) qx_e174 _ (7, [(0, .ref 86), (1, .int (qz (-1))), (2, .int (qz x1)), (3, .int (qz x2))], [.int (qz 0)], _, 0, 0)
                refine qr_if_ne 12 10 rfl rfl rfl (by decide) (fun h => absurd h (by decide)) (fun _ => ?_)
                refine qr_iconst 11 rfl rfl ?_
                refine qr_retI rfl rfl (by decide) (by decide) ?_
                exact rfl
          · skip
            subst h20
            refine qr_iconst 10 rfl rfl ?_
            refine qr_goto 14 rfl rfl ?_
            refine qr_retZ rfl rfl (by omega) (by decide) (by decide) ?_
            show qr_W (qe L xs vb) (d + 1) qx_e39 _ (28, [(0, .ref 17), (1, .int (qz (-1))), (2, .int (qz x1)), (3, .int (qz 1))], [.int (qz 1)], _, 0, 0)
            refine qr_if_eq 35 31 rfl rfl rfl (by decide) (fun h => absurd h (by decide)) (fun _ => ?_)
            refine qr_iconst 32 rfl rfl ?_
            refine qr_goto 36 rfl rfl ?_
            refine qr_retZ rfl rfl (by omega) (by decide) (by decide) ?_
            show qr_W (qe L xs vb) (d + 2) qx_e38 _ (10, [(0, .ref 16), (1, .int (qz (-1))), (2, .int (qz x1)), (3, .int (qz 1))], [.int (qz 1)], _, 0, 0)
            refine qr_if_ne 15 13 rfl rfl rfl (by decide) (fun _ => ?_) (fun h => absurd h (by decide))
            refine qr_aload_n 16 rfl rfl rfl ?_
            refine qr_get 19 rfl rfl rfl (by decide) rfl ?_
            refine qr_get 22 rfl rfl rfl (by decide) rfl ?_
            refine qy_v 0 rfl ?_
            refine qr_bipush 24 rfl (by decide) rfl ?_
            refine qr_icmp_lt 30 27 rfl rfl rfl (by decide) (by decide) (fun _ => ?_) (fun h => absurd h (by decide))
            refine qr_aload_n 31 rfl rfl rfl ?_
            refine qr_get 34 rfl rfl rfl (by decide) rfl ?_
            refine qr_iload_n 35 rfl rfl rfl ?_
            refine qr_iload_n 36 rfl rfl rfl ?_
            refine qr_iload_n 37 rfl rfl rfl ?_
            refine qy_call 40 rfl rfl rfl ?_
            refine qr_start (d := d + 1) qv_e42 (Nat.le_of_ble_eq_true rfl) ?_
            show qr_W (qe L xs vb) (d + 1) qx_e42 _ (0, [(0, .ref 17), (1, .int (qz (-1))), (2, .int (qz x1)), (3, .int (qz 1))], [], _, 0, 0)
            refine qr_aload_n 1 rfl rfl rfl ?_
            refine qr_get 4 rfl rfl rfl (by decide) rfl ?_
            refine qr_aload_n 5 rfl rfl rfl ?_
            refine qr_get 8 rfl rfl rfl (by decide) rfl ?_
            refine qy_v 0 rfl ?_
            refine qr_iload_n 9 rfl rfl rfl ?_
            refine qr_iastore 10 rfl (by decide) rfl (by omega) (by decide) rfl ?_
            refine qy_wA (qw_r (qo_r g) 18 (qzu ((qo_r g) 18) (0 : Int).toNat (-1))) rfl (fun α25 e25 => ?_)
            refine qr_aload_n 11 rfl rfl rfl ?_
            refine qr_get 14 rfl rfl rfl (by decide) rfl ?_
            refine qr_aload_n 15 rfl rfl rfl ?_
            refine qr_get 18 rfl rfl rfl (by decide) rfl ?_
            refine qy_v 0 (by subst_vars; rfl) ?_
            refine qr_iload_n 19 rfl rfl rfl ?_
            refine qr_iastore 20 rfl (by decide) rfl (by omega) (by decide) rfl ?_
            refine qy_wA (qw_r α25 19 (qzu (α25 19) (0 : Int).toNat x1)) rfl (fun α26 e26 => ?_)
            refine qr_aload_n 21 rfl rfl rfl ?_
            refine qr_get 24 rfl rfl rfl (by decide) rfl ?_
            refine qr_aload_n 25 rfl rfl rfl ?_
            refine qr_get 28 rfl rfl rfl (by decide) rfl ?_
            refine qy_v 0 (by subst_vars; rfl) ?_
            refine qr_iload_n 29 rfl rfl rfl ?_
            refine qr_iastore 30 rfl (by decide) rfl (by omega) (by decide) rfl ?_
            refine qy_wA (qw_r α26 20 (qzu (α26 20) (0 : Int).toNat 1)) rfl (fun α27 e27 => ?_)
            refine qr_aload_n 31 rfl rfl rfl ?_
            as_aux_lemma =>
              refine qr_get 34 rfl rfl rfl (by decide) rfl ?_
              refine qr_aload_n 35 rfl rfl rfl ?_
              refine qr_get 38 rfl rfl rfl (by decide) rfl ?_
              refine qy_v 0 (by subst_vars; rfl) ?_
              refine qr_lconst 39 rfl rfl ?_
              refine qy_vl 1 rfl ?_
              refine qr_aload_n 40 rfl rfl rfl ?_
              refine qr_get 43 rfl rfl rfl (by decide) rfl ?_
              refine qy_v 0 (by subst_vars; rfl) ?_
              refine qr_lshl 44 rfl rfl ?_
              refine qy_vl 1 rfl ?_
              refine qr_iload_n 45 rfl rfl rfl ?_
              refine qr_if_ge 52 48 rfl rfl rfl (by decide) (fun h => absurd h (by decide)) (fun _ => ?_)
              refine qr_lconst 49 rfl rfl ?_
              refine qy_vl 0 rfl ?_
              refine qr_goto 58 rfl rfl ?_
              refine qr_lor 59 rfl rfl ?_
              refine qy_vl 1 rfl ?_
              refine qr_lastore 60 rfl (by decide) rfl (by omega) (by decide) rfl ?_
              refine qy_wA (qw_r α27 22 (qzu (α27 22) (0 : Int).toNat 1)) rfl (fun α28 e28 => ?_)
              refine qr_aload_n 61 rfl rfl rfl ?_
              refine qr_dup 62 rfl rfl rfl ?_
              refine qr_get 65 rfl rfl rfl (by decide) rfl ?_
              refine qy_v 0 (by subst_vars; rfl) ?_
              refine qr_dup_x1 66 rfl rfl rfl rfl ?_
              refine qr_iconst 67 rfl rfl ?_
              refine qr_iadd 68 rfl rfl ?_
              refine qy_v 1 rfl ?_
              refine qr_put 71 rfl (by decide) rfl (Nat.le_of_ble_eq_true rfl) (Nat.le_of_ble_eq_true rfl) (Or.inl rfl) (qr_fitI rfl _) rfl ?_
              refine qy_wS (qw_s (qo_s s) 17 6 1) rfl (fun σ29 e29 => ?_)
              refine qr_retI rfl rfl (by decide) (by decide) ?_
              show qr_W (qe L xs vb) (d + 2) qx_e38 _ (40, [(0, .ref 16), (1, .int (qz (-1))), (2, .int (qz x1)), (3, .int (qz 1))], [.int (qz 0)], _, 0, 0)
              refine qr_retI rfl rfl (by decide) (by decide) ?_
              refine ⟨⟨_, rfl⟩, ⟨_, _, _, _, rfl⟩, ?_⟩
              refine qr_start (d := d + 2) qv_e174 (Nat.le_of_ble_eq_true rfl) ?_
              show qr_W (qe L xs vb) (d + 2) qx_e174 _ (0, [(0, .ref 86), (1, .int (qz (-1))), (2, .int (qz x1)), (3, .int (qz 1))], [], _, 0, 0)
              refine qr_aload_n 1 rfl rfl rfl ?_
              refine qr_iload_n 2 rfl rfl rfl ?_
              refine qr_iload_n 3 rfl rfl rfl ?_
              refine qr_iload_n 4 rfl rfl rfl ?_
              refine qy_call 7 rfl rfl rfl ?_
              refine qr_start (d := d + 1) qv_e175 (Nat.le_of_ble_eq_true rfl) ?_
              show qr_W (qe L xs vb) (d + 1) qx_e175 _ (0, [(0, .ref 86), (1, .int (qz (-1))), (2, .int (qz x1)), (3, .int (qz 1))], [], _, 0, 0)
              refine qr_iload_n 1 rfl rfl rfl ?_
              refine qr_i2l 2 rfl (by omega) rfl ?_
              refine qy_vl (-1) rfl ?_
              refine qr_ldc2 (-1) 5 rfl (by decide) rfl ?_
              refine qr_aload_n 6 rfl rfl rfl ?_
              refine qr_get 9 rfl rfl rfl (by decide) rfl ?_
              refine qy_v 0 (by subst_vars; rfl) ?_
              refine qr_iconst 10 rfl rfl ?_
              refine qr_isub 11 rfl rfl ?_
              refine qy_v (-1) rfl ?_
              refine qr_i2l 12 rfl (by omega) rfl ?_
              refine qy_vl (-1) rfl ?_
              refine qy_call 15 rfl rfl rfl ?_
              refine qr_start (d := d + 0) qv_e176 (Nat.le_of_ble_eq_true rfl) ?_
              show qr_W (qe L xs vb) (d + 0) qx_e176 _ (0, [(0, .long (ql (-1))), (2, .long (ql (-1))), (4, .long (ql (-1)))], [], _, 0, 0)
              refine qr_lload_n 1 rfl rfl rfl ?_
              refine qr_lload_n 2 rfl rfl rfl ?_
              refine qr_lc_lt 17 6 rfl rfl rfl rfl (by decide) (by decide) (fun h => absurd h (by decide)) (fun _ => ?_)
              refine qr_lload_n 7 rfl rfl rfl ?_
              refine qr_lload 9 rfl rfl rfl ?_
              refine qr_lc_gt 17 13 rfl rfl rfl rfl (by decide) (by decide) (fun h => absurd h (by decide)) (fun _ => ?_)
              refine qr_iconst 14 rfl rfl ?_
              refine qr_goto 18 rfl rfl ?_
              refine qr_retZ rfl rfl (by omega) (by decide) (by decide) ?_
              show qr_W (qe L xs vb) (d + 1) qx_e175 _ (15, [(0, .ref 86), (1, .int (qz (-1))), (2, .int (qz x1)), (3, .int (qz 1))], [.int (qz 1)], _, 0, 0)
              refine qr_if_eq 44 18 rfl rfl rfl (by decide) (fun h => absurd h (by decide)) (fun _ => ?_)
              refine qr_iload_n 19 rfl rfl rfl ?_
              refine qr_i2l 20 rfl (by omega) rfl ?_
              refine qr_lconst 21 rfl rfl ?_
              refine qy_vl 1 rfl ?_
              refine qr_ldc2 99 24 rfl (by decide) rfl ?_
              refine qy_call 27 rfl rfl rfl ?_
              refine qr_start (d := d + 0) qv_e176 (Nat.le_of_ble_eq_true rfl) ?_
              show qr_W (qe L xs vb) (d + 0) qx_e176 _ (0, [(0, .long (ql x1)), (2, .long (ql 1)), (4, .long (ql 99))], [], _, 0, 0)
              refine qr_lload_n 1 rfl rfl rfl ?_
              refine qr_lload_n 2 rfl rfl rfl ?_
              refine qr_lc_lt 17 6 rfl rfl rfl rfl (by omega) (by decide) (fun h => False.elim (by omega)) (fun h30 => ?_)
              refine qr_lload_n 7 rfl rfl rfl ?_
              refine qr_lload 9 rfl rfl rfl ?_
              refine qr_lc_gt 17 13 rfl rfl rfl rfl (by omega) (by decide) (fun h => False.elim (by omega)) (fun h31 => ?_)
              refine qr_iconst 14 rfl rfl ?_
              refine qr_goto 18 rfl rfl ?_
              refine qr_retZ rfl rfl (by omega) (by decide) (by decide) ?_
              show qr_W (qe L xs vb) (d + 1) qx_e175 _ (27, [(0, .ref 86), (1, .int (qz (-1))), (2, .int (qz x1)), (3, .int (qz 1))], [.int (qz 1)], _, 0, 0)
              refine qr_if_eq 44 30 rfl rfl rfl (by decide) (fun h => absurd h (by decide)) (fun _ => ?_)
              as_aux_lemma =>
                refine qr_iload_n 31 rfl rfl rfl ?_
                refine qr_i2l 32 rfl (by omega) rfl ?_
                refine qy_vl 1 rfl ?_
                refine qr_lconst 33 rfl rfl ?_
                refine qy_vl 0 rfl ?_
                refine qr_lconst 34 rfl rfl ?_
                refine qy_vl 1 rfl ?_
                refine qy_call 37 rfl rfl rfl ?_
                refine qr_start (d := d + 0) qv_e176 (Nat.le_of_ble_eq_true rfl) ?_
                show qr_W (qe L xs vb) (d + 0) qx_e176 _ (0, [(0, .long (ql 1)), (2, .long (ql 0)), (4, .long (ql 1))], [], _, 0, 0)
                refine qr_lload_n 1 rfl rfl rfl ?_
                refine qr_lload_n 2 rfl rfl rfl ?_
                refine qr_lc_lt 17 6 rfl rfl rfl rfl (by decide) (by decide) (fun h => absurd h (by decide)) (fun _ => ?_)
                refine qr_lload_n 7 rfl rfl rfl ?_
                refine qr_lload 9 rfl rfl rfl ?_
                refine qr_lc_gt 17 13 rfl rfl rfl rfl (by decide) (by decide) (fun h => absurd h (by decide)) (fun _ => ?_)
                refine qr_iconst 14 rfl rfl ?_
                refine qr_goto 18 rfl rfl ?_
                refine qr_retZ rfl rfl (by omega) (by decide) (by decide) ?_
                show qr_W (qe L xs vb) (d + 1) qx_e175 _ (37, [(0, .ref 86), (1, .int (qz (-1))), (2, .int (qz x1)), (3, .int (qz 1))], [.int (qz 1)], _, 0, 0)
                refine qr_if_eq 44 40 rfl rfl rfl (by decide) (fun h => absurd h (by decide)) (fun _ => ?_)
                refine qr_iconst 41 rfl rfl ?_
                refine qr_goto 45 rfl rfl ?_
                refine qr_retZ rfl rfl (by omega) (by decide) (by decide) ?_
                show qr_W (qe L xs vb) (d + 2) qx_e174 _ (7, [(0, .ref 86), (1, .int (qz (-1))), (2, .int (qz x1)), (3, .int (qz 1))], [.int (qz 1)], _, 0, 0)
                refine qr_if_ne 12 10 rfl rfl rfl (by decide) (fun _ => ?_) (fun h => absurd h (by decide))
                refine qr_aload_n 13 rfl rfl rfl ?_
                refine qr_get 16 rfl rfl rfl (by decide) rfl ?_
                refine qy_v 0 (by subst_vars; rfl) ?_
                refine qr_bipush 18 rfl (by decide) rfl ?_
                refine qr_icmp_ne 24 21 rfl rfl rfl (by decide) (by decide) (fun _ => ?_) (fun h => absurd h (by decide))
                refine qr_aload_n 25 rfl rfl rfl ?_
                refine qr_get 28 rfl rfl rfl (by decide) rfl ?_
                refine qr_aload_n 29 rfl rfl rfl ?_
                refine qr_get 32 rfl rfl rfl (by decide) rfl ?_
                refine qy_v 0 (by subst_vars; rfl) ?_
                refine qr_iload_n 33 rfl rfl rfl ?_
                refine qr_iastore 34 rfl (by decide) rfl (by omega) (by decide) rfl ?_
                refine qy_wA (qw_r α28 91 (qzu (α28 91) (0 : Int).toNat (-1))) rfl (fun α32 e32 => ?_)
                refine qr_aload_n 35 rfl rfl rfl ?_
                refine qr_get 38 rfl rfl rfl (by decide) rfl ?_
                refine qr_aload_n 39 rfl rfl rfl ?_
                refine qr_get 42 rfl rfl rfl (by decide) rfl ?_
                refine qy_v 0 (by subst_vars; rfl) ?_
                refine qr_iload_n 43 rfl rfl rfl ?_
                refine qr_iastore 44 rfl (by decide) rfl (by omega) (by decide) rfl ?_
                refine qy_wA (qw_r α32 92 (qzu (α32 92) (0 : Int).toNat x1)) rfl (fun α33 e33 => ?_)
                refine qr_aload_n 45 rfl rfl rfl ?_
                refine qr_get 48 rfl rfl rfl (by decide) rfl ?_
                refine qr_iconst 49 rfl rfl ?_
                refine qr_aload_n 50 rfl rfl rfl ?_
                refine qr_get 53 rfl rfl rfl (by decide) rfl ?_
                refine qy_v 0 (by subst_vars; rfl) ?_
                refine qr_iadd 54 rfl rfl ?_
                refine qy_v 0 rfl ?_
                refine qr_iload_n 55 rfl rfl rfl ?_
                refine qr_iastore 56 rfl (by decide) rfl (by omega) (by decide) rfl ?_
                refine qy_wA (qw_r α33 87 (qzu (α33 87) (0 : Int).toNat 1)) rfl (fun α34 e34 => ?_)
                refine qr_aload_n 57 rfl rfl rfl ?_
                refine qr_iconst 58 rfl rfl ?_
                refine qr_put 61 rfl (by decide) rfl (Nat.le_of_ble_eq_true rfl) (Nat.le_of_ble_eq_true rfl) (Or.inl rfl) (qr_fitZ rfl (by omega)) rfl ?_
                refine qy_wS (qw_s σ29 86 15 0) rfl (fun σ35 e35 => ?_)
                refine qr_aload_n 62 rfl rfl rfl ?_
                refine qr_dup 63 rfl rfl rfl ?_
                refine qr_get 66 rfl rfl rfl (by decide) rfl ?_
                refine qy_v 0 (by subst_vars; rfl) ?_
                refine qr_iconst 67 rfl rfl ?_
                refine qr_iadd 68 rfl rfl ?_
                refine qy_v 1 rfl ?_
                refine qr_put 71 rfl (by decide) rfl (Nat.le_of_ble_eq_true rfl) (Nat.le_of_ble_eq_true rfl) (Or.inl rfl) (qr_fitI rfl _) rfl ?_
                refine qy_wS (qw_s σ35 86 6 1) rfl (fun σ36 e36 => ?_)
                refine qr_aload_n 72 rfl rfl rfl ?_
                refine qr_get 75 rfl rfl rfl (by decide) rfl ?_
                refine qy_v 1 (by subst_vars; rfl) ?_
                refine qr_iconst 76 rfl rfl ?_
                refine qr_isub 77 rfl rfl ?_
                refine qy_v 0 rfl ?_
                refine qr_retI rfl rfl (by decide) (by decide) ?_
                exact rfl
  · skip
    refine qr_aload_n 6 rfl rfl rfl ?_
    refine qr_iload_n 7 rfl rfl rfl ?_
    refine qy_call 10 rfl rfl rfl ?_
    refine qr_start (d := d + 0) qv_e40 (Nat.le_of_ble_eq_true rfl) ?_
    show qr_W (qe L xs vb) (d + 0) qx_e40 _ (0, [(0, .ref 17), (1, .int (qz x0))], [], _, 0, 0)
    refine qr_iload_n 1 rfl rfl rfl ?_
    refine qr_if_lt 16 4 rfl rfl rfl (by omega) (fun h37 => ?_) (fun h37 => ?_)
    · skip
      refine qr_iconst 17 rfl rfl ?_
      refine qr_retZ rfl rfl (by omega) (by decide) (by decide) ?_
      show qr_W (qe L xs vb) (d + 1) qx_e39 _ (10, [(0, .ref 17), (1, .int (qz x0)), (2, .int (qz x1)), (3, .int (qz x2))], [.int (qz 0)], _, 0, 0)
      refine qr_if_eq 35 13 rfl rfl rfl (by decide) (fun _ => ?_) (fun h => absurd h (by decide))
      refine qr_iconst 36 rfl rfl ?_
      refine qr_retZ rfl rfl (by omega) (by decide) (by decide) ?_
      show qr_W (qe L xs vb) (d + 2) qx_e38 _ (10, [(0, .ref 16), (1, .int (qz x0)), (2, .int (qz x1)), (3, .int (qz x2))], [.int (qz 0)], _, 0, 0)
      refine qr_if_ne 15 13 rfl rfl rfl (by decide) (fun h => absurd h (by decide)) (fun _ => ?_)
      refine qr_iconst 14 rfl rfl ?_
      refine qr_retI rfl rfl (by decide) (by decide) ?_
      refine ⟨⟨_, rfl⟩, ⟨_, _, _, _, rfl⟩, ?_⟩
      refine qr_start (d := d + 2) qv_e174 (Nat.le_of_ble_eq_true rfl) ?_
      show qr_W (qe L xs vb) (d + 2) qx_e174 _ (0, [(0, .ref 86), (1, .int (qz x0)), (2, .int (qz x1)), (3, .int (qz x2))], [], _, 0, 0)
      refine qr_aload_n 1 rfl rfl rfl ?_
      refine qr_iload_n 2 rfl rfl rfl ?_
      refine qr_iload_n 3 rfl rfl rfl ?_
      refine qr_iload_n 4 rfl rfl rfl ?_
      refine qy_call 7 rfl rfl rfl ?_
      refine qr_start (d := d + 1) qv_e175 (Nat.le_of_ble_eq_true rfl) ?_
      show qr_W (qe L xs vb) (d + 1) qx_e175 _ (0, [(0, .ref 86), (1, .int (qz x0)), (2, .int (qz x1)), (3, .int (qz x2))], [], _, 0, 0)
      refine qr_iload_n 1 rfl rfl rfl ?_
      refine qr_i2l 2 rfl (by omega) rfl ?_
      refine qr_ldc2 (-1) 5 rfl (by decide) rfl ?_
      refine qr_aload_n 6 rfl rfl rfl ?_
      refine qr_get 9 rfl rfl rfl (by decide) rfl ?_
      refine qy_v 0 rfl ?_
      refine qr_iconst 10 rfl rfl ?_
      refine qr_isub 11 rfl rfl ?_
      refine qy_v (-1) rfl ?_
      refine qr_i2l 12 rfl (by omega) rfl ?_
      refine qy_vl (-1) rfl ?_
      refine qy_call 15 rfl rfl rfl ?_
      refine qr_start (d := d + 0) qv_e176 (Nat.le_of_ble_eq_true rfl) ?_
      show qr_W (qe L xs vb) (d + 0) qx_e176 _ (0, [(0, .long (ql x0)), (2, .long (ql (-1))), (4, .long (ql (-1)))], [], _, 0, 0)
      refine qr_lload_n 1 rfl rfl rfl ?_
      refine qr_lload_n 2 rfl rfl rfl ?_
      refine qr_lc_lt 17 6 rfl rfl rfl rfl (by omega) (by decide) (fun h38 => ?_) (fun h => False.elim (by omega))
      refine qr_iconst 18 rfl rfl ?_
      refine qr_retZ rfl rfl (by omega) (by decide) (by decide) ?_
      show qr_W (qe L xs vb) (d + 1) qx_e175 _ (15, [(0, .ref 86), (1, .int (qz x0)), (2, .int (qz x1)), (3, .int (qz x2))], [.int (qz 0)], _, 0, 0)
      refine qr_if_eq 44 18 rfl rfl rfl (by decide) (fun _ => ?_) (fun h => absurd h (by decide))
      refine qr_iconst 45 rfl rfl ?_
      refine qr_retZ rfl rfl (by omega) (by decide) (by decide) ?_
      show qr_W (qe L xs vb) (d + 2) qx_e174 _ (7, [(0, .ref 86), (1, .int (qz x0)), (2, .int (qz x1)), (3, .int (qz x2))], [.int (qz 0)], _, 0, 0)
      refine qr_if_ne 12 10 rfl rfl rfl (by decide) (fun h => absurd h (by decide)) (fun _ => ?_)
      refine qr_iconst 11 rfl rfl ?_
      refine qr_retI rfl rfl (by decide) (by decide) ?_
      exact rfl
    · skip
      refine qr_iload_n 5 rfl rfl rfl ?_
      refine qr_aload_n 6 rfl rfl rfl ?_
      refine qr_get 9 rfl rfl rfl (by decide) rfl ?_
      refine qy_v 0 rfl ?_
      refine qr_icmp_ge 16 12 rfl rfl rfl (by omega) (by decide) (fun h39 => ?_) (fun h => False.elim (by omega))
      refine qr_iconst 17 rfl rfl ?_
      refine qr_retZ rfl rfl (by omega) (by decide) (by decide) ?_
      show qr_W (qe L xs vb) (d + 1) qx_e39 _ (10, [(0, .ref 17), (1, .int (qz x0)), (2, .int (qz x1)), (3, .int (qz x2))], [.int (qz 0)], _, 0, 0)
      refine qr_if_eq 35 13 rfl rfl rfl (by decide) (fun _ => ?_) (fun h => absurd h (by decide))
      refine qr_iconst 36 rfl rfl ?_
      refine qr_retZ rfl rfl (by omega) (by decide) (by decide) ?_
      show qr_W (qe L xs vb) (d + 2) qx_e38 _ (10, [(0, .ref 16), (1, .int (qz x0)), (2, .int (qz x1)), (3, .int (qz x2))], [.int (qz 0)], _, 0, 0)
      refine qr_if_ne 15 13 rfl rfl rfl (by decide) (fun h => absurd h (by decide)) (fun _ => ?_)
      refine qr_iconst 14 rfl rfl ?_
      refine qr_retI rfl rfl (by decide) (by decide) ?_
      refine ⟨⟨_, rfl⟩, ⟨_, _, _, _, rfl⟩, ?_⟩
      refine qr_start (d := d + 2) qv_e174 (Nat.le_of_ble_eq_true rfl) ?_
      show qr_W (qe L xs vb) (d + 2) qx_e174 _ (0, [(0, .ref 86), (1, .int (qz x0)), (2, .int (qz x1)), (3, .int (qz x2))], [], _, 0, 0)
      refine qr_aload_n 1 rfl rfl rfl ?_
      refine qr_iload_n 2 rfl rfl rfl ?_
      refine qr_iload_n 3 rfl rfl rfl ?_
      refine qr_iload_n 4 rfl rfl rfl ?_
      refine qy_call 7 rfl rfl rfl ?_
      refine qr_start (d := d + 1) qv_e175 (Nat.le_of_ble_eq_true rfl) ?_
      show qr_W (qe L xs vb) (d + 1) qx_e175 _ (0, [(0, .ref 86), (1, .int (qz x0)), (2, .int (qz x1)), (3, .int (qz x2))], [], _, 0, 0)
      refine qr_iload_n 1 rfl rfl rfl ?_
      refine qr_i2l 2 rfl (by omega) rfl ?_
      refine qr_ldc2 (-1) 5 rfl (by decide) rfl ?_
      refine qr_aload_n 6 rfl rfl rfl ?_
      refine qr_get 9 rfl rfl rfl (by decide) rfl ?_
      refine qy_v 0 rfl ?_
      refine qr_iconst 10 rfl rfl ?_
      refine qr_isub 11 rfl rfl ?_
      refine qy_v (-1) rfl ?_
      refine qr_i2l 12 rfl (by omega) rfl ?_
      refine qy_vl (-1) rfl ?_
      refine qy_call 15 rfl rfl rfl ?_
      refine qr_start (d := d + 0) qv_e176 (Nat.le_of_ble_eq_true rfl) ?_
      show qr_W (qe L xs vb) (d + 0) qx_e176 _ (0, [(0, .long (ql x0)), (2, .long (ql (-1))), (4, .long (ql (-1)))], [], _, 0, 0)
      refine qr_lload_n 1 rfl rfl rfl ?_
      refine qr_lload_n 2 rfl rfl rfl ?_
      refine qr_lc_lt 17 6 rfl rfl rfl rfl (by omega) (by decide) (fun h => False.elim (by omega)) (fun h40 => ?_)
      refine qr_lload_n 7 rfl rfl rfl ?_
      refine qr_lload 9 rfl rfl rfl ?_
      refine qr_lc_gt 17 13 rfl rfl rfl rfl (by omega) (by decide) (fun h41 => ?_) (fun h => False.elim (by omega))
      refine qr_iconst 18 rfl rfl ?_
      refine qr_retZ rfl rfl (by omega) (by decide) (by decide) ?_
      show qr_W (qe L xs vb) (d + 1) qx_e175 _ (15, [(0, .ref 86), (1, .int (qz x0)), (2, .int (qz x1)), (3, .int (qz x2))], [.int (qz 0)], _, 0, 0)
      refine qr_if_eq 44 18 rfl rfl rfl (by decide) (fun _ => ?_) (fun h => absurd h (by decide))
      refine qr_iconst 45 rfl rfl ?_
      refine qr_retZ rfl rfl (by omega) (by decide) (by decide) ?_
      show qr_W (qe L xs vb) (d + 2) qx_e174 _ (7, [(0, .ref 86), (1, .int (qz x0)), (2, .int (qz x1)), (3, .int (qz x2))], [.int (qz 0)], _, 0, 0)
      refine qr_if_ne 12 10 rfl rfl rfl (by decide) (fun h => absurd h (by decide)) (fun _ => ?_)
      refine qr_iconst 11 rfl rfl ?_
      refine qr_retI rfl rfl (by decide) (by decide) ?_
      exact rfl

set_option maxHeartbeats 8000000 in
set_option maxRecDepth 20000 in
/-- people on the fresh objects: both answer alike -/
theorem sx_people {L : Nat} {xs : Nat → Int} {vb : Bool} {d : Nat} {s g : Nat → Nat → Int} {x0 : Int} {x1 : Int} {x2 : Int} (hok : qo_ok s g) (rx0 : -2147483648 ≤ x0 ∧ x0 ≤ 2147483647) (rx1 : -2147483648 ≤ x1 ∧ x1 ≤ 2147483647) (rx2 : -2147483648 ≤ x2 ∧ x2 ≤ 2147483647) : qm_T (qe L xs vb) (d + 3) 43 [.ref 16, .int (qz x0), .int (qz x1), .int (qz x2)] (qw (qo_s s) (qo_r g) qo_k 82) (fun r w => (∃ y : Int, r = some (.int (qz y))) ∧ (∃ σ α κ ρ, w = qw σ α κ ρ) ∧ qm_T (qe L xs vb) (d + 3) 177 [.ref 86, .int (qz x0), .int (qz x1), .int (qz x2)] w (fun r' _ => r' = r)) := by
  refine qr_start (d := d + 2) qv_e43 (Nat.le_of_ble_eq_true rfl) ?_
  show qr_W (qe L xs vb) (d + 2) qx_e43 _ (0, [(0, .ref 16), (1, .int (qz x0)), (2, .int (qz x1)), (3, .int (qz x2))], [], _, 0, 0)
  refine qr_aload_n 1 rfl rfl rfl ?_
  refine qr_get 4 rfl rfl rfl (by decide) rfl ?_
  refine qr_iload_n 5 rfl rfl rfl ?_
  refine qy_call 8 rfl rfl rfl ?_
  refine qr_start (d := d + 1) qv_e44 (Nat.le_of_ble_eq_true rfl) ?_
  show qr_W (qe L xs vb) (d + 1) qx_e44 _ (0, [(0, .ref 44), (1, .int (qz x0))], [], _, 0, 0)
  refine qr_iload_n 1 rfl rfl rfl ?_
  refine qr_if_lt 14 4 rfl rfl rfl (by omega) (fun h1 => ?_) (fun h1 => ?_)
  · skip
    refine qr_iconst 15 rfl rfl ?_
    refine qr_retZ rfl rfl (by omega) (by decide) (by decide) ?_
    show qr_W (qe L xs vb) (d + 2) qx_e43 _ (8, [(0, .ref 16), (1, .int (qz x0)), (2, .int (qz x1)), (3, .int (qz x2))], [.int (qz 0)], _, 0, 0)
    refine qr_if_eq 22 11 rfl rfl rfl (by decide) (fun _ => ?_) (fun h => absurd h (by decide))
    refine qr_iconst 23 rfl rfl ?_
    refine qr_retI rfl rfl (by decide) (by decide) ?_
    refine ⟨⟨_, rfl⟩, ⟨_, _, _, _, rfl⟩, ?_⟩
    refine qr_start (d := d + 2) qv_e177 (Nat.le_of_ble_eq_true rfl) ?_
    show qr_W (qe L xs vb) (d + 2) qx_e177 _ (0, [(0, .ref 86), (1, .int (qz x0)), (2, .int (qz x1)), (3, .int (qz x2))], [], _, 0, 0)
    refine qr_iload_n 1 rfl rfl rfl ?_
    refine qy_call 4 rfl rfl rfl ?_
    refine qr_start (d := d + 1) qv_e178 (Nat.le_of_ble_eq_true rfl) ?_
    show qr_W (qe L xs vb) (d + 1) qx_e178 _ (0, [(0, .int (qz x0))], [], _, 0, 0)
    refine qr_iload_n 1 rfl rfl rfl ?_
    refine qr_i2l 2 rfl (by omega) rfl ?_
    refine qr_lconst 3 rfl rfl ?_
    refine qy_vl 0 rfl ?_
    refine qr_ldc2 5 6 rfl (by decide) rfl ?_
    refine qy_call 9 rfl rfl rfl ?_
    refine qr_start (d := d + 0) qv_e176 (Nat.le_of_ble_eq_true rfl) ?_
    show qr_W (qe L xs vb) (d + 0) qx_e176 _ (0, [(0, .long (ql x0)), (2, .long (ql 0)), (4, .long (ql 5))], [], _, 0, 0)
    refine qr_lload_n 1 rfl rfl rfl ?_
    refine qr_lload_n 2 rfl rfl rfl ?_
    refine qr_lc_lt 17 6 rfl rfl rfl rfl (by omega) (by decide) (fun h2 => ?_) (fun h => False.elim (by omega))
    refine qr_iconst 18 rfl rfl ?_
    refine qr_retZ rfl rfl (by omega) (by decide) (by decide) ?_
    show qr_W (qe L xs vb) (d + 1) qx_e178 _ (9, [(0, .int (qz x0))], [.int (qz 0)], _, 0, 0)
    refine qr_retZ rfl rfl (by omega) (by decide) (by decide) ?_
    show qr_W (qe L xs vb) (d + 2) qx_e177 _ (4, [(0, .ref 86), (1, .int (qz x0)), (2, .int (qz x1)), (3, .int (qz x2))], [.int (qz 0)], _, 0, 0)
    refine qr_if_eq 19 7 rfl rfl rfl (by decide) (fun _ => ?_) (fun h => absurd h (by decide))
    refine qr_iconst 20 rfl rfl ?_
    refine qr_retI rfl rfl (by decide) (by decide) ?_
    exact rfl
  · skip
    refine qr_iload_n 5 rfl rfl rfl ?_
    refine qr_bipush 7 rfl (by decide) rfl ?_
    refine qr_icmp_ge 14 10 rfl rfl rfl (by omega) (by decide) (fun h3 => ?_) (fun h3 => ?_)
    · skip
      refine qr_iconst 15 rfl rfl ?_
      refine qr_retZ rfl rfl (by omega) (by decide) (by decide) ?_
      show qr_W (qe L xs vb) (d + 2) qx_e43 _ (8, [(0, .ref 16), (1, .int (qz x0)), (2, .int (qz x1)), (3, .int (qz x2))], [.int (qz 0)], _, 0, 0)
      refine qr_if_eq 22 11 rfl rfl rfl (by decide) (fun _ => ?_) (fun h => absurd h (by decide))
      refine qr_iconst 23 rfl rfl ?_
      refine qr_retI rfl rfl (by decide) (by decide) ?_
      refine ⟨⟨_, rfl⟩, ⟨_, _, _, _, rfl⟩, ?_⟩
      refine qr_start (d := d + 2) qv_e177 (Nat.le_of_ble_eq_true rfl) ?_
      show qr_W (qe L xs vb) (d + 2) qx_e177 _ (0, [(0, .ref 86), (1, .int (qz x0)), (2, .int (qz x1)), (3, .int (qz x2))], [], _, 0, 0)
      refine qr_iload_n 1 rfl rfl rfl ?_
      refine qy_call 4 rfl rfl rfl ?_
      refine qr_start (d := d + 1) qv_e178 (Nat.le_of_ble_eq_true rfl) ?_
      show qr_W (qe L xs vb) (d + 1) qx_e178 _ (0, [(0, .int (qz x0))], [], _, 0, 0)
      refine qr_iload_n 1 rfl rfl rfl ?_
      refine qr_i2l 2 rfl (by omega) rfl ?_
      refine qr_lconst 3 rfl rfl ?_
      refine qy_vl 0 rfl ?_
      refine qr_ldc2 5 6 rfl (by decide) rfl ?_
      refine qy_call 9 rfl rfl rfl ?_
      refine qr_start (d := d + 0) qv_e176 (Nat.le_of_ble_eq_true rfl) ?_
      show qr_W (qe L xs vb) (d + 0) qx_e176 _ (0, [(0, .long (ql x0)), (2, .long (ql 0)), (4, .long (ql 5))], [], _, 0, 0)
      refine qr_lload_n 1 rfl rfl rfl ?_
      refine qr_lload_n 2 rfl rfl rfl ?_
      refine qr_lc_lt 17 6 rfl rfl rfl rfl (by omega) (by decide) (fun h => False.elim (by omega)) (fun h4 => ?_)
      refine qr_lload_n 7 rfl rfl rfl ?_
      refine qr_lload 9 rfl rfl rfl ?_
      refine qr_lc_gt 17 13 rfl rfl rfl rfl (by omega) (by decide) (fun h5 => ?_) (fun h => False.elim (by omega))
      refine qr_iconst 18 rfl rfl ?_
      refine qr_retZ rfl rfl (by omega) (by decide) (by decide) ?_
      show qr_W (qe L xs vb) (d + 1) qx_e178 _ (9, [(0, .int (qz x0))], [.int (qz 0)], _, 0, 0)
      refine qr_retZ rfl rfl (by omega) (by decide) (by decide) ?_
      show qr_W (qe L xs vb) (d + 2) qx_e177 _ (4, [(0, .ref 86), (1, .int (qz x0)), (2, .int (qz x1)), (3, .int (qz x2))], [.int (qz 0)], _, 0, 0)
      refine qr_if_eq 19 7 rfl rfl rfl (by decide) (fun _ => ?_) (fun h => absurd h (by decide))
      refine qr_iconst 20 rfl rfl ?_
      refine qr_retI rfl rfl (by decide) (by decide) ?_
      exact rfl
    · skip
      refine qr_iconst 11 rfl rfl ?_
      refine qr_goto 15 rfl rfl ?_
      refine qr_retZ rfl rfl (by omega) (by decide) (by decide) ?_
      show qr_W (qe L xs vb) (d + 2) qx_e43 _ (8, [(0, .ref 16), (1, .int (qz x0)), (2, .int (qz x1)), (3, .int (qz x2))], [.int (qz 1)], _, 0, 0)
      refine qr_if_eq 22 11 rfl rfl rfl (by decide) (fun h => absurd h (by decide)) (fun _ => ?_)
      refine qr_iload_n 12 rfl rfl rfl ?_
      refine qr_iconst 13 rfl rfl ?_
      refine qr_icmp_lt 22 16 rfl rfl rfl (by omega) (by decide) (fun h6 => ?_) (fun h6 => ?_)
      · skip
        refine qr_iconst 23 rfl rfl ?_
        refine qr_retI rfl rfl (by decide) (by decide) ?_
        refine ⟨⟨_, rfl⟩, ⟨_, _, _, _, rfl⟩, ?_⟩
        refine qr_start (d := d + 2) qv_e177 (Nat.le_of_ble_eq_true rfl) ?_
        show qr_W (qe L xs vb) (d + 2) qx_e177 _ (0, [(0, .ref 86), (1, .int (qz x0)), (2, .int (qz x1)), (3, .int (qz x2))], [], _, 0, 0)
        refine qr_iload_n 1 rfl rfl rfl ?_
        refine qy_call 4 rfl rfl rfl ?_
        refine qr_start (d := d + 1) qv_e178 (Nat.le_of_ble_eq_true rfl) ?_
        show qr_W (qe L xs vb) (d + 1) qx_e178 _ (0, [(0, .int (qz x0))], [], _, 0, 0)
        refine qr_iload_n 1 rfl rfl rfl ?_
        refine qr_i2l 2 rfl (by omega) rfl ?_
        refine qr_lconst 3 rfl rfl ?_
        refine qy_vl 0 rfl ?_
        refine qr_ldc2 5 6 rfl (by decide) rfl ?_
        refine qy_call 9 rfl rfl rfl ?_
        refine qr_start (d := d + 0) qv_e176 (Nat.le_of_ble_eq_true rfl) ?_
        show qr_W (qe L xs vb) (d + 0) qx_e176 _ (0, [(0, .long (ql x0)), (2, .long (ql 0)), (4, .long (ql 5))], [], _, 0, 0)
        refine qr_lload_n 1 rfl rfl rfl ?_
        refine qr_lload_n 2 rfl rfl rfl ?_
        refine qr_lc_lt 17 6 rfl rfl rfl rfl (by omega) (by decide) (fun h => False.elim (by omega)) (fun h7 => ?_)
        refine qr_lload_n 7 rfl rfl rfl ?_
        refine qr_lload 9 rfl rfl rfl ?_
        refine qr_lc_gt 17 13 rfl rfl rfl rfl (by omega) (by decide) (fun h => False.elim (by omega)) (fun h8 => ?_)
        refine qr_iconst 14 rfl rfl ?_
        refine qr_goto 18 rfl rfl ?_
        refine qr_retZ rfl rfl (by omega) (by decide) (by decide) ?_
        show qr_W (qe L xs vb) (d + 1) qx_e178 _ (9, [(0, .int (qz x0))], [.int (qz 1)], _, 0, 0)
        refine qr_retZ rfl rfl (by omega) (by decide) (by decide) ?_
        show qr_W (qe L xs vb) (d + 2) qx_e177 _ (4, [(0, .ref 86), (1, .int (qz x0)), (2, .int (qz x1)), (3, .int (qz x2))], [.int (qz 1)], _, 0, 0)
        refine qr_if_eq 19 7 rfl rfl rfl (by decide) (fun h => absurd h (by decide)) (fun _ => ?_)
        refine qr_iload_n 8 rfl rfl rfl ?_
        refine qr_i2l 9 rfl (by omega) rfl ?_
        refine qr_lconst 10 rfl rfl ?_
        refine qy_vl 1 rfl ?_
        refine qr_ldc2 20 13 rfl (by decide) rfl ?_
        refine qy_call 16 rfl rfl rfl ?_
        refine qr_start (d := d + 1) qv_e176 (Nat.le_of_ble_eq_true rfl) ?_
        show qr_W (qe L xs vb) (d + 1) qx_e176 _ (0, [(0, .long (ql x2)), (2, .long (ql 1)), (4, .long (ql 20))], [], _, 0, 0)
        refine qr_lload_n 1 rfl rfl rfl ?_
        refine qr_lload_n 2 rfl rfl rfl ?_
        refine qr_lc_lt 17 6 rfl rfl rfl rfl (by omega) (by decide) (fun h9 => ?_) (fun h => False.elim (by omega))
        refine qr_iconst 18 rfl rfl ?_
        refine qr_retZ rfl rfl (by omega) (by decide) (by decide) ?_
        show qr_W (qe L xs vb) (d + 2) qx_e177 _ (16, [(0, .ref 86), (1, .int (qz x0)), (2, .int (qz x1)), (3, .int (qz x2))], [.int (qz 0)], _, 0, 0)
        refine qr_if_ne 21 19 rfl rfl rfl (by decide) (fun h => absurd h (by decide)) (fun _ => ?_)
        refine qr_iconst 20 rfl rfl ?_
        refine qr_retI rfl rfl (by decide) (by decide) ?_
        exact rfl
      · skip
        refine qr_iload_n 17 rfl rfl rfl ?_
        refine qr_bipush 19 rfl (by decide) rfl ?_
        refine qr_icmp_le 24 22 rfl rfl rfl (by omega) (by decide) (fun h10 => ?_) (fun h10 => ?_)
        · skip
          refine qr_aload_n 25 rfl rfl rfl ?_
          refine qr_get 28 rfl rfl rfl (by decide) rfl ?_
          refine qr_iload_n 29 rfl rfl rfl ?_
          refine qy_call 32 rfl rfl rfl ?_
          refine qr_start (d := d + 1) qv_e45 (Nat.le_of_ble_eq_true rfl) ?_
          show qr_W (qe L xs vb) (d + 1) qx_e45 _ (0, [(0, .ref 44), (1, .int (qz x0))], [], _, 0, 0)
          refine qr_aload_n 1 rfl rfl rfl ?_
          refine qr_get 4 rfl rfl rfl (by decide) rfl ?_
          refine qr_iload_n 5 rfl rfl rfl ?_
          refine qr_iaload 6 rfl rfl (by omega) (by decide) rfl ?_
          refine qy_v 6 (qo_r45 (by omega)) ?_
          refine qr_bipush 8 rfl (by decide) rfl ?_
          refine qr_icmp_ne 15 11 rfl rfl rfl (by decide) (by decide) (fun h => absurd h (by decide)) (fun _ => ?_)
          refine qr_iconst 12 rfl rfl ?_
          refine qr_goto 16 rfl rfl ?_
          refine qr_retZ rfl rfl (by omega) (by decide) (by decide) ?_
          show qr_W (qe L xs vb) (d + 2) qx_e43 _ (32, [(0, .ref 16), (1, .int (qz x0)), (2, .int (qz x1)), (3, .int (qz x2))], [.int (qz 1)], _, 0, 0)
          refine qr_if_eq 37 35 rfl rfl rfl (by decide) (fun h => absurd h (by decide)) (fun _ => ?_)
          refine qr_iconst 36 rfl rfl ?_
          refine qr_retI rfl rfl (by decide) (by decide) ?_
          refine ⟨⟨_, rfl⟩, ⟨_, _, _, _, rfl⟩, ?_⟩
          refine qr_start (d := d + 2) qv_e177 (Nat.le_of_ble_eq_true rfl) ?_
          show qr_W (qe L xs vb) (d + 2) qx_e177 _ (0, [(0, .ref 86), (1, .int (qz x0)), (2, .int (qz x1)), (3, .int (qz x2))], [], _, 0, 0)
          refine qr_iload_n 1 rfl rfl rfl ?_
          refine qy_call 4 rfl rfl rfl ?_
          refine qr_start (d := d + 1) qv_e178 (Nat.le_of_ble_eq_true rfl) ?_
          show qr_W (qe L xs vb) (d + 1) qx_e178 _ (0, [(0, .int (qz x0))], [], _, 0, 0)
          refine qr_iload_n 1 rfl rfl rfl ?_
          refine qr_i2l 2 rfl (by omega) rfl ?_
          refine qr_lconst 3 rfl rfl ?_
          refine qy_vl 0 rfl ?_
          refine qr_ldc2 5 6 rfl (by decide) rfl ?_
          refine qy_call 9 rfl rfl rfl ?_
          refine qr_start (d := d + 0) qv_e176 (Nat.le_of_ble_eq_true rfl) ?_
          show qr_W (qe L xs vb) (d + 0) qx_e176 _ (0, [(0, .long (ql x0)), (2, .long (ql 0)), (4, .long (ql 5))], [], _, 0, 0)
          refine qr_lload_n 1 rfl rfl rfl ?_
          refine qr_lload_n 2 rfl rfl rfl ?_
          refine qr_lc_lt 17 6 rfl rfl rfl rfl (by omega) (by decide) (fun h => False.elim (by omega)) (fun h11 => ?_)
          refine qr_lload_n 7 rfl rfl rfl ?_
          refine qr_lload 9 rfl rfl rfl ?_
          refine qr_lc_gt 17 13 rfl rfl rfl rfl (by omega) (by decide) (fun h => False.elim (by omega)) (fun h12 => ?_)
          refine qr_iconst 14 rfl rfl ?_
          refine qr_goto 18 rfl rfl ?_
          refine qr_retZ rfl rfl (by omega) (by decide) (by decide) ?_
          show qr_W (qe L xs vb) (d + 1) qx_e178 _ (9, [(0, .int (qz x0))], [.int (qz 1)], _, 0, 0)
          refine qr_retZ rfl rfl (by omega) (by decide) (by decide) ?_
          show qr_W (qe L xs vb) (d + 2) qx_e177 _ (4, [(0, .ref 86), (1, .int (qz x0)), (2, .int (qz x1)), (3, .int (qz x2))], [.int (qz 1)], _, 0, 0)
          refine qr_if_eq 19 7 rfl rfl rfl (by decide) (fun h => absurd h (by decide)) (fun _ => ?_)
          refine qr_iload_n 8 rfl rfl rfl ?_
          refine qr_i2l 9 rfl (by omega) rfl ?_
          refine qr_lconst 10 rfl rfl ?_
          refine qy_vl 1 rfl ?_
          refine qr_ldc2 20 13 rfl (by decide) rfl ?_
          refine qy_call 16 rfl rfl rfl ?_
          refine qr_start (d := d + 1) qv_e176 (Nat.le_of_ble_eq_true rfl) ?_
          show qr_W (qe L xs vb) (d + 1) qx_e176 _ (0, [(0, .long (ql x2)), (2, .long (ql 1)), (4, .long (ql 20))], [], _, 0, 0)
          refine qr_lload_n 1 rfl rfl rfl ?_
          refine qr_lload_n 2 rfl rfl rfl ?_
          as_aux_lemma =>
            refine qr_lc_lt 17 6 rfl rfl rfl rfl (by omega) (by decide) (fun h => False.elim (by omega)) (fun h13 => ?_)
            refine qr_lload_n 7 rfl rfl rfl ?_
            refine qr_lload 9 rfl rfl rfl ?_
            refine qr_lc_gt 17 13 rfl rfl rfl rfl (by omega) (by decide) (fun h => False.elim (by omega)) (fun h14 => ?_)
            refine qr_iconst 14 rfl rfl ?_
            refine qr_goto 18 rfl rfl ?_
            refine qr_retZ rfl rfl (by omega) (by decide) (by decide) ?_
            show qr_W (qe L xs vb) (d + 2) qx_e177 _ (16, [(0, .ref 86), (1, .int (qz x0)), (2, .int (qz x1)), (3, .int (qz x2))], [.int (qz 1)], _, 0, 0)
            refine qr_if_ne 21 19 rfl rfl rfl (by decide) (fun _ => ?_) (fun h => absurd h (by decide))
            refine qr_aload_n 22 rfl rfl rfl ?_
            refine qr_get 25 rfl rfl rfl (by decide) rfl ?_
            refine qr_iload_n 26 rfl rfl rfl ?_
            refine qr_iaload 27 rfl rfl (by omega) (by decide) rfl ?_
            refine qy_v (-1) (qo_r121 (by omega)) ?_
            refine qr_if_lt 44 30 rfl rfl rfl (by decide) (fun _ => ?_) (fun h => absurd h (by decide))
            refine qr_iconst 45 rfl rfl ?_
            refine qr_istore [(4, .int (qz 0)), (0, .ref 86), (1, .int (qz x0)), (2, .int (qz x1)), (3, .int (qz x2))] 47 rfl (by decide) rfl rfl ?_
            refine qr_aload_n 48 rfl rfl rfl ?_
            refine qr_get 51 rfl rfl rfl (by decide) rfl ?_
            refine qr_iload_n 52 rfl rfl rfl ?_
            refine qr_iaload 53 rfl rfl (by omega) (by decide) rfl ?_
            refine qy_v (-1) (qo_r121 (by omega)) ?_
            refine qr_bipush 55 rfl (by decide) rfl ?_
            refine qr_icmp_ne 66 58 rfl rfl rfl (by decide) (by decide) (fun _ => ?_) (fun h => absurd h (by decide))
            refine qr_iconst 67 rfl rfl ?_
            refine qr_istore [(5, .int (qz 0)), (4, .int (qz 0)), (0, .ref 86), (1, .int (qz x0)), (2, .int (qz x1)), (3, .int (qz x2))] 69 rfl (by decide) rfl rfl ?_
            refine qr_iload 71 rfl rfl rfl ?_
            refine qr_if_eq 218 74 rfl rfl rfl (by decide) (fun _ => ?_) (fun h => absurd h (by decide))
            refine qr_iload 220 rfl rfl rfl ?_
            refine qr_retI rfl rfl (by decide) (by decide) ?_
            exact rfl
        · skip
          refine qr_iconst 23 rfl rfl ?_
          refine qr_retI rfl rfl (by decide) (by decide) ?_
          refine ⟨⟨_, rfl⟩, ⟨_, _, _, _, rfl⟩, ?_⟩
          refine qr_start (d := d + 2) qv_e177 (Nat.le_of_ble_eq_true rfl) ?_
          show qr_W (qe L xs vb) (d + 2) qx_e177 _ (0, [(0, .ref 86), (1, .int (qz x0)), (2, .int (qz x1)), (3, .int (qz x2))], [], _, 0, 0)
          refine qr_iload_n 1 rfl rfl rfl ?_
          refine qy_call 4 rfl rfl rfl ?_
          refine qr_start (d := d + 1) qv_e178 (Nat.le_of_ble_eq_true rfl) ?_
          show qr_W (qe L xs vb) (d + 1) qx_e178 _ (0, [(0, .int (qz x0))], [], _, 0, 0)
          refine qr_iload_n 1 rfl rfl rfl ?_
          refine qr_i2l 2 rfl (by omega) rfl ?_
          refine qr_lconst 3 rfl rfl ?_
          refine qy_vl 0 rfl ?_
          refine qr_ldc2 5 6 rfl (by decide) rfl ?_
          refine qy_call 9 rfl rfl rfl ?_
          refine qr_start (d := d + 0) qv_e176 (Nat.le_of_ble_eq_true rfl) ?_
          show qr_W (qe L xs vb) (d + 0) qx_e176 _ (0, [(0, .long (ql x0)), (2, .long (ql 0)), (4, .long (ql 5))], [], _, 0, 0)
          refine qr_lload_n 1 rfl rfl rfl ?_
          refine qr_lload_n 2 rfl rfl rfl ?_
          refine qr_lc_lt 17 6 rfl rfl rfl rfl (by omega) (by decide) (fun h => False.elim (by omega)) (fun h15 => ?_)
          refine qr_lload_n 7 rfl rfl rfl ?_
          refine qr_lload 9 rfl rfl rfl ?_
          refine qr_lc_gt 17 13 rfl rfl rfl rfl (by omega) (by decide) (fun h => False.elim (by omega)) (fun h16 => ?_)
          refine qr_iconst 14 rfl rfl ?_
          refine qr_goto 18 rfl rfl ?_
          refine qr_retZ rfl rfl (by omega) (by decide) (by decide) ?_
          show qr_W (qe L xs vb) (d + 1) qx_e178 _ (9, [(0, .int (qz x0))], [.int (qz 1)], _, 0, 0)
          refine qr_retZ rfl rfl (by omega) (by decide) (by decide) ?_
          show qr_W (qe L xs vb) (d + 2) qx_e177 _ (4, [(0, .ref 86), (1, .int (qz x0)), (2, .int (qz x1)), (3, .int (qz x2))], [.int (qz 1)], _, 0, 0)
          refine qr_if_eq 19 7 rfl rfl rfl (by decide) (fun h => absurd h (by decide)) (fun _ => ?_)
          refine qr_iload_n 8 rfl rfl rfl ?_
          refine qr_i2l 9 rfl (by omega) rfl ?_
          refine qr_lconst 10 rfl rfl ?_
          refine qy_vl 1 rfl ?_
          refine qr_ldc2 20 13 rfl (by decide) rfl ?_
          refine qy_call 16 rfl rfl rfl ?_
          refine qr_start (d := d + 1) qv_e176 (Nat.le_of_ble_eq_true rfl) ?_
          show qr_W (qe L xs vb) (d + 1) qx_e176 _ (0, [(0, .long (ql x2)), (2, .long (ql 1)), (4, .long (ql 20))], [], _, 0, 0)
          refine qr_lload_n 1 rfl rfl rfl ?_
          refine qr_lload_n 2 rfl rfl rfl ?_
          refine qr_lc_lt 17 6 rfl rfl rfl rfl (by omega) (by decide) (fun h => False.elim (by omega)) (fun h17 => ?_)
          refine qr_lload_n 7 rfl rfl rfl ?_
          refine qr_lload 9 rfl rfl rfl ?_
          refine qr_lc_gt 17 13 rfl rfl rfl rfl (by omega) (by decide) (fun h18 => ?_) (fun h => False.elim (by omega))
          refine qr_iconst 18 rfl rfl ?_
          refine qr_retZ rfl rfl (by omega) (by decide) (by decide) ?_
          show qr_W (qe L xs vb) (d + 2) qx_e177 _ (16, [(0, .ref 86), (1, .int (qz x0)), (2, .int (qz x1)), (3, .int (qz x2))], [.int (qz 0)], _, 0, 0)
          refine qr_if_ne 21 19 rfl rfl rfl (by decide) (fun h => absurd h (by decide)) (fun _ => ?_)
          refine qr_iconst 20 rfl rfl ?_
          refine qr_retI rfl rfl (by decide) (by decide) ?_
          exact rfl

set_option maxHeartbeats 8000000 in
set_option maxRecDepth 20000 in
/-- feed on the fresh objects: both answer alike -/
theorem sx_feed {L : Nat} {xs : Nat → Int} {vb : Bool} {d : Nat} {s g : Nat → Nat → Int} {x0 : Int} {x1 : Int} (hok : qo_ok s g) (rx0 : -2147483648 ≤ x0 ∧ x0 ≤ 2147483647) (rx1 : -2147483648 ≤ x1 ∧ x1 ≤ 2147483647) : qm_T (qe L xs vb) (d + 2) 84 [.ref 16, .int (qz x0), .int (qz x1)] (qw (qo_s s) (qo_r g) qo_k 82) (fun r w => (∃ y : Int, r = some (.int (qz y))) ∧ (∃ σ α κ ρ, w = qw σ α κ ρ) ∧ qm_T (qe L xs vb) (d + 2) 211 [.ref 86, .int (qz x0), .int (qz x1)] w (fun r' _ => r' = r)) := by
  refine qr_start (d := d + 1) qv_e84 (Nat.le_of_ble_eq_true rfl) ?_
  show qr_W (qe L xs vb) (d + 1) qx_e84 _ (0, [(0, .ref 16), (1, .int (qz x0)), (2, .int (qz x1))], [], _, 0, 0)
  refine qr_iload_n 1 rfl rfl rfl ?_
  refine qr_iconst 2 rfl rfl ?_
  refine qr_icmp_lt 10 5 rfl rfl rfl (by omega) (by decide) (fun h1 => ?_) (fun h1 => ?_)
  · skip
    refine qr_iconst 11 rfl rfl ?_
    refine qr_retI rfl rfl (by decide) (by decide) ?_
    refine ⟨⟨_, rfl⟩, ⟨_, _, _, _, rfl⟩, ?_⟩
    refine qr_start (d := d + 1) qv_e211 (Nat.le_of_ble_eq_true rfl) ?_
    show qr_W (qe L xs vb) (d + 1) qx_e211 _ (0, [(0, .ref 86), (1, .int (qz x0)), (2, .int (qz x1))], [], _, 0, 0)
    refine qr_iload_n 1 rfl rfl rfl ?_
    refine qr_i2l 2 rfl (by omega) rfl ?_
    refine qr_lconst 3 rfl rfl ?_
    refine qy_vl 1 rfl ?_
    refine qr_ldc2 4 6 rfl (by decide) rfl ?_
    refine qy_call 9 rfl rfl rfl ?_
    refine qr_start (d := d + 0) qv_e176 (Nat.le_of_ble_eq_true rfl) ?_
    show qr_W (qe L xs vb) (d + 0) qx_e176 _ (0, [(0, .long (ql x0)), (2, .long (ql 1)), (4, .long (ql 4))], [], _, 0, 0)
    refine qr_lload_n 1 rfl rfl rfl ?_
    refine qr_lload_n 2 rfl rfl rfl ?_
    refine qr_lc_lt 17 6 rfl rfl rfl rfl (by omega) (by decide) (fun h2 => ?_) (fun h => False.elim (by omega))
    refine qr_iconst 18 rfl rfl ?_
    refine qr_retZ rfl rfl (by omega) (by decide) (by decide) ?_
    show qr_W (qe L xs vb) (d + 1) qx_e211 _ (9, [(0, .ref 86), (1, .int (qz x0)), (2, .int (qz x1))], [.int (qz 0)], _, 0, 0)
    refine qr_if_ne 14 12 rfl rfl rfl (by decide) (fun h => absurd h (by decide)) (fun _ => ?_)
    refine qr_iconst 13 rfl rfl ?_
    refine qr_retI rfl rfl (by decide) (by decide) ?_
    exact rfl
  · skip
    refine qr_iload_n 6 rfl rfl rfl ?_
    refine qr_iconst 7 rfl rfl ?_
    refine qr_icmp_le 12 10 rfl rfl rfl (by omega) (by decide) (fun h3 => ?_) (fun h3 => ?_)
    · skip
      refine qr_aload_n 13 rfl rfl rfl ?_
      refine qr_get 16 rfl rfl rfl (by decide) rfl ?_
      refine qy_v 0 rfl ?_
      refine qr_iload_n 17 rfl rfl rfl ?_
      refine qr_iadd 18 rfl rfl ?_
      refine qr_bipush 20 rfl (by decide) rfl ?_
      refine qr_icmp_le 26 23 rfl rfl rfl (by omega) (by decide) (fun h4 => ?_) (fun h => False.elim (by omega))
      refine qr_iconst 27 rfl rfl ?_
      refine qr_istore_n [(3, .int (qz 0)), (0, .ref 16), (1, .int (qz x0)), (2, .int (qz x1))] 28 rfl (by decide) rfl rfl ?_
      refine qr_iload_n 29 rfl rfl rfl ?_
      refine qr_iload_n 30 rfl rfl rfl ?_
      refine qr_icmp_ge 60 33 rfl rfl rfl (by decide) (by omega) (fun h => False.elim (by omega)) (fun h5 => ?_)
      refine qr_aload_n 34 rfl rfl rfl ?_
      refine qr_get 37 rfl rfl rfl (by decide) rfl ?_
      refine qr_aload_n 38 rfl rfl rfl ?_
      refine qr_get 41 rfl rfl rfl (by decide) rfl ?_
      refine qy_v 0 rfl ?_
      refine qr_iload_n 42 rfl rfl rfl ?_
      refine qr_iadd 43 rfl rfl ?_
      refine qy_v 0 rfl ?_
      refine qr_iload_n 44 rfl rfl rfl ?_
      refine qr_bipush 46 rfl (by decide) rfl ?_
      refine qr_iload_n 47 rfl rfl rfl ?_
      refine qr_imul 48 rfl rfl ?_
      refine qy_v 0 rfl ?_
      refine qr_iushr 49 rfl rfl ?_
      refine qr_sipush 52 rfl (by decide) rfl ?_
      refine qr_iand 53 rfl rfl ?_
      refine qr_iastore 54 rfl (by decide) rfl (by omega) (by decide) rfl ?_
      refine qy_wA (qw_r (qo_r g) 81 (qzu ((qo_r g) 81) (0 : Int).toNat (qz_and (qz_ushr x1 0) 255))) rfl (fun α6 e6 => ?_)
      refine qr_iinc [(3, .int (qz 1)), (0, .ref 16), (1, .int (qz x0)), (2, .int (qz x1))] 57 rfl rfl (by decide) rfl rfl ?_
      refine qr_goto 28 rfl rfl ?_
      refine qr_iload_n 29 rfl rfl rfl ?_
      refine qr_iload_n 30 rfl rfl rfl ?_
      refine qr_icmp_ge 60 33 rfl rfl rfl (by decide) (by omega) (fun h7 => ?_) (fun h7 => ?_)
      · skip
        refine qr_aload_n 61 rfl rfl rfl ?_
        refine qr_dup 62 rfl rfl rfl ?_
        refine qr_get 65 rfl rfl rfl (by decide) rfl ?_
        refine qy_v 0 (by subst_vars; rfl) ?_
        refine qr_iload_n 66 rfl rfl rfl ?_
        refine qr_iadd 67 rfl rfl ?_
        refine qr_put 70 rfl (by decide) rfl (Nat.le_of_ble_eq_true rfl) (Nat.le_of_ble_eq_true rfl) (Or.inl rfl) (qr_fitI rfl _) rfl ?_
        refine qy_wS (qw_s (qo_s s) 16 15 (0 + x0)) rfl (fun σ8 e8 => ?_)
        refine qr_aload_n 71 rfl rfl rfl ?_
        refine qr_get 74 rfl rfl rfl (by decide) rfl ?_
        refine qy_v (0 + x0) (by subst_vars; rfl) ?_
        refine qr_retI rfl rfl (by decide) (by decide) ?_
        refine ⟨⟨_, rfl⟩, ⟨_, _, _, _, rfl⟩, ?_⟩
        refine qr_start (d := d + 1) qv_e211 (Nat.le_of_ble_eq_true rfl) ?_
        show qr_W (qe L xs vb) (d + 1) qx_e211 _ (0, [(0, .ref 86), (1, .int (qz x0)), (2, .int (qz x1))], [], _, 0, 0)
        refine qr_iload_n 1 rfl rfl rfl ?_
        refine qr_i2l 2 rfl (by omega) rfl ?_
        refine qr_lconst 3 rfl rfl ?_
        refine qy_vl 1 rfl ?_
        refine qr_ldc2 4 6 rfl (by decide) rfl ?_
        refine qy_call 9 rfl rfl rfl ?_
        refine qr_start (d := d + 0) qv_e176 (Nat.le_of_ble_eq_true rfl) ?_
        show qr_W (qe L xs vb) (d + 0) qx_e176 _ (0, [(0, .long (ql x0)), (2, .long (ql 1)), (4, .long (ql 4))], [], _, 0, 0)
        refine qr_lload_n 1 rfl rfl rfl ?_
        refine qr_lload_n 2 rfl rfl rfl ?_
        refine qr_lc_lt 17 6 rfl rfl rfl rfl (by omega) (by decide) (fun h => False.elim (by omega)) (fun h9 => ?_)
        refine qr_lload_n 7 rfl rfl rfl ?_
        refine qr_lload 9 rfl rfl rfl ?_
        refine qr_lc_gt 17 13 rfl rfl rfl rfl (by omega) (by decide) (fun h => False.elim (by omega)) (fun h10 => ?_)
        refine qr_iconst 14 rfl rfl ?_
        refine qr_goto 18 rfl rfl ?_
        refine qr_retZ rfl rfl (by omega) (by decide) (by decide) ?_
        show qr_W (qe L xs vb) (d + 1) qx_e211 _ (9, [(0, .ref 86), (1, .int (qz x0)), (2, .int (qz x1))], [.int (qz 1)], _, 0, 0)
        refine qr_if_ne 14 12 rfl rfl rfl (by decide) (fun _ => ?_) (fun h => absurd h (by decide))
        as_aux_lemma =>
          refine qr_aload_n 15 rfl rfl rfl ?_
          refine qr_get 18 rfl rfl rfl (by decide) rfl ?_
          refine qy_v 0 (by subst_vars; rfl) ?_
          refine qr_iload_n 19 rfl rfl rfl ?_
          refine qr_iadd 20 rfl rfl ?_
          refine qr_bipush 22 rfl (by decide) rfl ?_
          refine qr_icmp_le 28 25 rfl rfl rfl (by omega) (by decide) (fun h11 => ?_) (fun h => False.elim (by omega))
          refine qr_iconst 29 rfl rfl ?_
          refine qr_istore_n [(3, .int (qz 0)), (0, .ref 86), (1, .int (qz x0)), (2, .int (qz x1))] 30 rfl (by decide) rfl rfl ?_
          refine qr_iload_n 31 rfl rfl rfl ?_
          refine qr_iload_n 32 rfl rfl rfl ?_
          refine qr_icmp_ge 70 35 rfl rfl rfl (by decide) (by omega) (fun h => False.elim (by omega)) (fun h12 => ?_)
          refine qr_aload_n 36 rfl rfl rfl ?_
          refine qr_get 39 rfl rfl rfl (by decide) rfl ?_
          refine qr_aload_n 40 rfl rfl rfl ?_
          refine qr_get 43 rfl rfl rfl (by decide) rfl ?_
          refine qy_v 0 (by subst_vars; rfl) ?_
          refine qr_iload_n 44 rfl rfl rfl ?_
          refine qr_bipush 46 rfl (by decide) rfl ?_
          refine qr_iload_n 47 rfl rfl rfl ?_
          refine qr_imul 48 rfl rfl ?_
          refine qy_v 0 rfl ?_
          refine qr_ishr 49 rfl rfl ?_
          refine qr_sipush 52 rfl (by decide) rfl ?_
          refine qr_iand 53 rfl rfl ?_
          refine qr_iastore 54 rfl (by decide) rfl (by omega) (by decide) rfl ?_
          refine qy_wA (qw_r α6 106 (qzu (α6 106) (0 : Int).toNat (qz_and (qz_shr x1 0) 255))) rfl (fun α13 e13 => ?_)
          refine qr_aload_n 55 rfl rfl rfl ?_
          refine qr_dup 56 rfl rfl rfl ?_
          refine qr_get 59 rfl rfl rfl (by decide) rfl ?_
          refine qy_v 0 (by subst_vars; rfl) ?_
          refine qr_iconst 60 rfl rfl ?_
          refine qr_iadd 61 rfl rfl ?_
          refine qy_v 1 rfl ?_
          refine qr_put 64 rfl (by decide) rfl (Nat.le_of_ble_eq_true rfl) (Nat.le_of_ble_eq_true rfl) (Or.inl rfl) (qr_fitI rfl _) rfl ?_
          refine qy_wS (qw_s σ8 86 32 1) rfl (fun σ14 e14 => ?_)
          refine qr_iinc [(3, .int (qz 1)), (0, .ref 86), (1, .int (qz x0)), (2, .int (qz x1))] 67 rfl rfl (by decide) rfl rfl ?_
          refine qr_goto 30 rfl rfl ?_
          refine qr_iload_n 31 rfl rfl rfl ?_
          refine qr_iload_n 32 rfl rfl rfl ?_
          refine qr_icmp_ge 70 35 rfl rfl rfl (by decide) (by omega) (fun h15 => ?_) (fun h => False.elim (by omega))
          refine qr_aload_n 71 rfl rfl rfl ?_
          refine qr_get 74 rfl rfl rfl (by decide) rfl ?_
          refine qy_v 1 (by subst_vars; rfl) ?_
          refine qr_retI rfl rfl (by decide) (by decide) ?_
          rw [show 1 = (0 + x0) by omega]
      · skip
        refine qr_aload_n 34 rfl rfl rfl ?_
        refine qr_get 37 rfl rfl rfl (by decide) rfl ?_
        refine qr_aload_n 38 rfl rfl rfl ?_
        refine qr_get 41 rfl rfl rfl (by decide) rfl ?_
        refine qy_v 0 (by subst_vars; rfl) ?_
        refine qr_iload_n 42 rfl rfl rfl ?_
        refine qr_iadd 43 rfl rfl ?_
        refine qy_v 1 rfl ?_
        refine qr_iload_n 44 rfl rfl rfl ?_
        refine qr_bipush 46 rfl (by decide) rfl ?_
        refine qr_iload_n 47 rfl rfl rfl ?_
        refine qr_imul 48 rfl rfl ?_
        refine qy_v 8 rfl ?_
        refine qr_iushr 49 rfl rfl ?_
        refine qr_sipush 52 rfl (by decide) rfl ?_
        refine qr_iand 53 rfl rfl ?_
        refine qr_iastore 54 rfl (by decide) rfl (by omega) (by decide) rfl ?_
        refine qy_wA (qw_r α6 81 (qzu (α6 81) (1 : Int).toNat (qz_and (qz_ushr x1 8) 255))) rfl (fun α16 e16 => ?_)
        refine qr_iinc [(3, .int (qz 2)), (0, .ref 16), (1, .int (qz x0)), (2, .int (qz x1))] 57 rfl rfl (by decide) rfl rfl ?_
        refine qr_goto 28 rfl rfl ?_
        refine qr_iload_n 29 rfl rfl rfl ?_
        refine qr_iload_n 30 rfl rfl rfl ?_
        refine qr_icmp_ge 60 33 rfl rfl rfl (by decide) (by omega) (fun h17 => ?_) (fun h17 => ?_)
        · skip
          refine qr_aload_n 61 rfl rfl rfl ?_
          refine qr_dup 62 rfl rfl rfl ?_
          refine qr_get 65 rfl rfl rfl (by decide) rfl ?_
          refine qy_v 0 (by subst_vars; rfl) ?_
          refine qr_iload_n 66 rfl rfl rfl ?_
          refine qr_iadd 67 rfl rfl ?_
          as_aux_lemma =>
            refine qr_put 70 rfl (by decide) rfl (Nat.le_of_ble_eq_true rfl) (Nat.le_of_ble_eq_true rfl) (Or.inl rfl) (qr_fitI rfl _) rfl ?_
            refine qy_wS (qw_s (qo_s s) 16 15 (0 + x0)) rfl (fun σ18 e18 => ?_)
            refine qr_aload_n 71 rfl rfl rfl ?_
            refine qr_get 74 rfl rfl rfl (by decide) rfl ?_
            refine qy_v (0 + x0) (by subst_vars; rfl) ?_
            refine qr_retI rfl rfl (by decide) (by decide) ?_
            refine ⟨⟨_, rfl⟩, ⟨_, _, _, _, rfl⟩, ?_⟩
            refine qr_start (d := d + 1) qv_e211 (Nat.le_of_ble_eq_true rfl) ?_
            show qr_W (qe L xs vb) (d + 1) qx_e211 _ (0, [(0, .ref 86), (1, .int (qz x0)), (2, .int (qz x1))], [], _, 0, 0)
            refine qr_iload_n 1 rfl rfl rfl ?_
            refine qr_i2l 2 rfl (by omega) rfl ?_
            refine qr_lconst 3 rfl rfl ?_
            refine qy_vl 1 rfl ?_
            refine qr_ldc2 4 6 rfl (by decide) rfl ?_
            refine qy_call 9 rfl rfl rfl ?_
            refine qr_start (d := d + 0) qv_e176 (Nat.le_of_ble_eq_true rfl) ?_
            show qr_W (qe L xs vb) (d + 0) qx_e176 _ (0, [(0, .long (ql x0)), (2, .long (ql 1)), (4, .long (ql 4))], [], _, 0, 0)
            refine qr_lload_n 1 rfl rfl rfl ?_
            refine qr_lload_n 2 rfl rfl rfl ?_
            refine qr_lc_lt 17 6 rfl rfl rfl rfl (by omega) (by decide) (fun h => False.elim (by omega)) (fun h19 => ?_)
            refine qr_lload_n 7 rfl rfl rfl ?_
            refine qr_lload 9 rfl rfl rfl ?_
            refine qr_lc_gt 17 13 rfl rfl rfl rfl (by omega) (by decide) (fun h => False.elim (by omega)) (fun h20 => ?_)
            refine qr_iconst 14 rfl rfl ?_
            refine qr_goto 18 rfl rfl ?_
            refine qr_retZ rfl rfl (by omega) (by decide) (by decide) ?_
            show qr_W (qe L xs vb) (d + 1) qx_e211 _ (9, [(0, .ref 86), (1, .int (qz x0)), (2, .int (qz x1))], [.int (qz 1)], _, 0, 0)
            refine qr_if_ne 14 12 rfl rfl rfl (by decide) (fun _ => ?_) (fun h => absurd h (by decide))
            refine qr_aload_n 15 rfl rfl rfl ?_
            refine qr_get 18 rfl rfl rfl (by decide) rfl ?_
            refine qy_v 0 (by subst_vars; rfl) ?_
            refine qr_iload_n 19 rfl rfl rfl ?_
            refine qr_iadd 20 rfl rfl ?_
            refine qr_bipush 22 rfl (by decide) rfl ?_
            refine qr_icmp_le 28 25 rfl rfl rfl (by omega) (by decide) (fun h21 => ?_) (fun h => False.elim (by omega))
            refine qr_iconst 29 rfl rfl ?_
            refine qr_istore_n [(3, .int (qz 0)), (0, .ref 86), (1, .int (qz x0)), (2, .int (qz x1))] 30 rfl (by decide) rfl rfl ?_
            refine qr_iload_n 31 rfl rfl rfl ?_
            refine qr_iload_n 32 rfl rfl rfl ?_
            refine qr_icmp_ge 70 35 rfl rfl rfl (by decide) (by omega) (fun h => False.elim (by omega)) (fun h22 => ?_)
            refine qr_aload_n 36 rfl rfl rfl ?_
            refine qr_get 39 rfl rfl rfl (by decide) rfl ?_
            refine qr_aload_n 40 rfl rfl rfl ?_
            refine qr_get 43 rfl rfl rfl (by decide) rfl ?_
            refine qy_v 0 (by subst_vars; rfl) ?_
            refine qr_iload_n 44 rfl rfl rfl ?_
            refine qr_bipush 46 rfl (by decide) rfl ?_
            refine qr_iload_n 47 rfl rfl rfl ?_
            refine qr_imul 48 rfl rfl ?_
            refine qy_v 0 rfl ?_
            refine qr_ishr 49 rfl rfl ?_
            refine qr_sipush 52 rfl (by decide) rfl ?_
            refine qr_iand 53 rfl rfl ?_
            refine qr_iastore 54 rfl (by decide) rfl (by omega) (by decide) rfl ?_
            refine qy_wA (qw_r α16 106 (qzu (α16 106) (0 : Int).toNat (qz_and (qz_shr x1 0) 255))) rfl (fun α23 e23 => ?_)
            refine qr_aload_n 55 rfl rfl rfl ?_
            refine qr_dup 56 rfl rfl rfl ?_
            refine qr_get 59 rfl rfl rfl (by decide) rfl ?_
            refine qy_v 0 (by subst_vars; rfl) ?_
            refine qr_iconst 60 rfl rfl ?_
            refine qr_iadd 61 rfl rfl ?_
            refine qy_v 1 rfl ?_
            refine qr_put 64 rfl (by decide) rfl (Nat.le_of_ble_eq_true rfl) (Nat.le_of_ble_eq_true rfl) (Or.inl rfl) (qr_fitI rfl _) rfl ?_
            refine qy_wS (qw_s σ18 86 32 1) rfl (fun σ24 e24 => ?_)
            refine qr_iinc [(3, .int (qz 1)), (0, .ref 86), (1, .int (qz x0)), (2, .int (qz x1))] 67 rfl rfl (by decide) rfl rfl ?_
            refine qr_goto 30 rfl rfl ?_
            refine qr_iload_n 31 rfl rfl rfl ?_
            refine qr_iload_n 32 rfl rfl rfl ?_
            refine qr_icmp_ge 70 35 rfl rfl rfl (by decide) (by omega) (fun h => False.elim (by omega)) (fun h25 => ?_)
            refine qr_aload_n 36 rfl rfl rfl ?_
            refine qr_get 39 rfl rfl rfl (by decide) rfl ?_
            refine qr_aload_n 40 rfl rfl rfl ?_
            refine qr_get 43 rfl rfl rfl (by decide) rfl ?_
            refine qy_v 1 (by subst_vars; rfl) ?_
            refine qr_iload_n 44 rfl rfl rfl ?_
            refine qr_bipush 46 rfl (by decide) rfl ?_
            refine qr_iload_n 47 rfl rfl rfl ?_
            refine qr_imul 48 rfl rfl ?_
            refine qy_v 8 rfl ?_
            as_aux_lemma =>
              refine qr_ishr 49 rfl rfl ?_
              refine qr_sipush 52 rfl (by decide) rfl ?_
              refine qr_iand 53 rfl rfl ?_
              refine qr_iastore 54 rfl (by decide) rfl (by omega) (by decide) rfl ?_
              refine qy_wA (qw_r α23 106 (qzu (α23 106) (1 : Int).toNat (qz_and (qz_shr x1 8) 255))) rfl (fun α26 e26 => ?_)
              refine qr_aload_n 55 rfl rfl rfl ?_
              refine qr_dup 56 rfl rfl rfl ?_
              refine qr_get 59 rfl rfl rfl (by decide) rfl ?_
              refine qy_v 1 (by subst_vars; rfl) ?_
              refine qr_iconst 60 rfl rfl ?_
              refine qr_iadd 61 rfl rfl ?_
              refine qy_v 2 rfl ?_
              refine qr_put 64 rfl (by decide) rfl (Nat.le_of_ble_eq_true rfl) (Nat.le_of_ble_eq_true rfl) (Or.inl rfl) (qr_fitI rfl _) rfl ?_
              refine qy_wS (qw_s σ24 86 32 2) rfl (fun σ27 e27 => ?_)
              refine qr_iinc [(3, .int (qz 2)), (0, .ref 86), (1, .int (qz x0)), (2, .int (qz x1))] 67 rfl rfl (by decide) rfl rfl ?_
              refine qr_goto 30 rfl rfl ?_
              refine qr_iload_n 31 rfl rfl rfl ?_
              refine qr_iload_n 32 rfl rfl rfl ?_
              refine qr_icmp_ge 70 35 rfl rfl rfl (by decide) (by omega) (fun h28 => ?_) (fun h => False.elim (by omega))
              refine qr_aload_n 71 rfl rfl rfl ?_
              refine qr_get 74 rfl rfl rfl (by decide) rfl ?_
              refine qy_v 2 (by subst_vars; rfl) ?_
              refine qr_retI rfl rfl (by decide) (by decide) ?_
              rw [show 2 = (0 + x0) by omega]
        · skip
          refine qr_aload_n 34 rfl rfl rfl ?_
          refine qr_get 37 rfl rfl rfl (by decide) rfl ?_
          refine qr_aload_n 38 rfl rfl rfl ?_
          refine qr_get 41 rfl rfl rfl (by decide) rfl ?_
          refine qy_v 0 (by subst_vars; rfl) ?_
          refine qr_iload_n 42 rfl rfl rfl ?_
          as_aux_lemma =>
            refine qr_iadd 43 rfl rfl ?_
            refine qy_v 2 rfl ?_
            refine qr_iload_n 44 rfl rfl rfl ?_
            refine qr_bipush 46 rfl (by decide) rfl ?_
            refine qr_iload_n 47 rfl rfl rfl ?_
            refine qr_imul 48 rfl rfl ?_
            refine qy_v 16 rfl ?_
            refine qr_iushr 49 rfl rfl ?_
            refine qr_sipush 52 rfl (by decide) rfl ?_
            refine qr_iand 53 rfl rfl ?_
            refine qr_iastore 54 rfl (by decide) rfl (by omega) (by decide) rfl ?_
            refine qy_wA (qw_r α16 81 (qzu (α16 81) (2 : Int).toNat (qz_and (qz_ushr x1 16) 255))) rfl (fun α29 e29 => ?_)
            refine qr_iinc [(3, .int (qz 3)), (0, .ref 16), (1, .int (qz x0)), (2, .int (qz x1))] 57 rfl rfl (by decide) rfl rfl ?_
            refine qr_goto 28 rfl rfl ?_
            refine qr_iload_n 29 rfl rfl rfl ?_
            refine qr_iload_n 30 rfl rfl rfl ?_
            refine qr_icmp_ge 60 33 rfl rfl rfl (by decide) (by omega) (fun h30 => ?_) (fun h30 => ?_)
            · skip
              refine qr_aload_n 61 rfl rfl rfl ?_
              refine qr_dup 62 rfl rfl rfl ?_
              refine qr_get 65 rfl rfl rfl (by decide) rfl ?_
              refine qy_v 0 (by subst_vars; rfl) ?_
              refine qr_iload_n 66 rfl rfl rfl ?_
              refine qr_iadd 67 rfl rfl ?_
              refine qr_put 70 rfl (by decide) rfl (Nat.le_of_ble_eq_true rfl) (Nat.le_of_ble_eq_true rfl) (Or.inl rfl) (qr_fitI rfl _) rfl ?_
              refine qy_wS (qw_s (qo_s s) 16 15 (0 + x0)) rfl (fun σ31 e31 => ?_)
              refine qr_aload_n 71 rfl rfl rfl ?_
              refine qr_get 74 rfl rfl rfl (by decide) rfl ?_
              refine qy_v (0 + x0) (by subst_vars; rfl) ?_
              refine qr_retI rfl rfl (by decide) (by decide) ?_
              refine ⟨⟨_, rfl⟩, ⟨_, _, _, _, rfl⟩, ?_⟩
              refine qr_start (d := d + 1) qv_e211 (Nat.le_of_ble_eq_true rfl) ?_
              show qr_W (qe L xs vb) (d + 1) qx_e211 _ (0, [(0, .ref 86), (1, .int (qz x0)), (2, .int (qz x1))], [], _, 0, 0)
              refine qr_iload_n 1 rfl rfl rfl ?_
              refine qr_i2l 2 rfl (by omega) rfl ?_
              refine qr_lconst 3 rfl rfl ?_
              refine qy_vl 1 rfl ?_
              refine qr_ldc2 4 6 rfl (by decide) rfl ?_
              refine qy_call 9 rfl rfl rfl ?_
              refine qr_start (d := d + 0) qv_e176 (Nat.le_of_ble_eq_true rfl) ?_
              show qr_W (qe L xs vb) (d + 0) qx_e176 _ (0, [(0, .long (ql x0)), (2, .long (ql 1)), (4, .long (ql 4))], [], _, 0, 0)
              refine qr_lload_n 1 rfl rfl rfl ?_
              refine qr_lload_n 2 rfl rfl rfl ?_
              refine qr_lc_lt 17 6 rfl rfl rfl rfl (by omega) (by decide) (fun h => False.elim (by omega)) (fun h32 => ?_)
              refine qr_lload_n 7 rfl rfl rfl ?_
              refine qr_lload 9 rfl rfl rfl ?_
              refine qr_lc_gt 17 13 rfl rfl rfl rfl (by omega) (by decide) (fun h => False.elim (by omega)) (fun h33 => ?_)
              refine qr_iconst 14 rfl rfl ?_
              refine qr_goto 18 rfl rfl ?_
              refine qr_retZ rfl rfl (by omega) (by decide) (by decide) ?_
              show qr_W (qe L xs vb) (d + 1) qx_e211 _ (9, [(0, .ref 86), (1, .int (qz x0)), (2, .int (qz x1))], [.int (qz 1)], _, 0, 0)
              refine qr_if_ne 14 12 rfl rfl rfl (by decide) (fun _ => ?_) (fun h => absurd h (by decide))
              refine qr_aload_n 15 rfl rfl rfl ?_
              refine qr_get 18 rfl rfl rfl (by decide) rfl ?_
              refine qy_v 0 (by subst_vars; rfl) ?_
              refine qr_iload_n 19 rfl rfl rfl ?_
              refine qr_iadd 20 rfl rfl ?_
              refine qr_bipush 22 rfl (by decide) rfl ?_
              refine qr_icmp_le 28 25 rfl rfl rfl (by omega) (by decide) (fun h34 => ?_) (fun h => False.elim (by omega))
              refine qr_iconst 29 rfl rfl ?_
              refine qr_istore_n [(3, .int (qz 0)), (0, .ref 86), (1, .int (qz x0)), (2, .int (qz x1))] 30 rfl (by decide) rfl rfl ?_
              refine qr_iload_n 31 rfl rfl rfl ?_
              refine qr_iload_n 32 rfl rfl rfl ?_
              refine qr_icmp_ge 70 35 rfl rfl rfl (by decide) (by omega) (fun h => False.elim (by omega)) (fun h35 => ?_)
              refine qr_aload_n 36 rfl rfl rfl ?_
              refine qr_get 39 rfl rfl rfl (by decide) rfl ?_
              refine qr_aload_n 40 rfl rfl rfl ?_
              refine qr_get 43 rfl rfl rfl (by decide) rfl ?_
              refine qy_v 0 (by subst_vars; rfl) ?_
              refine qr_iload_n 44 rfl rfl rfl ?_
              refine qr_bipush 46 rfl (by decide) rfl ?_
              refine qr_iload_n 47 rfl rfl rfl ?_
              refine qr_imul 48 rfl rfl ?_
              refine qy_v 0 rfl ?_
              refine qr_ishr 49 rfl rfl ?_
              refine qr_sipush 52 rfl (by decide) rfl ?_
              refine qr_iand 53 rfl rfl ?_
              refine qr_iastore 54 rfl (by decide) rfl (by omega) (by decide) rfl ?_
              refine qy_wA (qw_r α29 106 (qzu (α29 106) (0 : Int).toNat (qz_and (qz_shr x1 0) 255))) rfl (fun α36 e36 => ?_)
              as_aux_lemma =>
                refine qr_aload_n 55 rfl rfl rfl ?_
                refine qr_dup 56 rfl rfl rfl ?_
                refine qr_get 59 rfl rfl rfl (by decide) rfl ?_
                refine qy_v 0 (by subst_vars; rfl) ?_
                refine qr_iconst 60 rfl rfl ?_
                refine qr_iadd 61 rfl rfl ?_
                refine qy_v 1 rfl ?_
                refine qr_put 64 rfl (by decide) rfl (Nat.le_of_ble_eq_true rfl) (Nat.le_of_ble_eq_true rfl) (Or.inl rfl) (qr_fitI rfl _) rfl ?_
                refine qy_wS (qw_s σ31 86 32 1) rfl (fun σ37 e37 => ?_)
                refine qr_iinc [(3, .int (qz 1)), (0, .ref 86), (1, .int (qz x0)), (2, .int (qz x1))] 67 rfl rfl (by decide) rfl rfl ?_
                refine qr_goto 30 rfl rfl ?_
                refine qr_iload_n 31 rfl rfl rfl ?_
                refine qr_iload_n 32 rfl rfl rfl ?_
                refine qr_icmp_ge 70 35 rfl rfl rfl (by decide) (by omega) (fun h => False.elim (by omega)) (fun h38 => ?_)
                refine qr_aload_n 36 rfl rfl rfl ?_
                refine qr_get 39 rfl rfl rfl (by decide) rfl ?_
                refine qr_aload_n 40 rfl rfl rfl ?_
                refine qr_get 43 rfl rfl rfl (by decide) rfl ?_
                refine qy_v 1 (by subst_vars; rfl) ?_
                refine qr_iload_n 44 rfl rfl rfl ?_
                refine qr_bipush 46 rfl (by decide) rfl ?_
                refine qr_iload_n 47 rfl rfl rfl ?_
                refine qr_imul 48 rfl rfl ?_
                refine qy_v 8 rfl ?_
                refine qr_ishr 49 rfl rfl ?_
                refine qr_sipush 52 rfl (by decide) rfl ?_
                refine qr_iand 53 rfl rfl ?_
                refine qr_iastore 54 rfl (by decide) rfl (by omega) (by decide) rfl ?_
                refine qy_wA (qw_r α36 106 (qzu (α36 106) (1 : Int).toNat (qz_and (qz_shr x1 8) 255))) rfl (fun α39 e39 => ?_)
                refine qr_aload_n 55 rfl rfl rfl ?_
                refine qr_dup 56 rfl rfl rfl ?_
                refine qr_get 59 rfl rfl rfl (by decide) rfl ?_
                refine qy_v 1 (by subst_vars; rfl) ?_
                refine qr_iconst 60 rfl rfl ?_
                refine qr_iadd 61 rfl rfl ?_
                refine qy_v 2 rfl ?_
                refine qr_put 64 rfl (by decide) rfl (Nat.le_of_ble_eq_true rfl) (Nat.le_of_ble_eq_true rfl) (Or.inl rfl) (qr_fitI rfl _) rfl ?_
                refine qy_wS (qw_s σ37 86 32 2) rfl (fun σ40 e40 => ?_)
                refine qr_iinc [(3, .int (qz 2)), (0, .ref 86), (1, .int (qz x0)), (2, .int (qz x1))] 67 rfl rfl (by decide) rfl rfl ?_
                refine qr_goto 30 rfl rfl ?_
                refine qr_iload_n 31 rfl rfl rfl ?_
                refine qr_iload_n 32 rfl rfl rfl ?_
                refine qr_icmp_ge 70 35 rfl rfl rfl (by decide) (by omega) (fun h => False.elim (by omega)) (fun h41 => ?_)
                refine qr_aload_n 36 rfl rfl rfl ?_
                refine qr_get 39 rfl rfl rfl (by decide) rfl ?_
                refine qr_aload_n 40 rfl rfl rfl ?_
                refine qr_get 43 rfl rfl rfl (by decide) rfl ?_
                refine qy_v 2 (by subst_vars; rfl) ?_
                refine qr_iload_n 44 rfl rfl rfl ?_
                refine qr_bipush 46 rfl (by decide) rfl ?_
                refine qr_iload_n 47 rfl rfl rfl ?_
                refine qr_imul 48 rfl rfl ?_
                refine qy_v 16 rfl ?_
                refine qr_ishr 49 rfl rfl ?_
                refine qr_sipush 52 rfl (by decide) rfl ?_
                refine qr_iand 53 rfl rfl ?_
                refine qr_iastore 54 rfl (by decide) rfl (by omega) (by decide) rfl ?_
                refine qy_wA (qw_r α39 106 (qzu (α39 106) (2 : Int).toNat (qz_and (qz_shr x1 16) 255))) rfl (fun α42 e42 => ?_)
                refine qr_aload_n 55 rfl rfl rfl ?_
                refine qr_dup 56 rfl rfl rfl ?_
                refine qr_get 59 rfl rfl rfl (by decide) rfl ?_
                refine qy_v 2 (by subst_vars; rfl) ?_
                refine qr_iconst 60 rfl rfl ?_
                refine qr_iadd 61 rfl rfl ?_
                refine qy_v 3 rfl ?_
                refine qr_put 64 rfl (by decide) rfl (Nat.le_of_ble_eq_true rfl) (Nat.le_of_ble_eq_true rfl) (Or.inl rfl) (qr_fitI rfl _) rfl ?_
                refine qy_wS (qw_s σ40 86 32 3) rfl (fun σ43 e43 => ?_)
                refine qr_iinc [(3, .int (qz 3)), (0, .ref 86), (1, .int (qz x0)), (2, .int (qz x1))] 67 rfl rfl (by decide) rfl rfl ?_
                refine qr_goto 30 rfl rfl ?_
                refine qr_iload_n 31 rfl rfl rfl ?_
                refine qr_iload_n 32 rfl rfl rfl ?_
                refine qr_icmp_ge 70 35 rfl rfl rfl (by decide) (by omega) (fun h44 => ?_) (fun h => False.elim (by omega))
                refine qr_aload_n 71 rfl rfl rfl ?_
                refine qr_get 74 rfl rfl rfl (by decide) rfl ?_
                refine qy_v 3 (by subst_vars; rfl) ?_
                refine qr_retI rfl rfl (by decide) (by decide) ?_
                rw [show 3 = (0 + x0) by omega]
            · skip
              refine qr_aload_n 34 rfl rfl rfl ?_
              refine qr_get 37 rfl rfl rfl (by decide) rfl ?_
              refine qr_aload_n 38 rfl rfl rfl ?_
              refine qr_get 41 rfl rfl rfl (by decide) rfl ?_
              refine qy_v 0 (by subst_vars; rfl) ?_
              refine qr_iload_n 42 rfl rfl rfl ?_
              refine qr_iadd 43 rfl rfl ?_
              refine qy_v 3 rfl ?_
              refine qr_iload_n 44 rfl rfl rfl ?_
              refine qr_bipush 46 rfl (by decide) rfl ?_
              refine qr_iload_n 47 rfl rfl rfl ?_
              refine qr_imul 48 rfl rfl ?_
              refine qy_v 24 rfl ?_
              refine qr_iushr 49 rfl rfl ?_
              refine qr_sipush 52 rfl (by decide) rfl ?_
              refine qr_iand 53 rfl rfl ?_
              refine qr_iastore 54 rfl (by decide) rfl (by omega) (by decide) rfl ?_
              refine qy_wA (qw_r α29 81 (qzu (α29 81) (3 : Int).toNat (qz_and (qz_ushr x1 24) 255))) rfl (fun α45 e45 => ?_)
              refine qr_iinc [(3, .int (qz 4)), (0, .ref 16), (1, .int (qz x0)), (2, .int (qz x1))] 57 rfl rfl (by decide) rfl rfl ?_
              refine qr_goto 28 rfl rfl ?_
              refine qr_iload_n 29 rfl rfl rfl ?_
              refine qr_iload_n 30 rfl rfl rfl ?_
              refine qr_icmp_ge 60 33 rfl rfl rfl (by decide) (by omega) (fun h46 => ?_) (fun h => False.elim (by omega))
              refine qr_aload_n 61 rfl rfl rfl ?_
              refine qr_dup 62 rfl rfl rfl ?_
              refine qr_get 65 rfl rfl rfl (by decide) rfl ?_
              refine qy_v 0 (by subst_vars; rfl) ?_
              refine qr_iload_n 66 rfl rfl rfl ?_
              refine qr_iadd 67 rfl rfl ?_
              refine qr_put 70 rfl (by decide) rfl (Nat.le_of_ble_eq_true rfl) (Nat.le_of_ble_eq_true rfl) (Or.inl rfl) (qr_fitI rfl _) rfl ?_
              refine qy_wS (qw_s (qo_s s) 16 15 (0 + x0)) rfl (fun σ47 e47 => ?_)
              refine qr_aload_n 71 rfl rfl rfl ?_
              refine qr_get 74 rfl rfl rfl (by decide) rfl ?_
              refine qy_v (0 + x0) (by subst_vars; rfl) ?_
              refine qr_retI rfl rfl (by decide) (by decide) ?_
              refine ⟨⟨_, rfl⟩, ⟨_, _, _, _, rfl⟩, ?_⟩
              refine qr_start (d := d + 1) qv_e211 (Nat.le_of_ble_eq_true rfl) ?_
              show qr_W (qe L xs vb) (d + 1) qx_e211 _ (0, [(0, .ref 86), (1, .int (qz x0)), (2, .int (qz x1))], [], _, 0, 0)
              refine qr_iload_n 1 rfl rfl rfl ?_
              refine qr_i2l 2 rfl (by omega) rfl ?_
              refine qr_lconst 3 rfl rfl ?_
              refine qy_vl 1 rfl ?_
              refine qr_ldc2 4 6 rfl (by decide) rfl ?_
              refine qy_call 9 rfl rfl rfl ?_
              refine qr_start (d := d + 0) qv_e176 (Nat.le_of_ble_eq_true rfl) ?_
              show qr_W (qe L xs vb) (d + 0) qx_e176 _ (0, [(0, .long (ql x0)), (2, .long (ql 1)), (4, .long (ql 4))], [], _, 0, 0)
              refine qr_lload_n 1 rfl rfl rfl ?_
              refine qr_lload_n 2 rfl rfl rfl ?_
              refine qr_lc_lt 17 6 rfl rfl rfl rfl (by omega) (by decide) (fun h => False.elim (by omega)) (fun h48 => ?_)
              refine qr_lload_n 7 rfl rfl rfl ?_
              refine qr_lload 9 rfl rfl rfl ?_
              refine qr_lc_gt 17 13 rfl rfl rfl rfl (by omega) (by decide) (fun h => False.elim (by omega)) (fun h49 => ?_)
              refine qr_iconst 14 rfl rfl ?_
              refine qr_goto 18 rfl rfl ?_
              refine qr_retZ rfl rfl (by omega) (by decide) (by decide) ?_
              show qr_W (qe L xs vb) (d + 1) qx_e211 _ (9, [(0, .ref 86), (1, .int (qz x0)), (2, .int (qz x1))], [.int (qz 1)], _, 0, 0)
              refine qr_if_ne 14 12 rfl rfl rfl (by decide) (fun _ => ?_) (fun h => absurd h (by decide))
              refine qr_aload_n 15 rfl rfl rfl ?_
              refine qr_get 18 rfl rfl rfl (by decide) rfl ?_
              refine qy_v 0 (by subst_vars; rfl) ?_
              refine qr_iload_n 19 rfl rfl rfl ?_
              refine qr_iadd 20 rfl rfl ?_
              as_aux_lemma =>
                refine qr_bipush 22 rfl (by decide) rfl ?_
                refine qr_icmp_le 28 25 rfl rfl rfl (by omega) (by decide) (fun h50 => ?_) (fun h => False.elim (by omega))
                refine qr_iconst 29 rfl rfl ?_
                refine qr_istore_n [(3, .int (qz 0)), (0, .ref 86), (1, .int (qz x0)), (2, .int (qz x1))] 30 rfl (by decide) rfl rfl ?_
                refine qr_iload_n 31 rfl rfl rfl ?_
                refine qr_iload_n 32 rfl rfl rfl ?_
                refine qr_icmp_ge 70 35 rfl rfl rfl (by decide) (by omega) (fun h => False.elim (by omega)) (fun h51 => ?_)
                refine qr_aload_n 36 rfl rfl rfl ?_
                refine qr_get 39 rfl rfl rfl (by decide) rfl ?_
                refine qr_aload_n 40 rfl rfl rfl ?_
                refine qr_get 43 rfl rfl rfl (by decide) rfl ?_
                refine qy_v 0 (by subst_vars; rfl) ?_
                refine qr_iload_n 44 rfl rfl rfl ?_
                refine qr_bipush 46 rfl (by decide) rfl ?_
                refine qr_iload_n 47 rfl rfl rfl ?_
                refine qr_imul 48 rfl rfl ?_
                refine qy_v 0 rfl ?_
                refine qr_ishr 49 rfl rfl ?_
                refine qr_sipush 52 rfl (by decide) rfl ?_
                refine qr_iand 53 rfl rfl ?_
                refine qr_iastore 54 rfl (by decide) rfl (by omega) (by decide) rfl ?_
                refine qy_wA (qw_r α45 106 (qzu (α45 106) (0 : Int).toNat (qz_and (qz_shr x1 0) 255))) rfl (fun α52 e52 => ?_)
                refine qr_aload_n 55 rfl rfl rfl ?_
                refine qr_dup 56 rfl rfl rfl ?_
                refine qr_get 59 rfl rfl rfl (by decide) rfl ?_
                refine qy_v 0 (by subst_vars; rfl) ?_
                refine qr_iconst 60 rfl rfl ?_
                refine qr_iadd 61 rfl rfl ?_
                refine qy_v 1 rfl ?_
                refine qr_put 64 rfl (by decide) rfl (Nat.le_of_ble_eq_true rfl) (Nat.le_of_ble_eq_true rfl) (Or.inl rfl) (qr_fitI rfl _) rfl ?_
                refine qy_wS (qw_s σ47 86 32 1) rfl (fun σ53 e53 => ?_)
                refine qr_iinc [(3, .int (qz 1)), (0, .ref 86), (1, .int (qz x0)), (2, .int (qz x1))] 67 rfl rfl (by decide) rfl rfl ?_
                refine qr_goto 30 rfl rfl ?_
                refine qr_iload_n 31 rfl rfl rfl ?_
                refine qr_iload_n 32 rfl rfl rfl ?_
                refine qr_icmp_ge 70 35 rfl rfl rfl (by decide) (by omega) (fun h => False.elim (by omega)) (fun h54 => ?_)
                refine qr_aload_n 36 rfl rfl rfl ?_
                refine qr_get 39 rfl rfl rfl (by decide) rfl ?_
                refine qr_aload_n 40 rfl rfl rfl ?_
                refine qr_get 43 rfl rfl rfl (by decide) rfl ?_
                refine qy_v 1 (by subst_vars; rfl) ?_
                refine qr_iload_n 44 rfl rfl rfl ?_
                refine qr_bipush 46 rfl (by decide) rfl ?_
                refine qr_iload_n 47 rfl rfl rfl ?_
                refine qr_imul 48 rfl rfl ?_
                refine qy_v 8 rfl ?_
                refine qr_ishr 49 rfl rfl ?_
                refine qr_sipush 52 rfl (by decide) rfl ?_
                refine qr_iand 53 rfl rfl ?_
                refine qr_iastore 54 rfl (by decide) rfl (by omega) (by decide) rfl ?_
                refine qy_wA (qw_r α52 106 (qzu (α52 106) (1 : Int).toNat (qz_and (qz_shr x1 8) 255))) rfl (fun α55 e55 => ?_)
                refine qr_aload_n 55 rfl rfl rfl ?_
                refine qr_dup 56 rfl rfl rfl ?_
                refine qr_get 59 rfl rfl rfl (by decide) rfl ?_
                refine qy_v 1 (by subst_vars; rfl) ?_
                refine qr_iconst 60 rfl rfl ?_
                refine qr_iadd 61 rfl rfl ?_
                refine qy_v 2 rfl ?_
                refine qr_put 64 rfl (by decide) rfl (Nat.le_of_ble_eq_true rfl) (Nat.le_of_ble_eq_true rfl) (Or.inl rfl) (qr_fitI rfl _) rfl ?_
                refine qy_wS (qw_s σ53 86 32 2) rfl (fun σ56 e56 => ?_)
                refine qr_iinc [(3, .int (qz 2)), (0, .ref 86), (1, .int (qz x0)), (2, .int (qz x1))] 67 rfl rfl (by decide) rfl rfl ?_
                refine qr_goto 30 rfl rfl ?_
                refine qr_iload_n 31 rfl rfl rfl ?_
                refine qr_iload_n 32 rfl rfl rfl ?_
                refine qr_icmp_ge 70 35 rfl rfl rfl (by decide) (by omega) (fun h => False.elim (by omega)) (fun h57 => ?_)
                refine qr_aload_n 36 rfl rfl rfl ?_
                refine qr_get 39 rfl rfl rfl (by decide) rfl ?_
                refine qr_aload_n 40 rfl rfl rfl ?_
                refine qr_get 43 rfl rfl rfl (by decide) rfl ?_
                refine qy_v 2 (by subst_vars; rfl) ?_
                refine qr_iload_n 44 rfl rfl rfl ?_
                refine qr_bipush 46 rfl (by decide) rfl ?_
                refine qr_iload_n 47 rfl rfl rfl ?_
                refine qr_imul 48 rfl rfl ?_
                refine qy_v 16 rfl ?_
                as_aux_lemma =>
                  refine qr_ishr 49 rfl rfl ?_
                  refine qr_sipush 52 rfl (by decide) rfl ?_
                  refine qr_iand 53 rfl rfl ?_
                  refine qr_iastore 54 rfl (by decide) rfl (by omega) (by decide) rfl ?_
                  refine qy_wA (qw_r α55 106 (qzu (α55 106) (2 : Int).toNat (qz_and (qz_shr x1 16) 255))) rfl (fun α58 e58 => ?_)
                  refine qr_aload_n 55 rfl rfl rfl ?_
                  refine qr_dup 56 rfl rfl rfl ?_
                  refine qr_get 59 rfl rfl rfl (by decide) rfl ?_
                  refine qy_v 2 (by subst_vars; rfl) ?_
                  refine qr_iconst 60 rfl rfl ?_
                  refine qr_iadd 61 rfl rfl ?_
                  refine qy_v 3 rfl ?_
                  refine qr_put 64 rfl (by decide) rfl (Nat.le_of_ble_eq_true rfl) (Nat.le_of_ble_eq_true rfl) (Or.inl rfl) (qr_fitI rfl _) rfl ?_
                  refine qy_wS (qw_s σ56 86 32 3) rfl (fun σ59 e59 => ?_)
                  refine qr_iinc [(3, .int (qz 3)), (0, .ref 86), (1, .int (qz x0)), (2, .int (qz x1))] 67 rfl rfl (by decide) rfl rfl ?_
                  refine qr_goto 30 rfl rfl ?_
                  refine qr_iload_n 31 rfl rfl rfl ?_
                  refine qr_iload_n 32 rfl rfl rfl ?_
                  refine qr_icmp_ge 70 35 rfl rfl rfl (by decide) (by omega) (fun h => False.elim (by omega)) (fun h60 => ?_)
                  refine qr_aload_n 36 rfl rfl rfl ?_
                  refine qr_get 39 rfl rfl rfl (by decide) rfl ?_
                  refine qr_aload_n 40 rfl rfl rfl ?_
                  refine qr_get 43 rfl rfl rfl (by decide) rfl ?_
                  refine qy_v 3 (by subst_vars; rfl) ?_
                  refine qr_iload_n 44 rfl rfl rfl ?_
                  refine qr_bipush 46 rfl (by decide) rfl ?_
                  refine qr_iload_n 47 rfl rfl rfl ?_
                  refine qr_imul 48 rfl rfl ?_
                  refine qy_v 24 rfl ?_
                  refine qr_ishr 49 rfl rfl ?_
                  refine qr_sipush 52 rfl (by decide) rfl ?_
                  refine qr_iand 53 rfl rfl ?_
                  refine qr_iastore 54 rfl (by decide) rfl (by omega) (by decide) rfl ?_
                  refine qy_wA (qw_r α58 106 (qzu (α58 106) (3 : Int).toNat (qz_and (qz_shr x1 24) 255))) rfl (fun α61 e61 => ?_)
                  refine qr_aload_n 55 rfl rfl rfl ?_
                  refine qr_dup 56 rfl rfl rfl ?_
                  refine qr_get 59 rfl rfl rfl (by decide) rfl ?_
                  refine qy_v 3 (by subst_vars; rfl) ?_
                  refine qr_iconst 60 rfl rfl ?_
                  refine qr_iadd 61 rfl rfl ?_
                  refine qy_v 4 rfl ?_
                  refine qr_put 64 rfl (by decide) rfl (Nat.le_of_ble_eq_true rfl) (Nat.le_of_ble_eq_true rfl) (Or.inl rfl) (qr_fitI rfl _) rfl ?_
                  refine qy_wS (qw_s σ59 86 32 4) rfl (fun σ62 e62 => ?_)
                  refine qr_iinc [(3, .int (qz 4)), (0, .ref 86), (1, .int (qz x0)), (2, .int (qz x1))] 67 rfl rfl (by decide) rfl rfl ?_
                  refine qr_goto 30 rfl rfl ?_
                  refine qr_iload_n 31 rfl rfl rfl ?_
                  refine qr_iload_n 32 rfl rfl rfl ?_
                  refine qr_icmp_ge 70 35 rfl rfl rfl (by decide) (by omega) (fun h63 => ?_) (fun h => False.elim (by omega))
                  refine qr_aload_n 71 rfl rfl rfl ?_
                  refine qr_get 74 rfl rfl rfl (by decide) rfl ?_
                  refine qy_v 4 (by subst_vars; rfl) ?_
                  refine qr_retI rfl rfl (by decide) (by decide) ?_
                  rw [show 4 = (0 + x0) by omega]
    · skip
      refine qr_iconst 11 rfl rfl ?_
      refine qr_retI rfl rfl (by decide) (by decide) ?_
      refine ⟨⟨_, rfl⟩, ⟨_, _, _, _, rfl⟩, ?_⟩
      refine qr_start (d := d + 1) qv_e211 (Nat.le_of_ble_eq_true rfl) ?_
      show qr_W (qe L xs vb) (d + 1) qx_e211 _ (0, [(0, .ref 86), (1, .int (qz x0)), (2, .int (qz x1))], [], _, 0, 0)
      refine qr_iload_n 1 rfl rfl rfl ?_
      refine qr_i2l 2 rfl (by omega) rfl ?_
      refine qr_lconst 3 rfl rfl ?_
      refine qy_vl 1 rfl ?_
      refine qr_ldc2 4 6 rfl (by decide) rfl ?_
      refine qy_call 9 rfl rfl rfl ?_
      refine qr_start (d := d + 0) qv_e176 (Nat.le_of_ble_eq_true rfl) ?_
      show qr_W (qe L xs vb) (d + 0) qx_e176 _ (0, [(0, .long (ql x0)), (2, .long (ql 1)), (4, .long (ql 4))], [], _, 0, 0)
      refine qr_lload_n 1 rfl rfl rfl ?_
      refine qr_lload_n 2 rfl rfl rfl ?_
      refine qr_lc_lt 17 6 rfl rfl rfl rfl (by omega) (by decide) (fun h => False.elim (by omega)) (fun h64 => ?_)
      refine qr_lload_n 7 rfl rfl rfl ?_
      refine qr_lload 9 rfl rfl rfl ?_
      refine qr_lc_gt 17 13 rfl rfl rfl rfl (by omega) (by decide) (fun h65 => ?_) (fun h => False.elim (by omega))
      refine qr_iconst 18 rfl rfl ?_
      refine qr_retZ rfl rfl (by omega) (by decide) (by decide) ?_
      show qr_W (qe L xs vb) (d + 1) qx_e211 _ (9, [(0, .ref 86), (1, .int (qz x0)), (2, .int (qz x1))], [.int (qz 0)], _, 0, 0)
      refine qr_if_ne 14 12 rfl rfl rfl (by decide) (fun h => absurd h (by decide)) (fun _ => ?_)
      refine qr_iconst 13 rfl rfl ?_
      refine qr_retI rfl rfl (by decide) (by decide) ?_
      exact rfl

