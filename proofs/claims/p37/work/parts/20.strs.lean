section QS9
variable {X : qm_X} {d : Nat} {x : qs_Ent} {Q : Option Value → qm_W → Prop} {pc : Nat} {ls : qm_L} {st : List Value} {w : qm_W} {c n r1 r2 r3 : Nat} {rv : Value}
theorem qr_retN {v : Int} {ty : FieldType} (hq : qm_fetch x.2.2.2.2.2.2.2 pc = some (pc, .ireturn, 1, r1, r2, r3, rv)) (hty : (qm_M1 x).2.1 = some ty) (hv : narrow ty (.int (qz v)) = .int (qz v)) (hc : c ≤ (qm_M1 x).2.2.2.2.1) (hn : n ≤ (qm_M1 x).2.2.2.2.2) (k : Q (some (.int (qz v))) w) : qr_W X d x Q (pc, ls, [.int (qz v)], w, c, n) := by
  refine qr_ret hq rfl ?_ hc hn k
  simp only [qm_retn, hty]
  exact if_pos ⟨by first | rfl | trivial, hv⟩
theorem qz_nc (y : Int) : narrow .char (.int (qz (qz_i2c y))) = .int (qz (qz_i2c y)) := by
  rw [show qz (qz_i2c y) = ((qz y).toUInt32 % 65536).toInt32 from (qz_of _).symm]
  exact pk_nc _
end QS9

set_option maxHeartbeats 2000000 in
set_option maxRecDepth 20000 in
/-- sp_coder3 -/
theorem sp_coder3 {L : Nat} {xs : Nat → Int} {vb : Bool} {d : Nat} {w : qm_W}  : qm_T (qe L xs vb) (d + 1) 11 [.ref 3] (w) (fun r w' => w' = w ∧ r = some (.int (qz 0))) := by
  refine qr_start (d := d + 0) qv_e11 (Nat.le_of_ble_eq_true rfl) ?_
  show qr_W (qe L xs vb) (d + 0) qx_e11 _ (0, [(0, .ref 3)], [], w, 0, 0)
  refine qr_getst 3 rfl rfl ?_
  refine qr_if_eq (a := 1) 13 6 rfl rfl rfl (by decide) (fun h => absurd h (by decide)) (fun _ => ?_)
  refine qr_aload_n 7 rfl rfl rfl ?_
  refine qr_get 10 rfl rfl rfl (by decide) rfl ?_
  refine qr_goto 14 rfl rfl ?_
  refine qr_retN (v := 0) rfl rfl (by decide +kernel) (Nat.zero_le _) (Nat.zero_le _) ?_
  exact ⟨rfl, rfl⟩

set_option maxHeartbeats 2000000 in
set_option maxRecDepth 20000 in
/-- sp_len3 -/
theorem sp_len3 {L : Nat} {xs : Nat → Int} {vb : Bool} {d : Nat} {w : qm_W}  : qm_T (qe L xs vb) (d + 2) 10 [.ref 3] (w) (fun r w' => w' = w ∧ r = some (.int (qz 4))) := by
  refine qr_start (d := d + 1) qv_e10 (Nat.le_of_ble_eq_true rfl) ?_
  show qr_W (qe L xs vb) (d + 1) qx_e10 _ (0, [(0, .ref 3)], [], w, 0, 0)
  refine qr_aload_n 1 rfl rfl rfl ?_
  refine qr_get 4 rfl rfl rfl (by decide) rfl ?_
  refine qr_alen 5 rfl rfl (Or.inl (by decide)) rfl ?_
  refine qr_aload_n 6 rfl rfl rfl ?_
  refine qr_callN 9 rfl rfl rfl (sp_coder3) ?_
  rintro _ _ ⟨rfl, rfl⟩
  simp only [Option.toList, List.drop, List.cons_append, List.nil_append]
  refine qr_ishr 10 rfl rfl ?_
  rw [show qz_shr ((4 : Nat) : Int) 0 = 4 from by decide +kernel]
  refine qr_retI rfl rfl (Nat.zero_le _) (Nat.zero_le _) ?_
  exact ⟨rfl, rfl⟩

set_option maxHeartbeats 2000000 in
set_option maxRecDepth 20000 in
/-- sp_lat3 -/
theorem sp_lat3 {L : Nat} {xs : Nat → Int} {vb : Bool} {d : Nat} {w : qm_W}  : qm_T (qe L xs vb) (d + 1) 14 [.ref 3] (w) (fun r w' => w' = w ∧ r = some (.int (qz 1))) := by
  refine qr_start (d := d + 0) qv_e14 (Nat.le_of_ble_eq_true rfl) ?_
  show qr_W (qe L xs vb) (d + 0) qx_e14 _ (0, [(0, .ref 3)], [], w, 0, 0)
  refine qr_getst 3 rfl rfl ?_
  refine qr_if_eq (a := 1) 17 6 rfl rfl rfl (by decide) (fun h => absurd h (by decide)) (fun _ => ?_)
  refine qr_aload_n 7 rfl rfl rfl ?_
  refine qr_get 10 rfl rfl rfl (by decide) rfl ?_
  refine qr_if_ne (a := 0) 17 13 rfl rfl rfl (by decide) (fun h => absurd rfl h) (fun _ => ?_)
  refine qr_iconst 14 rfl rfl ?_
  refine qr_goto 18 rfl rfl ?_
  refine qr_retZ (v := 1) rfl rfl (Or.inr rfl) (Nat.zero_le _) (Nat.zero_le _) ?_
  exact ⟨rfl, rfl⟩

set_option maxHeartbeats 2000000 in
set_option maxRecDepth 20000 in
/-- sp_coder4 -/
theorem sp_coder4 {L : Nat} {xs : Nat → Int} {vb : Bool} {d : Nat} {w : qm_W}  : qm_T (qe L xs vb) (d + 1) 11 [.ref 4] (w) (fun r w' => w' = w ∧ r = some (.int (qz 0))) := by
  refine qr_start (d := d + 0) qv_e11 (Nat.le_of_ble_eq_true rfl) ?_
  show qr_W (qe L xs vb) (d + 0) qx_e11 _ (0, [(0, .ref 4)], [], w, 0, 0)
  refine qr_getst 3 rfl rfl ?_
  refine qr_if_eq (a := 1) 13 6 rfl rfl rfl (by decide) (fun h => absurd h (by decide)) (fun _ => ?_)
  refine qr_aload_n 7 rfl rfl rfl ?_
  refine qr_get 10 rfl rfl rfl (by decide) rfl ?_
  refine qr_goto 14 rfl rfl ?_
  refine qr_retN (v := 0) rfl rfl (by decide +kernel) (Nat.zero_le _) (Nat.zero_le _) ?_
  exact ⟨rfl, rfl⟩

set_option maxHeartbeats 2000000 in
set_option maxRecDepth 20000 in
/-- sp_len4 -/
theorem sp_len4 {L : Nat} {xs : Nat → Int} {vb : Bool} {d : Nat} {w : qm_W}  : qm_T (qe L xs vb) (d + 2) 10 [.ref 4] (w) (fun r w' => w' = w ∧ r = some (.int (qz 9))) := by
  refine qr_start (d := d + 1) qv_e10 (Nat.le_of_ble_eq_true rfl) ?_
  show qr_W (qe L xs vb) (d + 1) qx_e10 _ (0, [(0, .ref 4)], [], w, 0, 0)
  refine qr_aload_n 1 rfl rfl rfl ?_
  refine qr_get 4 rfl rfl rfl (by decide) rfl ?_
  refine qr_alen 5 rfl rfl (Or.inl (by decide)) rfl ?_
  refine qr_aload_n 6 rfl rfl rfl ?_
  refine qr_callN 9 rfl rfl rfl (sp_coder4) ?_
  rintro _ _ ⟨rfl, rfl⟩
  simp only [Option.toList, List.drop, List.cons_append, List.nil_append]
  refine qr_ishr 10 rfl rfl ?_
  rw [show qz_shr ((9 : Nat) : Int) 0 = 9 from by decide +kernel]
  refine qr_retI rfl rfl (Nat.zero_le _) (Nat.zero_le _) ?_
  exact ⟨rfl, rfl⟩

set_option maxHeartbeats 2000000 in
set_option maxRecDepth 20000 in
/-- sp_lat4 -/
theorem sp_lat4 {L : Nat} {xs : Nat → Int} {vb : Bool} {d : Nat} {w : qm_W}  : qm_T (qe L xs vb) (d + 1) 14 [.ref 4] (w) (fun r w' => w' = w ∧ r = some (.int (qz 1))) := by
  refine qr_start (d := d + 0) qv_e14 (Nat.le_of_ble_eq_true rfl) ?_
  show qr_W (qe L xs vb) (d + 0) qx_e14 _ (0, [(0, .ref 4)], [], w, 0, 0)
  refine qr_getst 3 rfl rfl ?_
  refine qr_if_eq (a := 1) 17 6 rfl rfl rfl (by decide) (fun h => absurd h (by decide)) (fun _ => ?_)
  refine qr_aload_n 7 rfl rfl rfl ?_
  refine qr_get 10 rfl rfl rfl (by decide) rfl ?_
  refine qr_if_ne (a := 0) 17 13 rfl rfl rfl (by decide) (fun h => absurd rfl h) (fun _ => ?_)
  refine qr_iconst 14 rfl rfl ?_
  refine qr_goto 18 rfl rfl ?_
  refine qr_retZ (v := 1) rfl rfl (Or.inr rfl) (Nat.zero_le _) (Nat.zero_le _) ?_
  exact ⟨rfl, rfl⟩

set_option maxHeartbeats 2000000 in
set_option maxRecDepth 20000 in
/-- sp_coder5 -/
theorem sp_coder5 {L : Nat} {xs : Nat → Int} {vb : Bool} {d : Nat} {w : qm_W}  : qm_T (qe L xs vb) (d + 1) 11 [.ref 5] (w) (fun r w' => w' = w ∧ r = some (.int (qz 0))) := by
  refine qr_start (d := d + 0) qv_e11 (Nat.le_of_ble_eq_true rfl) ?_
  show qr_W (qe L xs vb) (d + 0) qx_e11 _ (0, [(0, .ref 5)], [], w, 0, 0)
  refine qr_getst 3 rfl rfl ?_
  refine qr_if_eq (a := 1) 13 6 rfl rfl rfl (by decide) (fun h => absurd h (by decide)) (fun _ => ?_)
  refine qr_aload_n 7 rfl rfl rfl ?_
  refine qr_get 10 rfl rfl rfl (by decide) rfl ?_
  refine qr_goto 14 rfl rfl ?_
  refine qr_retN (v := 0) rfl rfl (by decide +kernel) (Nat.zero_le _) (Nat.zero_le _) ?_
  exact ⟨rfl, rfl⟩

set_option maxHeartbeats 2000000 in
set_option maxRecDepth 20000 in
/-- sp_len5 -/
theorem sp_len5 {L : Nat} {xs : Nat → Int} {vb : Bool} {d : Nat} {w : qm_W}  : qm_T (qe L xs vb) (d + 2) 10 [.ref 5] (w) (fun r w' => w' = w ∧ r = some (.int (qz 5))) := by
  refine qr_start (d := d + 1) qv_e10 (Nat.le_of_ble_eq_true rfl) ?_
  show qr_W (qe L xs vb) (d + 1) qx_e10 _ (0, [(0, .ref 5)], [], w, 0, 0)
  refine qr_aload_n 1 rfl rfl rfl ?_
  refine qr_get 4 rfl rfl rfl (by decide) rfl ?_
  refine qr_alen 5 rfl rfl (Or.inl (by decide)) rfl ?_
  refine qr_aload_n 6 rfl rfl rfl ?_
  refine qr_callN 9 rfl rfl rfl (sp_coder5) ?_
  rintro _ _ ⟨rfl, rfl⟩
  simp only [Option.toList, List.drop, List.cons_append, List.nil_append]
  refine qr_ishr 10 rfl rfl ?_
  rw [show qz_shr ((5 : Nat) : Int) 0 = 5 from by decide +kernel]
  refine qr_retI rfl rfl (Nat.zero_le _) (Nat.zero_le _) ?_
  exact ⟨rfl, rfl⟩

set_option maxHeartbeats 2000000 in
set_option maxRecDepth 20000 in
/-- sp_lat5 -/
theorem sp_lat5 {L : Nat} {xs : Nat → Int} {vb : Bool} {d : Nat} {w : qm_W}  : qm_T (qe L xs vb) (d + 1) 14 [.ref 5] (w) (fun r w' => w' = w ∧ r = some (.int (qz 1))) := by
  refine qr_start (d := d + 0) qv_e14 (Nat.le_of_ble_eq_true rfl) ?_
  show qr_W (qe L xs vb) (d + 0) qx_e14 _ (0, [(0, .ref 5)], [], w, 0, 0)
  refine qr_getst 3 rfl rfl ?_
  refine qr_if_eq (a := 1) 17 6 rfl rfl rfl (by decide) (fun h => absurd h (by decide)) (fun _ => ?_)
  refine qr_aload_n 7 rfl rfl rfl ?_
  refine qr_get 10 rfl rfl rfl (by decide) rfl ?_
  refine qr_if_ne (a := 0) 17 13 rfl rfl rfl (by decide) (fun h => absurd rfl h) (fun _ => ?_)
  refine qr_iconst 14 rfl rfl ?_
  refine qr_goto 18 rfl rfl ?_
  refine qr_retZ (v := 1) rfl rfl (Or.inr rfl) (Nat.zero_le _) (Nat.zero_le _) ?_
  exact ⟨rfl, rfl⟩

set_option maxHeartbeats 2000000 in
set_option maxRecDepth 20000 in
/-- sp_coder6 -/
theorem sp_coder6 {L : Nat} {xs : Nat → Int} {vb : Bool} {d : Nat} {w : qm_W}  : qm_T (qe L xs vb) (d + 1) 11 [.ref 6] (w) (fun r w' => w' = w ∧ r = some (.int (qz 0))) := by
  refine qr_start (d := d + 0) qv_e11 (Nat.le_of_ble_eq_true rfl) ?_
  show qr_W (qe L xs vb) (d + 0) qx_e11 _ (0, [(0, .ref 6)], [], w, 0, 0)
  refine qr_getst 3 rfl rfl ?_
  refine qr_if_eq (a := 1) 13 6 rfl rfl rfl (by decide) (fun h => absurd h (by decide)) (fun _ => ?_)
  refine qr_aload_n 7 rfl rfl rfl ?_
  refine qr_get 10 rfl rfl rfl (by decide) rfl ?_
  refine qr_goto 14 rfl rfl ?_
  refine qr_retN (v := 0) rfl rfl (by decide +kernel) (Nat.zero_le _) (Nat.zero_le _) ?_
  exact ⟨rfl, rfl⟩

set_option maxHeartbeats 2000000 in
set_option maxRecDepth 20000 in
/-- sp_len6 -/
theorem sp_len6 {L : Nat} {xs : Nat → Int} {vb : Bool} {d : Nat} {w : qm_W}  : qm_T (qe L xs vb) (d + 2) 10 [.ref 6] (w) (fun r w' => w' = w ∧ r = some (.int (qz 1))) := by
  refine qr_start (d := d + 1) qv_e10 (Nat.le_of_ble_eq_true rfl) ?_
  show qr_W (qe L xs vb) (d + 1) qx_e10 _ (0, [(0, .ref 6)], [], w, 0, 0)
  refine qr_aload_n 1 rfl rfl rfl ?_
  refine qr_get 4 rfl rfl rfl (by decide) rfl ?_
  refine qr_alen 5 rfl rfl (Or.inl (by decide)) rfl ?_
  refine qr_aload_n 6 rfl rfl rfl ?_
  refine qr_callN 9 rfl rfl rfl (sp_coder6) ?_
  rintro _ _ ⟨rfl, rfl⟩
  simp only [Option.toList, List.drop, List.cons_append, List.nil_append]
  refine qr_ishr 10 rfl rfl ?_
  rw [show qz_shr ((1 : Nat) : Int) 0 = 1 from by decide +kernel]
  refine qr_retI rfl rfl (Nat.zero_le _) (Nat.zero_le _) ?_
  exact ⟨rfl, rfl⟩

set_option maxHeartbeats 2000000 in
set_option maxRecDepth 20000 in
/-- sp_lat6 -/
theorem sp_lat6 {L : Nat} {xs : Nat → Int} {vb : Bool} {d : Nat} {w : qm_W}  : qm_T (qe L xs vb) (d + 1) 14 [.ref 6] (w) (fun r w' => w' = w ∧ r = some (.int (qz 1))) := by
  refine qr_start (d := d + 0) qv_e14 (Nat.le_of_ble_eq_true rfl) ?_
  show qr_W (qe L xs vb) (d + 0) qx_e14 _ (0, [(0, .ref 6)], [], w, 0, 0)
  refine qr_getst 3 rfl rfl ?_
  refine qr_if_eq (a := 1) 17 6 rfl rfl rfl (by decide) (fun h => absurd h (by decide)) (fun _ => ?_)
  refine qr_aload_n 7 rfl rfl rfl ?_
  refine qr_get 10 rfl rfl rfl (by decide) rfl ?_
  refine qr_if_ne (a := 0) 17 13 rfl rfl rfl (by decide) (fun h => absurd rfl h) (fun _ => ?_)
  refine qr_iconst 14 rfl rfl ?_
  refine qr_goto 18 rfl rfl ?_
  refine qr_retZ (v := 1) rfl rfl (Or.inr rfl) (Nat.zero_le _) (Nat.zero_le _) ?_
  exact ⟨rfl, rfl⟩

set_option maxHeartbeats 2000000 in
set_option maxRecDepth 20000 in
/-- sp_pci -/
theorem sp_pci {L : Nat} {xs : Nat → Int} {vb : Bool} {d : Nat} {w : qm_W} {i n : Int} (h : 0 ≤ i ∧ i < n ∧ n ≤ 2147483647)  : qm_T (qe L xs vb) (d + 1) 17 [.int (qz i), .int (qz n), qe_v vb] (w) (fun r w' => w' = w ∧ r = some (.int (qz i))) := by
  refine qr_start (d := d + 0) qv_e17 (by cases vb <;> exact Nat.le_of_ble_eq_true rfl) ?_
  show qr_W (qe L xs vb) (d + 0) qx_e17 _ (0, [(0, .int (qz i)), (1, .int (qz n)), (2, qe_v vb)], [], w, 0, 0)
  refine qr_iload_n 1 rfl rfl rfl ?_
  refine qr_if_lt 9 4 rfl rfl rfl (by omega) (fun h1 => absurd h1 (by omega)) (fun _ => ?_)
  refine qr_iload_n 5 rfl rfl rfl ?_
  refine qr_iload_n 6 rfl rfl rfl ?_
  refine qr_icmp_lt 16 9 rfl rfl rfl (by omega) (by omega) (fun _ => ?_) (fun h1 => absurd h1 (by omega))
  refine qr_iload_n 17 rfl rfl rfl ?_
  refine qr_retI rfl rfl (Nat.zero_le _) (Nat.zero_le _) ?_
  exact ⟨rfl, rfl⟩

set_option maxHeartbeats 2000000 in
set_option maxRecDepth 20000 in
/-- sp_sci -/
theorem sp_sci {L : Nat} {xs : Nat → Int} {vb : Bool} {d : Nat} {w : qm_W} {i n : Int} (h : 0 ≤ i ∧ i < n ∧ n ≤ 2147483647)  : qm_T (qe L xs vb) (d + 2) 16 [.int (qz i), .int (qz n)] (w) (fun r w' => w' = w ∧ r = none) := by
  refine qr_start (d := d + 1) qv_e16 (Nat.le_of_ble_eq_true rfl) ?_
  show qr_W (qe L xs vb) (d + 1) qx_e16 _ (0, [(0, .int (qz i)), (1, .int (qz n))], [], w, 0, 0)
  refine qr_iload_n 1 rfl rfl rfl ?_
  refine qr_iload_n 2 rfl rfl rfl ?_
  refine qr_getst1 5 rfl rfl ?_
  refine qr_callN (k := 17) (as := [.int (qz i), .int (qz n), qe_v vb]) (rest := []) 8 rfl rfl rfl (sp_pci h) ?_
  rintro _ _ ⟨rfl, rfl⟩
  simp only [Option.toList, List.cons_append, List.nil_append]
  refine qr_pop 9 rfl rfl rfl ?_
  refine qr_retV rfl rfl (Nat.zero_le _) (Nat.zero_le _) ?_
  exact ⟨rfl, rfl⟩

set_option maxHeartbeats 2000000 in
set_option maxRecDepth 20000 in
/-- sp_lca3 -/
theorem sp_lca3 {L : Nat} {xs : Nat → Int} {vb : Bool} {d : Nat} {w : qm_W} {i : Int} (h : 0 ≤ i ∧ i < 4)  : qm_T (qe L xs vb) (d + 3) 15 [.ref 7, .int (qz i)] (w) (fun r w' => w' = w ∧ ∃ y : Int, r = some (.int (qz (qz_i2c y)))) := by
  refine qr_start (d := d + 2) qv_e15 (Nat.le_of_ble_eq_true rfl) ?_
  show qr_W (qe L xs vb) (d + 2) qx_e15 _ (0, [(0, .ref 7), (1, .int (qz i))], [], w, 0, 0)
  refine qr_iload_n 1 rfl rfl rfl ?_
  refine qr_aload_n 2 rfl rfl rfl ?_
  refine qr_alen 3 rfl rfl (Or.inl (by decide)) rfl ?_
  refine qr_callN 6 rfl rfl rfl (sp_sci (n := ((4 : Nat) : Int)) (by omega)) ?_
  rintro _ _ ⟨rfl, rfl⟩
  simp only [Option.toList, List.drop, List.cons_append, List.nil_append]
  refine qr_aload_n 7 rfl rfl rfl ?_
  refine qr_iload_n 8 rfl rfl rfl ?_
  refine qr_bbload 9 rfl (by decide) rfl (by omega) (by decide) rfl ?_
  refine qr_sipush 12 rfl (by decide) rfl ?_
  refine qr_iand 13 rfl rfl ?_
  refine qr_i2c 14 rfl rfl ?_
  refine qr_retN rfl rfl (qz_nc _) (Nat.zero_le _) (Nat.zero_le _) ?_
  exact ⟨rfl, _, rfl⟩

set_option maxHeartbeats 2000000 in
set_option maxRecDepth 20000 in
/-- sp_cha3 -/
theorem sp_cha3 {L : Nat} {xs : Nat → Int} {vb : Bool} {d : Nat} {w : qm_W} {i : Int} (h : 0 ≤ i ∧ i < 4)  : qm_T (qe L xs vb) (d + 4) 13 [.ref 3, .int (qz i)] (w) (fun r w' => w' = w ∧ ∃ y : Int, r = some (.int (qz (qz_i2c y)))) := by
  refine qr_start (d := d + 3) qv_e13 (Nat.le_of_ble_eq_true rfl) ?_
  show qr_W (qe L xs vb) (d + 3) qx_e13 _ (0, [(0, .ref 3), (1, .int (qz i))], [], w, 0, 0)
  refine qr_aload_n 1 rfl rfl rfl ?_
  refine qr_callN 4 rfl rfl rfl (sp_lat3) ?_
  rintro _ _ ⟨rfl, rfl⟩
  simp only [Option.toList, List.drop, List.cons_append, List.nil_append]
  refine qr_if_eq (a := 1) 16 7 rfl rfl rfl (by decide) (fun h => absurd h (by decide)) (fun _ => ?_)
  refine qr_aload_n 8 rfl rfl rfl ?_
  refine qr_get 11 rfl rfl rfl (by decide) rfl ?_
  refine qr_iload_n 12 rfl rfl rfl ?_
  refine qr_callN 15 rfl rfl rfl (sp_lca3 h) ?_
  rintro _ _ ⟨rfl, y, rfl⟩
  simp only [Option.toList, List.drop, List.cons_append, List.nil_append]
  refine qr_retN rfl rfl (qz_nc _) (Nat.zero_le _) (Nat.zero_le _) ?_
  exact ⟨rfl, _, rfl⟩

set_option maxHeartbeats 2000000 in
set_option maxRecDepth 20000 in
/-- sp_lca5 -/
theorem sp_lca5 {L : Nat} {xs : Nat → Int} {vb : Bool} {d : Nat} {w : qm_W} {i : Int} (h : 0 ≤ i ∧ i < 5)  : qm_T (qe L xs vb) (d + 3) 15 [.ref 9, .int (qz i)] (w) (fun r w' => w' = w ∧ ∃ y : Int, r = some (.int (qz (qz_i2c y)))) := by
  refine qr_start (d := d + 2) qv_e15 (Nat.le_of_ble_eq_true rfl) ?_
  show qr_W (qe L xs vb) (d + 2) qx_e15 _ (0, [(0, .ref 9), (1, .int (qz i))], [], w, 0, 0)
  refine qr_iload_n 1 rfl rfl rfl ?_
  refine qr_aload_n 2 rfl rfl rfl ?_
  refine qr_alen 3 rfl rfl (Or.inl (by decide)) rfl ?_
  refine qr_callN 6 rfl rfl rfl (sp_sci (n := ((5 : Nat) : Int)) (by omega)) ?_
  rintro _ _ ⟨rfl, rfl⟩
  simp only [Option.toList, List.drop, List.cons_append, List.nil_append]
  refine qr_aload_n 7 rfl rfl rfl ?_
  refine qr_iload_n 8 rfl rfl rfl ?_
  refine qr_bbload 9 rfl (by decide) rfl (by omega) (by decide) rfl ?_
  refine qr_sipush 12 rfl (by decide) rfl ?_
  refine qr_iand 13 rfl rfl ?_
  refine qr_i2c 14 rfl rfl ?_
  refine qr_retN rfl rfl (qz_nc _) (Nat.zero_le _) (Nat.zero_le _) ?_
  exact ⟨rfl, _, rfl⟩

set_option maxHeartbeats 2000000 in
set_option maxRecDepth 20000 in
/-- sp_cha5 -/
theorem sp_cha5 {L : Nat} {xs : Nat → Int} {vb : Bool} {d : Nat} {w : qm_W} {i : Int} (h : 0 ≤ i ∧ i < 5)  : qm_T (qe L xs vb) (d + 4) 13 [.ref 5, .int (qz i)] (w) (fun r w' => w' = w ∧ ∃ y : Int, r = some (.int (qz (qz_i2c y)))) := by
  refine qr_start (d := d + 3) qv_e13 (Nat.le_of_ble_eq_true rfl) ?_
  show qr_W (qe L xs vb) (d + 3) qx_e13 _ (0, [(0, .ref 5), (1, .int (qz i))], [], w, 0, 0)
  refine qr_aload_n 1 rfl rfl rfl ?_
  refine qr_callN 4 rfl rfl rfl (sp_lat5) ?_
  rintro _ _ ⟨rfl, rfl⟩
  simp only [Option.toList, List.drop, List.cons_append, List.nil_append]
  refine qr_if_eq (a := 1) 16 7 rfl rfl rfl (by decide) (fun h => absurd h (by decide)) (fun _ => ?_)
  refine qr_aload_n 8 rfl rfl rfl ?_
  refine qr_get 11 rfl rfl rfl (by decide) rfl ?_
  refine qr_iload_n 12 rfl rfl rfl ?_
  refine qr_callN 15 rfl rfl rfl (sp_lca5 h) ?_
  rintro _ _ ⟨rfl, y, rfl⟩
  simp only [Option.toList, List.drop, List.cons_append, List.nil_append]
  refine qr_retN rfl rfl (qz_nc _) (Nat.zero_le _) (Nat.zero_le _) ?_
  exact ⟨rfl, _, rfl⟩

set_option maxHeartbeats 2000000 in
set_option maxRecDepth 20000 in
/-- sp_lca6 -/
theorem sp_lca6 {L : Nat} {xs : Nat → Int} {vb : Bool} {d : Nat} {w : qm_W} {i : Int} (h : 0 ≤ i ∧ i < 1)  : qm_T (qe L xs vb) (d + 3) 15 [.ref 10, .int (qz i)] (w) (fun r w' => w' = w ∧ ∃ y : Int, r = some (.int (qz (qz_i2c y)))) := by
  refine qr_start (d := d + 2) qv_e15 (Nat.le_of_ble_eq_true rfl) ?_
  show qr_W (qe L xs vb) (d + 2) qx_e15 _ (0, [(0, .ref 10), (1, .int (qz i))], [], w, 0, 0)
  refine qr_iload_n 1 rfl rfl rfl ?_
  refine qr_aload_n 2 rfl rfl rfl ?_
  refine qr_alen 3 rfl rfl (Or.inl (by decide)) rfl ?_
  refine qr_callN 6 rfl rfl rfl (sp_sci (n := ((1 : Nat) : Int)) (by omega)) ?_
  rintro _ _ ⟨rfl, rfl⟩
  simp only [Option.toList, List.drop, List.cons_append, List.nil_append]
  refine qr_aload_n 7 rfl rfl rfl ?_
  refine qr_iload_n 8 rfl rfl rfl ?_
  refine qr_bbload 9 rfl (by decide) rfl (by omega) (by decide) rfl ?_
  refine qr_sipush 12 rfl (by decide) rfl ?_
  refine qr_iand 13 rfl rfl ?_
  refine qr_i2c 14 rfl rfl ?_
  refine qr_retN rfl rfl (qz_nc _) (Nat.zero_le _) (Nat.zero_le _) ?_
  exact ⟨rfl, _, rfl⟩

set_option maxHeartbeats 2000000 in
set_option maxRecDepth 20000 in
/-- sp_cha6 -/
theorem sp_cha6 {L : Nat} {xs : Nat → Int} {vb : Bool} {d : Nat} {w : qm_W} {i : Int} (h : 0 ≤ i ∧ i < 1)  : qm_T (qe L xs vb) (d + 4) 13 [.ref 6, .int (qz i)] (w) (fun r w' => w' = w ∧ ∃ y : Int, r = some (.int (qz (qz_i2c y)))) := by
  refine qr_start (d := d + 3) qv_e13 (Nat.le_of_ble_eq_true rfl) ?_
  show qr_W (qe L xs vb) (d + 3) qx_e13 _ (0, [(0, .ref 6), (1, .int (qz i))], [], w, 0, 0)
  refine qr_aload_n 1 rfl rfl rfl ?_
  refine qr_callN 4 rfl rfl rfl (sp_lat6) ?_
  rintro _ _ ⟨rfl, rfl⟩
  simp only [Option.toList, List.drop, List.cons_append, List.nil_append]
  refine qr_if_eq (a := 1) 16 7 rfl rfl rfl (by decide) (fun h => absurd h (by decide)) (fun _ => ?_)
  refine qr_aload_n 8 rfl rfl rfl ?_
  refine qr_get 11 rfl rfl rfl (by decide) rfl ?_
  refine qr_iload_n 12 rfl rfl rfl ?_
  refine qr_callN 15 rfl rfl rfl (sp_lca6 h) ?_
  rintro _ _ ⟨rfl, y, rfl⟩
  simp only [Option.toList, List.drop, List.cons_append, List.nil_append]
  refine qr_retN rfl rfl (qz_nc _) (Nat.zero_le _) (Nat.zero_le _) ?_
  exact ⟨rfl, _, rfl⟩

set_option maxHeartbeats 2000000 in
set_option maxRecDepth 20000 in
/-- sp_mmin -/
theorem sp_mmin {X : qm_X} {d : Nat} {w : qm_W} {a b : Int} (ra : -2147483648 ≤ a ∧ a ≤ 2147483647) (rb : -2147483648 ≤ b ∧ b ≤ 2147483647)  : qm_T X (d + 1) 12 [.int (qz a), .int (qz b)] (w) (fun r w' => w' = w ∧ ∃ v : Int, r = some (.int (qz v)) ∧ ((v = a ∧ a ≤ b) ∨ (v = b ∧ b ≤ a))) := by
  refine qr_start (d := d + 0) qv_e12 (Nat.le_of_ble_eq_true rfl) ?_
  show qr_W X (d + 0) qx_e12 _ (0, [(0, .int (qz a)), (1, .int (qz b))], [], w, 0, 0)
  refine qr_iload_n 1 rfl rfl rfl ?_
  refine qr_iload_n 2 rfl rfl rfl ?_
  refine qr_icmp_gt 9 5 rfl rfl rfl (by omega) (by omega) (fun h1 => ?_) (fun h1 => ?_)
  · skip
    refine qr_iload_n 10 rfl rfl rfl ?_
    refine qr_retI rfl rfl (by decide) (by decide) ?_
    exact ⟨rfl, _, rfl, by omega⟩
  · skip
    refine qr_iload_n 6 rfl rfl rfl ?_
    refine qr_goto 10 rfl rfl ?_
    refine qr_retI rfl rfl (by decide) (by decide) ?_
    exact ⟨rfl, _, rfl, by omega⟩

set_option maxHeartbeats 2000000 in
set_option maxRecDepth 20000 in
/-- sp_mmax -/
theorem sp_mmax {X : qm_X} {d : Nat} {w : qm_W} {a b : Int} (ra : -2147483648 ≤ a ∧ a ≤ 2147483647) (rb : -2147483648 ≤ b ∧ b ≤ 2147483647)  : qm_T X (d + 1) 30 [.int (qz a), .int (qz b)] (w) (fun r w' => w' = w ∧ ∃ v : Int, r = some (.int (qz v)) ∧ ((v = a ∧ b ≤ a) ∨ (v = b ∧ a ≤ b))) := by
  refine qr_start (d := d + 0) qv_e30 (Nat.le_of_ble_eq_true rfl) ?_
  show qr_W X (d + 0) qx_e30 _ (0, [(0, .int (qz a)), (1, .int (qz b))], [], w, 0, 0)
  refine qr_iload_n 1 rfl rfl rfl ?_
  refine qr_iload_n 2 rfl rfl rfl ?_
  refine qr_icmp_lt 9 5 rfl rfl rfl (by omega) (by omega) (fun h1 => ?_) (fun h1 => ?_)
  · skip
    refine qr_iload_n 10 rfl rfl rfl ?_
    refine qr_retI rfl rfl (by decide) (by decide) ?_
    exact ⟨rfl, _, rfl, by omega⟩
  · skip
    refine qr_iload_n 6 rfl rfl rfl ?_
    refine qr_goto 10 rfl rfl ?_
    refine qr_retI rfl rfl (by decide) (by decide) ?_
    exact ⟨rfl, _, rfl, by omega⟩

set_option maxHeartbeats 2000000 in
set_option maxRecDepth 20000 in
/-- sp_cen -/
theorem sp_cen {X : qm_X} {d : Nat} {w : qm_W} {a : Int} (ra : -2147483648 ≤ a ∧ a ≤ 2147483647)  : qm_T X (d + 1) 29 [.int (qz a)] (w) (fun r w' => w' = w ∧ ∃ v : Int, r = some (.int (qz v)) ∧ (v = 0 ∨ v = 1)) := by
  refine qr_start (d := d + 0) qv_e29 (Nat.le_of_ble_eq_true rfl) ?_
  show qr_W X (d + 0) qx_e29 _ (0, [(0, .int (qz a))], [], w, 0, 0)
  refine qr_iload_n 1 rfl rfl rfl ?_
  refine qr_if_lt 15 4 rfl rfl rfl (by omega) (fun h1 => ?_) (fun h1 => ?_)
  · skip
    refine qr_iconst 16 rfl rfl ?_
    refine qr_retZ rfl rfl (by omega) (by decide) (by decide) ?_
    exact ⟨rfl, _, rfl, by omega⟩
  · skip
    refine qr_iload_n 5 rfl rfl rfl ?_
    refine qr_sipush 8 rfl (by decide) rfl ?_
    refine qr_icmp_gt 15 11 rfl rfl rfl (by omega) (by omega) (fun h2 => ?_) (fun h2 => ?_)
    · skip
      refine qr_iconst 16 rfl rfl ?_
      refine qr_retZ rfl rfl (by omega) (by decide) (by decide) ?_
      exact ⟨rfl, _, rfl, by omega⟩
    · skip
      refine qr_iconst 12 rfl rfl ?_
      refine qr_goto 16 rfl rfl ?_
      refine qr_retZ rfl rfl (by omega) (by decide) (by decide) ?_
      exact ⟨rfl, _, rfl, by omega⟩

set_option maxHeartbeats 2000000 in
set_option maxRecDepth 20000 in
/-- sp_ixc -/
theorem sp_ixc {L : Nat} {xs : Nat → Int} {vb : Bool} {d : Nat} {w : qm_W} {c i0 : Int} (rc : -2147483648 ≤ c ∧ c ≤ 2147483647) (hi0 : 0 ≤ i0 ∧ i0 ≤ 9)  : qm_T (qe L xs vb) (d + 1) 31 [.ref 8, .int (qz c), .int (qz i0), .int (qz 9)] (w) (fun r w' => w' = w ∧ ∃ v : Int, r = some (.int (qz v)) ∧ -1 ≤ v ∧ v ≤ 8) := by
  refine qr_start (d := d + 0) qv_e31 (Nat.le_of_ble_eq_true rfl) ?_
  show qr_W (qe L xs vb) (d + 0) qx_e31 _ (0, [(0, .ref 8), (1, .int (qz c)), (2, .int (qz i0)), (3, .int (qz 9))], [], w, 0, 0)
  refine qr_iload_n 1 rfl rfl rfl ?_
  refine qr_i2b 2 rfl rfl ?_
  refine qr_topI (fun b hb => ?_)
  have rb : -2147483648 ≤ b ∧ b ≤ 2147483647 := by rw [hb]; exact qz_i2b_r _
  refine qr_istore [(4, .int (qz b)), (0, .ref 8), (1, .int (qz c)), (2, .int (qz i0)), (3, .int (qz 9))] 4 rfl (by decide) rfl rfl ?_
  refine qr_iload_n 5 rfl rfl rfl ?_
  refine qr_istore [(5, .int (qz i0)), (4, .int (qz b)), (0, .ref 8), (1, .int (qz c)), (2, .int (qz i0)), (3, .int (qz 9))] 7 rfl (by decide) rfl rfl ?_
  have loop : ∀ (n : Nat) (i : Int), 0 ≤ i ∧ i ≤ 9 → 9 - i < n → qr_W (qe L xs vb) (d + 0) qx_e31 (fun r w' => w' = w ∧ ∃ v : Int, r = some (.int (qz v)) ∧ -1 ≤ v ∧ v ≤ 8) (7, [(5, .int (qz i)), (4, .int (qz b)), (0, .ref 8), (1, .int (qz c)), (2, .int (qz i0)), (3, .int (qz 9))], [], w, 0, 0) := by
    intro n
    induction n with
    | zero => intro i h1 h2; omega
    | succ n ih =>
      intro i h1 h2
      refine qr_iload 9 rfl rfl rfl ?_
      refine qr_iload_n 10 rfl rfl rfl ?_
      refine qr_icmp_ge 31 13 rfl rfl rfl (by omega) (by omega) (fun h3 => ?_) (fun h3 => ?_)
      · refine qr_iconst 32 rfl rfl ?_
        refine qr_retI rfl rfl (Nat.zero_le _) (Nat.zero_le _) ?_
        exact ⟨rfl, _, rfl, by omega⟩
      · refine qr_aload_n 14 rfl rfl rfl ?_
        refine qr_iload 16 rfl rfl rfl ?_
        refine qr_bbload 17 rfl (by decide) rfl (by omega) (by decide) rfl ?_
        refine qr_topI (fun y hy => ?_)
        have ry : -2147483648 ≤ y ∧ y ≤ 2147483647 := by
          have h5 : ∀ k : Nat, k < 9 → -2147483648 ≤ (qe_bytes 4).getD k 0 ∧ (qe_bytes 4).getD k 0 ≤ 2147483647 := by decide +kernel
          rw [hy]
          exact h5 _ (by omega)
        refine qr_iload 19 rfl rfl rfl ?_
        refine qr_icmp_ne 25 22 rfl rfl rfl (by omega) (by omega) (fun h4 => ?_) (fun h4 => ?_)
        · refine qr_iincG (fun u => [(5, .int (qz u)), (4, .int (qz b)), (0, .ref 8), (1, .int (qz c)), (2, .int (qz i0)), (3, .int (qz 9))]) 28 rfl rfl (by decide) (fun _ => rfl) rfl (fun u hu => ?_)
          refine qr_goto 7 rfl rfl ?_
          exact ih u (by omega) (by omega)
        · refine qr_iload 24 rfl rfl rfl ?_
          refine qr_retI rfl rfl (Nat.zero_le _) (Nat.zero_le _) ?_
          exact ⟨rfl, _, rfl, by omega⟩
  exact loop 10 i0 hi0 (by omega)

set_option maxHeartbeats 2000000 in
set_option maxRecDepth 20000 in
/-- sp_lix -/
theorem sp_lix {L : Nat} {xs : Nat → Int} {vb : Bool} {d : Nat} {w : qm_W} {c : Int} (rc : -2147483648 ≤ c ∧ c ≤ 2147483647)  : qm_T (qe L xs vb) (d + 2) 28 [.ref 8, .int (qz c), .int (qz 0), .int (qz 9)] (w) (fun r w' => w' = w ∧ ∃ v : Int, r = some (.int (qz v)) ∧ -1 ≤ v ∧ v ≤ 8) := by
  refine qr_start (d := d + 1) qv_e28 (Nat.le_of_ble_eq_true rfl) ?_
  show qr_W (qe L xs vb) (d + 1) qx_e28 _ (0, [(0, .ref 8), (1, .int (qz c)), (2, .int (qz 0)), (3, .int (qz 9))], [], w, 0, 0)
  refine qr_iload_n 1 rfl rfl rfl ?_
  refine qr_callN 4 rfl rfl rfl (sp_cen rc) ?_
  rintro _ _ ⟨rfl, b, rfl, hb⟩
  simp only [Option.toList, List.drop, List.cons_append, List.nil_append]
  refine qr_if_ne 9 7 rfl rfl rfl (by omega) (fun h1 => ?_) (fun h1 => ?_)
  · refine qr_iload_n 10 rfl rfl rfl ?_
    refine qr_iconst 11 rfl rfl ?_
    refine qr_callN 14 rfl rfl rfl (sp_mmax (by decide) (by decide)) ?_
    rintro _ _ ⟨rfl, b2, rfl, hb2⟩
    simp only [Option.toList, List.drop, List.cons_append, List.nil_append]
    refine qr_istore_n [(2, .int (qz b2)), (0, .ref 8), (1, .int (qz c)), (3, .int (qz 9))] 15 rfl (by decide) rfl rfl ?_
    refine qr_iload_n 16 rfl rfl rfl ?_
    refine qr_aload_n 17 rfl rfl rfl ?_
    refine qr_alen 18 rfl rfl (Or.inl (by decide)) rfl ?_
    refine qr_callN 21 rfl rfl rfl (sp_mmin (by decide) (by omega)) ?_
    rintro _ _ ⟨rfl, b3, rfl, hb3⟩
    simp only [Option.toList, List.drop, List.cons_append, List.nil_append]
    have e3 : b3 = 9 := by omega
    subst e3
    refine qr_istore_n [(3, .int (qz 9)), (2, .int (qz b2)), (0, .ref 8), (1, .int (qz c))] 22 rfl (by decide) rfl rfl ?_
    refine qr_iload_n 23 rfl rfl rfl ?_
    refine qr_iload_n 24 rfl rfl rfl ?_
    refine qr_icmp_lt 29 27 rfl rfl rfl (by omega) (by omega) (fun h2 => ?_) (fun h2 => ?_)
    · refine qr_aload_n 30 rfl rfl rfl ?_
      refine qr_iload_n 31 rfl rfl rfl ?_
      refine qr_iload_n 32 rfl rfl rfl ?_
      refine qr_iload_n 33 rfl rfl rfl ?_
      refine qr_callN 36 rfl rfl rfl (sp_ixc rc (by omega)) ?_
      rintro _ _ ⟨rfl, v, rfl, hv⟩
      simp only [Option.toList, List.drop, List.cons_append, List.nil_append]
      refine qr_retI rfl rfl (Nat.zero_le _) (Nat.zero_le _) ?_
      exact ⟨rfl, _, rfl, by omega⟩
    · refine qr_iconst 28 rfl rfl ?_
      refine qr_retI rfl rfl (Nat.zero_le _) (Nat.zero_le _) ?_
      exact ⟨rfl, _, rfl, by omega⟩
  · refine qr_iconst 8 rfl rfl ?_
    refine qr_retI rfl rfl (Nat.zero_le _) (Nat.zero_le _) ?_
    exact ⟨rfl, _, rfl, by omega⟩

set_option maxHeartbeats 2000000 in
set_option maxRecDepth 20000 in
/-- sp_six -/
theorem sp_six {L : Nat} {xs : Nat → Int} {vb : Bool} {d : Nat} {w : qm_W} {c : Int} (rc : -2147483648 ≤ c ∧ c ≤ 2147483647)  : qm_T (qe L xs vb) (d + 3) 27 [.ref 4, .int (qz c), .int (qz 0)] (w) (fun r w' => w' = w ∧ ∃ v : Int, r = some (.int (qz v)) ∧ -1 ≤ v ∧ v ≤ 8) := by
  refine qr_start (d := d + 2) qv_e27 (Nat.le_of_ble_eq_true rfl) ?_
  show qr_W (qe L xs vb) (d + 2) qx_e27 _ (0, [(0, .ref 4), (1, .int (qz c)), (2, .int (qz 0))], [], w, 0, 0)
  refine qr_aload_n 1 rfl rfl rfl ?_
  refine qr_callN 4 rfl rfl rfl (sp_lat4) ?_
  rintro _ _ ⟨rfl, rfl⟩
  simp only [Option.toList, List.drop, List.cons_append, List.nil_append]
  refine qr_if_eq (a := 1) 23 7 rfl rfl rfl (by decide) (fun h => absurd h (by decide)) (fun _ => ?_)
  refine qr_aload_n 8 rfl rfl rfl ?_
  refine qr_get 11 rfl rfl rfl (by decide) rfl ?_
  refine qr_iload_n 12 rfl rfl rfl ?_
  refine qr_iload_n 13 rfl rfl rfl ?_
  refine qr_aload_n 14 rfl rfl rfl ?_
  refine qr_callN 17 rfl rfl rfl (sp_len4) ?_
  rintro _ _ ⟨rfl, rfl⟩
  simp only [Option.toList, List.drop, List.cons_append, List.nil_append]
  refine qr_callN 20 rfl rfl rfl (sp_lix rc) ?_
  rintro _ _ ⟨rfl, v, rfl, hv⟩
  simp only [Option.toList, List.drop, List.cons_append, List.nil_append]
  refine qr_goto 36 rfl rfl ?_
  refine qr_retI rfl rfl (Nat.zero_le _) (Nat.zero_le _) ?_
  exact ⟨rfl, _, rfl, by omega⟩

set_option maxHeartbeats 2000000 in
set_option maxRecDepth 20000 in
/-- sp_ix -/
theorem sp_ix {L : Nat} {xs : Nat → Int} {vb : Bool} {d : Nat} {w : qm_W} {c : Int} (rc : -2147483648 ≤ c ∧ c ≤ 2147483647)  : qm_T (qe L xs vb) (d + 4) 26 [.ref 4, .int (qz c)] (w) (fun r w' => w' = w ∧ ∃ v : Int, r = some (.int (qz v)) ∧ -1 ≤ v ∧ v ≤ 8) := by
  refine qr_start (d := d + 3) qv_e26 (Nat.le_of_ble_eq_true rfl) ?_
  show qr_W (qe L xs vb) (d + 3) qx_e26 _ (0, [(0, .ref 4), (1, .int (qz c))], [], w, 0, 0)
  refine qr_aload_n 1 rfl rfl rfl ?_
  refine qr_iload_n 2 rfl rfl rfl ?_
  refine qr_iconst 3 rfl rfl ?_
  refine qr_callN 6 rfl rfl rfl (sp_six rc) ?_
  rintro _ _ ⟨rfl, v, rfl, hv⟩
  simp only [Option.toList, List.drop, List.cons_append, List.nil_append]
  refine qr_retI rfl rfl (Nat.zero_le _) (Nat.zero_le _) ?_
  exact ⟨rfl, _, rfl, by omega⟩
