def qT3 : Nat → Int := fun j => if j < 4 then qz_i2c (qz_and ((qe_bytes 3).getD j 0) 255) else 0
theorem qT3_o (j : Nat) (h : 4 ≤ j) : qT3 j = 0 := if_neg (by omega)
theorem qT3_i (j : Nat) (h : j < 4) : qT3 j = qz_i2c (qz_and ((qe_bytes 3).getD j 0) 255) := if_pos h
theorem qT3_v : qT3 0 = 102 ∧ qT3 1 = 38 ∧ qT3 2 = 33 ∧ qT3 3 = 99 := by decide +kernel
theorem qT3_b (j : Nat) (h : (j : Int) < 4) : 0 ≤ qT3 j ∧ qT3 j ≤ 255 := by
  obtain ⟨h0, h1, h2, h3⟩ := qT3_v
  have hj : j = 0 ∨ j = 1 ∨ j = 2 ∨ j = 3 := by omega
  rcases hj with rfl | rfl | rfl | rfl
  · omega
  · omega
  · omega
  · omega
theorem qT3_r (j : Nat) : -2147483648 ≤ qT3 j ∧ qT3 j ≤ 2147483647 := by
  by_cases h : j < 4
  · have := qT3_b j (by omega)
    omega
  · have := qT3_o j (by omega)
    omega

def qT5 : Nat → Int := fun j => if j < 5 then qz_i2c (qz_and ((qe_bytes 5).getD j 0) 255) else 0
theorem qT5_o (j : Nat) (h : 5 ≤ j) : qT5 j = 0 := if_neg (by omega)
theorem qT5_i (j : Nat) (h : j < 5) : qT5 j = qz_i2c (qz_and ((qe_bytes 5).getD j 0) 255) := if_pos h
theorem qT5_v : qT5 0 = 100 ∧ qT5 1 = 60 ∧ qT5 2 = 50 ∧ qT5 3 = 38 ∧ qT5 4 = 119 := by decide +kernel
theorem qT5_b (j : Nat) (h : (j : Int) < 5) : 0 ≤ qT5 j ∧ qT5 j ≤ 255 := by
  obtain ⟨h0, h1, h2, h3, h4⟩ := qT5_v
  have hj : j = 0 ∨ j = 1 ∨ j = 2 ∨ j = 3 ∨ j = 4 := by omega
  rcases hj with rfl | rfl | rfl | rfl | rfl
  · omega
  · omega
  · omega
  · omega
  · omega
theorem qT5_r (j : Nat) : -2147483648 ≤ qT5 j ∧ qT5 j ≤ 2147483647 := by
  by_cases h : j < 5
  · have := qT5_b j (by omega)
    omega
  · have := qT5_o j (by omega)
    omega

set_option maxHeartbeats 2000000 in
set_option maxRecDepth 20000 in
/-- sp_lca3 -/
theorem spx_lca3 {L : Nat} {xs : Nat → Int} {vb : Bool} {d : Nat} {w : qm_W} {i : Int} (h : 0 ≤ i ∧ i < 4)  : qm_T (qe L xs vb) (d + 3) 15 [.ref 7, .int (qz i)] (w) (fun r w' => w' = w ∧ r = some (.int (qz (qz_i2c (qz_and ((qe_bytes 3).getD i.toNat 0) 255))))) := by
  refine qr_start (d := d + 2) qv_e15 (Nat.le_of_ble_eq_true rfl) ?_
  show qr_W (qe L xs vb) (d + 2) qx_e15 _ (0, [(0, .ref 7), (1, .int (qz i))], [], w, 0, 0)
  refine qr_iload_n 1 rfl rfl rfl ?_
  refine qr_aload_n 2 rfl rfl rfl ?_
  refine qr_alen 3 rfl rfl (Or.inl (by decide)) rfl ?_
  refine qr_callN 6 rfl rfl rfl (sp_sci (n := ((4 : Nat) : Int)) (by omega)) ?_
  rintro _ _ ⟨rfl, rfl⟩
  simp only [Option.toList, List.drop, List.cons_append, List.nil_append]
  refine qr_aload_n 7 rfl rfl rfl ?_
  refine qr_iload_n 8 rfl rfl rfl ?_
  refine qr_bbload 9 rfl (by decide) rfl (by omega) (by decide) rfl ?_
  refine qr_sipush 12 rfl (by decide) rfl ?_
  refine qr_iand 13 rfl rfl ?_
  refine qr_i2c 14 rfl rfl ?_
  refine qr_retN rfl rfl (qz_nc _) (Nat.zero_le _) (Nat.zero_le _) ?_
  exact ⟨rfl, rfl⟩

set_option maxHeartbeats 2000000 in
set_option maxRecDepth 20000 in
/-- sp_cha3 -/
theorem spx_cha3 {L : Nat} {xs : Nat → Int} {vb : Bool} {d : Nat} {w : qm_W} {i : Int} (h : 0 ≤ i ∧ i < 4)  : qm_T (qe L xs vb) (d + 4) 13 [.ref 3, .int (qz i)] (w) (fun r w' => w' = w ∧ r = some (.int (qz (qz_i2c (qz_and ((qe_bytes 3).getD i.toNat 0) 255))))) := by
  refine qr_start (d := d + 3) qv_e13 (Nat.le_of_ble_eq_true rfl) ?_
  show qr_W (qe L xs vb) (d + 3) qx_e13 _ (0, [(0, .ref 3), (1, .int (qz i))], [], w, 0, 0)
  refine qr_aload_n 1 rfl rfl rfl ?_
  refine qr_callN 4 rfl rfl rfl (sp_lat3) ?_
  rintro _ _ ⟨rfl, rfl⟩
  simp only [Option.toList, List.drop, List.cons_append, List.nil_append]
  refine qr_if_eq (a := 1) 16 7 rfl rfl rfl (by decide) (fun h => absurd h (by decide)) (fun _ => ?_)
  refine qr_aload_n 8 rfl rfl rfl ?_
  refine qr_get 11 rfl rfl rfl (by decide) rfl ?_
  refine qr_iload_n 12 rfl rfl rfl ?_
  refine qr_callN 15 rfl rfl rfl (spx_lca3 h) ?_
  rintro _ _ ⟨rfl, rfl⟩
  simp only [Option.toList, List.drop, List.cons_append, List.nil_append]
  refine qr_retN rfl rfl (qz_nc _) (Nat.zero_le _) (Nat.zero_le _) ?_
  exact ⟨rfl, rfl⟩

set_option maxHeartbeats 2000000 in
set_option maxRecDepth 20000 in
/-- sp_lca5 -/
theorem spx_lca5 {L : Nat} {xs : Nat → Int} {vb : Bool} {d : Nat} {w : qm_W} {i : Int} (h : 0 ≤ i ∧ i < 5)  : qm_T (qe L xs vb) (d + 3) 15 [.ref 9, .int (qz i)] (w) (fun r w' => w' = w ∧ r = some (.int (qz (qz_i2c (qz_and ((qe_bytes 5).getD i.toNat 0) 255))))) := by
  refine qr_start (d := d + 2) qv_e15 (Nat.le_of_ble_eq_true rfl) ?_
  show qr_W (qe L xs vb) (d + 2) qx_e15 _ (0, [(0, .ref 9), (1, .int (qz i))], [], w, 0, 0)
  refine qr_iload_n 1 rfl rfl rfl ?_
  refine qr_aload_n 2 rfl rfl rfl ?_
  refine qr_alen 3 rfl rfl (Or.inl (by decide)) rfl ?_
  refine qr_callN 6 rfl rfl rfl (sp_sci (n := ((5 : Nat) : Int)) (by omega)) ?_
  rintro _ _ ⟨rfl, rfl⟩
  simp only [Option.toList, List.drop, List.cons_append, List.nil_append]
  refine qr_aload_n 7 rfl rfl rfl ?_
  refine qr_iload_n 8 rfl rfl rfl ?_
  refine qr_bbload 9 rfl (by decide) rfl (by omega) (by decide) rfl ?_
  refine qr_sipush 12 rfl (by decide) rfl ?_
  refine qr_iand 13 rfl rfl ?_
  refine qr_i2c 14 rfl rfl ?_
  refine qr_retN rfl rfl (qz_nc _) (Nat.zero_le _) (Nat.zero_le _) ?_
  exact ⟨rfl, rfl⟩

set_option maxHeartbeats 2000000 in
set_option maxRecDepth 20000 in
/-- sp_cha5 -/
theorem spx_cha5 {L : Nat} {xs : Nat → Int} {vb : Bool} {d : Nat} {w : qm_W} {i : Int} (h : 0 ≤ i ∧ i < 5)  : qm_T (qe L xs vb) (d + 4) 13 [.ref 5, .int (qz i)] (w) (fun r w' => w' = w ∧ r = some (.int (qz (qz_i2c (qz_and ((qe_bytes 5).getD i.toNat 0) 255))))) := by
  refine qr_start (d := d + 3) qv_e13 (Nat.le_of_ble_eq_true rfl) ?_
  show qr_W (qe L xs vb) (d + 3) qx_e13 _ (0, [(0, .ref 5), (1, .int (qz i))], [], w, 0, 0)
  refine qr_aload_n 1 rfl rfl rfl ?_
  refine qr_callN 4 rfl rfl rfl (sp_lat5) ?_
  rintro _ _ ⟨rfl, rfl⟩
  simp only [Option.toList, List.drop, List.cons_append, List.nil_append]
  refine qr_if_eq (a := 1) 16 7 rfl rfl rfl (by decide) (fun h => absurd h (by decide)) (fun _ => ?_)
  refine qr_aload_n 8 rfl rfl rfl ?_
  refine qr_get 11 rfl rfl rfl (by decide) rfl ?_
  refine qr_iload_n 12 rfl rfl rfl ?_
  refine qr_callN 15 rfl rfl rfl (spx_lca5 h) ?_
  rintro _ _ ⟨rfl, rfl⟩
  simp only [Option.toList, List.drop, List.cons_append, List.nil_append]
  refine qr_retN rfl rfl (qz_nc _) (Nat.zero_le _) (Nat.zero_le _) ?_
  exact ⟨rfl, rfl⟩

set_option maxHeartbeats 2000000 in
set_option maxRecDepth 20000 in
/-- Custom.<init> -/
theorem spx_cinit3 {L : Nat} {xs : Nat → Int} {vb : Bool} {d : Nat} {u : qm_W} {a : Nat} (ha : a = 16 + u.length)  : qm_T (qe L xs vb) (d + 57) 9 [.ref a, .ref 3] (u ++ [.inr (7, [.null, .null, .null, .int (qz 0), .int (qz 0), .int (qz 0), .int (qz 0), .int (qz 0)])]) (fun r w' => r = none ∧ ∃ (at2 sz2 nm2 sk2 : Int) (cd : Nat → Int) (v : Int), w' = u ++ [qc_o a 4 at2 sz2 nm2 sk2, .inl (.int, 120, .inl (qzf qT3)), .inl (.int, 122, .inl (qzf cd)), .inl (.int, 120, .inl (qzf (fun _ => 0)))] ∧ (0 ≤ at2 ∧ at2 ≤ 4 ∧ 0 ≤ sz2 ∧ sz2 ≤ 122 ∧ -2147483648 ≤ nm2 ∧ nm2 ≤ 2147483647 ∧ (sk2 = 0 ∨ sk2 = 1)) ∧ qRt 4 qT3 v sz2 nm2 cd) := by
  refine qr_start (d := d + 56) qv_e9 (Nat.le_of_ble_eq_true rfl) ?_
  show qr_W (qe L xs vb) (d + 56) qx_e9 _ (0, [(0, .ref a), (1, .ref 3)], [], u ++ [.inr (7, [.null, .null, .null, .int (qz 0), .int (qz 0), .int (qz 0), .int (qz 0), .int (qz 0)])], 0, 0)
  have loop : ∀ (n : Nat) (i : Int) (t : Nat → Int), (0 ≤ i ∧ i ≤ 4 ∧ 4 - i < n) → t = (fun j : Nat => if (j : Int) < i then qT3 j else 0) → qr_W (qe L xs vb) (d + 56) qx_e9 (fun r w' => r = none ∧ ∃ (at2 sz2 nm2 sk2 : Int) (cd : Nat → Int) (v : Int), w' = u ++ [qc_o a 4 at2 sz2 nm2 sk2, .inl (.int, 120, .inl (qzf qT3)), .inl (.int, 122, .inl (qzf cd)), .inl (.int, 120, .inl (qzf (fun _ => 0)))] ∧ (0 ≤ at2 ∧ at2 ≤ 4 ∧ 0 ≤ sz2 ∧ sz2 ≤ 122 ∧ -2147483648 ≤ nm2 ∧ nm2 ≤ 2147483647 ∧ (sk2 = 0 ∨ sk2 = 1)) ∧ qRt 4 qT3 v sz2 nm2 cd) (71, [(2, .int (qz i)), (0, .ref a), (1, .ref 3)], [], qc (u ++ [(qc_o a 0 0 0 0 0), (.inl (.int, 120, .inl (qzf (fun _ => 0)))), (.inl (.int, 122, .inl (qzf (fun _ => 0)))), (.inl (.int, 120, .inl (qzf (fun _ => 0))))]) a 4 0 0 0 0 t (fun _ => 0), 3, 362) := by
    intro n
    induction n with
    | zero => intro i t h1 h2; exact absurd h1 (by omega)
    | succ n ih =>
      intro i t h1 ht
      have hi := qi_in u ha (qc_o a 0 0 0 0 0) (.inl (.int, 120, .inl (qzf (fun _ => 0)))) (.inl (.int, 122, .inl (qzf (fun _ => 0)))) (.inl (.int, 120, .inl (qzf (fun _ => 0))))
      refine qr_iload_n 72 rfl rfl rfl ?_
      refine qr_aload_n 73 rfl rfl rfl ?_
      refine qr_cget3 hi 76 rfl rfl ?_
      refine qr_icmp_ge 96 79 rfl rfl rfl (by omega) (by omega) (fun h => ?_) (fun h => ?_)
      · have et : t = qT3 := by
          rw [ht]
          funext j
          by_cases c : (j : Int) < i
          · exact if_pos c
          · exact (if_neg c).trans (qT3_o j (by omega)).symm
        subst et
        refine qr_aload_n 97 rfl rfl rfl ?_
        refine qr_ccallC (as := []) (rest := []) hi 100 rfl rfl (Nat.le_of_ble_eq_true rfl) (Nat.le_of_ble_eq_true rfl) (Nat.le_of_ble_eq_true rfl) rfl rfl (spx_lines hi qT3_r qT3_b (by omega)) ?_
        rintro _ _ ⟨v, at2, sz2, nm2, sk2, cd2, rfl, rfl, hb, hq⟩
        simp only [Option.toList, List.cons_append, List.nil_append]
        refine qr_pop 101 rfl rfl rfl ?_
        refine qr_retV rfl rfl (Nat.le_of_ble_eq_true rfl) (Nat.le_of_ble_eq_true rfl) ?_
        exact ⟨rfl, at2, sz2, nm2, sk2, cd2, v, qi_qc u ha _ _ _ _ _ _ _ _ _ _ _, by omega, hq⟩
      · refine qr_aload_n 80 rfl rfl rfl ?_
        refine qr_cget0 hi 83 rfl rfl ?_
        refine qr_iload_n 84 rfl rfl rfl ?_
        refine qr_aload_n 85 rfl rfl rfl ?_
        refine qr_iload_n 86 rfl rfl rfl ?_
        refine qr_callC 89 rfl rfl rfl (Nat.le_of_ble_eq_true rfl) (Nat.le_of_ble_eq_true rfl) (spx_cha3 ⟨by omega, by omega⟩) ?_
        rintro _ _ ⟨rfl, rfl⟩
        simp only [Option.toList, List.drop, List.cons_append, List.nil_append]
        refine qr_ctstore hi 90 rfl (by omega) rfl ?_
        refine qr_iincG (fun v => [(2, .int (qz v)), (0, .ref a), (1, .ref 3)]) 93 rfl rfl (by decide) (fun _ => rfl) rfl (fun v hv => ?_)
        refine qr_goto 71 rfl rfl ?_
        refine ih v _ (by omega) ?_
        funext j
        unfold qzu
        by_cases c : j = i.toNat
        · rw [if_pos c, if_pos (show (j : Int) < v by omega), qT3_i j (by omega), c]
        · have e : t j = if (j : Int) < i then qT3 j else 0 := congrFun ht j
          rw [if_neg c, e]
          by_cases d : (j : Int) < i
          · rw [if_pos d, if_pos (show (j : Int) < v by omega)]
          · rw [if_neg d, if_neg (show ¬ (j : Int) < v by omega)]
  refine qr_aload_n 1 rfl rfl rfl ?_
  refine qr_objinit 4 rfl (by decide) rfl ?_
  refine qr_aload_n 5 rfl rfl rfl ?_
  refine qr_bipush 7 rfl (by decide) rfl ?_
  refine qr_inewI ha [.inr (7, [.null, .null, .null, .int (qz 0), .int (qz 0), .int (qz 0), .int (qz 0), .int (qz 0)]), .inl (.int, 120, .inl (qzf (fun _ => 0)))] 9 1 120 1 rfl (by decide) (Nat.le_of_ble_eq_true rfl) (Nat.le_of_ble_eq_true rfl) rfl rfl rfl rfl rfl ?_
  refine qr_iput ha [.ref (a + 1), .null, .null, .int (qz 0), .int (qz 0), .int (qz 0), .int (qz 0), .int (qz 0)] 12 rfl (Nat.le_of_ble_eq_true rfl) (Nat.le_of_ble_eq_true rfl) (Or.inr ⟨by decide, rfl⟩) (qr_fitR (Or.inr ⟨_, rfl⟩) _) rfl rfl ?_
  refine qr_aload_n 13 rfl rfl rfl ?_
  refine qr_bipush 15 rfl (by decide) rfl ?_
  refine qr_inewI ha [.inr (7, [.ref (a + 1), .null, .null, .int (qz 0), .int (qz 0), .int (qz 0), .int (qz 0), .int (qz 0)]), .inl (.int, 120, .inl (qzf (fun _ => 0))), .inl (.int, 122, .inl (qzf (fun _ => 0)))] 17 2 242 2 rfl (by decide) (Nat.le_of_ble_eq_true rfl) (Nat.le_of_ble_eq_true rfl) rfl rfl rfl rfl rfl ?_
  refine qr_iput ha [.ref (a + 1), .ref (a + 2), .null, .int (qz 0), .int (qz 0), .int (qz 0), .int (qz 0), .int (qz 0)] 20 rfl (Nat.le_of_ble_eq_true rfl) (Nat.le_of_ble_eq_true rfl) (Or.inr ⟨by decide, rfl⟩) (qr_fitR (Or.inr ⟨_, rfl⟩) _) rfl rfl ?_
  refine qr_aload_n 21 rfl rfl rfl ?_
  refine qr_bipush 23 rfl (by decide) rfl ?_
  refine qr_inewI ha [.inr (7, [.ref (a + 1), .ref (a + 2), .null, .int (qz 0), .int (qz 0), .int (qz 0), .int (qz 0), .int (qz 0)]), .inl (.int, 120, .inl (qzf (fun _ => 0))), .inl (.int, 122, .inl (qzf (fun _ => 0))), .inl (.int, 120, .inl (qzf (fun _ => 0)))] 25 3 362 3 rfl (by decide) (Nat.le_of_ble_eq_true rfl) (Nat.le_of_ble_eq_true rfl) rfl rfl rfl rfl rfl ?_
  refine qr_iput ha [.ref (a + 1), .ref (a + 2), .ref (a + 3), .int (qz 0), .int (qz 0), .int (qz 0), .int (qz 0), .int (qz 0)] 28 rfl (Nat.le_of_ble_eq_true rfl) (Nat.le_of_ble_eq_true rfl) (Or.inr ⟨by decide, rfl⟩) (qr_fitR (Or.inr ⟨_, rfl⟩) _) rfl rfl ?_
  refine qr_aload_n 29 rfl rfl rfl ?_
  refine qr_iconst 30 rfl rfl ?_
  refine qr_iput ha [.ref (a + 1), .ref (a + 2), .ref (a + 3), .int (qz 0), .int (qz 0), .int (qz 0), .int (qz 0), .int (qz 0)] 33 rfl (Nat.le_of_ble_eq_true rfl) (Nat.le_of_ble_eq_true rfl) (Or.inl rfl) (qr_fitI rfl _) rfl rfl ?_
  refine qr_aload_n 34 rfl rfl rfl ?_
  refine qr_iconst 35 rfl rfl ?_
  refine qr_iput ha [.ref (a + 1), .ref (a + 2), .ref (a + 3), .int (qz 0), .int (qz 0), .int (qz 0), .int (qz 0), .int (qz 0)] 38 rfl (Nat.le_of_ble_eq_true rfl) (Nat.le_of_ble_eq_true rfl) (Or.inl rfl) (qr_fitI rfl _) rfl rfl ?_
  refine qr_aload_n 39 rfl rfl rfl ?_
  refine qr_iconst 40 rfl rfl ?_
  refine qr_iput ha [.ref (a + 1), .ref (a + 2), .ref (a + 3), .int (qz 0), .int (qz 0), .int (qz 0), .int (qz 0), .int (qz 0)] 43 rfl (Nat.le_of_ble_eq_true rfl) (Nat.le_of_ble_eq_true rfl) (Or.inl rfl) (qr_fitI rfl _) rfl rfl ?_
  refine qr_aload_n 44 rfl rfl rfl ?_
  refine qr_iconst 45 rfl rfl ?_
  refine qr_iput ha [.ref (a + 1), .ref (a + 2), .ref (a + 3), .int (qz 0), .int (qz 0), .int (qz 0), .int (qz 0), .int (qz 0)] 48 rfl (Nat.le_of_ble_eq_true rfl) (Nat.le_of_ble_eq_true rfl) (Or.inl rfl) (qr_fitI rfl _) rfl rfl ?_
  refine qr_aload_n 49 rfl rfl rfl ?_
  refine qr_iconst 50 rfl rfl ?_
  refine qr_iput ha [.ref (a + 1), .ref (a + 2), .ref (a + 3), .int (qz 0), .int (qz 0), .int (qz 0), .int (qz 0), .int (qz 0)] 53 rfl (Nat.le_of_ble_eq_true rfl) (Nat.le_of_ble_eq_true rfl) (Or.inl rfl) (qr_fitZ rfl (by omega)) rfl rfl ?_
  have hi := qi_in u ha (qc_o a 0 0 0 0 0) (.inl (.int, 120, .inl (qzf (fun _ => 0)))) (.inl (.int, 122, .inl (qzf (fun _ => 0)))) (.inl (.int, 120, .inl (qzf (fun _ => 0))))
  refine qi_go (ln := 0) (at_ := 0) (sz := 0) (nm := 0) (sk := 0) (t := fun _ => 0) (cd := fun _ => 0) ha (qc_o a 0 0 0 0 0) (.inl (.int, 120, .inl (qzf (fun _ => 0)))) (.inl (.int, 122, .inl (qzf (fun _ => 0)))) (.inl (.int, 120, .inl (qzf (fun _ => 0)))) ?_
  refine qr_aload_n 54 rfl rfl rfl ?_
  refine qr_aload_n 55 rfl rfl rfl ?_
  refine qr_callC 58 rfl rfl rfl (Nat.le_of_ble_eq_true rfl) (Nat.le_of_ble_eq_true rfl) sp_len3 ?_
  rintro _ _ ⟨rfl, rfl⟩
  simp only [Option.toList, List.drop, List.cons_append, List.nil_append]
  refine qr_aload_n 59 rfl rfl rfl ?_
  refine qr_cget0 hi 62 rfl rfl ?_
  refine qr_ctlen hi 63 rfl rfl ?_
  refine qr_callC 66 rfl rfl rfl (Nat.le_of_ble_eq_true rfl) (Nat.le_of_ble_eq_true rfl) (sp_mmin (by omega) (by omega)) ?_
  rintro _ _ ⟨rfl, b, rfl, hb⟩
  simp only [Option.toList, List.drop, List.cons_append, List.nil_append]
  have eb : b = 4 := by omega
  subst eb
  refine qr_cput3 hi 69 rfl rfl ?_
  refine qr_iconst 70 rfl rfl ?_
  refine qr_istore_n [(2, .int (qz 0)), (0, .ref a), (1, .ref 3)] 71 rfl (by decide) rfl rfl ?_
  exact loop 5 0 (fun _ => 0) (by omega) (funext fun j => (if_neg (show ¬ (j : Int) < 0 by omega)).symm)

set_option maxHeartbeats 2000000 in
set_option maxRecDepth 20000 in
/-- Custom.<init> -/
theorem spx_cinit5 {L : Nat} {xs : Nat → Int} {vb : Bool} {d : Nat} {u : qm_W} {a : Nat} (ha : a = 16 + u.length)  : qm_T (qe L xs vb) (d + 57) 9 [.ref a, .ref 5] (u ++ [.inr (7, [.null, .null, .null, .int (qz 0), .int (qz 0), .int (qz 0), .int (qz 0), .int (qz 0)])]) (fun r w' => r = none ∧ ∃ (at2 sz2 nm2 sk2 : Int) (cd : Nat → Int) (v : Int), w' = u ++ [qc_o a 5 at2 sz2 nm2 sk2, .inl (.int, 120, .inl (qzf qT5)), .inl (.int, 122, .inl (qzf cd)), .inl (.int, 120, .inl (qzf (fun _ => 0)))] ∧ (0 ≤ at2 ∧ at2 ≤ 5 ∧ 0 ≤ sz2 ∧ sz2 ≤ 122 ∧ -2147483648 ≤ nm2 ∧ nm2 ≤ 2147483647 ∧ (sk2 = 0 ∨ sk2 = 1)) ∧ qRt 5 qT5 v sz2 nm2 cd) := by
  refine qr_start (d := d + 56) qv_e9 (Nat.le_of_ble_eq_true rfl) ?_
  show qr_W (qe L xs vb) (d + 56) qx_e9 _ (0, [(0, .ref a), (1, .ref 5)], [], u ++ [.inr (7, [.null, .null, .null, .int (qz 0), .int (qz 0), .int (qz 0), .int (qz 0), .int (qz 0)])], 0, 0)
  have loop : ∀ (n : Nat) (i : Int) (t : Nat → Int), (0 ≤ i ∧ i ≤ 5 ∧ 5 - i < n) → t = (fun j : Nat => if (j : Int) < i then qT5 j else 0) → qr_W (qe L xs vb) (d + 56) qx_e9 (fun r w' => r = none ∧ ∃ (at2 sz2 nm2 sk2 : Int) (cd : Nat → Int) (v : Int), w' = u ++ [qc_o a 5 at2 sz2 nm2 sk2, .inl (.int, 120, .inl (qzf qT5)), .inl (.int, 122, .inl (qzf cd)), .inl (.int, 120, .inl (qzf (fun _ => 0)))] ∧ (0 ≤ at2 ∧ at2 ≤ 5 ∧ 0 ≤ sz2 ∧ sz2 ≤ 122 ∧ -2147483648 ≤ nm2 ∧ nm2 ≤ 2147483647 ∧ (sk2 = 0 ∨ sk2 = 1)) ∧ qRt 5 qT5 v sz2 nm2 cd) (71, [(2, .int (qz i)), (0, .ref a), (1, .ref 5)], [], qc (u ++ [(qc_o a 0 0 0 0 0), (.inl (.int, 120, .inl (qzf (fun _ => 0)))), (.inl (.int, 122, .inl (qzf (fun _ => 0)))), (.inl (.int, 120, .inl (qzf (fun _ => 0))))]) a 5 0 0 0 0 t (fun _ => 0), 3, 362) := by
    intro n
    induction n with
    | zero => intro i t h1 h2; exact absurd h1 (by omega)
    | succ n ih =>
      intro i t h1 ht
      have hi := qi_in u ha (qc_o a 0 0 0 0 0) (.inl (.int, 120, .inl (qzf (fun _ => 0)))) (.inl (.int, 122, .inl (qzf (fun _ => 0)))) (.inl (.int, 120, .inl (qzf (fun _ => 0))))
      refine qr_iload_n 72 rfl rfl rfl ?_
      refine qr_aload_n 73 rfl rfl rfl ?_
      refine qr_cget3 hi 76 rfl rfl ?_
      refine qr_icmp_ge 96 79 rfl rfl rfl (by omega) (by omega) (fun h => ?_) (fun h => ?_)
      · have et : t = qT5 := by
          rw [ht]
          funext j
          by_cases c : (j : Int) < i
          · exact if_pos c
          · exact (if_neg c).trans (qT5_o j (by omega)).symm
        subst et
        refine qr_aload_n 97 rfl rfl rfl ?_
        refine qr_ccallC (as := []) (rest := []) hi 100 rfl rfl (Nat.le_of_ble_eq_true rfl) (Nat.le_of_ble_eq_true rfl) (Nat.le_of_ble_eq_true rfl) rfl rfl (spx_lines hi qT5_r qT5_b (by omega)) ?_
        rintro _ _ ⟨v, at2, sz2, nm2, sk2, cd2, rfl, rfl, hb, hq⟩
        simp only [Option.toList, List.cons_append, List.nil_append]
        refine qr_pop 101 rfl rfl rfl ?_
        refine qr_retV rfl rfl (Nat.le_of_ble_eq_true rfl) (Nat.le_of_ble_eq_true rfl) ?_
        exact ⟨rfl, at2, sz2, nm2, sk2, cd2, v, qi_qc u ha _ _ _ _ _ _ _ _ _ _ _, by omega, hq⟩
      · refine qr_aload_n 80 rfl rfl rfl ?_
        refine qr_cget0 hi 83 rfl rfl ?_
        refine qr_iload_n 84 rfl rfl rfl ?_
        refine qr_aload_n 85 rfl rfl rfl ?_
        refine qr_iload_n 86 rfl rfl rfl ?_
        refine qr_callC 89 rfl rfl rfl (Nat.le_of_ble_eq_true rfl) (Nat.le_of_ble_eq_true rfl) (spx_cha5 ⟨by omega, by omega⟩) ?_
        rintro _ _ ⟨rfl, rfl⟩
        simp only [Option.toList, List.drop, List.cons_append, List.nil_append]
        refine qr_ctstore hi 90 rfl (by omega) rfl ?_
        refine qr_iincG (fun v => [(2, .int (qz v)), (0, .ref a), (1, .ref 5)]) 93 rfl rfl (by decide) (fun _ => rfl) rfl (fun v hv => ?_)
        refine qr_goto 71 rfl rfl ?_
        refine ih v _ (by omega) ?_
        funext j
        unfold qzu
        by_cases c : j = i.toNat
        · rw [if_pos c, if_pos (show (j : Int) < v by omega), qT5_i j (by omega), c]
        · have e : t j = if (j : Int) < i then qT5 j else 0 := congrFun ht j
          rw [if_neg c, e]
          by_cases d : (j : Int) < i
          · rw [if_pos d, if_pos (show (j : Int) < v by omega)]
          · rw [if_neg d, if_neg (show ¬ (j : Int) < v by omega)]
  refine qr_aload_n 1 rfl rfl rfl ?_
  refine qr_objinit 4 rfl (by decide) rfl ?_
  refine qr_aload_n 5 rfl rfl rfl ?_
  refine qr_bipush 7 rfl (by decide) rfl ?_
  refine qr_inewI ha [.inr (7, [.null, .null, .null, .int (qz 0), .int (qz 0), .int (qz 0), .int (qz 0), .int (qz 0)]), .inl (.int, 120, .inl (qzf (fun _ => 0)))] 9 1 120 1 rfl (by decide) (Nat.le_of_ble_eq_true rfl) (Nat.le_of_ble_eq_true rfl) rfl rfl rfl rfl rfl ?_
  refine qr_iput ha [.ref (a + 1), .null, .null, .int (qz 0), .int (qz 0), .int (qz 0), .int (qz 0), .int (qz 0)] 12 rfl (Nat.le_of_ble_eq_true rfl) (Nat.le_of_ble_eq_true rfl) (Or.inr ⟨by decide, rfl⟩) (qr_fitR (Or.inr ⟨_, rfl⟩) _) rfl rfl ?_
  refine qr_aload_n 13 rfl rfl rfl ?_
  refine qr_bipush 15 rfl (by decide) rfl ?_
  refine qr_inewI ha [.inr (7, [.ref (a + 1), .null, .null, .int (qz 0), .int (qz 0), .int (qz 0), .int (qz 0), .int (qz 0)]), .inl (.int, 120, .inl (qzf (fun _ => 0))), .inl (.int, 122, .inl (qzf (fun _ => 0)))] 17 2 242 2 rfl (by decide) (Nat.le_of_ble_eq_true rfl) (Nat.le_of_ble_eq_true rfl) rfl rfl rfl rfl rfl ?_
  refine qr_iput ha [.ref (a + 1), .ref (a + 2), .null, .int (qz 0), .int (qz 0), .int (qz 0), .int (qz 0), .int (qz 0)] 20 rfl (Nat.le_of_ble_eq_true rfl) (Nat.le_of_ble_eq_true rfl) (Or.inr ⟨by decide, rfl⟩) (qr_fitR (Or.inr ⟨_, rfl⟩) _) rfl rfl ?_
  refine qr_aload_n 21 rfl rfl rfl ?_
  refine qr_bipush 23 rfl (by decide) rfl ?_
  refine qr_inewI ha [.inr (7, [.ref (a + 1), .ref (a + 2), .null, .int (qz 0), .int (qz 0), .int (qz 0), .int (qz 0), .int (qz 0)]), .inl (.int, 120, .inl (qzf (fun _ => 0))), .inl (.int, 122, .inl (qzf (fun _ => 0))), .inl (.int, 120, .inl (qzf (fun _ => 0)))] 25 3 362 3 rfl (by decide) (Nat.le_of_ble_eq_true rfl) (Nat.le_of_ble_eq_true rfl) rfl rfl rfl rfl rfl ?_
  refine qr_iput ha [.ref (a + 1), .ref (a + 2), .ref (a + 3), .int (qz 0), .int (qz 0), .int (qz 0), .int (qz 0), .int (qz 0)] 28 rfl (Nat.le_of_ble_eq_true rfl) (Nat.le_of_ble_eq_true rfl) (Or.inr ⟨by decide, rfl⟩) (qr_fitR (Or.inr ⟨_, rfl⟩) _) rfl rfl ?_
  refine qr_aload_n 29 rfl rfl rfl ?_
  refine qr_iconst 30 rfl rfl ?_
  refine qr_iput ha [.ref (a + 1), .ref (a + 2), .ref (a + 3), .int (qz 0), .int (qz 0), .int (qz 0), .int (qz 0), .int (qz 0)] 33 rfl (Nat.le_of_ble_eq_true rfl) (Nat.le_of_ble_eq_true rfl) (Or.inl rfl) (qr_fitI rfl _) rfl rfl ?_
  refine qr_aload_n 34 rfl rfl rfl ?_
  refine qr_iconst 35 rfl rfl ?_
  refine qr_iput ha [.ref (a + 1), .ref (a + 2), .ref (a + 3), .int (qz 0), .int (qz 0), .int (qz 0), .int (qz 0), .int (qz 0)] 38 rfl (Nat.le_of_ble_eq_true rfl) (Nat.le_of_ble_eq_true rfl) (Or.inl rfl) (qr_fitI rfl _) rfl rfl ?_
  refine qr_aload_n 39 rfl rfl rfl ?_
  refine qr_iconst 40 rfl rfl ?_
  refine qr_iput ha [.ref (a + 1), .ref (a + 2), .ref (a + 3), .int (qz 0), .int (qz 0), .int (qz 0), .int (qz 0), .int (qz 0)] 43 rfl (Nat.le_of_ble_eq_true rfl) (Nat.le_of_ble_eq_true rfl) (Or.inl rfl) (qr_fitI rfl _) rfl rfl ?_
  refine qr_aload_n 44 rfl rfl rfl ?_
  refine qr_iconst 45 rfl rfl ?_
  refine qr_iput ha [.ref (a + 1), .ref (a + 2), .ref (a + 3), .int (qz 0), .int (qz 0), .int (qz 0), .int (qz 0), .int (qz 0)] 48 rfl (Nat.le_of_ble_eq_true rfl) (Nat.le_of_ble_eq_true rfl) (Or.inl rfl) (qr_fitI rfl _) rfl rfl ?_
  refine qr_aload_n 49 rfl rfl rfl ?_
  refine qr_iconst 50 rfl rfl ?_
  refine qr_iput ha [.ref (a + 1), .ref (a + 2), .ref (a + 3), .int (qz 0), .int (qz 0), .int (qz 0), .int (qz 0), .int (qz 0)] 53 rfl (Nat.le_of_ble_eq_true rfl) (Nat.le_of_ble_eq_true rfl) (Or.inl rfl) (qr_fitZ rfl (by omega)) rfl rfl ?_
  have hi := qi_in u ha (qc_o a 0 0 0 0 0) (.inl (.int, 120, .inl (qzf (fun _ => 0)))) (.inl (.int, 122, .inl (qzf (fun _ => 0)))) (.inl (.int, 120, .inl (qzf (fun _ => 0))))
  refine qi_go (ln := 0) (at_ := 0) (sz := 0) (nm := 0) (sk := 0) (t := fun _ => 0) (cd := fun _ => 0) ha (qc_o a 0 0 0 0 0) (.inl (.int, 120, .inl (qzf (fun _ => 0)))) (.inl (.int, 122, .inl (qzf (fun _ => 0)))) (.inl (.int, 120, .inl (qzf (fun _ => 0)))) ?_
  refine qr_aload_n 54 rfl rfl rfl ?_
  refine qr_aload_n 55 rfl rfl rfl ?_
  refine qr_callC 58 rfl rfl rfl (Nat.le_of_ble_eq_true rfl) (Nat.le_of_ble_eq_true rfl) sp_len5 ?_
  rintro _ _ ⟨rfl, rfl⟩
  simp only [Option.toList, List.drop, List.cons_append, List.nil_append]
  refine qr_aload_n 59 rfl rfl rfl ?_
  refine qr_cget0 hi 62 rfl rfl ?_
  refine qr_ctlen hi 63 rfl rfl ?_
  refine qr_callC 66 rfl rfl rfl (Nat.le_of_ble_eq_true rfl) (Nat.le_of_ble_eq_true rfl) (sp_mmin (by omega) (by omega)) ?_
  rintro _ _ ⟨rfl, b, rfl, hb⟩
  simp only [Option.toList, List.drop, List.cons_append, List.nil_append]
  have eb : b = 5 := by omega
  subst eb
  refine qr_cput3 hi 69 rfl rfl ?_
  refine qr_iconst 70 rfl rfl ?_
  refine qr_istore_n [(2, .int (qz 0)), (0, .ref a), (1, .ref 5)] 71 rfl (by decide) rfl rfl ?_
  exact loop 6 0 (fun _ => 0) (by omega) (funext fun j => (if_neg (show ¬ (j : Int) < 0 by omega)).symm)

/-- the customs of a fresh object -/
def qo_cu (s g : Nat → Nat → Int) : Prop := (∃ v : Int, qRt 4 qT3 v (s 0 5) (s 0 6) (g 52)) ∧ ∃ v : Int, qRt 5 qT5 v (s 1 5) (s 1 6) (g 56)

set_option maxHeartbeats 2000000 in
set_option maxRecDepth 20000 in
/-- OneRoof.<init> -/
theorem si_Roof2 {L : Nat} {xs : Nat → Int} {vb : Bool} {d : Nat}  : qm_T (qe L xs vb) (d + 58) 1 [.ref 16] ([.inr (0, [.null, .null, .null, .null, .null, .null, .null, .null, .null, .null, .null, .null, .null, .null, .null, .int (qz 0)])]) (fun r w' => r = none ∧ ∃ s g : Nat → Nat → Int, w' = (qw (qo_s s) (qo_r g) qo_k 82).take 70 ∧ qo_ok s g ∧ qo_cu s g) := by
  refine qr_start (d := d + 57) qv_e1 (Nat.le_of_ble_eq_true rfl) ?_
  show qr_W (qe L xs vb) (d + 57) qx_e1 _ (0, [(0, .ref 16)], [], [.inr (0, [.null, .null, .null, .null, .null, .null, .null, .null, .null, .null, .null, .null, .null, .null, .null, .int (qz 0)])], 0, 0)
  have hR0 : (([] : qm_W)).length = 0 := rfl
  generalize hE0 : ([] : qm_W) = R0 at hR0 ⊢
  refine qr_aload_n 1 rfl rfl rfl ?_
  refine qr_objinit 4 rfl (by decide) rfl ?_
  refine qr_aload_n 5 rfl rfl rfl ?_
  refine qr_new ((.inr (0, [.null, .null, .null, .null, .null, .null, .null, .null, .null, .null, .null, .null, .null, .null, .null, .int (qz 0)]) :: R0) ++ [.inr (1, [.null, .null, .null, .null, .null, .long (ql 0), .int (qz 0)])]) 8 1 7 rfl rfl (Nat.le_of_ble_eq_true rfl) (Nat.le_of_ble_eq_true rfl) rfl rfl rfl 17 (by simp only [List.length_append, List.length_cons, List.length_nil, hR0]) rfl ?_
  refine qr_dup 9 rfl rfl rfl ?_
  refine qr_call 12 6 167 rfl rfl (Nat.le_of_ble_eq_true rfl) (Nat.le_of_ble_eq_true rfl) rfl rfl (si_Folk (a := 17) (u := .inr (0, [.null, .null, .null, .null, .null, .null, .null, .null, .null, .null, .null, .null, .null, .null, .null, .int (qz 0)]) :: R0) (qo_len hR0 17 rfl)) ?_
  rintro _ _ ⟨rfl, rfl⟩
  simp only [Option.toList, List.drop, List.nil_append]
  refine qo_put [.ref 17, .null, .null, .null, .null, .null, .null, .null, .null, .null, .null, .null, .null, .null, .null, .int (qz 0)] 15 hR0 rfl (m2 := 6) (m3 := 6) rfl rfl (Nat.le_of_ble_eq_true rfl) (Nat.le_of_ble_eq_true rfl) (Or.inr ⟨by decide, rfl⟩) (qr_fitR (Or.inl ⟨_, rfl⟩) _) rfl rfl (fun R1 hE1 hR1 => ?_)
  refine qr_aload_n 16 rfl rfl rfl ?_
  refine qr_new ((.inr (0, [.ref 17, .null, .null, .null, .null, .null, .null, .null, .null, .null, .null, .null, .null, .null, .null, .int (qz 0)]) :: R1) ++ [.inr (2, [.null, .int (qz 0)])]) 19 7 169 rfl rfl (Nat.le_of_ble_eq_true rfl) (Nat.le_of_ble_eq_true rfl) rfl rfl rfl 23 (by simp only [List.length_append, List.length_cons, List.length_nil, hR1]) rfl ?_
  refine qr_dup 20 rfl rfl rfl ?_
  refine qr_call 23 8 1193 rfl rfl (Nat.le_of_ble_eq_true rfl) (Nat.le_of_ble_eq_true rfl) rfl rfl (si_Kinship (a := 23) (u := .inr (0, [.ref 17, .null, .null, .null, .null, .null, .null, .null, .null, .null, .null, .null, .null, .null, .null, .int (qz 0)]) :: R1) (qo_len hR1 23 rfl)) ?_
  rintro _ _ ⟨rfl, g23, rfl, hg23⟩
  simp only [Option.toList, List.drop, List.nil_append]
  refine qo_put [.ref 17, .ref 23, .null, .null, .null, .null, .null, .null, .null, .null, .null, .null, .null, .null, .null, .int (qz 0)] 26 hR1 rfl (m2 := 2) (m3 := 8) rfl rfl (Nat.le_of_ble_eq_true rfl) (Nat.le_of_ble_eq_true rfl) (Or.inr ⟨by decide, rfl⟩) (qr_fitR (Or.inl ⟨_, rfl⟩) _) rfl rfl (fun R2 hE2 hR2 => ?_)
  refine qr_aload_n 27 rfl rfl rfl ?_
  refine qr_new ((.inr (0, [.ref 17, .ref 23, .null, .null, .null, .null, .null, .null, .null, .null, .null, .null, .null, .null, .null, .int (qz 0)]) :: R2) ++ [.inr (2, [.null, .int (qz 0)])]) 30 9 1195 rfl rfl (Nat.le_of_ble_eq_true rfl) (Nat.le_of_ble_eq_true rfl) rfl rfl rfl 25 (by simp only [List.length_append, List.length_cons, List.length_nil, hR2]) rfl ?_
  refine qr_dup 31 rfl rfl rfl ?_
  refine qr_call 34 10 2219 rfl rfl (Nat.le_of_ble_eq_true rfl) (Nat.le_of_ble_eq_true rfl) rfl rfl (si_Kinship (a := 25) (u := .inr (0, [.ref 17, .ref 23, .null, .null, .null, .null, .null, .null, .null, .null, .null, .null, .null, .null, .null, .int (qz 0)]) :: R2) (qo_len hR2 25 rfl)) ?_
  rintro _ _ ⟨rfl, g25, rfl, hg25⟩
  simp only [Option.toList, List.drop, List.nil_append]
  refine qo_put [.ref 17, .ref 23, .ref 25, .null, .null, .null, .null, .null, .null, .null, .null, .null, .null, .null, .null, .int (qz 0)] 37 hR2 rfl (m2 := 2) (m3 := 10) rfl rfl (Nat.le_of_ble_eq_true rfl) (Nat.le_of_ble_eq_true rfl) (Or.inr ⟨by decide, rfl⟩) (qr_fitR (Or.inl ⟨_, rfl⟩) _) rfl rfl (fun R3 hE3 hR3 => ?_)
  refine qr_aload_n 38 rfl rfl rfl ?_
  refine qr_new ((.inr (0, [.ref 17, .ref 23, .ref 25, .null, .null, .null, .null, .null, .null, .null, .null, .null, .null, .null, .null, .int (qz 0)]) :: R3) ++ [.inr (3, [.null, .null, .null, .null, .null, .null, .long (ql 0), .int (qz 0)])]) 41 11 2227 rfl rfl (Nat.le_of_ble_eq_true rfl) (Nat.le_of_ble_eq_true rfl) rfl rfl rfl 27 (by simp only [List.length_append, List.length_cons, List.length_nil, hR3]) rfl ?_
  refine qr_dup 42 rfl rfl rfl ?_
  refine qr_call 45 17 2467 rfl rfl (Nat.le_of_ble_eq_true rfl) (Nat.le_of_ble_eq_true rfl) rfl rfl (si_Feuds (a := 27) (u := .inr (0, [.ref 17, .ref 23, .ref 25, .null, .null, .null, .null, .null, .null, .null, .null, .null, .null, .null, .null, .int (qz 0)]) :: R3) (qo_len hR3 27 rfl)) ?_
  rintro _ _ ⟨rfl, rfl⟩
  simp only [Option.toList, List.drop, List.nil_append]
  refine qo_put [.ref 17, .ref 23, .ref 25, .ref 27, .null, .null, .null, .null, .null, .null, .null, .null, .null, .null, .null, .int (qz 0)] 48 hR3 rfl (m2 := 7) (m3 := 17) rfl rfl (Nat.le_of_ble_eq_true rfl) (Nat.le_of_ble_eq_true rfl) (Or.inr ⟨by decide, rfl⟩) (qr_fitR (Or.inl ⟨_, rfl⟩) _) rfl rfl (fun R4 hE4 hR4 => ?_)
  refine qr_aload_n 49 rfl rfl rfl ?_
  refine qr_new ((.inr (0, [.ref 17, .ref 23, .ref 25, .ref 27, .null, .null, .null, .null, .null, .null, .null, .null, .null, .null, .null, .int (qz 0)]) :: R4) ++ [.inr (4, [.null, .null, .null, .null, .null, .null, .null, .int (qz 0)])]) 52 18 2475 rfl rfl (Nat.le_of_ble_eq_true rfl) (Nat.le_of_ble_eq_true rfl) rfl rfl rfl 34 (by simp only [List.length_append, List.length_cons, List.length_nil, hR4]) rfl ?_
  refine qr_dup 53 rfl rfl rfl ?_
  refine qr_call 56 25 2895 rfl rfl (Nat.le_of_ble_eq_true rfl) (Nat.le_of_ble_eq_true rfl) rfl rfl (si_Peaces (a := 34) (u := .inr (0, [.ref 17, .ref 23, .ref 25, .ref 27, .null, .null, .null, .null, .null, .null, .null, .null, .null, .null, .null, .int (qz 0)]) :: R4) (qo_len hR4 34 rfl)) ?_
  rintro _ _ ⟨rfl, rfl⟩
  simp only [Option.toList, List.drop, List.nil_append]
  refine qo_put [.ref 17, .ref 23, .ref 25, .ref 27, .ref 34, .null, .null, .null, .null, .null, .null, .null, .null, .null, .null, .int (qz 0)] 59 hR4 rfl (m2 := 8) (m3 := 25) rfl rfl (Nat.le_of_ble_eq_true rfl) (Nat.le_of_ble_eq_true rfl) (Or.inr ⟨by decide, rfl⟩) (qr_fitR (Or.inl ⟨_, rfl⟩) _) rfl rfl (fun R5 hE5 hR5 => ?_)
  refine qr_aload_n 60 rfl rfl rfl ?_
  refine qr_new ((.inr (0, [.ref 17, .ref 23, .ref 25, .ref 27, .ref 34, .null, .null, .null, .null, .null, .null, .null, .null, .null, .null, .int (qz 0)]) :: R5) ++ [.inr (5, [.null, .int (qz 0)])]) 63 26 2897 rfl rfl (Nat.le_of_ble_eq_true rfl) (Nat.le_of_ble_eq_true rfl) rfl rfl rfl 42 (by simp only [List.length_append, List.length_cons, List.length_nil, hR5]) rfl ?_
  refine qr_dup 64 rfl rfl rfl ?_
  refine qr_call 67 27 2921 rfl rfl (Nat.le_of_ble_eq_true rfl) (Nat.le_of_ble_eq_true rfl) rfl rfl (si_Acts (a := 42) (u := .inr (0, [.ref 17, .ref 23, .ref 25, .ref 27, .ref 34, .null, .null, .null, .null, .null, .null, .null, .null, .null, .null, .int (qz 0)]) :: R5) (qo_len hR5 42 rfl)) ?_
  rintro _ _ ⟨rfl, rfl⟩
  simp only [Option.toList, List.drop, List.nil_append]
  refine qo_put [.ref 17, .ref 23, .ref 25, .ref 27, .ref 34, .ref 42, .null, .null, .null, .null, .null, .null, .null, .null, .null, .int (qz 0)] 70 hR5 rfl (m2 := 2) (m3 := 27) rfl rfl (Nat.le_of_ble_eq_true rfl) (Nat.le_of_ble_eq_true rfl) (Or.inr ⟨by decide, rfl⟩) (qr_fitR (Or.inl ⟨_, rfl⟩) _) rfl rfl (fun R6 hE6 hR6 => ?_)
  refine qr_aload_n 71 rfl rfl rfl ?_
  refine qr_new ((.inr (0, [.ref 17, .ref 23, .ref 25, .ref 27, .ref 34, .ref 42, .null, .null, .null, .null, .null, .null, .null, .null, .null, .int (qz 0)]) :: R6) ++ [.inr (6, [.null, .null, .null, .null])]) 74 28 2925 rfl rfl (Nat.le_of_ble_eq_true rfl) (Nat.le_of_ble_eq_true rfl) rfl rfl rfl 44 (by simp only [List.length_append, List.length_cons, List.length_nil, hR6]) rfl ?_
  refine qr_dup 75 rfl rfl rfl ?_
  refine qr_call 78 32 3303 rfl rfl (Nat.le_of_ble_eq_true rfl) (Nat.le_of_ble_eq_true rfl) rfl rfl (si_Pegs (a := 44) (u := .inr (0, [.ref 17, .ref 23, .ref 25, .ref 27, .ref 34, .ref 42, .null, .null, .null, .null, .null, .null, .null, .null, .null, .int (qz 0)]) :: R6) (qo_len hR6 44 rfl)) ?_
  rintro _ _ ⟨rfl, rfl⟩
  simp only [Option.toList, List.drop, List.nil_append]
  refine qo_put [.ref 17, .ref 23, .ref 25, .ref 27, .ref 34, .ref 42, .ref 44, .null, .null, .null, .null, .null, .null, .null, .null, .int (qz 0)] 81 hR6 rfl (m2 := 5) (m3 := 32) rfl rfl (Nat.le_of_ble_eq_true rfl) (Nat.le_of_ble_eq_true rfl) (Or.inr ⟨by decide, rfl⟩) (qr_fitR (Or.inl ⟨_, rfl⟩) _) rfl rfl (fun R7 hE7 hR7 => ?_)
  refine qr_aload_n 82 rfl rfl rfl ?_
  refine qr_iconst 83 rfl rfl ?_
  refine qr_newQ (.inr (0, [.ref 17, .ref 23, .ref 25, .ref 27, .ref 34, .ref 42, .ref 44, .null, .null, .null, .null, .null, .null, .null, .null, .int (qz 0)]) :: R7 ++ [.inl (.object "OneRoof$Custom", 2, .inr (.inr (.inr (.inr (fun _ => none)))))]) 86 33 3305 rfl (by decide) (Nat.le_of_ble_eq_true rfl) (Nat.le_of_ble_eq_true rfl) rfl rfl rfl 49 (by simp only [List.length_cons, hR7]) rfl ?_
  refine qr_dup 87 rfl rfl rfl ?_
  refine qr_iconst 88 rfl rfl ?_
  refine qr_new (((.inr (0, [.ref 17, .ref 23, .ref 25, .ref 27, .ref 34, .ref 42, .ref 44, .null, .null, .null, .null, .null, .null, .null, .null, .int (qz 0)]) :: R7 ++ [.inl (.object "OneRoof$Custom", 2, .inr (.inr (.inr (.inr (fun _ => none)))))])) ++ [.inr (7, [.null, .null, .null, .int (qz 0), .int (qz 0), .int (qz 0), .int (qz 0), .int (qz 0)])]) 91 34 3313 rfl rfl (Nat.le_of_ble_eq_true rfl) (Nat.le_of_ble_eq_true rfl) rfl rfl rfl 50 (by simp only [List.length_append, List.length_cons, List.length_nil, hR7]) rfl ?_
  refine qr_dup 92 rfl rfl rfl ?_
  refine qr_ldcs 94 rfl rfl ?_
  refine qr_call 97 37 3675 rfl rfl (Nat.le_of_ble_eq_true rfl) (Nat.le_of_ble_eq_true rfl) rfl rfl (spx_cinit3 (a := 50) (u := (.inr (0, [.ref 17, .ref 23, .ref 25, .ref 27, .ref 34, .ref 42, .ref 44, .null, .null, .null, .null, .null, .null, .null, .null, .int (qz 0)]) :: R7 ++ [.inl (.object "OneRoof$Custom", 2, .inr (.inr (.inr (.inr (fun _ => none)))))])) (by simp only [List.length_append, List.length_cons, List.length_nil, hR7])) ?_
  rintro _ _ ⟨rfl, at3, sz3, nm3, sk3, cd3, v3, rfl, hb3, hq3⟩
  simp only [Option.toList, List.nil_append]
  refine qo_aast (u := .inr (0, [.ref 17, .ref 23, .ref 25, .ref 27, .ref 34, .ref 42, .ref 44, .null, .null, .null, .null, .null, .null, .null, .null, .int (qz 0)]) :: R7) (a := 49) (b := 50) (j := 0) (T := [(qc_o 50 4 at3 sz3 nm3 sk3), .inl (.int, 120, .inl (qzf qT3)), .inl (.int, 122, .inl (qzf cd3)), .inl (.int, 120, .inl (qzf (fun _ => 0)))]) 98 (qo_len hR7 49 rfl) rfl rfl rfl (by decide) (by omega) rfl ?_
  refine qr_dup 99 rfl rfl rfl ?_
  refine qr_iconst 100 rfl rfl ?_
  refine qr_new ((((.inr (0, [.ref 17, .ref 23, .ref 25, .ref 27, .ref 34, .ref 42, .ref 44, .null, .null, .null, .null, .null, .null, .null, .null, .int (qz 0)]) :: R7 ++ [.inl (.object "OneRoof$Custom", 2, .inr (.inr (.inr (.inr (va_up (fun _ => none) (0 : Int).toNat (some 50))))))]) ++ [(qc_o 50 4 at3 sz3 nm3 sk3), .inl (.int, 120, .inl (qzf qT3)), .inl (.int, 122, .inl (qzf cd3)), .inl (.int, 120, .inl (qzf (fun _ => 0)))])) ++ [.inr (7, [.null, .null, .null, .int (qz 0), .int (qz 0), .int (qz 0), .int (qz 0), .int (qz 0)])]) 103 38 3683 rfl rfl (Nat.le_of_ble_eq_true rfl) (Nat.le_of_ble_eq_true rfl) rfl rfl rfl 54 (by simp only [List.length_append, List.length_cons, List.length_nil, hR7]) rfl ?_
  refine qr_dup 104 rfl rfl rfl ?_
  refine qr_ldcs 106 rfl rfl ?_
  refine qr_call 109 41 4045 rfl rfl (Nat.le_of_ble_eq_true rfl) (Nat.le_of_ble_eq_true rfl) rfl rfl (spx_cinit5 (a := 54) (u := ((.inr (0, [.ref 17, .ref 23, .ref 25, .ref 27, .ref 34, .ref 42, .ref 44, .null, .null, .null, .null, .null, .null, .null, .null, .int (qz 0)]) :: R7 ++ [.inl (.object "OneRoof$Custom", 2, .inr (.inr (.inr (.inr (va_up (fun _ => none) (0 : Int).toNat (some 50))))))]) ++ [(qc_o 50 4 at3 sz3 nm3 sk3), .inl (.int, 120, .inl (qzf qT3)), .inl (.int, 122, .inl (qzf cd3)), .inl (.int, 120, .inl (qzf (fun _ => 0)))])) (by simp only [List.length_append, List.length_cons, List.length_nil, hR7])) ?_
  rintro _ _ ⟨rfl, at5, sz5, nm5, sk5, cd5, v5, rfl, hb5, hq5⟩
  simp only [Option.toList, List.nil_append]
  rw [List.append_assoc (_ ++ [_])]
  refine qo_aast (u := .inr (0, [.ref 17, .ref 23, .ref 25, .ref 27, .ref 34, .ref 42, .ref 44, .null, .null, .null, .null, .null, .null, .null, .null, .int (qz 0)]) :: R7) (a := 49) (b := 54) (j := 4) (T := [(qc_o 50 4 at3 sz3 nm3 sk3), .inl (.int, 120, .inl (qzf qT3)), .inl (.int, 122, .inl (qzf cd3)), .inl (.int, 120, .inl (qzf (fun _ => 0))), (qc_o 54 5 at5 sz5 nm5 sk5), .inl (.int, 120, .inl (qzf qT5)), .inl (.int, 122, .inl (qzf cd5)), .inl (.int, 120, .inl (qzf (fun _ => 0)))]) 110 (qo_len hR7 49 rfl) rfl rfl rfl (by decide) (by omega) rfl ?_
  rw [List.append_assoc]
  refine qo_put [.ref 17, .ref 23, .ref 25, .ref 27, .ref 34, .ref 42, .ref 44, .ref 49, .null, .null, .null, .null, .null, .null, .null, .int (qz 0)] 113 hR7 rfl (m2 := 9) (m3 := 41) rfl rfl (Nat.le_of_ble_eq_true rfl) (Nat.le_of_ble_eq_true rfl) (Or.inr ⟨by decide, rfl⟩) (qr_fitR (Or.inr ⟨_, rfl⟩) _) rfl rfl (fun R8 hE8 hR8 => ?_)
  refine qr_aload_n 114 rfl rfl rfl ?_
  refine qr_new ((.inr (0, [.ref 17, .ref 23, .ref 25, .ref 27, .ref 34, .ref 42, .ref 44, .ref 49, .null, .null, .null, .null, .null, .null, .null, .int (qz 0)]) :: R8) ++ [.inr (8, [.null, .null, .null, .null, .null, .null, .null, .null, .null, .null, .long (ql 0), .int (qz 0), .int (qz 0)])]) 117 42 4058 rfl rfl (Nat.le_of_ble_eq_true rfl) (Nat.le_of_ble_eq_true rfl) rfl rfl rfl 58 (by simp only [List.length_append, List.length_cons, List.length_nil, hR8]) rfl ?_
  refine qr_dup 118 rfl rfl rfl ?_
  refine qr_aload_n 119 rfl rfl rfl ?_
  refine qr_get 122 rfl rfl rfl (by decide) rfl ?_
  refine qr_aload_n 123 rfl rfl rfl ?_
  refine qr_get 126 rfl rfl rfl (by decide) rfl ?_
  refine qr_aload_n 127 rfl rfl rfl ?_
  refine qr_get 130 rfl rfl rfl (by decide) rfl ?_
  refine qr_aload_n 131 rfl rfl rfl ?_
  refine qr_get 134 rfl rfl rfl (by decide) rfl ?_
  refine qr_aload_n 135 rfl rfl rfl ?_
  refine qr_get 138 rfl rfl rfl (by decide) rfl ?_
  refine qr_call 141 47 6051 rfl rfl (Nat.le_of_ble_eq_true rfl) (Nat.le_of_ble_eq_true rfl) rfl rfl (si_Moment (a := 58) (u := .inr (0, [.ref 17, .ref 23, .ref 25, .ref 27, .ref 34, .ref 42, .ref 44, .ref 49, .null, .null, .null, .null, .null, .null, .null, .int (qz 0)]) :: R8) (qo_len hR8 58 rfl)) ?_
  rintro _ _ ⟨rfl, rfl⟩
  simp only [Option.toList, List.drop, List.nil_append]
  refine qo_put [.ref 17, .ref 23, .ref 25, .ref 27, .ref 34, .ref 42, .ref 44, .ref 49, .ref 58, .null, .null, .null, .null, .null, .null, .int (qz 0)] 144 hR8 rfl (m2 := 6) (m3 := 47) rfl rfl (Nat.le_of_ble_eq_true rfl) (Nat.le_of_ble_eq_true rfl) (Or.inr ⟨by decide, rfl⟩) (qr_fitR (Or.inl ⟨_, rfl⟩) _) rfl rfl (fun R9 hE9 hR9 => ?_)
  refine qr_aload_n 145 rfl rfl rfl ?_
  refine qr_new ((.inr (0, [.ref 17, .ref 23, .ref 25, .ref 27, .ref 34, .ref 42, .ref 44, .ref 49, .ref 58, .null, .null, .null, .null, .null, .null, .int (qz 0)]) :: R9) ++ [.inr (9, [.null, .null, .int (qz 0), .null, .null, .null, .null, .int (qz 0)])]) 148 48 6059 rfl rfl (Nat.le_of_ble_eq_true rfl) (Nat.le_of_ble_eq_true rfl) rfl rfl rfl 64 (by simp only [List.length_append, List.length_cons, List.length_nil, hR9]) rfl ?_
  refine qr_dup 149 rfl rfl rfl ?_
  refine qr_aload_n 150 rfl rfl rfl ?_
  refine qr_get 153 rfl rfl rfl (by decide) rfl ?_
  refine qr_call 156 53 10221 rfl rfl (Nat.le_of_ble_eq_true rfl) (Nat.le_of_ble_eq_true rfl) rfl rfl (si_Guests (a := 64) (u := .inr (0, [.ref 17, .ref 23, .ref 25, .ref 27, .ref 34, .ref 42, .ref 44, .ref 49, .ref 58, .null, .null, .null, .null, .null, .null, .int (qz 0)]) :: R9) (qo_len hR9 64 rfl)) ?_
  rintro _ _ ⟨rfl, rfl⟩
  simp only [Option.toList, List.drop, List.nil_append]
  refine qo_put [.ref 17, .ref 23, .ref 25, .ref 27, .ref 34, .ref 42, .ref 44, .ref 49, .ref 58, .ref 64, .null, .null, .null, .null, .null, .int (qz 0)] 159 hR9 rfl (m2 := 6) (m3 := 53) rfl rfl (Nat.le_of_ble_eq_true rfl) (Nat.le_of_ble_eq_true rfl) (Or.inr ⟨by decide, rfl⟩) (qr_fitR (Or.inl ⟨_, rfl⟩) _) rfl rfl (fun R10 hE10 hR10 => ?_)
  refine qr_aload_n 160 rfl rfl rfl ?_
  refine qr_new ((.inr (0, [.ref 17, .ref 23, .ref 25, .ref 27, .ref 34, .ref 42, .ref 44, .ref 49, .ref 58, .ref 64, .null, .null, .null, .null, .null, .int (qz 0)]) :: R10) ++ [.inr (10, [.null, .null, .int (qz 0), .long (ql 0), .null, .int (qz 0), .long (ql 0)])]) 163 54 10228 rfl rfl (Nat.le_of_ble_eq_true rfl) (Nat.le_of_ble_eq_true rfl) rfl rfl rfl 70 (by simp only [List.length_append, List.length_cons, List.length_nil, hR10]) rfl ?_
  refine qr_dup 164 rfl rfl rfl ?_
  refine qr_aload_n 165 rfl rfl rfl ?_
  refine qr_get 168 rfl rfl rfl (by decide) rfl ?_
  refine qr_call 171 56 10319 rfl rfl (Nat.le_of_ble_eq_true rfl) (Nat.le_of_ble_eq_true rfl) rfl rfl (si_Telling (a := 70) (u := .inr (0, [.ref 17, .ref 23, .ref 25, .ref 27, .ref 34, .ref 42, .ref 44, .ref 49, .ref 58, .ref 64, .null, .null, .null, .null, .null, .int (qz 0)]) :: R10) (qo_len hR10 70 rfl)) ?_
  rintro _ _ ⟨rfl, rfl⟩
  simp only [Option.toList, List.drop, List.nil_append]
  refine qo_put [.ref 17, .ref 23, .ref 25, .ref 27, .ref 34, .ref 42, .ref 44, .ref 49, .ref 58, .ref 64, .ref 70, .null, .null, .null, .null, .int (qz 0)] 174 hR10 rfl (m2 := 3) (m3 := 56) rfl rfl (Nat.le_of_ble_eq_true rfl) (Nat.le_of_ble_eq_true rfl) (Or.inr ⟨by decide, rfl⟩) (qr_fitR (Or.inl ⟨_, rfl⟩) _) rfl rfl (fun R11 hE11 hR11 => ?_)
  refine qr_aload_n 175 rfl rfl rfl ?_
  refine qr_new ((.inr (0, [.ref 17, .ref 23, .ref 25, .ref 27, .ref 34, .ref 42, .ref 44, .ref 49, .ref 58, .ref 64, .ref 70, .null, .null, .null, .null, .int (qz 0)]) :: R11) ++ [.inr (10, [.null, .null, .int (qz 0), .long (ql 0), .null, .int (qz 0), .long (ql 0)])]) 178 57 10326 rfl rfl (Nat.le_of_ble_eq_true rfl) (Nat.le_of_ble_eq_true rfl) rfl rfl rfl 73 (by simp only [List.length_append, List.length_cons, List.length_nil, hR11]) rfl ?_
  refine qr_dup 179 rfl rfl rfl ?_
  refine qr_aload_n 180 rfl rfl rfl ?_
  refine qr_get 183 rfl rfl rfl (by decide) rfl ?_
  refine qr_call 186 59 10417 rfl rfl (Nat.le_of_ble_eq_true rfl) (Nat.le_of_ble_eq_true rfl) rfl rfl (si_Telling (a := 73) (u := .inr (0, [.ref 17, .ref 23, .ref 25, .ref 27, .ref 34, .ref 42, .ref 44, .ref 49, .ref 58, .ref 64, .ref 70, .null, .null, .null, .null, .int (qz 0)]) :: R11) (qo_len hR11 73 rfl)) ?_
  rintro _ _ ⟨rfl, rfl⟩
  simp only [Option.toList, List.drop, List.nil_append]
  refine qo_put [.ref 17, .ref 23, .ref 25, .ref 27, .ref 34, .ref 42, .ref 44, .ref 49, .ref 58, .ref 64, .ref 70, .ref 73, .null, .null, .null, .int (qz 0)] 189 hR11 rfl (m2 := 3) (m3 := 59) rfl rfl (Nat.le_of_ble_eq_true rfl) (Nat.le_of_ble_eq_true rfl) (Or.inr ⟨by decide, rfl⟩) (qr_fitR (Or.inl ⟨_, rfl⟩) _) rfl rfl (fun R12 hE12 hR12 => ?_)
  refine qr_aload_n 190 rfl rfl rfl ?_
  refine qr_new ((.inr (0, [.ref 17, .ref 23, .ref 25, .ref 27, .ref 34, .ref 42, .ref 44, .ref 49, .ref 58, .ref 64, .ref 70, .ref 73, .null, .null, .null, .int (qz 0)]) :: R12) ++ [.inr (11, [.null, .null, .null, .null, .null, .null, .null, .int (qz 0), .int (qz 0)])]) 193 60 10426 rfl rfl (Nat.le_of_ble_eq_true rfl) (Nat.le_of_ble_eq_true rfl) rfl rfl rfl 76 (by simp only [List.length_append, List.length_cons, List.length_nil, hR12]) rfl ?_
  refine qr_dup 194 rfl rfl rfl ?_
  refine qr_aload_n 195 rfl rfl rfl ?_
  refine qr_get 198 rfl rfl rfl (by decide) rfl ?_
  refine qr_aload_n 199 rfl rfl rfl ?_
  refine qr_get 202 rfl rfl rfl (by decide) rfl ?_
  refine qr_aload_n 203 rfl rfl rfl ?_
  refine qr_get 206 rfl rfl rfl (by decide) rfl ?_
  refine qr_call 209 64 10586 rfl rfl (Nat.le_of_ble_eq_true rfl) (Nat.le_of_ble_eq_true rfl) rfl rfl (si_History (a := 76) (u := .inr (0, [.ref 17, .ref 23, .ref 25, .ref 27, .ref 34, .ref 42, .ref 44, .ref 49, .ref 58, .ref 64, .ref 70, .ref 73, .null, .null, .null, .int (qz 0)]) :: R12) (qo_len hR12 76 rfl)) ?_
  rintro _ _ ⟨rfl, rfl⟩
  simp only [Option.toList, List.drop, List.nil_append]
  refine qo_put [.ref 17, .ref 23, .ref 25, .ref 27, .ref 34, .ref 42, .ref 44, .ref 49, .ref 58, .ref 64, .ref 70, .ref 73, .ref 76, .null, .null, .int (qz 0)] 212 hR12 rfl (m2 := 5) (m3 := 64) rfl rfl (Nat.le_of_ble_eq_true rfl) (Nat.le_of_ble_eq_true rfl) (Or.inr ⟨by decide, rfl⟩) (qr_fitR (Or.inl ⟨_, rfl⟩) _) rfl rfl (fun R13 hE13 hR13 => ?_)
  refine qr_aload_n 213 rfl rfl rfl ?_
  refine qr_bipush 215 rfl (by decide) rfl ?_
  refine qr_newI (.inr (0, [.ref 17, .ref 23, .ref 25, .ref 27, .ref 34, .ref 42, .ref 44, .ref 49, .ref 58, .ref 64, .ref 70, .ref 73, .ref 76, .null, .null, .int (qz 0)]) :: R13 ++ [.inl (.int, 120, .inl (qzf (fun _ => 0)))]) 217 65 10706 rfl (by decide) (Nat.le_of_ble_eq_true rfl) (Nat.le_of_ble_eq_true rfl) rfl rfl rfl 81 (by simp only [List.length_cons, hR13]) rfl ?_
  refine qo_put [.ref 17, .ref 23, .ref 25, .ref 27, .ref 34, .ref 42, .ref 44, .ref 49, .ref 58, .ref 64, .ref 70, .ref 73, .ref 76, .ref 81, .null, .int (qz 0)] 220 hR13 rfl (m2 := 1) (m3 := 65) rfl rfl (Nat.le_of_ble_eq_true rfl) (Nat.le_of_ble_eq_true rfl) (Or.inr ⟨by decide, rfl⟩) (qr_fitR (Or.inr ⟨_, rfl⟩) _) rfl rfl (fun R14 hE14 hR14 => ?_)
  refine qr_aload_n 221 rfl rfl rfl ?_
  refine qr_new ((.inr (0, [.ref 17, .ref 23, .ref 25, .ref 27, .ref 34, .ref 42, .ref 44, .ref 49, .ref 58, .ref 64, .ref 70, .ref 73, .ref 76, .ref 81, .null, .int (qz 0)]) :: R14) ++ [.inr (7, [.null, .null, .null, .int (qz 0), .int (qz 0), .int (qz 0), .int (qz 0), .int (qz 0)])]) 224 66 10714 rfl rfl (Nat.le_of_ble_eq_true rfl) (Nat.le_of_ble_eq_true rfl) rfl rfl rfl 82 (by simp only [List.length_append, List.length_cons, List.length_nil, hR14]) rfl ?_
  refine qr_dup 225 rfl rfl rfl ?_
  refine qr_ldcs 227 rfl rfl ?_
  refine qr_call 230 69 11076 rfl rfl (Nat.le_of_ble_eq_true rfl) (Nat.le_of_ble_eq_true rfl) rfl rfl (sp_cinit6 (a := 82) (u := .inr (0, [.ref 17, .ref 23, .ref 25, .ref 27, .ref 34, .ref 42, .ref 44, .ref 49, .ref 58, .ref 64, .ref 70, .ref 73, .ref 76, .ref 81, .null, .int (qz 0)]) :: R14) (by simp only [List.length_append, List.length_cons, List.length_nil, hR14])) ?_
  rintro _ _ ⟨rfl, at6, sz6, nm6, sk6, t6, cd6, rfl, hb6, ht6⟩
  simp only [Option.toList, List.nil_append]
  refine qo_put [.ref 17, .ref 23, .ref 25, .ref 27, .ref 34, .ref 42, .ref 44, .ref 49, .ref 58, .ref 64, .ref 70, .ref 73, .ref 76, .ref 81, .ref 82, .int (qz 0)] 233 hR14 rfl (m2 := 4) (m3 := 69) rfl rfl (Nat.le_of_ble_eq_true rfl) (Nat.le_of_ble_eq_true rfl) (Or.inl rfl) (qr_fitR (Or.inl ⟨_, rfl⟩) _) rfl rfl (fun R15 hE15 hR15 => ?_)
  refine qr_aload_n 234 rfl rfl rfl ?_
  refine qr_iconst 235 rfl rfl ?_
  refine qo_put0 [.ref 17, .ref 23, .ref 25, .ref 27, .ref 34, .ref 42, .ref 44, .ref 49, .ref 58, .ref 64, .ref 70, .ref 73, .ref 76, .ref 81, .ref 82, .int (qz 0)] 238 rfl (Nat.le_of_ble_eq_true rfl) (Nat.le_of_ble_eq_true rfl) (Or.inl rfl) (qr_fitI rfl _) rfl rfl ?_
  refine qr_retV rfl rfl (Nat.le_of_ble_eq_true rfl) (Nat.le_of_ble_eq_true rfl) ?_
  refine ⟨rfl, fun i => if i = 0 then qo_c 4 at3 sz3 nm3 sk3 else if i = 1 then qo_c 5 at5 sz5 nm5 sk5 else qo_c 1 at6 sz6 nm6 sk6, fun i => if i = 24 then g23 else if i = 26 then g25 else if i = 51 then qT3 else if i = 52 then cd3 else if i = 55 then qT5 else if i = 56 then cd5 else if i = 83 then t6 else cd6, ?_, ?_, ⟨v3, hq3⟩, ⟨v5, hq5⟩⟩
  · rw [hE15, hE14, hE13, hE12, hE11, hE10, hE9, hE8, hE7, hE6, hE5, hE4, hE3, hE2, hE1, ← hE0]
    rfl
  · refine ⟨⟨rfl, rfl, rfl⟩, ?_, ?_, ?_⟩
    · intro i hi
      have hi3 : i = 0 ∨ i = 1 ∨ i = 2 := by omega
      rcases hi3 with rfl | rfl | rfl
      · exact ⟨⟨hb3.1, by show at3 ≤ 5; omega⟩, ⟨hb3.2.2.1, hb3.2.2.2.1⟩, ⟨hb3.2.2.2.2.1, hb3.2.2.2.2.2.1⟩, hb3.2.2.2.2.2.2⟩
      · exact ⟨⟨hb5.1, by show at5 ≤ 5; omega⟩, ⟨hb5.2.2.1, hb5.2.2.2.1⟩, ⟨hb5.2.2.2.2.1, hb5.2.2.2.2.2.1⟩, hb5.2.2.2.2.2.2⟩
      · exact ⟨⟨hb6.1, by show at6 ≤ 5; omega⟩, ⟨hb6.2.2.1, hb6.2.2.2.1⟩, ⟨hb6.2.2.2.2.1, hb6.2.2.2.2.2.1⟩, hb6.2.2.2.2.2.2⟩
    · rintro i (rfl | rfl)
      · exact hg23
      · exact hg25
    · rintro i (rfl | rfl | rfl)
      · exact qT3_r
      · exact qT5_r
      · exact ht6

theorem qlv_o {T : Nat → Int} {n : Int} {one : Int → qtx_3} {m : Nat} {a : Int} {p : qtx_3} (h : qtx_lv T n one m a = p) (hn : ¬ (p.2.2 = 0 ∧ qtx_lo (qtx_c T n p.2.1) = 4 - (m : Int))) : qtx_lv T n one (m + 1) a = p := by
  show qtx_lp T n (qtx_lv T n one m) (4 - (m : Int)) (if m = 2 then 1 else 120) (qtx_lv T n one m a) = p
  rw [h]
  exact qtx_lp_st hn
theorem qlv_1 {T : Nat → Int} {n : Int} {one : Int → qtx_3} {m : Nat} {a : Int} {p q r : qtx_3} (h : qtx_lv T n one m a = p) (hy : p.2.2 = 0 ∧ qtx_lo (qtx_c T n p.2.1) = 4 - (m : Int)) (h2 : qtx_lv T n one m (p.2.1 + 1) = q) (h3 : qtx_cm (qtx_c T n p.2.1) p q = r) (hn : ¬ (r.2.2 = 0 ∧ qtx_lo (qtx_c T n r.2.1) = 4 - (m : Int))) : qtx_lv T n one (m + 1) a = r := by
  show qtx_lp T n (qtx_lv T n one m) (4 - (m : Int)) (if m = 2 then 1 else 120) (qtx_lv T n one m a) = r
  obtain ⟨k, hk⟩ : ∃ k : Nat, (if m = 2 then 1 else 120 : Nat) = k + 1 := by
    split
    · exact ⟨0, rfl⟩
    · exact ⟨119, rfl⟩
  rw [h, hk, qtx_lp_go hy, h2, h3]
  exact qtx_lp_st hn
theorem qlv_5 {T : Nat → Int} {n : Int} {one : Int → qtx_3} {a : Int} {p : qtx_3} (k : Nat) (h : one a = p) (hn : ¬ p.2.2 = 0 ∨ qtx_lo (qtx_c T n p.2.1) < 5 - (k : Int)) (hk : k ≤ 5) : ∀ j : Nat, j ≤ k → qtx_lv T n one j a = p := by
  intro j
  induction j with
  | zero => intro _; exact h
  | succ j ih =>
    intro hj
    exact qlv_o (ih (by omega)) (by omega)
theorem qtW_1 {T : Nat → Int} {n : Int} {N : Nat → Int} {v : Int} (h : qtx_E T n N 6 0 = (v, n, 0)) (hc : qtx_c T n n = -1) : qtx_W T n N = (v, n, 0) := by
  have e : qtx_ln T n (qtx_E T n N 6) 0 = (1, v, n, 0) := by
    unfold qtx_ln
    rw [h]
    exact if_neg (fun z => absurd (hc.symm.trans z.2) (by decide))
  show qtx_pg T n (qtx_E T n N 6) (120 + 1) 0 0 0 = (v, n, 0)
  rw [qtx_pg_st (by rw [e]; exact fun z => absurd (hc.symm.trans z.2) (by decide)), e]
  show (qtx_ge 0 1 0 v, n, if (0 : Int) = 0 ∧ n ≤ n then (0 : Int) else 1) = (v, n, 0)
  rw [if_pos ⟨rfl, Int.le_refl n⟩]
  rfl

theorem qtW_3 (N : Nat → Int) : qtx_W qT3 4 N = (qtx_ap 38 (N 0) (qtx_ng 33 (N 2)), 4, 0) := by
  obtain ⟨h0, h1, h2, h3⟩ := qT3_v
  have c0 : qtx_c qT3 4 0 = 102 := (if_pos (by decide)).trans h0
  have c1 : qtx_c qT3 4 1 = 38 := (if_pos (by decide)).trans h1
  have c2 : qtx_c qT3 4 2 = 33 := (if_pos (by decide)).trans h2
  have c3 : qtx_c qT3 4 3 = 99 := (if_pos (by decide)).trans h3
  have c4 : qtx_c qT3 4 4 = -1 := if_neg (by decide)
  have o0_6 : qtx_on qT3 4 N 6 0 = (N 0, 1, 0) := by
    rw [qtx_on_o (Or.inr (by rw [c0]; decide)), qtx_oo_n (by rw [c0]; decide), c0]
    rfl
  have o3_5 : qtx_on qT3 4 N 5 3 = (N 2, 4, 0) := by
    rw [qtx_on_o (Or.inr (by rw [c3]; decide)), qtx_oo_n (by rw [c3]; decide), c3]
    rfl
  have u2 : qtx_on qT3 4 N 6 2 = (qtx_ng 33 (N 2), 4, 0) := by
    rw [qtx_on_u (c := 33) (by decide) c2 (Or.inl rfl), show (2 : Int) + 1 = 3 by decide, o3_5]
    rfl
  have l0 : qtx_lv qT3 4 (fun b => qtx_on qT3 4 N 6 b) 3 0 = (N 0, 1, 0) := qlv_5 3 o0_6 (Or.inr (by show qtx_lo (qtx_c qT3 4 1) < _; rw [c1]; decide)) (by decide) 3 (by decide)
  have l2 : qtx_lv qT3 4 (fun b => qtx_on qT3 4 N 6 b) 3 2 = (qtx_ng 33 (N 2), 4, 0) := qlv_5 3 u2 (Or.inr (by show qtx_lo (qtx_c qT3 4 4) < _; rw [c4]; decide)) (by decide) 3 (by decide)
  have m0 : qtx_lv qT3 4 (fun b => qtx_on qT3 4 N 6 b) 4 0 = (qtx_ap 38 (N 0) (qtx_ng 33 (N 2)), 4, 0) := qlv_1 l0 ⟨rfl, by show qtx_lo (qtx_c qT3 4 1) = _; rw [c1]; decide⟩ l2 (by show qtx_cm (qtx_c qT3 4 1) _ _ = _; rw [c1]; rfl) (fun z => absurd (show qtx_lo (qtx_c qT3 4 4) = _ from z.2) (by rw [c4]; decide))
  exact qtW_1 (qlv_o m0 (fun z => absurd (show qtx_lo (qtx_c qT3 4 4) = _ from z.2) (by rw [c4]; decide))) c4
theorem qtW_5 (N : Nat → Int) : qtx_W qT5 5 N = (qtx_ap 38 (qtx_ap 60 (N 8) 2) (N 3), 5, 0) := by
  obtain ⟨h0, h1, h2, h3, h4⟩ := qT5_v
  have c0 : qtx_c qT5 5 0 = 100 := (if_pos (by decide)).trans h0
  have c1 : qtx_c qT5 5 1 = 60 := (if_pos (by decide)).trans h1
  have c2 : qtx_c qT5 5 2 = 50 := (if_pos (by decide)).trans h2
  have c3 : qtx_c qT5 5 3 = 38 := (if_pos (by decide)).trans h3
  have c4 : qtx_c qT5 5 4 = 119 := (if_pos (by decide)).trans h4
  have c5 : qtx_c qT5 5 5 = -1 := if_neg (by decide)
  have o0_6 : qtx_on qT5 5 N 6 0 = (N 8, 1, 0) := by
    rw [qtx_on_o (Or.inr (by rw [c0]; decide)), qtx_oo_n (by rw [c0]; decide), c0]
    rfl
  have o4_6 : qtx_on qT5 5 N 6 4 = (N 3, 5, 0) := by
    rw [qtx_on_o (Or.inr (by rw [c4]; decide)), qtx_oo_n (by rw [c4]; decide), c4]
    rfl
  have u2 : qtx_on qT5 5 N 6 2 = (2, 3, 0) := by
    rw [qtx_on_o (Or.inr (by rw [c2]; decide)), qtx_oo_d (by rw [c2]; decide), qtx_num_go (by rw [c2]; decide), c2, show (2 : Int) + 1 = 3 by decide, qtx_num_st (by rw [c3]; decide)]
    rfl
  have l0 : qtx_lv qT5 5 (fun b => qtx_on qT5 5 N 6 b) 2 0 = (N 8, 1, 0) := qlv_5 2 o0_6 (Or.inr (by show qtx_lo (qtx_c qT5 5 1) < _; rw [c1]; decide)) (by decide) 2 (by decide)
  have l2 : qtx_lv qT5 5 (fun b => qtx_on qT5 5 N 6 b) 2 2 = (2, 3, 0) := qlv_5 2 u2 (Or.inr (by show qtx_lo (qtx_c qT5 5 3) < _; rw [c3]; decide)) (by decide) 2 (by decide)
  have m0 : qtx_lv qT5 5 (fun b => qtx_on qT5 5 N 6 b) 3 0 = (qtx_ap 60 (N 8) 2, 3, 0) := qlv_1 l0 ⟨rfl, by show qtx_lo (qtx_c qT5 5 1) = _; rw [c1]; decide⟩ l2 (by show qtx_cm (qtx_c qT5 5 1) _ _ = _; rw [c1]; rfl) (fun z => absurd (show qtx_lo (qtx_c qT5 5 3) = _ from z.2) (by rw [c3]; decide))
  have l4 : qtx_lv qT5 5 (fun b => qtx_on qT5 5 N 6 b) 3 4 = (N 3, 5, 0) := qlv_5 3 o4_6 (Or.inr (by show qtx_lo (qtx_c qT5 5 5) < _; rw [c5]; decide)) (by decide) 3 (by decide)
  have n0 : qtx_lv qT5 5 (fun b => qtx_on qT5 5 N 6 b) 4 0 = (qtx_ap 38 (qtx_ap 60 (N 8) 2) (N 3), 5, 0) := qlv_1 m0 ⟨rfl, by show qtx_lo (qtx_c qT5 5 3) = _; rw [c3]; decide⟩ l4 (by show qtx_cm (qtx_c qT5 5 3) _ _ = _; rw [c3]; rfl) (fun z => absurd (show qtx_lo (qtx_c qT5 5 5) = _ from z.2) (by rw [c5]; decide))
  exact qtW_1 (qlv_o n0 (fun z => absurd (show qtx_lo (qtx_c qT5 5 5) = _ from z.2) (by rw [c5]; decide))) c5
theorem qAg_3 : qAg (fun N => (qtx_W qT3 4 N).1) (qdf 0) := fun N h0 h3 => by
  have e : (qtx_W qT3 4 N).1 = qtx_ap 38 (N 0) (qtx_ng 33 (N 2)) := by rw [qtW_3 N]
  show (qtx_W qT3 4 N).1 = (if (0 : Int) = 0 then (if N 0 = 1 ∧ N 2 = 0 then 1 else 0) else (if N 8 < 2 ∧ N 3 = 1 then 1 else 0))
  have e2 : qtx_ap 38 (N 0) (qtx_ng 33 (N 2)) = if N 0 = 0 ∨ qtx_ng 33 (N 2) = 0 then 0 else 1 := rfl
  have e3 : qtx_ng 33 (N 2) = if N 2 = 0 then 1 else 0 := rfl
  rw [e, e2, e3, if_pos rfl]
  by_cases c : N 2 = 0
  · rw [if_pos c]
    by_cases d : N 0 = 0
    · rw [if_pos (Or.inl d), if_neg (by omega)]
    · rw [if_neg (by omega), if_pos (by omega)]
  · rw [if_neg c, if_pos (Or.inr rfl), if_neg (by omega)]
theorem qAg_5 : qAg (fun N => (qtx_W qT5 5 N).1) (qdf 1) := fun N h0 h3 => by
  have e : (qtx_W qT5 5 N).1 = qtx_ap 38 (qtx_ap 60 (N 8) 2) (N 3) := by rw [qtW_5 N]
  show (qtx_W qT5 5 N).1 = (if (1 : Int) = 0 then (if N 0 = 1 ∧ N 2 = 0 then 1 else 0) else (if N 8 < 2 ∧ N 3 = 1 then 1 else 0))
  have e2 : qtx_ap 38 (qtx_ap 60 (N 8) 2) (N 3) = if qtx_ap 60 (N 8) 2 = 0 ∨ N 3 = 0 then 0 else 1 := rfl
  have e3 : qtx_ap 60 (N 8) 2 = if N 8 < 2 then 1 else 0 := rfl
  rw [e, e2, e3, if_neg (show ¬ (1 : Int) = 0 by decide)]
  by_cases c : N 8 < 2
  · rw [if_pos c]
    by_cases d : N 3 = 0
    · rw [if_pos (Or.inr d), if_neg (by omega)]
    · rw [if_neg (by omega), if_pos (by omega)]
  · rw [if_neg c, if_pos (Or.inl rfl), if_neg (by omega)]
theorem qdf_9 (u : Int) : ∀ N N' : Nat → Int, (∀ k : Nat, k < 9 → N k = N' k) → qdf u N = qdf u N' := fun N N' h => by
  unfold qdf
  rw [h 0 (by decide), h 2 (by decide), h 8 (by decide), h 3 (by decide)]
theorem qRC_h {cd : Nat → Int} {ln v sz nm : Int} {T : Nat → Int} (hz : ∀ N, (qtx_W T ln N).2.2 = 0) (h : qRt ln T v sz nm cd) : (∃ gi : (Nat → Int) → Int, qtx_Y (fun j => (qz (cd j)).toInt) sz gi (fun N => (qtx_W T ln N).1)) ∧ qDep nm (fun N => (qtx_W T ln N).1) ∧ qCr (fun j => (qz (cd j)).toInt) 0 sz := by
  rcases h with h | h
  · have h2 := qRt_cg (T' := T) (cd' := fun j => (qz (cd j)).toInt) (fun _ _ => rfl) (fun k q1 q2 => by
      have := h.2.2.2.2 k q1 q2
      exact qz_ti (by omega)) (Or.inl h : qRt ln T v sz nm cd)
    rcases h2 with h2 | h2
    · exact ⟨h2.2.2.1, h2.2.2.2.1, h2.2.2.2.2⟩
    · exact False.elim (by have := h.1; have := h2.1; omega)
  · exact absurd ((h.2 (fun _ => 0)).2.symm.trans (hz (fun _ => 0))) (by decide)
theorem qRC_0 {s g : Nat → Nat → Int} (h : qo_cu s g) : qRC (qJ_s s) (qJ_r g) qo_k 82 := by
  obtain ⟨⟨v3, h3⟩, ⟨v5, h5⟩⟩ := h
  have a3 := qRC_h (fun N => by rw [qtW_3 N]) h3
  have a5 := qRC_h (fun N => by rw [qtW_5 N]) h5
  refine ⟨⟨50, 54, rfl, rfl, by decide, by decide, by decide⟩, ⟨_, _, ?_, ⟨fun N => ⟨fun z => absurd (show (0 : Int) ≤ -1 from z) (by decide), fun _ => rfl⟩, qdf_9 0⟩, qAg_3⟩, ⟨_, _, ?_, ⟨fun N => ⟨fun z => absurd (show (0 : Int) ≤ -1 from z) (by decide), fun _ => rfl⟩, qdf_9 1⟩, qAg_5⟩⟩
  · intro c hc _
    have e : c = 50 := (Option.some.inj (show some 50 = some c from hc)).symm
    rw [e]
    obtain ⟨⟨gi, y⟩, d, q⟩ := a3
    exact ⟨gi, y, d, q⟩
  · intro c hc _
    have e : c = 54 := (Option.some.inj (show some 54 = some c from hc)).symm
    rw [e]
    obtain ⟨⟨gi, y⟩, d, q⟩ := a5
    exact ⟨gi, y, d, q⟩
