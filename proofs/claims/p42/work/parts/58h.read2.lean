/-! the readers of texts, exactly -/
theorem qtx_b1 : ∀ c : Fin 256, qz_i2c ((c : Nat) : Int) = ((c : Nat) : Int) ∧ qz_i2b ((c : Nat) : Int) = (if (c : Nat) < 128 then ((c : Nat) : Int) else ((c : Nat) : Int) - 256) := by decide +kernel
theorem qtx_b2 {c : Int} (h : 0 ≤ c ∧ c ≤ 255) : qz_i2c c = c ∧ ((c < 128 ∧ qz_i2b c = c) ∨ (128 ≤ c ∧ qz_i2b c = c - 256)) := by
  have h1 := qtx_b1 ⟨c.toNat, by omega⟩
  have e : ((c.toNat : Nat) : Int) = c := by omega
  have h2 : qz_i2c ((c.toNat : Nat) : Int) = ((c.toNat : Nat) : Int) := h1.1
  have h3 : qz_i2b ((c.toNat : Nat) : Int) = (if c.toNat < 128 then ((c.toNat : Nat) : Int) else ((c.toNat : Nat) : Int) - 256) := h1.2
  rw [e] at h2 h3
  refine ⟨h2, ?_⟩
  by_cases k : c.toNat < 128
  · rw [if_pos k] at h3; exact Or.inl ⟨by omega, h3⟩
  · rw [if_neg k] at h3; exact Or.inr ⟨by omega, h3⟩
theorem qtx_c_b {t : Nat → Int} {ln a : Int} (hb : ∀ j : Nat, (j : Int) < ln → 0 ≤ t j ∧ t j ≤ 255) (h : 0 ≤ a) : -1 ≤ qtx_c t ln a ∧ qtx_c t ln a ≤ 255 := by
  have hc := qtx_c_c t ln a
  by_cases k : a < ln
  · have := hb a.toNat (by omega)
    omega
  · omega
def qtx_is (c v : Int) : Prop := (0 ≤ v ∧ v ≤ 8 ∧ (qe_bytes 4).getD v.toNat 0 = qz_i2b c) ∨ (v = -1 ∧ ∀ j : Nat, j < 9 → ¬ (qe_bytes 4).getD j 0 = qz_i2b c)
theorem qtx_is_nm {c v : Int} (h : 0 ≤ c ∧ c ≤ 255) (hv : qtx_is c v) : v = qtx_nm c := by
  have hb := (qtx_b2 h).2
  have hn := qtx_nm_c c
  rcases hv with ⟨h1, h2, h3⟩ | ⟨h1, h2⟩
  · obtain ⟨m, rfl⟩ : ∃ m : Nat, v = m := ⟨v.toNat, by omega⟩
    have hm : m = 0 ∨ m = 1 ∨ m = 2 ∨ m = 3 ∨ m = 4 ∨ m = 5 ∨ m = 6 ∨ m = 7 ∨ m = 8 := by omega
    rcases hm with rfl | rfl | rfl | rfl | rfl | rfl | rfl | rfl | rfl
    · have e : (102 : Int) = qz_i2b c := h3
      omega
    · have e : (110 : Int) = qz_i2b c := h3
      omega
    · have e : (99 : Int) = qz_i2b c := h3
      omega
    · have e : (119 : Int) = qz_i2b c := h3
      omega
    · have e : (118 : Int) = qz_i2b c := h3
      omega
    · have e : (108 : Int) = qz_i2b c := h3
      omega
    · have e : (107 : Int) = qz_i2b c := h3
      omega
    · have e : (111 : Int) = qz_i2b c := h3
      omega
    · have e : (100 : Int) = qz_i2b c := h3
      omega
  · have g0 : ¬ (102 : Int) = qz_i2b c := h2 0 (by decide)
    have g1 : ¬ (110 : Int) = qz_i2b c := h2 1 (by decide)
    have g2 : ¬ (99 : Int) = qz_i2b c := h2 2 (by decide)
    have g3 : ¬ (119 : Int) = qz_i2b c := h2 3 (by decide)
    have g4 : ¬ (118 : Int) = qz_i2b c := h2 4 (by decide)
    have g5 : ¬ (108 : Int) = qz_i2b c := h2 5 (by decide)
    have g6 : ¬ (107 : Int) = qz_i2b c := h2 6 (by decide)
    have g7 : ¬ (111 : Int) = qz_i2b c := h2 7 (by decide)
    have g8 : ¬ (100 : Int) = qz_i2b c := h2 8 (by decide)
    omega

set_option maxHeartbeats 4000000 in
set_option maxRecDepth 20000 in
theorem spx_cen {X : qm_X} {d : Nat} {w : qm_W} {a : Int} (ra : 0 ≤ a ∧ a ≤ 255)  : qm_T X (d + 1) 29 [.int (qz a)] (w) (fun r w' => w' = w ∧ ∃ v : Int, r = some (.int (qz v)) ∧ v = 1) := by
  refine qr_start (d := d + 0) qv_e29 (Nat.le_of_ble_eq_true rfl) ?_
  show qr_W X (d + 0) qx_e29 _ (0, [(0, .int (qz a))], [], w, 0, 0)
  refine qr_iload_n 1 rfl rfl rfl ?_
  refine qr_if_lt 15 4 rfl rfl rfl (by omega) (fun h1 => ?_) (fun h1 => ?_)
  · exact False.elim (by omega)
  · skip
    refine qr_iload_n 5 rfl rfl rfl ?_
    refine qr_sipush 8 rfl (by decide) rfl ?_
    refine qr_icmp_gt 15 11 rfl rfl rfl (by omega) (by omega) (fun h2 => ?_) (fun h2 => ?_)
    · exact False.elim (by omega)
    · skip
      refine qr_iconst 12 rfl rfl ?_
      refine qr_goto 16 rfl rfl ?_
      refine qr_retZ rfl rfl (by omega) (by decide) (by decide) ?_
      exact ⟨rfl, _, rfl, by omega⟩
set_option maxHeartbeats 4000000 in
set_option maxRecDepth 20000 in
theorem spx_ixc {L : Nat} {xs : Nat → Int} {vb : Bool} {d : Nat} {w : qm_W} {c : Int} (rc : 0 ≤ c ∧ c ≤ 255)  : qm_T (qe L xs vb) (d + 1) 31 [.ref 8, .int (qz c), .int (qz 0), .int (qz 9)] (w) (fun r w' => w' = w ∧ ∃ v : Int, r = some (.int (qz v)) ∧ qtx_is c v) := by
  refine qr_start (d := d + 0) qv_e31 (Nat.le_of_ble_eq_true rfl) ?_
  show qr_W (qe L xs vb) (d + 0) qx_e31 _ (0, [(0, .ref 8), (1, .int (qz c)), (2, .int (qz 0)), (3, .int (qz 9))], [], w, 0, 0)
  refine qr_iload_n 1 rfl rfl rfl ?_
  refine qr_i2b 2 rfl rfl ?_
  refine qr_topI (fun b hb => ?_)
  have rb : -2147483648 ≤ b ∧ b ≤ 2147483647 := by rw [hb]; exact qz_i2b_r _
  refine qr_istore [(4, .int (qz b)), (0, .ref 8), (1, .int (qz c)), (2, .int (qz 0)), (3, .int (qz 9))] 4 rfl (by decide) rfl rfl ?_
  refine qr_iload_n 5 rfl rfl rfl ?_
  refine qr_istore [(5, .int (qz 0)), (4, .int (qz b)), (0, .ref 8), (1, .int (qz c)), (2, .int (qz 0)), (3, .int (qz 9))] 7 rfl (by decide) rfl rfl ?_
  have loop : ∀ (n : Nat) (i : Int), 0 ≤ i ∧ i ≤ 9 → 9 - i < n → (∀ j : Nat, (j : Int) < i → ¬ (qe_bytes 4).getD j 0 = b) → qr_W (qe L xs vb) (d + 0) qx_e31 (fun r w' => w' = w ∧ ∃ v : Int, r = some (.int (qz v)) ∧ qtx_is c v) (7, [(5, .int (qz i)), (4, .int (qz b)), (0, .ref 8), (1, .int (qz c)), (2, .int (qz 0)), (3, .int (qz 9))], [], w, 0, 0) := by
    intro n
    induction n with
    | zero => intro i h1 h2 hq; omega
    | succ n ih =>
      intro i h1 h2 hq
      refine qr_iload 9 rfl rfl rfl ?_
      refine qr_iload_n 10 rfl rfl rfl ?_
      refine qr_icmp_ge 31 13 rfl rfl rfl (by omega) (by omega) (fun h3 => ?_) (fun h3 => ?_)
      · refine qr_iconst 32 rfl rfl ?_
        refine qr_retI rfl rfl (Nat.zero_le _) (Nat.zero_le _) ?_
        exact ⟨rfl, -1, rfl, Or.inr ⟨rfl, fun j hj => by rw [← hb]; exact hq j (by omega)⟩⟩
      · refine qr_aload_n 14 rfl rfl rfl ?_
        refine qr_iload 16 rfl rfl rfl ?_
        refine qr_bbload 17 rfl (by decide) rfl (by omega) (by decide) rfl ?_
        refine qr_topI (fun y hy => ?_)
        have ry : -2147483648 ≤ y ∧ y ≤ 2147483647 := by
          have h5 : ∀ k : Nat, k < 9 → -2147483648 ≤ (qe_bytes 4).getD k 0 ∧ (qe_bytes 4).getD k 0 ≤ 2147483647 := by decide +kernel
          rw [hy]
          exact h5 _ (by omega)
        refine qr_iload 19 rfl rfl rfl ?_
        refine qr_icmp_ne 25 22 rfl rfl rfl (by omega) (by omega) (fun h4 => ?_) (fun h4 => ?_)
        · refine qr_iincG (fun u => [(5, .int (qz u)), (4, .int (qz b)), (0, .ref 8), (1, .int (qz c)), (2, .int (qz 0)), (3, .int (qz 9))]) 28 rfl rfl (by decide) (fun _ => rfl) rfl (fun u hu => ?_)
          refine qr_goto 7 rfl rfl ?_
          refine ih u (by omega) (by omega) (fun j hj => ?_)
          by_cases e : j = i.toNat
          · rw [e, ← hy]; omega
          · exact hq j (by omega)
        · refine qr_iload 24 rfl rfl rfl ?_
          refine qr_retI rfl rfl (Nat.zero_le _) (Nat.zero_le _) ?_
          exact ⟨rfl, i, rfl, Or.inl ⟨by omega, by omega, by rw [← hb, ← hy]; omega⟩⟩
  exact loop 10 0 (by omega) (by omega) (fun j hj => False.elim (by omega))
set_option maxHeartbeats 4000000 in
set_option maxRecDepth 20000 in
theorem spx_lix {L : Nat} {xs : Nat → Int} {vb : Bool} {d : Nat} {w : qm_W} {c : Int} (rc : 0 ≤ c ∧ c ≤ 255)  : qm_T (qe L xs vb) (d + 2) 28 [.ref 8, .int (qz c), .int (qz 0), .int (qz 9)] (w) (fun r w' => w' = w ∧ ∃ v : Int, r = some (.int (qz v)) ∧ qtx_is c v) := by
  refine qr_start (d := d + 1) qv_e28 (Nat.le_of_ble_eq_true rfl) ?_
  show qr_W (qe L xs vb) (d + 1) qx_e28 _ (0, [(0, .ref 8), (1, .int (qz c)), (2, .int (qz 0)), (3, .int (qz 9))], [], w, 0, 0)
  refine qr_iload_n 1 rfl rfl rfl ?_
  refine qr_callN 4 rfl rfl rfl (spx_cen rc) ?_
  rintro _ _ ⟨rfl, b, rfl, hb⟩
  simp only [Option.toList, List.drop, List.cons_append, List.nil_append]
  refine qr_if_ne 9 7 rfl rfl rfl (by omega) (fun h1 => ?_) (fun h1 => ?_)
  · refine qr_iload_n 10 rfl rfl rfl ?_
    refine qr_iconst 11 rfl rfl ?_
    refine qr_callN 14 rfl rfl rfl (sp_mmax (by decide) (by decide)) ?_
    rintro _ _ ⟨rfl, b2, rfl, hb2⟩
    simp only [Option.toList, List.drop, List.cons_append, List.nil_append]
    have e2 : b2 = 0 := by omega
    subst e2
    refine qr_istore_n [(2, .int (qz 0)), (0, .ref 8), (1, .int (qz c)), (3, .int (qz 9))] 15 rfl (by decide) rfl rfl ?_
    refine qr_iload_n 16 rfl rfl rfl ?_
    refine qr_aload_n 17 rfl rfl rfl ?_
    refine qr_alen 18 rfl rfl (Or.inl (by decide)) rfl ?_
    refine qr_callN 21 rfl rfl rfl (sp_mmin (by decide) (by omega)) ?_
    rintro _ _ ⟨rfl, b3, rfl, hb3⟩
    simp only [Option.toList, List.drop, List.cons_append, List.nil_append]
    have e3 : b3 = 9 := by omega
    subst e3
    refine qr_istore_n [(3, .int (qz 9)), (2, .int (qz 0)), (0, .ref 8), (1, .int (qz c))] 22 rfl (by decide) rfl rfl ?_
    refine qr_iload_n 23 rfl rfl rfl ?_
    refine qr_iload_n 24 rfl rfl rfl ?_
    refine qr_icmp_lt 29 27 rfl rfl rfl (by omega) (by omega) (fun h2 => ?_) (fun h2 => ?_)
    · refine qr_aload_n 30 rfl rfl rfl ?_
      refine qr_iload_n 31 rfl rfl rfl ?_
      refine qr_iload_n 32 rfl rfl rfl ?_
      refine qr_iload_n 33 rfl rfl rfl ?_
      refine qr_callN 36 rfl rfl rfl (spx_ixc rc) ?_
      rintro _ _ ⟨rfl, v, rfl, hv⟩
      simp only [Option.toList, List.drop, List.cons_append, List.nil_append]
      refine qr_retI rfl rfl (Nat.zero_le _) (Nat.zero_le _) ?_
      exact ⟨rfl, _, rfl, hv⟩
    · exact False.elim (by omega)
  · exact False.elim (by omega)
set_option maxHeartbeats 4000000 in
set_option maxRecDepth 20000 in
theorem spx_six {L : Nat} {xs : Nat → Int} {vb : Bool} {d : Nat} {w : qm_W} {c : Int} (rc : 0 ≤ c ∧ c ≤ 255)  : qm_T (qe L xs vb) (d + 3) 27 [.ref 4, .int (qz c), .int (qz 0)] (w) (fun r w' => w' = w ∧ ∃ v : Int, r = some (.int (qz v)) ∧ qtx_is c v) := by
  refine qr_start (d := d + 2) qv_e27 (Nat.le_of_ble_eq_true rfl) ?_
  show qr_W (qe L xs vb) (d + 2) qx_e27 _ (0, [(0, .ref 4), (1, .int (qz c)), (2, .int (qz 0))], [], w, 0, 0)
  refine qr_aload_n 1 rfl rfl rfl ?_
  refine qr_callN 4 rfl rfl rfl (sp_lat4) ?_
  rintro _ _ ⟨rfl, rfl⟩
  simp only [Option.toList, List.drop, List.cons_append, List.nil_append]
  refine qr_if_eq (a := 1) 23 7 rfl rfl rfl (by decide) (fun h => absurd h (by decide)) (fun _ => ?_)
  refine qr_aload_n 8 rfl rfl rfl ?_
  refine qr_get 11 rfl rfl rfl (by decide) rfl ?_
  refine qr_iload_n 12 rfl rfl rfl ?_
  refine qr_iload_n 13 rfl rfl rfl ?_
  refine qr_aload_n 14 rfl rfl rfl ?_
  refine qr_callN 17 rfl rfl rfl (sp_len4) ?_
  rintro _ _ ⟨rfl, rfl⟩
  simp only [Option.toList, List.drop, List.cons_append, List.nil_append]
  refine qr_callN 20 rfl rfl rfl (spx_lix rc) ?_
  rintro _ _ ⟨rfl, v, rfl, hv⟩
  simp only [Option.toList, List.drop, List.cons_append, List.nil_append]
  refine qr_goto 36 rfl rfl ?_
  refine qr_retI rfl rfl (Nat.zero_le _) (Nat.zero_le _) ?_
  exact ⟨rfl, _, rfl, hv⟩
set_option maxHeartbeats 4000000 in
set_option maxRecDepth 20000 in
theorem spx_ix {L : Nat} {xs : Nat → Int} {vb : Bool} {d : Nat} {w : qm_W} {c : Int} (rc : 0 ≤ c ∧ c ≤ 255)  : qm_T (qe L xs vb) (d + 4) 26 [.ref 4, .int (qz c)] (w) (fun r w' => w' = w ∧ ∃ v : Int, r = some (.int (qz v)) ∧ qtx_is c v) := by
  refine qr_start (d := d + 3) qv_e26 (Nat.le_of_ble_eq_true rfl) ?_
  show qr_W (qe L xs vb) (d + 3) qx_e26 _ (0, [(0, .ref 4), (1, .int (qz c))], [], w, 0, 0)
  refine qr_aload_n 1 rfl rfl rfl ?_
  refine qr_iload_n 2 rfl rfl rfl ?_
  refine qr_iconst 3 rfl rfl ?_
  refine qr_callN 6 rfl rfl rfl (spx_six rc) ?_
  rintro _ _ ⟨rfl, v, rfl, hv⟩
  simp only [Option.toList, List.drop, List.cons_append, List.nil_append]
  refine qr_retI rfl rfl (Nat.zero_le _) (Nat.zero_le _) ?_
  exact ⟨rfl, _, rfl, hv⟩
set_option maxHeartbeats 4000000 in
set_option maxRecDepth 20000 in
theorem spx_isDigit {X : qm_X} {d : Nat} {w : qm_W} {s : Int} (rs : -2147483648 ≤ s ∧ s ≤ 2147483647)  : qm_T X (d + 1) 23 [.int (qz s)] (w) (fun r w' => w' = w ∧ ∃ b : Int, r = some (.int (qz b)) ∧ ((b = 1 ∧ 48 ≤ s ∧ s ≤ 57) ∨ (b = 0 ∧ ¬ (48 ≤ s ∧ s ≤ 57)))) := by
  refine qr_start (d := d + 0) qv_e23 (Nat.le_of_ble_eq_true rfl) ?_
  show qr_W X (d + 0) qx_e23 _ (0, [(0, .int (qz s))], [], w, 0, 0)
  refine qr_iload_n 1 rfl rfl rfl ?_
  refine qr_bipush 3 rfl (by decide) rfl ?_
  refine qr_icmp_lt 16 6 rfl rfl rfl (by omega) (by omega) (fun h1 => ?_) (fun h1 => ?_)
  · skip
    refine qr_iconst 17 rfl rfl ?_
    refine qr_retZ rfl rfl (by omega) (Nat.zero_le _) (Nat.zero_le _) ?_
    exact ⟨rfl, _, rfl, by omega⟩
  · skip
    refine qr_iload_n 7 rfl rfl rfl ?_
    refine qr_bipush 9 rfl (by decide) rfl ?_
    refine qr_icmp_gt 16 12 rfl rfl rfl (by omega) (by omega) (fun h2 => ?_) (fun h2 => ?_)
    · skip
      refine qr_iconst 17 rfl rfl ?_
      refine qr_retZ rfl rfl (by omega) (Nat.zero_le _) (Nat.zero_le _) ?_
      exact ⟨rfl, _, rfl, by omega⟩
    · skip
      refine qr_iconst 13 rfl rfl ?_
      refine qr_goto 17 rfl rfl ?_
      refine qr_retZ rfl rfl (by omega) (Nat.zero_le _) (Nat.zero_le _) ?_
      exact ⟨rfl, _, rfl, by omega⟩
set_option maxHeartbeats 4000000 in
set_option maxRecDepth 20000 in
theorem spx_levelOf {X : qm_X} {d : Nat} {w : qm_W} {s : Int} (rs : -2147483648 ≤ s ∧ s ≤ 2147483647)  : qm_T X (d + 1) 33 [.int (qz s)] (w) (fun r w' => w' = w ∧ ∃ b : Int, r = some (.int (qz b)) ∧ b = qtx_lo s) := by
  refine qr_start (d := d + 0) qv_e33 (Nat.le_of_ble_eq_true rfl) ?_
  show qr_W X (d + 0) qx_e33 _ (0, [(0, .int (qz s))], [], w, 0, 0)
  refine qr_iload_n 1 rfl rfl rfl ?_
  by_cases k1 : (37 : Int) = s
  · refine qr_look (off := 99) 100 rfl (by omega) (by decide) (by rw [← k1] <;> decide) rfl ?_
    refine qr_iconst 101 rfl rfl ?_
    refine qr_retI rfl rfl (Nat.zero_le _) (Nat.zero_le _) ?_
    exact ⟨rfl, _, rfl, by have hq := qtx_lo_c s; omega⟩
  by_cases k2 : (38 : Int) = s
  · refine qr_look (off := 93) 94 rfl (by omega) (by decide) (by rw [← k2] <;> decide) rfl ?_
    refine qr_iconst 95 rfl rfl ?_
    refine qr_retI rfl rfl (Nat.zero_le _) (Nat.zero_le _) ?_
    exact ⟨rfl, _, rfl, by have hq := qtx_lo_c s; omega⟩
  by_cases k3 : (42 : Int) = s
  · refine qr_look (off := 99) 100 rfl (by omega) (by decide) (by rw [← k3] <;> decide) rfl ?_
    refine qr_iconst 101 rfl rfl ?_
    refine qr_retI rfl rfl (Nat.zero_le _) (Nat.zero_le _) ?_
    exact ⟨rfl, _, rfl, by have hq := qtx_lo_c s; omega⟩
  by_cases k4 : (43 : Int) = s
  · refine qr_look (off := 97) 98 rfl (by omega) (by decide) (by rw [← k4] <;> decide) rfl ?_
    refine qr_iconst 99 rfl rfl ?_
    refine qr_retI rfl rfl (Nat.zero_le _) (Nat.zero_le _) ?_
    exact ⟨rfl, _, rfl, by have hq := qtx_lo_c s; omega⟩
  by_cases k5 : (45 : Int) = s
  · refine qr_look (off := 97) 98 rfl (by omega) (by decide) (by rw [← k5] <;> decide) rfl ?_
    refine qr_iconst 99 rfl rfl ?_
    refine qr_retI rfl rfl (Nat.zero_le _) (Nat.zero_le _) ?_
    exact ⟨rfl, _, rfl, by have hq := qtx_lo_c s; omega⟩
  by_cases k6 : (47 : Int) = s
  · refine qr_look (off := 99) 100 rfl (by omega) (by decide) (by rw [← k6] <;> decide) rfl ?_
    refine qr_iconst 101 rfl rfl ?_
    refine qr_retI rfl rfl (Nat.zero_le _) (Nat.zero_le _) ?_
    exact ⟨rfl, _, rfl, by have hq := qtx_lo_c s; omega⟩
  by_cases k7 : (60 : Int) = s
  · refine qr_look (off := 95) 96 rfl (by omega) (by decide) (by rw [← k7] <;> decide) rfl ?_
    refine qr_iconst 97 rfl rfl ?_
    refine qr_retI rfl rfl (Nat.zero_le _) (Nat.zero_le _) ?_
    exact ⟨rfl, _, rfl, by have hq := qtx_lo_c s; omega⟩
  by_cases k8 : (61 : Int) = s
  · refine qr_look (off := 95) 96 rfl (by omega) (by decide) (by rw [← k8] <;> decide) rfl ?_
    refine qr_iconst 97 rfl rfl ?_
    refine qr_retI rfl rfl (Nat.zero_le _) (Nat.zero_le _) ?_
    exact ⟨rfl, _, rfl, by have hq := qtx_lo_c s; omega⟩
  by_cases k9 : (62 : Int) = s
  · refine qr_look (off := 95) 96 rfl (by omega) (by decide) (by rw [← k9] <;> decide) rfl ?_
    refine qr_iconst 97 rfl rfl ?_
    refine qr_retI rfl rfl (Nat.zero_le _) (Nat.zero_le _) ?_
    exact ⟨rfl, _, rfl, by have hq := qtx_lo_c s; omega⟩
  by_cases k10 : (124 : Int) = s
  · refine qr_look (off := 91) 92 rfl (by omega) (by decide) (by rw [← k10] <;> decide) rfl ?_
    refine qr_iconst 93 rfl rfl ?_
    refine qr_retI rfl rfl (Nat.zero_le _) (Nat.zero_le _) ?_
    exact ⟨rfl, _, rfl, by have hq := qtx_lo_c s; omega⟩
  refine qr_look (off := 101) 102 rfl (by omega) (by decide) (by simp [Op.lookupswitch.offset_cons, Op.lookupswitch.offset_nil, k1, k2, k3, k4, k5, k6, k7, k8, k9, k10]) rfl ?_
  refine qr_iconst 103 rfl rfl ?_
  refine qr_retI rfl rfl (Nat.zero_le _) (Nat.zero_le _) ?_
  exact ⟨rfl, _, rfl, by have hq := qtx_lo_c s; omega⟩
set_option maxHeartbeats 4000000 in
set_option maxRecDepth 20000 in
theorem spx_next {X : qm_X} {d : Nat} {w : qm_W} {a : Nat} {ln at_ sz nm sk : Int} {t cd : Nat → Int} (hi : qc_in w a) (ht : ∀ j, -2147483648 ≤ t j ∧ t j ≤ 2147483647) (hl : 0 ≤ ln ∧ ln ≤ 120) (h0 : 0 ≤ at_ ∧ at_ ≤ ln ∧ 0 ≤ sz ∧ sz ≤ 122 ∧ -2147483648 ≤ nm ∧ nm ≤ 2147483647 ∧ (sk = 0 ∨ sk = 1))  : qm_T X (d + 1) 22 [.ref a] (qc w a ln at_ sz nm sk t cd) (fun r w' => w' = qc w a ln at_ sz nm sk t cd ∧ ∃ b : Int, r = some (.int (qz b)) ∧ (-2147483648 ≤ b ∧ b ≤ 2147483647) ∧ b = qtx_c t ln at_) := by
  refine qr_start (d := d + 0) qv_e22 (Nat.le_of_ble_eq_true rfl) ?_
  show qr_W X (d + 0) qx_e22 _ (0, [(0, .ref a)], [], qc w a ln at_ sz nm sk t cd, 0, 0)
  refine qr_aload_n 1 rfl rfl rfl ?_
  refine qr_cget4 hi 4 rfl rfl ?_
  refine qr_aload_n 5 rfl rfl rfl ?_
  refine qr_cget3 hi 8 rfl rfl ?_
  refine qr_icmp_ge 23 11 rfl rfl rfl (by omega) (by omega) (fun h1 => ?_) (fun h1 => ?_)
  · skip
    refine qr_iconst 24 rfl rfl ?_
    refine qr_retI rfl rfl (Nat.zero_le _) (Nat.zero_le _) ?_
    exact ⟨rfl, _, rfl, by omega, by have hq := qtx_c_c t ln at_; omega⟩
  · skip
    refine qr_aload_n 12 rfl rfl rfl ?_
    refine qr_cget0 hi 15 rfl rfl ?_
    refine qr_aload_n 16 rfl rfl rfl ?_
    refine qr_cget4 hi 19 rfl rfl ?_
    refine qr_ctload hi 20 rfl (by omega) rfl ?_
    refine qr_topI (fun v2 hv2 => ?_)
    have rv2 : -2147483648 ≤ v2 ∧ v2 ≤ 2147483647 := by rw [hv2]; exact ht _
    refine qr_goto 24 rfl rfl ?_
    refine qr_retI rfl rfl (Nat.zero_le _) (Nat.zero_le _) ?_
    exact ⟨rfl, _, rfl, by omega, by have hq := qtx_c_c t ln at_; omega⟩
set_option maxHeartbeats 4000000 in
set_option maxRecDepth 20000 in
theorem spx_emit {X : qm_X} {d : Nat} {w : qm_W} {a : Nat} {ln at_ sz nm sk : Int} {t cd : Nat → Int} (hi : qc_in w a) (hs : 0 ≤ sz ∧ sz ≤ 121) {s u : Int} (rs : 0 ≤ s ∧ s ≤ 126) (ru : 0 ≤ u ∧ u < 65536) : qm_T X (d + 1) 25 [.ref a, .int (qz s), .int (qz u)] (qc w a ln at_ sz nm sk t cd) (fun r w' => r = some (.int (qz sz)) ∧ w' = qc w a ln at_ (sz + 1) nm sk t (qzu cd (sz : Int).toNat (s * 65536 + u))) := by
  refine qr_start (d := d + 0) qv_e25 (Nat.le_of_ble_eq_true rfl) ?_
  show qr_W X (d + 0) qx_e25 _ (0, [(0, .ref a), (1, .int (qz s)), (2, .int (qz u))], [], qc w a ln at_ sz nm sk t cd, 0, 0)
  refine qr_aload_n 1 rfl rfl rfl ?_
  refine qr_cget5 hi 4 rfl rfl ?_
  refine qr_aload_n 5 rfl rfl rfl ?_
  refine qr_cget1 hi 8 rfl rfl ?_
  refine qr_cclen hi 9 rfl rfl ?_
  refine qr_icmp_lt 14 12 rfl rfl rfl (by omega) (by omega) (fun h1 => ?_) (fun h1 => False.elim (by omega))
  refine qr_aload_n 15 rfl rfl rfl ?_
  refine qr_cget1 hi 18 rfl rfl ?_
  refine qr_aload_n 19 rfl rfl rfl ?_
  refine qr_cget5 hi 22 rfl rfl ?_
  refine qr_iload_n 23 rfl rfl rfl ?_
  refine qr_bipush 25 rfl (by decide) rfl ?_
  refine qr_ishl 26 rfl rfl ?_
  refine qr_iload_n 27 rfl rfl rfl ?_
  refine qr_ior 28 rfl rfl ?_
  refine qr_topI (fun v hv => ?_)
  have ev : v = s * 65536 + u := by
    rw [hv]
    have e : qz_or (qz_shl s 16) u = s * 65536 + u := qtx_em rs ru
    exact e
  subst ev
  refine qr_ccstore hi 29 rfl (by omega) rfl ?_
  refine qr_aload_n 30 rfl rfl rfl ?_
  refine qr_dup 31 rfl rfl rfl ?_
  refine qr_cget5 hi 34 rfl rfl ?_
  refine qr_dup_x1 35 rfl rfl rfl rfl ?_
  refine qr_iconst 36 rfl rfl ?_
  refine qr_iadd 37 rfl rfl ?_
  refine qr_cput5 hi 40 rfl rfl ?_
  refine qr_retI rfl rfl (Nat.zero_le _) (Nat.zero_le _) ?_
  exact ⟨rfl, rfl⟩
set_option maxHeartbeats 4000000 in
set_option maxRecDepth 20000 in
theorem spx_pass {X : qm_X} {d : Nat} {w : qm_W} {a : Nat} {ln at_ sz nm sk : Int} {t cd : Nat → Int} (hi : qc_in w a) (ht : ∀ j, -2147483648 ≤ t j ∧ t j ≤ 2147483647) (hl : 0 ≤ ln ∧ ln ≤ 120) (h0 : 0 ≤ at_ ∧ at_ ≤ ln ∧ 0 ≤ sz ∧ sz ≤ 122 ∧ -2147483648 ≤ nm ∧ nm ≤ 2147483647 ∧ (sk = 0 ∨ sk = 1)) {s : Int} (rs : 0 ≤ s ∧ s ≤ 2147483647) : qm_T X (d + 2) 32 [.ref a, .int (qz s)] (qc w a ln at_ sz nm sk t cd) (fun r w' => r = none ∧ ∃ at2 sk2 : Int, w' = qc w a ln at2 sz nm sk2 t cd ∧ ((sk = 0 ∧ qtx_c t ln at_ = s ∧ at2 = at_ + 1 ∧ sk2 = 0) ∨ (¬ (sk = 0 ∧ qtx_c t ln at_ = s) ∧ at2 = at_ ∧ sk2 = 1))) := by
  refine qr_start (d := d + 1) qv_e32 (Nat.le_of_ble_eq_true rfl) ?_
  show qr_W X (d + 1) qx_e32 _ (0, [(0, .ref a), (1, .int (qz s))], [], qc w a ln at_ sz nm sk t cd, 0, 0)
  refine qr_aload_n 1 rfl rfl rfl ?_
  refine qr_cget7 hi 4 rfl rfl ?_
  refine qr_if_ne 15 7 rfl rfl rfl (by omega) (fun h1 => ?_) (fun h1 => ?_)
  · skip
    refine qr_aload_n 16 rfl rfl rfl ?_
    refine qr_iconst 17 rfl rfl ?_
    refine qr_cput7 hi (by omega) 20 rfl rfl ?_
    refine qr_goto 33 rfl rfl ?_
    refine qr_retV rfl rfl (Nat.zero_le _) (Nat.zero_le _) ?_
    exact ⟨rfl, _, _, rfl, by omega⟩
  · skip
    refine qr_aload_n 8 rfl rfl rfl ?_
    refine qr_ccall (as := []) (rest := []) hi 11 rfl rfl (Nat.le_of_ble_eq_true rfl) rfl rfl (spx_next hi ht hl (by omega)) ?_
    rintro _ _ ⟨rfl, b2, rfl, hb3, hc3⟩
    simp only [Option.toList, List.cons_append, List.nil_append]
    refine qr_iload_n 12 rfl rfl rfl ?_
    refine qr_icmp_eq 23 15 rfl rfl rfl (by omega) (by omega) (fun h4 => ?_) (fun h4 => ?_)
    · skip
      refine qr_aload_n 24 rfl rfl rfl ?_
      refine qr_dup 25 rfl rfl rfl ?_
      refine qr_cget4 hi 28 rfl rfl ?_
      refine qr_iconst 29 rfl rfl ?_
      refine qr_iadd 30 rfl rfl ?_
      refine qr_cput4 hi 33 rfl rfl ?_
      refine qr_retV rfl rfl (Nat.zero_le _) (Nat.zero_le _) ?_
      have h7 : sk = 0 := by omega
      subst h7
      exact ⟨rfl, _, _, rfl, by omega⟩
    · skip
      refine qr_aload_n 16 rfl rfl rfl ?_
      refine qr_iconst 17 rfl rfl ?_
      refine qr_cput7 hi (by omega) 20 rfl rfl ?_
      refine qr_goto 33 rfl rfl ?_
      refine qr_retV rfl rfl (Nat.zero_le _) (Nat.zero_le _) ?_
      exact ⟨rfl, _, _, rfl, by omega⟩
set_option maxHeartbeats 4000000 in
set_option maxRecDepth 20000 in
theorem spx_readNumber {X : qm_X} {d : Nat} {w : qm_W} {a : Nat} {ln at_ sz nm : Int} {t cd : Nat → Int} (hi : qc_in w a) (ht : ∀ j, -2147483648 ≤ t j ∧ t j ≤ 2147483647) (hb : ∀ j : Nat, (j : Int) < ln → 0 ≤ t j ∧ t j ≤ 255) (hl : 0 ≤ ln ∧ ln ≤ 120) (h0 : 0 ≤ at_ ∧ at_ ≤ ln ∧ 0 ≤ sz ∧ sz + ln - at_ ≤ 121 ∧ -2147483648 ≤ nm ∧ nm ≤ 2147483647) : qm_T X (d + 2) 24 [.ref a] (qc w a ln at_ sz nm 0 t cd) (fun r w' => r = none ∧ w' = qc w a ln (qtx_num t ln 4 0 at_).2 (sz + 1) nm 0 t (qzu cd (sz : Int).toNat (48 * 65536 + (qtx_num t ln 4 0 at_).1))) := by
  refine qr_start (d := d + 1) qv_e24 (Nat.le_of_ble_eq_true rfl) ?_
  show qr_W X (d + 1) qx_e24 _ (0, [(0, .ref a)], [], qc w a ln at_ sz nm 0 t cd, 0, 0)
  have hnb := qtx_num_b (T := t) (n := ln) 4 0 at_ (by omega) (by omega)
  have hpp : qtx_p 4 = 10000 := by decide
  have loop : ∀ (n : Nat) (i u at1 : Int), (i + n = 4 ∧ 0 ≤ i) → (0 ≤ at1 ∧ at1 ≤ ln ∧ 0 ≤ u) → qtx_num t ln 4 0 at_ = qtx_num t ln n u at1 → qr_W X (d + 1) qx_e24 (fun r w' => r = none ∧ w' = qc w a ln (qtx_num t ln 4 0 at_).2 (sz + 1) nm 0 t (qzu cd (sz : Int).toNat (48 * 65536 + (qtx_num t ln 4 0 at_).1))) (4, [(2, .int (qz i)), (1, .int (qz u)), (0, .ref a)], [], qc w a ln at1 sz nm 0 t cd, 0, 0) := by
    intro n
    induction n with
    | zero =>
      intro i u at1 hi4 h1 hq
      have hi5 : i = 4 := by omega
      subst hi5
      have hu : (qtx_num t ln 4 0 at_).1 = u := by rw [hq]; rfl
      refine qr_iload_n 5 rfl rfl rfl ?_
      refine qr_iconst 6 rfl rfl ?_
      refine qr_icmp_ge 48 9 rfl rfl rfl (by omega) (by omega) (fun _ => ?_) (fun h => False.elim (by omega))
      refine qr_aload_n 49 rfl rfl rfl ?_
      refine qr_bipush 51 rfl (by decide) rfl ?_
      refine qr_iload_n 52 rfl rfl rfl ?_
      refine qr_ccall (as := [.int (qz 48), .int (qz u)]) (rest := []) hi 55 rfl rfl (Nat.le_of_ble_eq_true rfl) rfl rfl (spx_emit hi (by omega) (by omega) (by omega)) ?_
      rintro _ _ ⟨rfl, rfl⟩
      simp only [Option.toList, List.cons_append, List.nil_append]
      refine qr_pop 56 rfl rfl rfl ?_
      refine qr_retV rfl rfl (Nat.zero_le _) (Nat.zero_le _) ?_
      rw [show qtx_num t ln 4 0 at_ = (u, at1) from hq]
      exact ⟨rfl, rfl⟩
    | succ n ih =>
      intro i u at1 hi4 h1 hq
      refine qr_iload_n 5 rfl rfl rfl ?_
      refine qr_iconst 6 rfl rfl ?_
      refine qr_icmp_ge 48 9 rfl rfl rfl (by omega) (by omega) (fun h1 => ?_) (fun h1 => ?_)
      · skip
        have e0 : qtx_num t ln (n + 1) u at1 = (u, at1) := qtx_num_st (by omega)
        have hu : (qtx_num t ln 4 0 at_).1 = u := by rw [hq, e0]
        refine qr_aload_n 49 rfl rfl rfl ?_
        refine qr_bipush 51 rfl (by decide) rfl ?_
        refine qr_iload_n 52 rfl rfl rfl ?_
        refine qr_ccall (as := [.int (qz 48), .int (qz u)]) (rest := []) hi 55 rfl rfl (Nat.le_of_ble_eq_true rfl) rfl rfl (spx_emit hi (by omega) (by omega) (by omega)) ?_
        rintro _ _ ⟨rfl, rfl⟩
        simp only [Option.toList, List.cons_append, List.nil_append]
        refine qr_pop 56 rfl rfl rfl ?_
        refine qr_retV rfl rfl (Nat.zero_le _) (Nat.zero_le _) ?_
        have e1 : qtx_num t ln (n + 1) u at1 = (u, at1) := qtx_num_st (by omega)
        rw [← hq] at e1
        rw [e1]
        exact ⟨rfl, rfl⟩
      · skip
        refine qr_aload_n 10 rfl rfl rfl ?_
        refine qr_ccall (as := []) (rest := []) hi 13 rfl rfl (Nat.le_of_ble_eq_true rfl) rfl rfl (spx_next hi ht hl (by omega)) ?_
        rintro _ _ ⟨rfl, b2, rfl, hb3, rfl⟩
        simp only [Option.toList, List.cons_append, List.nil_append]
        have hc4r := qtx_c_b (a := at1) hb (by omega)
        have hc4c := qtx_c_c t ln at1
        refine qr_callN 16 rfl rfl rfl (spx_isDigit (by omega)) ?_
        rintro _ _ ⟨rfl, b5, rfl, hb6⟩
        simp only [Option.toList, List.drop, List.cons_append, List.nil_append]
        refine qr_if_eq 48 19 rfl rfl rfl (by omega) (fun h7 => ?_) (fun h7 => ?_)
        · skip
          have e0 : qtx_num t ln (n + 1) u at1 = (u, at1) := qtx_num_st (by omega)
          have hu : (qtx_num t ln 4 0 at_).1 = u := by rw [hq, e0]
          refine qr_aload_n 49 rfl rfl rfl ?_
          refine qr_bipush 51 rfl (by decide) rfl ?_
          refine qr_iload_n 52 rfl rfl rfl ?_
          refine qr_ccall (as := [.int (qz 48), .int (qz u)]) (rest := []) hi 55 rfl rfl (Nat.le_of_ble_eq_true rfl) rfl rfl (spx_emit hi (by omega) (by omega) (by omega)) ?_
          rintro _ _ ⟨rfl, rfl⟩
          simp only [Option.toList, List.cons_append, List.nil_append]
          refine qr_pop 56 rfl rfl rfl ?_
          refine qr_retV rfl rfl (Nat.zero_le _) (Nat.zero_le _) ?_
          have e1 : qtx_num t ln (n + 1) u at1 = (u, at1) := qtx_num_st (by omega)
          rw [← hq] at e1
          rw [e1]
          exact ⟨rfl, rfl⟩
        · skip
          refine qr_iload_n 20 rfl rfl rfl ?_
          refine qr_bipush 22 rfl (by decide) rfl ?_
          refine qr_imul 23 rfl rfl ?_
          refine qr_aload_n 24 rfl rfl rfl ?_
          refine qr_ccall (as := []) (rest := [.int (qz (u * 10))]) hi 27 rfl rfl (Nat.le_of_ble_eq_true rfl) rfl rfl (spx_next hi ht hl (by omega)) ?_
          rintro _ _ ⟨rfl, b8, rfl, hb9, rfl⟩
          simp only [Option.toList, List.cons_append, List.nil_append]
          have hc10r := qtx_c_b (a := at1) hb (by omega)
          have hc10c := qtx_c_c t ln at1
          refine qr_iadd 28 rfl rfl ?_
          refine qr_bipush 30 rfl (by decide) rfl ?_
          refine qr_isub 31 rfl rfl ?_
          refine qr_istore_n [(1, .int (qz (((u * 10) + (qtx_c t ln at1)) - 48))), (2, .int (qz i)), (0, .ref a)] 32 rfl (by decide) rfl rfl ?_
          refine qr_aload_n 33 rfl rfl rfl ?_
          refine qr_dup 34 rfl rfl rfl ?_
          refine qr_cget4 hi 37 rfl rfl ?_
          refine qr_iconst 38 rfl rfl ?_
          refine qr_iadd 39 rfl rfl ?_
          refine qr_cput4 hi 42 rfl rfl ?_
          refine qr_iinc [(2, .int (qz (i + 1))), (1, .int (qz (((u * 10) + (qtx_c t ln at1)) - 48))), (0, .ref a)] 45 rfl rfl (by decide) rfl rfl ?_
          refine qr_goto 4 rfl rfl ?_
          refine ih (i + 1) (((u * 10) + (qtx_c t ln at1)) - 48) (at1 + 1) (by omega) (by omega) ?_
          rw [hq, qtx_num_go (by omega)]
          congr 1
          omega
  refine qr_iconst 1 rfl rfl ?_
  refine qr_istore_n [(1, .int (qz 0)), (0, .ref a)] 2 rfl (by decide) rfl rfl ?_
  refine qr_iconst 3 rfl rfl ?_
  refine qr_istore_n [(2, .int (qz 0)), (1, .int (qz 0)), (0, .ref a)] 4 rfl (by decide) rfl rfl ?_
  exact loop 4 0 0 at_ (by omega) (by omega) rfl

/-- what a reader leaves behind, exactly -/
abbrev qpx (w : qm_W) (a : Nat) (ln : Int) (t : Nat → Int) (F : (Nat → Int) → Int → qtx_3) (at_ sz nm : Int) (cd : Nat → Int) : Option Value → qm_W → Prop := fun r w' => r = none ∧ ∃ (at2 sz2 nm2 sk2 : Int) (cd2 : Nat → Int), w' = qc w a ln at2 sz2 nm2 sk2 t cd2 ∧ qRd ln (fun N => F N at_) at_ sz nm cd at2 sz2 nm2 sk2 cd2
theorem qtx_on_o {T : Nat → Int} {n : Int} {N : Nat → Int} {r : Nat} {a : Int} (h : (r = 0 ∨ (¬ qtx_c T n a = 40 ∧ ¬ qtx_c T n a = 33 ∧ ¬ qtx_c T n a = 45))) : qtx_on T n N r a = qtx_oo T n N a := by
  cases r with
  | zero => rfl
  | succ r =>
    have h1 : ¬ qtx_c T n a = 40 ∧ ¬ qtx_c T n a = 33 ∧ ¬ qtx_c T n a = 45 := by omega
    exact (if_neg h1.1).trans (if_neg (by omega))
theorem qtx_on_p {T : Nat → Int} {n : Int} {N : Nat → Int} {r : Nat} {a : Int} (hr : 0 < r) (h : qtx_c T n a = 40) : qtx_on T n N r a = qtx_pc T n (qtx_E T n N (r - 1) (a + 1)) := by
  obtain ⟨m, rfl⟩ : ∃ m, r = m + 1 := ⟨r - 1, by omega⟩
  exact if_pos h
theorem qtx_on_u {T : Nat → Int} {n : Int} {N : Nat → Int} {r : Nat} {a c : Int} (hr : 0 < r) (h : qtx_c T n a = c) (hc : c = 33 ∨ c = 45) : qtx_on T n N r a = qtx_un c (qtx_on T n N (r - 1) (a + 1)) := by
  obtain ⟨m, rfl⟩ : ∃ m, r = m + 1 := ⟨r - 1, by omega⟩
  refine (if_neg (by omega)).trans ((if_pos (by omega)).trans ?_)
  rw [h]
  rfl
theorem qtx_oo_n {T : Nat → Int} {n : Int} {N : Nat → Int} {a : Int} (h : 0 ≤ qtx_nm (qtx_c T n a)) : qtx_oo T n N a = (N (qtx_nm (qtx_c T n a)).toNat, a + 1, 0) := if_pos h
theorem qtx_oo_d {T : Nat → Int} {n : Int} {N : Nat → Int} {a : Int} (h : 48 ≤ qtx_c T n a ∧ qtx_c T n a ≤ 57) : qtx_oo T n N a = ((qtx_num T n 4 0 a).1, (qtx_num T n 4 0 a).2, 0) := by
  have hn := qtx_nm_c (qtx_c T n a)
  exact (if_neg (by omega)).trans (if_pos h)
theorem qtx_oo_b {T : Nat → Int} {n : Int} {N : Nat → Int} {a : Int} (h1 : qtx_nm (qtx_c T n a) < 0) (h2 : ¬ (48 ≤ qtx_c T n a ∧ qtx_c T n a ≤ 57)) : qtx_oo T n N a = (0, a, 1) := (if_neg (by omega)).trans (if_neg h2)

theorem qbi_or1 {nm m k : Int} (hm : 0 ≤ m ∧ m < 9) (h1 : 0 ≤ k) (h2 : k < 32) : qbi (qz_or nm (qz_shl 1 m)) k = 1 ↔ qbi nm k = 1 ∨ k = m := by
  rw [qbi_or, qbi_shl (by omega) h1]
  by_cases e : k = m
  · rw [if_pos e, if_pos (Or.inr rfl)]
    exact ⟨fun _ => Or.inr e, fun _ => rfl⟩
  · rw [if_neg e]
    by_cases f : qbi nm k = 1
    · rw [if_pos (Or.inl f)]
      exact ⟨fun _ => Or.inl f, fun _ => rfl⟩
    · rw [if_neg (by omega)]
      exact ⟨fun h => absurd h (by decide), fun h => by omega⟩
theorem qtx_num_gt {T : Nat → Int} {n a : Int} (h : 48 ≤ qtx_c T n a ∧ qtx_c T n a ≤ 57) (ha : 0 ≤ a ∧ a ≤ n) : a < (qtx_num T n 4 0 a).2 := by
  have hc := qtx_c_c T n a
  rw [qtx_num_go h]
  have hb := qtx_num_b (T := T) (n := n) 3 (10 * 0 + qtx_c T n a - 48) (a + 1) (by omega) (by omega)
  omega

set_option maxHeartbeats 4000000 in
set_option maxRecDepth 20000 in
theorem spx_opS {L : Nat} {xs : Nat → Int} {vb : Bool} {d : Nat} {w : qm_W} {a : Nat} {ln at_ sz nm : Int} {t cd : Nat → Int} (hi : qc_in w a) (ht : ∀ j, -2147483648 ≤ t j ∧ t j ≤ 2147483647) (hb : ∀ j : Nat, (j : Int) < ln → 0 ≤ t j ∧ t j ≤ 255) (hl : 0 ≤ ln ∧ ln ≤ 120) (h0 : 0 ≤ at_ ∧ at_ ≤ ln ∧ 0 ≤ sz ∧ sz + ln - at_ ≤ 121 ∧ -2147483648 ≤ nm ∧ nm ≤ 2147483647) {op : Int} {r : Nat} (ho : 0 ≤ op ∧ op ≤ 6 ∧ (r : Int) = 6 - op) (iho : op < 6 → ∀ v : Int, v = op + 1 → ∀ (at1 sz1 nm1 : Int) (cd1 : Nat → Int), (0 ≤ at1 ∧ at1 ≤ ln ∧ 0 ≤ sz1 ∧ sz1 + ln - at1 ≤ 121 ∧ -2147483648 ≤ nm1 ∧ nm1 ≤ 2147483647) → qm_T (qe L xs vb) (d + 5) 21 [.ref a, .int (qz v)] (qc w a ln at1 sz1 nm1 0 t cd1) (qpx w a ln t (fun N b => qtx_on t ln N (r - 1) b) at1 sz1 nm1 cd1)) (ihp : op < 6 → ∀ v : Int, v = op + 1 → ∀ (at1 sz1 nm1 : Int) (cd1 : Nat → Int), (0 ≤ at1 ∧ at1 ≤ ln ∧ 0 ≤ sz1 ∧ sz1 + ln - at1 ≤ 121 ∧ -2147483648 ≤ nm1 ∧ nm1 ≤ 2147483647) → qm_T (qe L xs vb) (d + 5) 20 [.ref a, .int (qz 0), .int (qz v)] (qc w a ln at1 sz1 nm1 0 t cd1) (qpx w a ln t (fun N b => qtx_E t ln N (r - 1) b) at1 sz1 nm1 cd1)) : qm_T (qe L xs vb) (d + 6) 21 [.ref a, .int (qz op)] (qc w a ln at_ sz nm 0 t cd) (qpx w a ln t (fun N b => qtx_on t ln N r b) at_ sz nm cd) := by
  refine qr_start (d := d + 5) qv_e21 (Nat.le_of_ble_eq_true rfl) ?_
  show qr_W (qe L xs vb) (d + 5) qx_e21 _ (0, [(0, .ref a), (1, .int (qz op))], [], qc w a ln at_ sz nm 0 t cd, 0, 0)
  refine qr_aload_n 1 rfl rfl rfl ?_
  refine qr_ccall (as := []) (rest := []) hi 4 rfl rfl (Nat.le_of_ble_eq_true rfl) rfl rfl (spx_next hi ht hl (by omega)) ?_
  rintro _ _ ⟨rfl, b1, rfl, hb2, rfl⟩
  simp only [Option.toList, List.cons_append, List.nil_append]
  have hc3r := qtx_c_b (a := at_) hb (by omega)
  have hc3c := qtx_c_c t ln at_
  refine qr_istore_n [(2, .int (qz (qtx_c t ln at_))), (0, .ref a), (1, .int (qz op))] 5 rfl (by decide) rfl rfl ?_
  refine qr_aload_n 6 rfl rfl rfl ?_
  refine qr_cget7 hi 9 rfl rfl ?_
  refine qr_if_eq 13 12 rfl rfl rfl (by omega) (fun _ => ?_) (fun h => False.elim (by omega))
  refine qr_iload_n 14 rfl rfl rfl ?_
  refine qr_callN 17 rfl rfl rfl (spx_isDigit (by omega)) ?_
  rintro _ _ ⟨rfl, b4, rfl, hb5⟩
  simp only [Option.toList, List.drop, List.cons_append, List.nil_append]
  refine qr_if_eq 27 20 rfl rfl rfl (by omega) (fun h6 => ?_) (fun h6 => ?_)
  · skip
    refine qr_iload_n 28 rfl rfl rfl ?_
    refine qr_if_lt 82 31 rfl rfl rfl (by omega) (fun h7 => ?_) (fun h7 => ?_)
    · skip
      refine qr_iload_n 83 rfl rfl rfl ?_
      refine qr_bipush 85 rfl (by decide) rfl ?_
      refine qr_icmp_ge 121 88 rfl rfl rfl (by omega) (by omega) (fun h8 => ?_) (fun h8 => ?_)
      · skip
        refine qr_iload_n 122 rfl rfl rfl ?_
        refine qr_bipush 124 rfl (by decide) rfl ?_
        refine qr_icmp_ge 178 127 rfl rfl rfl (by omega) (by omega) (fun h9 => ?_) (fun h9 => ?_)
        · skip
          refine qr_aload_n 179 rfl rfl rfl ?_
          refine qr_iconst 180 rfl rfl ?_
          refine qr_cput7 hi (by omega) 183 rfl rfl ?_
          refine qr_retV rfl rfl (Nat.zero_le _) (Nat.zero_le _) ?_
          have hcn := qtx_nm_c (qtx_c t ln at_)
          first | exact ⟨rfl, _, _, _, _, _, rfl, (qRd_st cd (by omega) (by omega) (by omega) (fun N => (qtx_on_o (by omega)).trans (qtx_oo_b (by omega) (by omega))))⟩ | exact False.elim (by omega)
        · skip
          refine qr_iload_n 128 rfl rfl rfl ?_
          refine qr_bipush 130 rfl (by decide) rfl ?_
          refine qr_icmp_eq 139 133 rfl rfl rfl (by omega) (by omega) (fun h10 => ?_) (fun h10 => ?_)
          · skip
            refine qr_aload_n 140 rfl rfl rfl ?_
            refine qr_dup 141 rfl rfl rfl ?_
            refine qr_cget4 hi 144 rfl rfl ?_
            refine qr_iconst 145 rfl rfl ?_
            refine qr_iadd 146 rfl rfl ?_
            refine qr_cput4 hi 149 rfl rfl ?_
            refine qr_aload_n 150 rfl rfl rfl ?_
            refine qr_iload_n 151 rfl rfl rfl ?_
            refine qr_iconst 152 rfl rfl ?_
            refine qr_iadd 153 rfl rfl ?_
            refine qr_ccall (as := [.int (qz (op + 1))]) (rest := []) hi 156 rfl rfl (Nat.le_of_ble_eq_true rfl) rfl rfl (iho (by omega) _ rfl _ _ _ _ (by omega)) ?_
            rintro _ _ ⟨rfl, at11, sz12, nm13, sk14, cd15, rfl, hr16⟩
            simp only [Option.toList, List.cons_append, List.nil_append]
            have hr16q : qRd ln (fun N => qtx_on t ln N (r - 1) (at_ + 1)) (at_ + 1) sz nm cd at11 sz12 nm13 sk14 cd15 := hr16
            have hr16b := hr16q.1
            refine qr_aload_n 157 rfl rfl rfl ?_
            refine qr_iload_n 158 rfl rfl rfl ?_
            refine qr_bipush 160 rfl (by decide) rfl ?_
            refine qr_icmp_ne 168 163 rfl rfl rfl (by omega) (by omega) (fun h17 => ?_) (fun h17 => ?_)
            · skip
              refine qr_bipush 170 rfl (by decide) rfl ?_
              refine qr_iconst 171 rfl rfl ?_
              refine qr_ccall (as := [.int (qz 126), .int (qz 0)]) (rest := []) hi 174 rfl rfl (Nat.le_of_ble_eq_true rfl) rfl rfl (spx_emit hi (by omega) (by omega) (by omega)) ?_
              rintro _ _ ⟨rfl, rfl⟩
              simp only [Option.toList, List.cons_append, List.nil_append]
              refine qr_pop 175 rfl rfl rfl ?_
              refine qr_goto 183 rfl rfl ?_
              refine qr_retV rfl rfl (Nat.zero_le _) (Nat.zero_le _) ?_
              first | exact ⟨rfl, _, _, _, _, _, rfl, (qRd_un (c := 45) (e := 126) hr16q (by omega) (by omega) (fun N => qtx_on_u (by omega) (by omega) (by omega)))⟩ | exact False.elim (by omega)
            · skip
              refine qr_bipush 165 rfl (by decide) rfl ?_
              refine qr_goto 170 rfl rfl ?_
              refine qr_iconst 171 rfl rfl ?_
              refine qr_ccall (as := [.int (qz 33), .int (qz 0)]) (rest := []) hi 174 rfl rfl (Nat.le_of_ble_eq_true rfl) rfl rfl (spx_emit hi (by omega) (by omega) (by omega)) ?_
              rintro _ _ ⟨rfl, rfl⟩
              simp only [Option.toList, List.cons_append, List.nil_append]
              refine qr_pop 175 rfl rfl rfl ?_
              refine qr_goto 183 rfl rfl ?_
              refine qr_retV rfl rfl (Nat.zero_le _) (Nat.zero_le _) ?_
              first | exact ⟨rfl, _, _, _, _, _, rfl, (qRd_un (c := 33) (e := 33) hr16q (by omega) (by omega) (fun N => qtx_on_u (by omega) (by omega) (by omega)))⟩ | exact False.elim (by omega)
          · skip
            refine qr_iload_n 134 rfl rfl rfl ?_
            refine qr_bipush 136 rfl (by decide) rfl ?_
            refine qr_icmp_ne 178 139 rfl rfl rfl (by omega) (by omega) (fun h18 => ?_) (fun h18 => ?_)
            · skip
              refine qr_aload_n 179 rfl rfl rfl ?_
              refine qr_iconst 180 rfl rfl ?_
              refine qr_cput7 hi (by omega) 183 rfl rfl ?_
              refine qr_retV rfl rfl (Nat.zero_le _) (Nat.zero_le _) ?_
              have hcn := qtx_nm_c (qtx_c t ln at_)
              first | exact ⟨rfl, _, _, _, _, _, rfl, (qRd_st cd (by omega) (by omega) (by omega) (fun N => (qtx_on_o (by omega)).trans (qtx_oo_b (by omega) (by omega))))⟩ | exact False.elim (by omega)
            · skip
              refine qr_aload_n 140 rfl rfl rfl ?_
              refine qr_dup 141 rfl rfl rfl ?_
              refine qr_cget4 hi 144 rfl rfl ?_
              refine qr_iconst 145 rfl rfl ?_
              refine qr_iadd 146 rfl rfl ?_
              refine qr_cput4 hi 149 rfl rfl ?_
              refine qr_aload_n 150 rfl rfl rfl ?_
              refine qr_iload_n 151 rfl rfl rfl ?_
              refine qr_iconst 152 rfl rfl ?_
              refine qr_iadd 153 rfl rfl ?_
              refine qr_ccall (as := [.int (qz (op + 1))]) (rest := []) hi 156 rfl rfl (Nat.le_of_ble_eq_true rfl) rfl rfl (iho (by omega) _ rfl _ _ _ _ (by omega)) ?_
              rintro _ _ ⟨rfl, at19, sz20, nm21, sk22, cd23, rfl, hr24⟩
              simp only [Option.toList, List.cons_append, List.nil_append]
              have hr24q : qRd ln (fun N => qtx_on t ln N (r - 1) (at_ + 1)) (at_ + 1) sz nm cd at19 sz20 nm21 sk22 cd23 := hr24
              have hr24b := hr24q.1
              refine qr_aload_n 157 rfl rfl rfl ?_
              refine qr_iload_n 158 rfl rfl rfl ?_
              refine qr_bipush 160 rfl (by decide) rfl ?_
              refine qr_icmp_ne 168 163 rfl rfl rfl (by omega) (by omega) (fun h25 => ?_) (fun h25 => ?_)
              · skip
                refine qr_bipush 170 rfl (by decide) rfl ?_
                refine qr_iconst 171 rfl rfl ?_
                refine qr_ccall (as := [.int (qz 126), .int (qz 0)]) (rest := []) hi 174 rfl rfl (Nat.le_of_ble_eq_true rfl) rfl rfl (spx_emit hi (by omega) (by omega) (by omega)) ?_
                rintro _ _ ⟨rfl, rfl⟩
                simp only [Option.toList, List.cons_append, List.nil_append]
                refine qr_pop 175 rfl rfl rfl ?_
                refine qr_goto 183 rfl rfl ?_
                refine qr_retV rfl rfl (Nat.zero_le _) (Nat.zero_le _) ?_
                first | exact ⟨rfl, _, _, _, _, _, rfl, (qRd_un (c := 45) (e := 126) hr24q (by omega) (by omega) (fun N => qtx_on_u (by omega) (by omega) (by omega)))⟩ | exact False.elim (by omega)
              · skip
                refine qr_bipush 165 rfl (by decide) rfl ?_
                refine qr_goto 170 rfl rfl ?_
                refine qr_iconst 171 rfl rfl ?_
                refine qr_ccall (as := [.int (qz 33), .int (qz 0)]) (rest := []) hi 174 rfl rfl (Nat.le_of_ble_eq_true rfl) rfl rfl (spx_emit hi (by omega) (by omega) (by omega)) ?_
                rintro _ _ ⟨rfl, rfl⟩
                simp only [Option.toList, List.cons_append, List.nil_append]
                refine qr_pop 175 rfl rfl rfl ?_
                refine qr_goto 183 rfl rfl ?_
                refine qr_retV rfl rfl (Nat.zero_le _) (Nat.zero_le _) ?_
                first | exact ⟨rfl, _, _, _, _, _, rfl, (qRd_un (c := 33) (e := 33) hr24q (by omega) (by omega) (fun N => qtx_on_u (by omega) (by omega) (by omega)))⟩ | exact False.elim (by omega)
      · skip
        refine qr_iload_n 89 rfl rfl rfl ?_
        refine qr_bipush 91 rfl (by decide) rfl ?_
        refine qr_icmp_ne 121 94 rfl rfl rfl (by omega) (by omega) (fun h26 => ?_) (fun h26 => ?_)
        · skip
          refine qr_iload_n 122 rfl rfl rfl ?_
          refine qr_bipush 124 rfl (by decide) rfl ?_
          refine qr_icmp_ge 178 127 rfl rfl rfl (by omega) (by omega) (fun h27 => ?_) (fun h27 => ?_)
          · skip
            refine qr_aload_n 179 rfl rfl rfl ?_
            refine qr_iconst 180 rfl rfl ?_
            refine qr_cput7 hi (by omega) 183 rfl rfl ?_
            refine qr_retV rfl rfl (Nat.zero_le _) (Nat.zero_le _) ?_
            have hcn := qtx_nm_c (qtx_c t ln at_)
            first | exact ⟨rfl, _, _, _, _, _, rfl, (qRd_st cd (by omega) (by omega) (by omega) (fun N => (qtx_on_o (by omega)).trans (qtx_oo_b (by omega) (by omega))))⟩ | exact False.elim (by omega)
          · skip
            refine qr_iload_n 128 rfl rfl rfl ?_
            refine qr_bipush 130 rfl (by decide) rfl ?_
            refine qr_icmp_eq 139 133 rfl rfl rfl (by omega) (by omega) (fun h28 => ?_) (fun h28 => ?_)
            · skip
              refine qr_aload_n 140 rfl rfl rfl ?_
              refine qr_dup 141 rfl rfl rfl ?_
              refine qr_cget4 hi 144 rfl rfl ?_
              refine qr_iconst 145 rfl rfl ?_
              refine qr_iadd 146 rfl rfl ?_
              refine qr_cput4 hi 149 rfl rfl ?_
              refine qr_aload_n 150 rfl rfl rfl ?_
              refine qr_iload_n 151 rfl rfl rfl ?_
              refine qr_iconst 152 rfl rfl ?_
              refine qr_iadd 153 rfl rfl ?_
              refine qr_ccall (as := [.int (qz (op + 1))]) (rest := []) hi 156 rfl rfl (Nat.le_of_ble_eq_true rfl) rfl rfl (iho (by omega) _ rfl _ _ _ _ (by omega)) ?_
              rintro _ _ ⟨rfl, at29, sz30, nm31, sk32, cd33, rfl, hr34⟩
              simp only [Option.toList, List.cons_append, List.nil_append]
              have hr34q : qRd ln (fun N => qtx_on t ln N (r - 1) (at_ + 1)) (at_ + 1) sz nm cd at29 sz30 nm31 sk32 cd33 := hr34
              have hr34b := hr34q.1
              refine qr_aload_n 157 rfl rfl rfl ?_
              refine qr_iload_n 158 rfl rfl rfl ?_
              refine qr_bipush 160 rfl (by decide) rfl ?_
              refine qr_icmp_ne 168 163 rfl rfl rfl (by omega) (by omega) (fun h35 => ?_) (fun h35 => ?_)
              · skip
                refine qr_bipush 170 rfl (by decide) rfl ?_
                refine qr_iconst 171 rfl rfl ?_
                refine qr_ccall (as := [.int (qz 126), .int (qz 0)]) (rest := []) hi 174 rfl rfl (Nat.le_of_ble_eq_true rfl) rfl rfl (spx_emit hi (by omega) (by omega) (by omega)) ?_
                rintro _ _ ⟨rfl, rfl⟩
                simp only [Option.toList, List.cons_append, List.nil_append]
                refine qr_pop 175 rfl rfl rfl ?_
                refine qr_goto 183 rfl rfl ?_
                refine qr_retV rfl rfl (Nat.zero_le _) (Nat.zero_le _) ?_
                first | exact ⟨rfl, _, _, _, _, _, rfl, (qRd_un (c := 45) (e := 126) hr34q (by omega) (by omega) (fun N => qtx_on_u (by omega) (by omega) (by omega)))⟩ | exact False.elim (by omega)
              · skip
                refine qr_bipush 165 rfl (by decide) rfl ?_
                refine qr_goto 170 rfl rfl ?_
                refine qr_iconst 171 rfl rfl ?_
                refine qr_ccall (as := [.int (qz 33), .int (qz 0)]) (rest := []) hi 174 rfl rfl (Nat.le_of_ble_eq_true rfl) rfl rfl (spx_emit hi (by omega) (by omega) (by omega)) ?_
                rintro _ _ ⟨rfl, rfl⟩
                simp only [Option.toList, List.cons_append, List.nil_append]
                refine qr_pop 175 rfl rfl rfl ?_
                refine qr_goto 183 rfl rfl ?_
                refine qr_retV rfl rfl (Nat.zero_le _) (Nat.zero_le _) ?_
                first | exact ⟨rfl, _, _, _, _, _, rfl, (qRd_un (c := 33) (e := 33) hr34q (by omega) (by omega) (fun N => qtx_on_u (by omega) (by omega) (by omega)))⟩ | exact False.elim (by omega)
            · skip
              refine qr_iload_n 134 rfl rfl rfl ?_
              refine qr_bipush 136 rfl (by decide) rfl ?_
              refine qr_icmp_ne 178 139 rfl rfl rfl (by omega) (by omega) (fun h36 => ?_) (fun h36 => ?_)
              · skip
                refine qr_aload_n 179 rfl rfl rfl ?_
                refine qr_iconst 180 rfl rfl ?_
                refine qr_cput7 hi (by omega) 183 rfl rfl ?_
                refine qr_retV rfl rfl (Nat.zero_le _) (Nat.zero_le _) ?_
                have hcn := qtx_nm_c (qtx_c t ln at_)
                first | exact ⟨rfl, _, _, _, _, _, rfl, (qRd_st cd (by omega) (by omega) (by omega) (fun N => (qtx_on_o (by omega)).trans (qtx_oo_b (by omega) (by omega))))⟩ | exact False.elim (by omega)
              · skip
                refine qr_aload_n 140 rfl rfl rfl ?_
                refine qr_dup 141 rfl rfl rfl ?_
                refine qr_cget4 hi 144 rfl rfl ?_
                refine qr_iconst 145 rfl rfl ?_
                refine qr_iadd 146 rfl rfl ?_
                refine qr_cput4 hi 149 rfl rfl ?_
                refine qr_aload_n 150 rfl rfl rfl ?_
                refine qr_iload_n 151 rfl rfl rfl ?_
                refine qr_iconst 152 rfl rfl ?_
                refine qr_iadd 153 rfl rfl ?_
                refine qr_ccall (as := [.int (qz (op + 1))]) (rest := []) hi 156 rfl rfl (Nat.le_of_ble_eq_true rfl) rfl rfl (iho (by omega) _ rfl _ _ _ _ (by omega)) ?_
                rintro _ _ ⟨rfl, at37, sz38, nm39, sk40, cd41, rfl, hr42⟩
                simp only [Option.toList, List.cons_append, List.nil_append]
                have hr42q : qRd ln (fun N => qtx_on t ln N (r - 1) (at_ + 1)) (at_ + 1) sz nm cd at37 sz38 nm39 sk40 cd41 := hr42
                have hr42b := hr42q.1
                refine qr_aload_n 157 rfl rfl rfl ?_
                refine qr_iload_n 158 rfl rfl rfl ?_
                refine qr_bipush 160 rfl (by decide) rfl ?_
                refine qr_icmp_ne 168 163 rfl rfl rfl (by omega) (by omega) (fun h43 => ?_) (fun h43 => ?_)
                · skip
                  refine qr_bipush 170 rfl (by decide) rfl ?_
                  refine qr_iconst 171 rfl rfl ?_
                  refine qr_ccall (as := [.int (qz 126), .int (qz 0)]) (rest := []) hi 174 rfl rfl (Nat.le_of_ble_eq_true rfl) rfl rfl (spx_emit hi (by omega) (by omega) (by omega)) ?_
                  rintro _ _ ⟨rfl, rfl⟩
                  simp only [Option.toList, List.cons_append, List.nil_append]
                  refine qr_pop 175 rfl rfl rfl ?_
                  refine qr_goto 183 rfl rfl ?_
                  refine qr_retV rfl rfl (Nat.zero_le _) (Nat.zero_le _) ?_
                  first | exact ⟨rfl, _, _, _, _, _, rfl, (qRd_un (c := 45) (e := 126) hr42q (by omega) (by omega) (fun N => qtx_on_u (by omega) (by omega) (by omega)))⟩ | exact False.elim (by omega)
                · skip
                  refine qr_bipush 165 rfl (by decide) rfl ?_
                  refine qr_goto 170 rfl rfl ?_
                  refine qr_iconst 171 rfl rfl ?_
                  refine qr_ccall (as := [.int (qz 33), .int (qz 0)]) (rest := []) hi 174 rfl rfl (Nat.le_of_ble_eq_true rfl) rfl rfl (spx_emit hi (by omega) (by omega) (by omega)) ?_
                  rintro _ _ ⟨rfl, rfl⟩
                  simp only [Option.toList, List.cons_append, List.nil_append]
                  refine qr_pop 175 rfl rfl rfl ?_
                  refine qr_goto 183 rfl rfl ?_
                  refine qr_retV rfl rfl (Nat.zero_le _) (Nat.zero_le _) ?_
                  first | exact ⟨rfl, _, _, _, _, _, rfl, (qRd_un (c := 33) (e := 33) hr42q (by omega) (by omega) (fun N => qtx_on_u (by omega) (by omega) (by omega)))⟩ | exact False.elim (by omega)
        · skip
          refine qr_aload_n 95 rfl rfl rfl ?_
          refine qr_dup 96 rfl rfl rfl ?_
          refine qr_cget4 hi 99 rfl rfl ?_
          refine qr_iconst 100 rfl rfl ?_
          refine qr_iadd 101 rfl rfl ?_
          refine qr_cput4 hi 104 rfl rfl ?_
          refine qr_aload_n 105 rfl rfl rfl ?_
          refine qr_iconst 106 rfl rfl ?_
          refine qr_iload_n 107 rfl rfl rfl ?_
          refine qr_iconst 108 rfl rfl ?_
          refine qr_iadd 109 rfl rfl ?_
          refine qr_ccall (as := [.int (qz 0), .int (qz (op + 1))]) (rest := []) hi 112 rfl rfl (Nat.le_of_ble_eq_true rfl) rfl rfl (ihp (by omega) _ rfl _ _ _ _ (by omega)) ?_
          rintro _ _ ⟨rfl, at44, sz45, nm46, sk47, cd48, rfl, hr49⟩
          simp only [Option.toList, List.cons_append, List.nil_append]
          have hr49q : qRd ln (fun N => qtx_E t ln N (r - 1) (at_ + 1)) (at_ + 1) sz nm cd at44 sz45 nm46 sk47 cd48 := hr49
          have hr49b := hr49q.1
          refine qr_aload_n 113 rfl rfl rfl ?_
          refine qr_bipush 115 rfl (by decide) rfl ?_
          refine qr_ccall (as := [.int (qz 41)]) (rest := []) hi 118 rfl rfl (Nat.le_of_ble_eq_true rfl) rfl rfl (spx_pass hi ht hl (by omega) (by decide)) ?_
          rintro _ _ ⟨rfl, at50, sk51, rfl, hp52⟩
          simp only [Option.toList, List.cons_append, List.nil_append]
          refine qr_goto 183 rfl rfl ?_
          refine qr_retV rfl rfl (Nat.zero_le _) (Nat.zero_le _) ?_
          first | exact ⟨rfl, _, _, _, _, _, rfl, (qRd_pc (T := t) hr49q (by omega) hp52 (fun N => qtx_on_p (by omega) (by omega)))⟩ | exact False.elim (by omega)
    · skip
      refine qr_ldcs 33 rfl rfl ?_
      refine qr_iload_n 34 rfl rfl rfl ?_
      refine qr_i2c 35 rfl rfl ?_
      rw [(qtx_b2 (c := (qtx_c t ln at_)) (by omega)).1]
      refine qr_callN 38 rfl rfl rfl (spx_ix (by omega)) ?_
      rintro _ _ ⟨rfl, b53, rfl, hb54⟩
      simp only [Option.toList, List.drop, List.cons_append, List.nil_append]
      have hb54n := qtx_is_nm (by omega) hb54
      have hb54m := qtx_nm_c (qtx_c t ln at_)
      refine qr_if_lt 82 41 rfl rfl rfl (by omega) (fun h55 => ?_) (fun h55 => ?_)
      · skip
        refine qr_iload_n 83 rfl rfl rfl ?_
        refine qr_bipush 85 rfl (by decide) rfl ?_
        refine qr_icmp_ge 121 88 rfl rfl rfl (by omega) (by omega) (fun h56 => ?_) (fun h56 => ?_)
        · skip
          refine qr_iload_n 122 rfl rfl rfl ?_
          refine qr_bipush 124 rfl (by decide) rfl ?_
          refine qr_icmp_ge 178 127 rfl rfl rfl (by omega) (by omega) (fun h57 => ?_) (fun h57 => ?_)
          · skip
            refine qr_aload_n 179 rfl rfl rfl ?_
            refine qr_iconst 180 rfl rfl ?_
            refine qr_cput7 hi (by omega) 183 rfl rfl ?_
            refine qr_retV rfl rfl (Nat.zero_le _) (Nat.zero_le _) ?_
            have hcn := qtx_nm_c (qtx_c t ln at_)
            first | exact ⟨rfl, _, _, _, _, _, rfl, (qRd_st cd (by omega) (by omega) (by omega) (fun N => (qtx_on_o (by omega)).trans (qtx_oo_b (by omega) (by omega))))⟩ | exact False.elim (by omega)
          · skip
            refine qr_iload_n 128 rfl rfl rfl ?_
            refine qr_bipush 130 rfl (by decide) rfl ?_
            refine qr_icmp_eq 139 133 rfl rfl rfl (by omega) (by omega) (fun h58 => ?_) (fun h58 => ?_)
            · skip
              refine qr_aload_n 140 rfl rfl rfl ?_
              refine qr_dup 141 rfl rfl rfl ?_
              refine qr_cget4 hi 144 rfl rfl ?_
              refine qr_iconst 145 rfl rfl ?_
              refine qr_iadd 146 rfl rfl ?_
              refine qr_cput4 hi 149 rfl rfl ?_
              refine qr_aload_n 150 rfl rfl rfl ?_
              refine qr_iload_n 151 rfl rfl rfl ?_
              refine qr_iconst 152 rfl rfl ?_
              refine qr_iadd 153 rfl rfl ?_
              refine qr_ccall (as := [.int (qz (op + 1))]) (rest := []) hi 156 rfl rfl (Nat.le_of_ble_eq_true rfl) rfl rfl (iho (by omega) _ rfl _ _ _ _ (by omega)) ?_
              rintro _ _ ⟨rfl, at59, sz60, nm61, sk62, cd63, rfl, hr64⟩
              simp only [Option.toList, List.cons_append, List.nil_append]
              have hr64q : qRd ln (fun N => qtx_on t ln N (r - 1) (at_ + 1)) (at_ + 1) sz nm cd at59 sz60 nm61 sk62 cd63 := hr64
              have hr64b := hr64q.1
              refine qr_aload_n 157 rfl rfl rfl ?_
              refine qr_iload_n 158 rfl rfl rfl ?_
              refine qr_bipush 160 rfl (by decide) rfl ?_
              refine qr_icmp_ne 168 163 rfl rfl rfl (by omega) (by omega) (fun h65 => ?_) (fun h65 => ?_)
              · skip
                refine qr_bipush 170 rfl (by decide) rfl ?_
                refine qr_iconst 171 rfl rfl ?_
                refine qr_ccall (as := [.int (qz 126), .int (qz 0)]) (rest := []) hi 174 rfl rfl (Nat.le_of_ble_eq_true rfl) rfl rfl (spx_emit hi (by omega) (by omega) (by omega)) ?_
                rintro _ _ ⟨rfl, rfl⟩
                simp only [Option.toList, List.cons_append, List.nil_append]
                refine qr_pop 175 rfl rfl rfl ?_
                refine qr_goto 183 rfl rfl ?_
                refine qr_retV rfl rfl (Nat.zero_le _) (Nat.zero_le _) ?_
                first | exact ⟨rfl, _, _, _, _, _, rfl, (qRd_un (c := 45) (e := 126) hr64q (by omega) (by omega) (fun N => qtx_on_u (by omega) (by omega) (by omega)))⟩ | exact False.elim (by omega)
              · skip
                refine qr_bipush 165 rfl (by decide) rfl ?_
                refine qr_goto 170 rfl rfl ?_
                refine qr_iconst 171 rfl rfl ?_
                refine qr_ccall (as := [.int (qz 33), .int (qz 0)]) (rest := []) hi 174 rfl rfl (Nat.le_of_ble_eq_true rfl) rfl rfl (spx_emit hi (by omega) (by omega) (by omega)) ?_
                rintro _ _ ⟨rfl, rfl⟩
                simp only [Option.toList, List.cons_append, List.nil_append]
                refine qr_pop 175 rfl rfl rfl ?_
                refine qr_goto 183 rfl rfl ?_
                refine qr_retV rfl rfl (Nat.zero_le _) (Nat.zero_le _) ?_
                first | exact ⟨rfl, _, _, _, _, _, rfl, (qRd_un (c := 33) (e := 33) hr64q (by omega) (by omega) (fun N => qtx_on_u (by omega) (by omega) (by omega)))⟩ | exact False.elim (by omega)
            · skip
              refine qr_iload_n 134 rfl rfl rfl ?_
              refine qr_bipush 136 rfl (by decide) rfl ?_
              refine qr_icmp_ne 178 139 rfl rfl rfl (by omega) (by omega) (fun h66 => ?_) (fun h66 => ?_)
              · skip
                refine qr_aload_n 179 rfl rfl rfl ?_
                refine qr_iconst 180 rfl rfl ?_
                refine qr_cput7 hi (by omega) 183 rfl rfl ?_
                refine qr_retV rfl rfl (Nat.zero_le _) (Nat.zero_le _) ?_
                have hcn := qtx_nm_c (qtx_c t ln at_)
                first | exact ⟨rfl, _, _, _, _, _, rfl, (qRd_st cd (by omega) (by omega) (by omega) (fun N => (qtx_on_o (by omega)).trans (qtx_oo_b (by omega) (by omega))))⟩ | exact False.elim (by omega)
              · skip
                refine qr_aload_n 140 rfl rfl rfl ?_
                refine qr_dup 141 rfl rfl rfl ?_
                refine qr_cget4 hi 144 rfl rfl ?_
                refine qr_iconst 145 rfl rfl ?_
                refine qr_iadd 146 rfl rfl ?_
                refine qr_cput4 hi 149 rfl rfl ?_
                refine qr_aload_n 150 rfl rfl rfl ?_
                refine qr_iload_n 151 rfl rfl rfl ?_
                refine qr_iconst 152 rfl rfl ?_
                refine qr_iadd 153 rfl rfl ?_
                refine qr_ccall (as := [.int (qz (op + 1))]) (rest := []) hi 156 rfl rfl (Nat.le_of_ble_eq_true rfl) rfl rfl (iho (by omega) _ rfl _ _ _ _ (by omega)) ?_
                rintro _ _ ⟨rfl, at67, sz68, nm69, sk70, cd71, rfl, hr72⟩
                simp only [Option.toList, List.cons_append, List.nil_append]
                have hr72q : qRd ln (fun N => qtx_on t ln N (r - 1) (at_ + 1)) (at_ + 1) sz nm cd at67 sz68 nm69 sk70 cd71 := hr72
                have hr72b := hr72q.1
                refine qr_aload_n 157 rfl rfl rfl ?_
                refine qr_iload_n 158 rfl rfl rfl ?_
                refine qr_bipush 160 rfl (by decide) rfl ?_
                refine qr_icmp_ne 168 163 rfl rfl rfl (by omega) (by omega) (fun h73 => ?_) (fun h73 => ?_)
                · skip
                  refine qr_bipush 170 rfl (by decide) rfl ?_
                  refine qr_iconst 171 rfl rfl ?_
                  refine qr_ccall (as := [.int (qz 126), .int (qz 0)]) (rest := []) hi 174 rfl rfl (Nat.le_of_ble_eq_true rfl) rfl rfl (spx_emit hi (by omega) (by omega) (by omega)) ?_
                  rintro _ _ ⟨rfl, rfl⟩
                  simp only [Option.toList, List.cons_append, List.nil_append]
                  refine qr_pop 175 rfl rfl rfl ?_
                  refine qr_goto 183 rfl rfl ?_
                  refine qr_retV rfl rfl (Nat.zero_le _) (Nat.zero_le _) ?_
                  first | exact ⟨rfl, _, _, _, _, _, rfl, (qRd_un (c := 45) (e := 126) hr72q (by omega) (by omega) (fun N => qtx_on_u (by omega) (by omega) (by omega)))⟩ | exact False.elim (by omega)
                · skip
                  refine qr_bipush 165 rfl (by decide) rfl ?_
                  refine qr_goto 170 rfl rfl ?_
                  refine qr_iconst 171 rfl rfl ?_
                  refine qr_ccall (as := [.int (qz 33), .int (qz 0)]) (rest := []) hi 174 rfl rfl (Nat.le_of_ble_eq_true rfl) rfl rfl (spx_emit hi (by omega) (by omega) (by omega)) ?_
                  rintro _ _ ⟨rfl, rfl⟩
                  simp only [Option.toList, List.cons_append, List.nil_append]
                  refine qr_pop 175 rfl rfl rfl ?_
                  refine qr_goto 183 rfl rfl ?_
                  refine qr_retV rfl rfl (Nat.zero_le _) (Nat.zero_le _) ?_
                  first | exact ⟨rfl, _, _, _, _, _, rfl, (qRd_un (c := 33) (e := 33) hr72q (by omega) (by omega) (fun N => qtx_on_u (by omega) (by omega) (by omega)))⟩ | exact False.elim (by omega)
        · skip
          refine qr_iload_n 89 rfl rfl rfl ?_
          refine qr_bipush 91 rfl (by decide) rfl ?_
          refine qr_icmp_ne 121 94 rfl rfl rfl (by omega) (by omega) (fun h74 => ?_) (fun h74 => ?_)
          · skip
            refine qr_iload_n 122 rfl rfl rfl ?_
            refine qr_bipush 124 rfl (by decide) rfl ?_
            refine qr_icmp_ge 178 127 rfl rfl rfl (by omega) (by omega) (fun h75 => ?_) (fun h75 => ?_)
            · skip
              refine qr_aload_n 179 rfl rfl rfl ?_
              refine qr_iconst 180 rfl rfl ?_
              refine qr_cput7 hi (by omega) 183 rfl rfl ?_
              refine qr_retV rfl rfl (Nat.zero_le _) (Nat.zero_le _) ?_
              have hcn := qtx_nm_c (qtx_c t ln at_)
              first | exact ⟨rfl, _, _, _, _, _, rfl, (qRd_st cd (by omega) (by omega) (by omega) (fun N => (qtx_on_o (by omega)).trans (qtx_oo_b (by omega) (by omega))))⟩ | exact False.elim (by omega)
            · skip
              refine qr_iload_n 128 rfl rfl rfl ?_
              refine qr_bipush 130 rfl (by decide) rfl ?_
              refine qr_icmp_eq 139 133 rfl rfl rfl (by omega) (by omega) (fun h76 => ?_) (fun h76 => ?_)
              · skip
                refine qr_aload_n 140 rfl rfl rfl ?_
                refine qr_dup 141 rfl rfl rfl ?_
                refine qr_cget4 hi 144 rfl rfl ?_
                refine qr_iconst 145 rfl rfl ?_
                refine qr_iadd 146 rfl rfl ?_
                refine qr_cput4 hi 149 rfl rfl ?_
                refine qr_aload_n 150 rfl rfl rfl ?_
                refine qr_iload_n 151 rfl rfl rfl ?_
                refine qr_iconst 152 rfl rfl ?_
                refine qr_iadd 153 rfl rfl ?_
                refine qr_ccall (as := [.int (qz (op + 1))]) (rest := []) hi 156 rfl rfl (Nat.le_of_ble_eq_true rfl) rfl rfl (iho (by omega) _ rfl _ _ _ _ (by omega)) ?_
                rintro _ _ ⟨rfl, at77, sz78, nm79, sk80, cd81, rfl, hr82⟩
                simp only [Option.toList, List.cons_append, List.nil_append]
                have hr82q : qRd ln (fun N => qtx_on t ln N (r - 1) (at_ + 1)) (at_ + 1) sz nm cd at77 sz78 nm79 sk80 cd81 := hr82
                have hr82b := hr82q.1
                refine qr_aload_n 157 rfl rfl rfl ?_
                refine qr_iload_n 158 rfl rfl rfl ?_
                refine qr_bipush 160 rfl (by decide) rfl ?_
                refine qr_icmp_ne 168 163 rfl rfl rfl (by omega) (by omega) (fun h83 => ?_) (fun h83 => ?_)
                · skip
                  refine qr_bipush 170 rfl (by decide) rfl ?_
                  refine qr_iconst 171 rfl rfl ?_
                  refine qr_ccall (as := [.int (qz 126), .int (qz 0)]) (rest := []) hi 174 rfl rfl (Nat.le_of_ble_eq_true rfl) rfl rfl (spx_emit hi (by omega) (by omega) (by omega)) ?_
                  rintro _ _ ⟨rfl, rfl⟩
                  simp only [Option.toList, List.cons_append, List.nil_append]
                  refine qr_pop 175 rfl rfl rfl ?_
                  refine qr_goto 183 rfl rfl ?_
                  refine qr_retV rfl rfl (Nat.zero_le _) (Nat.zero_le _) ?_
                  first | exact ⟨rfl, _, _, _, _, _, rfl, (qRd_un (c := 45) (e := 126) hr82q (by omega) (by omega) (fun N => qtx_on_u (by omega) (by omega) (by omega)))⟩ | exact False.elim (by omega)
                · skip
                  refine qr_bipush 165 rfl (by decide) rfl ?_
                  refine qr_goto 170 rfl rfl ?_
                  refine qr_iconst 171 rfl rfl ?_
                  refine qr_ccall (as := [.int (qz 33), .int (qz 0)]) (rest := []) hi 174 rfl rfl (Nat.le_of_ble_eq_true rfl) rfl rfl (spx_emit hi (by omega) (by omega) (by omega)) ?_
                  rintro _ _ ⟨rfl, rfl⟩
                  simp only [Option.toList, List.cons_append, List.nil_append]
                  refine qr_pop 175 rfl rfl rfl ?_
                  refine qr_goto 183 rfl rfl ?_
                  refine qr_retV rfl rfl (Nat.zero_le _) (Nat.zero_le _) ?_
                  first | exact ⟨rfl, _, _, _, _, _, rfl, (qRd_un (c := 33) (e := 33) hr82q (by omega) (by omega) (fun N => qtx_on_u (by omega) (by omega) (by omega)))⟩ | exact False.elim (by omega)
              · skip
                refine qr_iload_n 134 rfl rfl rfl ?_
                refine qr_bipush 136 rfl (by decide) rfl ?_
                refine qr_icmp_ne 178 139 rfl rfl rfl (by omega) (by omega) (fun h84 => ?_) (fun h84 => ?_)
                · skip
                  refine qr_aload_n 179 rfl rfl rfl ?_
                  refine qr_iconst 180 rfl rfl ?_
                  refine qr_cput7 hi (by omega) 183 rfl rfl ?_
                  refine qr_retV rfl rfl (Nat.zero_le _) (Nat.zero_le _) ?_
                  have hcn := qtx_nm_c (qtx_c t ln at_)
                  first | exact ⟨rfl, _, _, _, _, _, rfl, (qRd_st cd (by omega) (by omega) (by omega) (fun N => (qtx_on_o (by omega)).trans (qtx_oo_b (by omega) (by omega))))⟩ | exact False.elim (by omega)
                · skip
                  refine qr_aload_n 140 rfl rfl rfl ?_
                  refine qr_dup 141 rfl rfl rfl ?_
                  refine qr_cget4 hi 144 rfl rfl ?_
                  refine qr_iconst 145 rfl rfl ?_
                  refine qr_iadd 146 rfl rfl ?_
                  refine qr_cput4 hi 149 rfl rfl ?_
                  refine qr_aload_n 150 rfl rfl rfl ?_
                  refine qr_iload_n 151 rfl rfl rfl ?_
                  refine qr_iconst 152 rfl rfl ?_
                  refine qr_iadd 153 rfl rfl ?_
                  refine qr_ccall (as := [.int (qz (op + 1))]) (rest := []) hi 156 rfl rfl (Nat.le_of_ble_eq_true rfl) rfl rfl (iho (by omega) _ rfl _ _ _ _ (by omega)) ?_
                  rintro _ _ ⟨rfl, at85, sz86, nm87, sk88, cd89, rfl, hr90⟩
                  simp only [Option.toList, List.cons_append, List.nil_append]
                  have hr90q : qRd ln (fun N => qtx_on t ln N (r - 1) (at_ + 1)) (at_ + 1) sz nm cd at85 sz86 nm87 sk88 cd89 := hr90
                  have hr90b := hr90q.1
                  refine qr_aload_n 157 rfl rfl rfl ?_
                  refine qr_iload_n 158 rfl rfl rfl ?_
                  refine qr_bipush 160 rfl (by decide) rfl ?_
                  refine qr_icmp_ne 168 163 rfl rfl rfl (by omega) (by omega) (fun h91 => ?_) (fun h91 => ?_)
                  · skip
                    refine qr_bipush 170 rfl (by decide) rfl ?_
                    refine qr_iconst 171 rfl rfl ?_
                    refine qr_ccall (as := [.int (qz 126), .int (qz 0)]) (rest := []) hi 174 rfl rfl (Nat.le_of_ble_eq_true rfl) rfl rfl (spx_emit hi (by omega) (by omega) (by omega)) ?_
                    rintro _ _ ⟨rfl, rfl⟩
                    simp only [Option.toList, List.cons_append, List.nil_append]
                    refine qr_pop 175 rfl rfl rfl ?_
                    refine qr_goto 183 rfl rfl ?_
                    refine qr_retV rfl rfl (Nat.zero_le _) (Nat.zero_le _) ?_
                    first | exact ⟨rfl, _, _, _, _, _, rfl, (qRd_un (c := 45) (e := 126) hr90q (by omega) (by omega) (fun N => qtx_on_u (by omega) (by omega) (by omega)))⟩ | exact False.elim (by omega)
                  · skip
                    refine qr_bipush 165 rfl (by decide) rfl ?_
                    refine qr_goto 170 rfl rfl ?_
                    refine qr_iconst 171 rfl rfl ?_
                    refine qr_ccall (as := [.int (qz 33), .int (qz 0)]) (rest := []) hi 174 rfl rfl (Nat.le_of_ble_eq_true rfl) rfl rfl (spx_emit hi (by omega) (by omega) (by omega)) ?_
                    rintro _ _ ⟨rfl, rfl⟩
                    simp only [Option.toList, List.cons_append, List.nil_append]
                    refine qr_pop 175 rfl rfl rfl ?_
                    refine qr_goto 183 rfl rfl ?_
                    refine qr_retV rfl rfl (Nat.zero_le _) (Nat.zero_le _) ?_
                    first | exact ⟨rfl, _, _, _, _, _, rfl, (qRd_un (c := 33) (e := 33) hr90q (by omega) (by omega) (fun N => qtx_on_u (by omega) (by omega) (by omega)))⟩ | exact False.elim (by omega)
          · skip
            refine qr_aload_n 95 rfl rfl rfl ?_
            refine qr_dup 96 rfl rfl rfl ?_
            refine qr_cget4 hi 99 rfl rfl ?_
            refine qr_iconst 100 rfl rfl ?_
            refine qr_iadd 101 rfl rfl ?_
            refine qr_cput4 hi 104 rfl rfl ?_
            refine qr_aload_n 105 rfl rfl rfl ?_
            refine qr_iconst 106 rfl rfl ?_
            refine qr_iload_n 107 rfl rfl rfl ?_
            refine qr_iconst 108 rfl rfl ?_
            refine qr_iadd 109 rfl rfl ?_
            refine qr_ccall (as := [.int (qz 0), .int (qz (op + 1))]) (rest := []) hi 112 rfl rfl (Nat.le_of_ble_eq_true rfl) rfl rfl (ihp (by omega) _ rfl _ _ _ _ (by omega)) ?_
            rintro _ _ ⟨rfl, at92, sz93, nm94, sk95, cd96, rfl, hr97⟩
            simp only [Option.toList, List.cons_append, List.nil_append]
            have hr97q : qRd ln (fun N => qtx_E t ln N (r - 1) (at_ + 1)) (at_ + 1) sz nm cd at92 sz93 nm94 sk95 cd96 := hr97
            have hr97b := hr97q.1
            refine qr_aload_n 113 rfl rfl rfl ?_
            refine qr_bipush 115 rfl (by decide) rfl ?_
            refine qr_ccall (as := [.int (qz 41)]) (rest := []) hi 118 rfl rfl (Nat.le_of_ble_eq_true rfl) rfl rfl (spx_pass hi ht hl (by omega) (by decide)) ?_
            rintro _ _ ⟨rfl, at98, sk99, rfl, hp100⟩
            simp only [Option.toList, List.cons_append, List.nil_append]
            refine qr_goto 183 rfl rfl ?_
            refine qr_retV rfl rfl (Nat.zero_le _) (Nat.zero_le _) ?_
            first | exact ⟨rfl, _, _, _, _, _, rfl, (qRd_pc (T := t) hr97q (by omega) hp100 (fun N => qtx_on_p (by omega) (by omega)))⟩ | exact False.elim (by omega)
      · skip
        refine qr_aload_n 42 rfl rfl rfl ?_
        refine qr_dup 43 rfl rfl rfl ?_
        refine qr_cget4 hi 46 rfl rfl ?_
        refine qr_iconst 47 rfl rfl ?_
        refine qr_iadd 48 rfl rfl ?_
        refine qr_cput4 hi 51 rfl rfl ?_
        refine qr_ldcs 53 rfl rfl ?_
        refine qr_iload_n 54 rfl rfl rfl ?_
        refine qr_i2c 55 rfl rfl ?_
        rw [(qtx_b2 (c := (qtx_c t ln at_)) (by omega)).1]
        refine qr_callN 58 rfl rfl rfl (spx_ix (by omega)) ?_
        rintro _ _ ⟨rfl, b101, rfl, hb102⟩
        simp only [Option.toList, List.drop, List.cons_append, List.nil_append]
        have hb102n := qtx_is_nm (by omega) hb102
        have hb102m := qtx_nm_c (qtx_c t ln at_)
        refine qr_istore_n [(3, .int (qz b101)), (2, .int (qz (qtx_c t ln at_))), (0, .ref a), (1, .int (qz op))] 59 rfl (by decide) rfl rfl ?_
        refine qr_aload_n 60 rfl rfl rfl ?_
        refine qr_dup 61 rfl rfl rfl ?_
        refine qr_cget6 hi 64 rfl rfl ?_
        refine qr_iconst 65 rfl rfl ?_
        refine qr_iload_n 66 rfl rfl rfl ?_
        refine qr_ishl 67 rfl rfl ?_
        refine qr_ior 68 rfl rfl ?_
        refine qr_cput6 hi 71 rfl rfl ?_
        refine qr_aload_n 72 rfl rfl rfl ?_
        refine qr_bipush 74 rfl (by decide) rfl ?_
        refine qr_iload_n 75 rfl rfl rfl ?_
        refine qr_ccall (as := [.int (qz 97), .int (qz b101)]) (rest := []) hi 78 rfl rfl (Nat.le_of_ble_eq_true rfl) rfl rfl (spx_emit hi (by omega) (by omega) (by omega)) ?_
        rintro _ _ ⟨rfl, rfl⟩
        simp only [Option.toList, List.cons_append, List.nil_append]
        refine qr_pop 79 rfl rfl rfl ?_
        refine qr_goto 183 rfl rfl ?_
        refine qr_retV rfl rfl (Nat.zero_le _) (Nat.zero_le _) ?_
        have hat : at_ < ln := by have := qtx_c_c t ln at_; omega
        first | exact ⟨rfl, _, _, _, _, _, rfl, (qRd_nam cd (m := b101) (by omega) (by omega) (qz_or_r _ _) (by omega) (fun k h1 h2 => qbi_or1 (by omega) h1 (by omega)) (fun N => (qtx_on_o (by omega)).trans ((qtx_oo_n (by omega)).trans (by rw [← hb102n]))))⟩ | exact False.elim (by omega)
  · skip
    refine qr_aload_n 21 rfl rfl rfl ?_
    refine qr_ccall (as := []) (rest := []) hi 24 rfl rfl (Nat.le_of_ble_eq_true rfl) rfl rfl (spx_readNumber hi ht hb hl (by omega)) ?_
    rintro _ _ ⟨rfl, rfl⟩
    simp only [Option.toList, List.cons_append, List.nil_append]
    refine qr_goto 183 rfl rfl ?_
    refine qr_retV rfl rfl (Nat.zero_le _) (Nat.zero_le _) ?_
    have hnb := qtx_num_b (T := t) (n := ln) 4 0 at_ (by omega) (by omega)
    have hpp : ((0 : Int) + 1) * qtx_p 4 = 10000 := by decide
    first | exact ⟨rfl, _, _, _, _, _, rfl, (qRd_num cd (v := (qtx_num t ln 4 0 at_).1) (by have := qtx_num_gt (T := t) (n := ln) (a := at_) (by omega) (by omega); omega) (by omega) (by omega) (by omega) (fun N => (qtx_on_o (by omega)).trans (qtx_oo_d (by omega))))⟩ | exact False.elim (by omega)

theorem qtx_lp_x {T : Nat → Int} {n : Int} {sub : Int → qtx_3} {l at1 sk1 : Int} {k : Nat} {p : qtx_3} (h : p.2.1 = at1 ∧ p.2.2 = sk1) (hn : ¬ (sk1 = 0 ∧ qtx_lo (qtx_c T n at1) = l)) : qtx_lp T n sub l k p = p := qtx_lp_st (by rw [h.1, h.2]; exact hn)
theorem qtx_lp_n {T : Nat → Int} {n : Int} {sub : Int → qtx_3} {l at1 : Int} {k : Nat} {p : qtx_3} (h : p.2.1 = at1 ∧ p.2.2 = 0) (hl : qtx_lo (qtx_c T n at1) = l) : qtx_lp T n sub l (k + 1) p = qtx_lp T n sub l k (qtx_cm (qtx_c T n at1) p (sub (at1 + 1))) := by
  rw [qtx_lp_go (by rw [h.1, h.2]; exact ⟨rfl, hl⟩), h.1]
theorem qtx_em2 {b : Int} (hb : 0 ≤ b ∧ b < 65536) : qz_or 4128768 b = 63 * 65536 + b := by
  have h := qtx_em (a := 63) (by decide) hb
  rwa [show qz_shl 63 16 = 4128768 by decide +kernel] at h

set_option maxHeartbeats 4000000 in
set_option maxRecDepth 20000 in
theorem spx_part5 {L : Nat} {xs : Nat → Int} {vb : Bool} {d : Nat} {w : qm_W} {a : Nat} {ln at_ sz nm : Int} {t cd : Nat → Int} (hi : qc_in w a) (ht : ∀ j, -2147483648 ≤ t j ∧ t j ≤ 2147483647) (hb : ∀ j : Nat, (j : Int) < ln → 0 ≤ t j ∧ t j ≤ 255) (hl : 0 ≤ ln ∧ ln ≤ 120) (h0 : 0 ≤ at_ ∧ at_ ≤ ln ∧ 0 ≤ sz ∧ sz + ln - at_ ≤ 121 ∧ -2147483648 ≤ nm ∧ nm ≤ 2147483647) {lv op : Int} {r : Nat} (hv : lv = 5) (iho : ∀ (at1 sz1 nm1 : Int) (cd1 : Nat → Int), (0 ≤ at1 ∧ at1 ≤ ln ∧ 0 ≤ sz1 ∧ sz1 + ln - at1 ≤ 121 ∧ -2147483648 ≤ nm1 ∧ nm1 ≤ 2147483647) → qm_T (qe L xs vb) (d + 5) 21 [.ref a, .int (qz op)] (qc w a ln at1 sz1 nm1 0 t cd1) (qpx w a ln t (fun N b => qtx_on t ln N r b) at1 sz1 nm1 cd1)) : qm_T (qe L xs vb) (d + 6) 20 [.ref a, .int (qz lv), .int (qz op)] (qc w a ln at_ sz nm 0 t cd) (qpx w a ln t (fun N b => qtx_lv t ln (fun b => qtx_on t ln N r b) 0 b) at_ sz nm cd) := by
  refine qr_start (d := d + 5) qv_e20 (Nat.le_of_ble_eq_true rfl) ?_
  show qr_W (qe L xs vb) (d + 5) qx_e20 _ (0, [(0, .ref a), (1, .int (qz lv)), (2, .int (qz op))], [], qc w a ln at_ sz nm 0 t cd, 0, 0)
  refine qr_iload_n 1 rfl rfl rfl ?_
  refine qr_iconst 2 rfl rfl ?_
  refine qr_icmp_lt 11 5 rfl rfl rfl (by omega) (by omega) (fun h1 => ?_) (fun h1 => ?_)
  · skip
    exact False.elim (by omega)
  · skip
    refine qr_aload_n 6 rfl rfl rfl ?_
    refine qr_iload_n 7 rfl rfl rfl ?_
    refine qr_ccall (as := [.int (qz op)]) (rest := []) hi 10 rfl rfl (Nat.le_of_ble_eq_true rfl) rfl rfl (iho _ _ _ _ (by omega)) ?_
    rintro _ _ ⟨rfl, at2, sz3, nm4, sk5, cd6, rfl, hr7⟩
    simp only [Option.toList, List.cons_append, List.nil_append]
    have hr7q : qRd ln (fun N => qtx_on t ln N r at_) at_ sz nm cd at2 sz3 nm4 sk5 cd6 := hr7
    have hr7b := hr7q.1
    refine qr_retV rfl rfl (Nat.zero_le _) (Nat.zero_le _) ?_
    exact ⟨rfl, _, _, _, _, _, rfl, hr7q⟩

set_option maxHeartbeats 4000000 in
set_option maxRecDepth 20000 in
theorem spx_partS {L : Nat} {xs : Nat → Int} {vb : Bool} {d : Nat} {w : qm_W} {a : Nat} {ln at_ sz nm : Int} {t cd : Nat → Int} (hi : qc_in w a) (ht : ∀ j, -2147483648 ≤ t j ∧ t j ≤ 2147483647) (hb : ∀ j : Nat, (j : Int) < ln → 0 ≤ t j ∧ t j ≤ 255) (hl : 0 ≤ ln ∧ ln ≤ 120) (h0 : 0 ≤ at_ ∧ at_ ≤ ln ∧ 0 ≤ sz ∧ sz + ln - at_ ≤ 121 ∧ -2147483648 ≤ nm ∧ nm ≤ 2147483647) {lv op : Int} {r m : Nat} (hv : 0 ≤ lv ∧ lv < 5 ∧ (m : Int) = 4 - lv) (ihp : ∀ v : Int, v = lv + 1 → ∀ (at1 sz1 nm1 : Int) (cd1 : Nat → Int), (0 ≤ at1 ∧ at1 ≤ ln ∧ 0 ≤ sz1 ∧ sz1 + ln - at1 ≤ 121 ∧ -2147483648 ≤ nm1 ∧ nm1 ≤ 2147483647) → qm_T (qe L xs vb) (d + 5) 20 [.ref a, .int (qz v), .int (qz op)] (qc w a ln at1 sz1 nm1 0 t cd1) (qpx w a ln t (fun N b => qtx_lv t ln (fun b => qtx_on t ln N r b) m b) at1 sz1 nm1 cd1)) : qm_T (qe L xs vb) (d + 6) 20 [.ref a, .int (qz lv), .int (qz op)] (qc w a ln at_ sz nm 0 t cd) (qpx w a ln t (fun N b => qtx_lv t ln (fun b => qtx_on t ln N r b) (m + 1) b) at_ sz nm cd) := by
  refine qr_start (d := d + 5) qv_e20 (Nat.le_of_ble_eq_true rfl) ?_
  show qr_W (qe L xs vb) (d + 5) qx_e20 _ (0, [(0, .ref a), (1, .int (qz lv)), (2, .int (qz op))], [], qc w a ln at_ sz nm 0 t cd, 0, 0)
  have loop : ∀ (n : Nat) (i u at1 sz1 nm1 sk1 : Int) (cd1 : Nat → Int) (k : Nat) (P : (Nat → Int) → qtx_3), (0 ≤ i ∧ i ≤ 120 ∧ 120 - i < n) → ((lv = 2 ∧ i = 0 ∧ k = 1) ∨ (¬ lv = 2 ∧ (k : Int) = 120 - i)) → qRd ln P at_ sz nm cd at1 sz1 nm1 sk1 cd1 → (∀ N, qtx_lv t ln (fun b => qtx_on t ln N r b) (m + 1) at_ = qtx_lp t ln (fun b => qtx_lv t ln (fun b => qtx_on t ln N r b) m b) (4 - (m : Int)) k (P N)) → qr_W (qe L xs vb) (d + 5) qx_e20 (qpx w a ln t (fun N b => qtx_lv t ln (fun b => qtx_on t ln N r b) (m + 1) b) at_ sz nm cd) (21, [(3, .int (qz i)), (4, .int (qz u)), (0, .ref a), (1, .int (qz lv)), (2, .int (qz op))], [], qc w a ln at1 sz1 nm1 sk1 t cd1, 0, 0) := by
    intro n
    induction n with
    | zero => intro i u at1 sz1 nm1 sk1 cd1 k P h1 h2 hr0 hq; exact absurd h1 (by omega)
    | succ n ih =>
      intro i u at1 sz1 nm1 sk1 cd1 k P h1 hk2 hr0 hq
      have hr0b := hr0.1
      refine qr_iload_n 22 rfl rfl rfl ?_
      refine qr_bipush 24 rfl (by decide) rfl ?_
      refine qr_icmp_ge 91 27 rfl rfl rfl (by omega) (by omega) (fun h1 => ?_) (fun h1 => ?_)
      · skip
        refine qr_retV rfl rfl (Nat.zero_le _) (Nat.zero_le _) ?_
        first | exact ⟨rfl, _, _, _, _, _, rfl, qRd_cg hr0 (fun N => (hq N).trans (qtx_lp_x (hr0.2.1 N) (by omega)))⟩ | exact False.elim (by omega) | (have hk0 : k = 0 := (by omega); rw [hk0] at hq; exact ⟨rfl, _, _, _, _, _, rfl, qRd_cg hr0 (fun N => hq N)⟩)
      · skip
        refine qr_aload_n 28 rfl rfl rfl ?_
        refine qr_cget7 hi 31 rfl rfl ?_
        refine qr_if_ne 91 34 rfl rfl rfl (by omega) (fun h2 => ?_) (fun h2 => ?_)
        · skip
          refine qr_retV rfl rfl (Nat.zero_le _) (Nat.zero_le _) ?_
          first | exact ⟨rfl, _, _, _, _, _, rfl, qRd_cg hr0 (fun N => (hq N).trans (qtx_lp_x (hr0.2.1 N) (by omega)))⟩ | exact False.elim (by omega) | (have hk0 : k = 0 := (by omega); rw [hk0] at hq; exact ⟨rfl, _, _, _, _, _, rfl, qRd_cg hr0 (fun N => hq N)⟩)
        · skip
          have hz : sk1 = 0 := by omega
          subst hz
          obtain ⟨k1, rfl⟩ : ∃ k1, k = k1 + 1 := ⟨k - 1, by omega⟩
          refine qr_aload_n 35 rfl rfl rfl ?_
          refine qr_ccall (as := []) (rest := []) hi 38 rfl rfl (Nat.le_of_ble_eq_true rfl) rfl rfl (spx_next hi ht hl (by omega)) ?_
          rintro _ _ ⟨rfl, b3, rfl, hb4, rfl⟩
          simp only [Option.toList, List.cons_append, List.nil_append]
          have hc5r := qtx_c_b (a := at1) hb (by omega)
          have hc5c := qtx_c_c t ln at1
          refine qr_callN 41 rfl rfl rfl (spx_levelOf (by omega)) ?_
          rintro _ _ ⟨rfl, b6, rfl, rfl⟩
          simp only [Option.toList, List.drop, List.cons_append, List.nil_append]
          have hb7 := qtx_lo_c (qtx_c t ln at1)
          refine qr_iload_n 42 rfl rfl rfl ?_
          refine qr_icmp_ne 91 45 rfl rfl rfl (by omega) (by omega) (fun h8 => ?_) (fun h8 => ?_)
          · skip
            refine qr_retV rfl rfl (Nat.zero_le _) (Nat.zero_le _) ?_
            first | exact ⟨rfl, _, _, _, _, _, rfl, qRd_cg hr0 (fun N => (hq N).trans (qtx_lp_x (hr0.2.1 N) (by omega)))⟩ | exact False.elim (by omega) | (have hk0 : k = 0 := (by omega); rw [hk0] at hq; exact ⟨rfl, _, _, _, _, _, rfl, qRd_cg hr0 (fun N => hq N)⟩)
          · skip
            refine qr_aload_n 46 rfl rfl rfl ?_
            refine qr_ccall (as := []) (rest := []) hi 49 rfl rfl (Nat.le_of_ble_eq_true rfl) rfl rfl (spx_next hi ht hl (by omega)) ?_
            rintro _ _ ⟨rfl, b9, rfl, hb10, rfl⟩
            simp only [Option.toList, List.cons_append, List.nil_append]
            have hc11r := qtx_c_b (a := at1) hb (by omega)
            have hc11c := qtx_c_c t ln at1
            refine qr_istore [(4, .int (qz (qtx_c t ln at1))), (3, .int (qz i)), (0, .ref a), (1, .int (qz lv)), (2, .int (qz op))] 51 rfl (by decide) rfl rfl ?_
            refine qr_aload_n 52 rfl rfl rfl ?_
            refine qr_dup 53 rfl rfl rfl ?_
            refine qr_cget4 hi 56 rfl rfl ?_
            refine qr_iconst 57 rfl rfl ?_
            refine qr_iadd 58 rfl rfl ?_
            refine qr_cput4 hi 61 rfl rfl ?_
            refine qr_aload_n 62 rfl rfl rfl ?_
            refine qr_iload_n 63 rfl rfl rfl ?_
            refine qr_iconst 64 rfl rfl ?_
            refine qr_iadd 65 rfl rfl ?_
            refine qr_iload_n 66 rfl rfl rfl ?_
            refine qr_ccall (as := [.int (qz (lv + 1)), .int (qz op)]) (rest := []) hi 69 rfl rfl (Nat.le_of_ble_eq_true rfl) rfl rfl (ihp _ rfl _ _ _ _ (by omega)) ?_
            rintro _ _ ⟨rfl, at12, sz13, nm14, sk15, cd16, rfl, hr17⟩
            simp only [Option.toList, List.cons_append, List.nil_append]
            have hr17q : qRd ln (fun N => qtx_lv t ln (fun b => qtx_on t ln N r b) m (at1 + 1)) (at1 + 1) sz1 nm1 cd1 at12 sz13 nm14 sk15 cd16 := hr17
            have hr17b := hr17q.1
            refine qr_aload_n 70 rfl rfl rfl ?_
            refine qr_iload 72 rfl rfl rfl ?_
            refine qr_iconst 73 rfl rfl ?_
            refine qr_ccall (as := [.int (qz (qtx_c t ln at1)), .int (qz 0)]) (rest := []) hi 76 rfl rfl (Nat.le_of_ble_eq_true rfl) rfl rfl (spx_emit hi (by omega) (by omega) (by omega)) ?_
            rintro _ _ ⟨rfl, rfl⟩
            simp only [Option.toList, List.cons_append, List.nil_append]
            refine qr_pop 77 rfl rfl rfl ?_
            have hQ := qRd_bin (Q := fun N => qtx_cm (qtx_c t ln at1) (P N) (qtx_lv t ln (fun b => qtx_on t ln N r b) m (at1 + 1))) hr0 hr17q (by omega) (fun N => rfl)
            have hq2 : ∀ N, qtx_lv t ln (fun b => qtx_on t ln N r b) (m + 1) at_ = qtx_lp t ln (fun b => qtx_lv t ln (fun b => qtx_on t ln N r b) m b) (4 - (m : Int)) k1 (qtx_cm (qtx_c t ln at1) (P N) (qtx_lv t ln (fun b => qtx_on t ln N r b) m (at1 + 1))) := fun N => (hq N).trans (qtx_lp_n (hr0.2.1 N) (by omega))
            refine qr_iload_n 78 rfl rfl rfl ?_
            refine qr_iconst 79 rfl rfl ?_
            refine qr_icmp_ne 85 82 rfl rfl rfl (by omega) (by omega) (fun h18 => ?_) (fun h18 => ?_)
            · skip
              refine qr_iinc [(3, .int (qz (i + 1))), (4, .int (qz (qtx_c t ln at1))), (0, .ref a), (1, .int (qz lv)), (2, .int (qz op))] 88 rfl rfl (by decide) rfl rfl ?_
              refine qr_goto 21 rfl rfl ?_
              exact ih (i + 1) (qtx_c t ln at1) at12 (sz13 + 1) nm14 sk15 (qzu cd16 (sz13 : Int).toNat ((qtx_c t ln at1) * 65536 + 0)) k1 _ (by omega) (by omega) hQ hq2
            · skip
              refine qr_goto 91 rfl rfl ?_
              refine qr_retV rfl rfl (Nat.zero_le _) (Nat.zero_le _) ?_
              have hk0 : k1 = 0 := by omega
              subst hk0
              exact ⟨rfl, _, _, _, _, _, rfl, qRd_cg hQ (fun N => hq2 N)⟩
  refine qr_iload_n 1 rfl rfl rfl ?_
  refine qr_iconst 2 rfl rfl ?_
  refine qr_icmp_lt 11 5 rfl rfl rfl (by omega) (by omega) (fun h1 => ?_) (fun h1 => ?_)
  · skip
    refine qr_aload_n 12 rfl rfl rfl ?_
    refine qr_iload_n 13 rfl rfl rfl ?_
    refine qr_iconst 14 rfl rfl ?_
    refine qr_iadd 15 rfl rfl ?_
    refine qr_iload_n 16 rfl rfl rfl ?_
    refine qr_ccall (as := [.int (qz (lv + 1)), .int (qz op)]) (rest := []) hi 19 rfl rfl (Nat.le_of_ble_eq_true rfl) rfl rfl (ihp _ rfl _ _ _ _ (by omega)) ?_
    rintro _ _ ⟨rfl, at2, sz3, nm4, sk5, cd6, rfl, hr7⟩
    simp only [Option.toList, List.cons_append, List.nil_append]
    have hr7q : qRd ln (fun N => qtx_lv t ln (fun b => qtx_on t ln N r b) m at_) at_ sz nm cd at2 sz3 nm4 sk5 cd6 := hr7
    have hr7b := hr7q.1
    obtain ⟨k, hk⟩ : ∃ k : Nat, k = (if m = 2 then 1 else 120) := ⟨_, rfl⟩
    have hk2 : (lv = 2 ∧ (0 : Int) = 0 ∧ k = 1) ∨ (¬ lv = 2 ∧ (k : Int) = 120 - 0) := by rw [hk]; split <;> omega
    have hq : ∀ N, qtx_lv t ln (fun b => qtx_on t ln N r b) (m + 1) at_ = qtx_lp t ln (fun b => qtx_lv t ln (fun b => qtx_on t ln N r b) m b) (4 - (m : Int)) k (qtx_lv t ln (fun b => qtx_on t ln N r b) m at_) := fun N => by rw [hk]; rfl
    refine qr_iconst 20 rfl rfl ?_
    refine qr_istore_n [(3, .int (qz 0)), (0, .ref a), (1, .int (qz lv)), (2, .int (qz op))] 21 rfl (by decide) rfl rfl ?_
    refine qr_iload_n 22 rfl rfl rfl ?_
    refine qr_bipush 24 rfl (by decide) rfl ?_
    refine qr_icmp_ge 91 27 rfl rfl rfl (by omega) (by omega) (fun h8 => ?_) (fun h8 => ?_)
    · skip
      refine qr_retV rfl rfl (Nat.zero_le _) (Nat.zero_le _) ?_
      first | exact ⟨rfl, _, _, _, _, _, rfl, qRd_cg hr7q (fun N => (hq N).trans (qtx_lp_x (hr7q.2.1 N) (by omega)))⟩ | exact False.elim (by omega) | (have hk0 : k = 0 := (by omega); rw [hk0] at hq; exact ⟨rfl, _, _, _, _, _, rfl, qRd_cg hr7q (fun N => hq N)⟩)
    · skip
      refine qr_aload_n 28 rfl rfl rfl ?_
      refine qr_cget7 hi 31 rfl rfl ?_
      refine qr_if_ne 91 34 rfl rfl rfl (by omega) (fun h9 => ?_) (fun h9 => ?_)
      · skip
        refine qr_retV rfl rfl (Nat.zero_le _) (Nat.zero_le _) ?_
        first | exact ⟨rfl, _, _, _, _, _, rfl, qRd_cg hr7q (fun N => (hq N).trans (qtx_lp_x (hr7q.2.1 N) (by omega)))⟩ | exact False.elim (by omega) | (have hk0 : k = 0 := (by omega); rw [hk0] at hq; exact ⟨rfl, _, _, _, _, _, rfl, qRd_cg hr7q (fun N => hq N)⟩)
      · skip
        have hz : sk5 = 0 := by omega
        subst hz
        obtain ⟨k1, rfl⟩ : ∃ k1, k = k1 + 1 := ⟨k - 1, by omega⟩
        refine qr_aload_n 35 rfl rfl rfl ?_
        refine qr_ccall (as := []) (rest := []) hi 38 rfl rfl (Nat.le_of_ble_eq_true rfl) rfl rfl (spx_next hi ht hl (by omega)) ?_
        rintro _ _ ⟨rfl, b10, rfl, hb11, rfl⟩
        simp only [Option.toList, List.cons_append, List.nil_append]
        have hc12r := qtx_c_b (a := at2) hb (by omega)
        have hc12c := qtx_c_c t ln at2
        refine qr_callN 41 rfl rfl rfl (spx_levelOf (by omega)) ?_
        rintro _ _ ⟨rfl, b13, rfl, rfl⟩
        simp only [Option.toList, List.drop, List.cons_append, List.nil_append]
        have hb14 := qtx_lo_c (qtx_c t ln at2)
        refine qr_iload_n 42 rfl rfl rfl ?_
        refine qr_icmp_ne 91 45 rfl rfl rfl (by omega) (by omega) (fun h15 => ?_) (fun h15 => ?_)
        · skip
          refine qr_retV rfl rfl (Nat.zero_le _) (Nat.zero_le _) ?_
          first | exact ⟨rfl, _, _, _, _, _, rfl, qRd_cg hr7q (fun N => (hq N).trans (qtx_lp_x (hr7q.2.1 N) (by omega)))⟩ | exact False.elim (by omega) | (have hk0 : k = 0 := (by omega); rw [hk0] at hq; exact ⟨rfl, _, _, _, _, _, rfl, qRd_cg hr7q (fun N => hq N)⟩)
        · skip
          refine qr_aload_n 46 rfl rfl rfl ?_
          refine qr_ccall (as := []) (rest := []) hi 49 rfl rfl (Nat.le_of_ble_eq_true rfl) rfl rfl (spx_next hi ht hl (by omega)) ?_
          rintro _ _ ⟨rfl, b16, rfl, hb17, rfl⟩
          simp only [Option.toList, List.cons_append, List.nil_append]
          have hc18r := qtx_c_b (a := at2) hb (by omega)
          have hc18c := qtx_c_c t ln at2
          refine qr_istore [(4, .int (qz (qtx_c t ln at2))), (3, .int (qz 0)), (0, .ref a), (1, .int (qz lv)), (2, .int (qz op))] 51 rfl (by decide) rfl rfl ?_
          refine qr_aload_n 52 rfl rfl rfl ?_
          refine qr_dup 53 rfl rfl rfl ?_
          refine qr_cget4 hi 56 rfl rfl ?_
          refine qr_iconst 57 rfl rfl ?_
          refine qr_iadd 58 rfl rfl ?_
          refine qr_cput4 hi 61 rfl rfl ?_
          refine qr_aload_n 62 rfl rfl rfl ?_
          refine qr_iload_n 63 rfl rfl rfl ?_
          refine qr_iconst 64 rfl rfl ?_
          refine qr_iadd 65 rfl rfl ?_
          refine qr_iload_n 66 rfl rfl rfl ?_
          refine qr_ccall (as := [.int (qz (lv + 1)), .int (qz op)]) (rest := []) hi 69 rfl rfl (Nat.le_of_ble_eq_true rfl) rfl rfl (ihp _ rfl _ _ _ _ (by omega)) ?_
          rintro _ _ ⟨rfl, at19, sz20, nm21, sk22, cd23, rfl, hr24⟩
          simp only [Option.toList, List.cons_append, List.nil_append]
          have hr24q : qRd ln (fun N => qtx_lv t ln (fun b => qtx_on t ln N r b) m (at2 + 1)) (at2 + 1) sz3 nm4 cd6 at19 sz20 nm21 sk22 cd23 := hr24
          have hr24b := hr24q.1
          refine qr_aload_n 70 rfl rfl rfl ?_
          refine qr_iload 72 rfl rfl rfl ?_
          refine qr_iconst 73 rfl rfl ?_
          refine qr_ccall (as := [.int (qz (qtx_c t ln at2)), .int (qz 0)]) (rest := []) hi 76 rfl rfl (Nat.le_of_ble_eq_true rfl) rfl rfl (spx_emit hi (by omega) (by omega) (by omega)) ?_
          rintro _ _ ⟨rfl, rfl⟩
          simp only [Option.toList, List.cons_append, List.nil_append]
          refine qr_pop 77 rfl rfl rfl ?_
          have hQ := qRd_bin (Q := fun N => qtx_cm (qtx_c t ln at2) ((fun N => qtx_lv t ln (fun b => qtx_on t ln N r b) m at_) N) (qtx_lv t ln (fun b => qtx_on t ln N r b) m (at2 + 1))) hr7q hr24q (by omega) (fun N => rfl)
          have hq2 : ∀ N, qtx_lv t ln (fun b => qtx_on t ln N r b) (m + 1) at_ = qtx_lp t ln (fun b => qtx_lv t ln (fun b => qtx_on t ln N r b) m b) (4 - (m : Int)) k1 (qtx_cm (qtx_c t ln at2) ((fun N => qtx_lv t ln (fun b => qtx_on t ln N r b) m at_) N) (qtx_lv t ln (fun b => qtx_on t ln N r b) m (at2 + 1))) := fun N => (hq N).trans (qtx_lp_n (hr7q.2.1 N) (by omega))
          refine qr_iload_n 78 rfl rfl rfl ?_
          refine qr_iconst 79 rfl rfl ?_
          refine qr_icmp_ne 85 82 rfl rfl rfl (by omega) (by omega) (fun h25 => ?_) (fun h25 => ?_)
          · skip
            refine qr_iinc [(3, .int (qz (0 + 1))), (4, .int (qz (qtx_c t ln at2))), (0, .ref a), (1, .int (qz lv)), (2, .int (qz op))] 88 rfl rfl (by decide) rfl rfl ?_
            refine qr_goto 21 rfl rfl ?_
            exact loop 121 (0 + 1) (qtx_c t ln at2) at19 (sz20 + 1) nm21 sk22 (qzu cd23 (sz20 : Int).toNat ((qtx_c t ln at2) * 65536 + 0)) k1 _ (by omega) (by omega) hQ hq2
          · skip
            refine qr_goto 91 rfl rfl ?_
            refine qr_retV rfl rfl (Nat.zero_le _) (Nat.zero_le _) ?_
            have hk0 : k1 = 0 := by omega
            subst hk0
            exact ⟨rfl, _, _, _, _, _, rfl, qRd_cg hQ (fun N => hq2 N)⟩
  · skip
    exact False.elim (by omega)

/-- operands and parts, by their measure -/
theorem spx_both {L : Nat} {xs : Nat → Int} {vb : Bool} {d : Nat} (mm : Nat) :
    (∀ (w : qm_W) (a : Nat) (ln at_ sz nm : Int) (t cd : Nat → Int) (op : Int) (r : Nat), qc_in w a → (∀ j, -2147483648 ≤ t j ∧ t j ≤ 2147483647) → (∀ j : Nat, (j : Int) < ln → 0 ≤ t j ∧ t j ≤ 255) → (0 ≤ ln ∧ ln ≤ 120) → (0 ≤ at_ ∧ at_ ≤ ln ∧ 0 ≤ sz ∧ sz + ln - at_ ≤ 121 ∧ -2147483648 ≤ nm ∧ nm ≤ 2147483647) → (0 ≤ op ∧ op ≤ 6 ∧ (r : Int) = 6 - op ∧ (6 - op) * 7 < mm) → qm_T (qe L xs vb) (d + mm + 5) 21 [.ref a, .int (qz op)] (qc w a ln at_ sz nm 0 t cd) (qpx w a ln t (fun N b => qtx_on t ln N r b) at_ sz nm cd)) ∧
    (∀ (w : qm_W) (a : Nat) (ln at_ sz nm : Int) (t cd : Nat → Int) (lv op : Int) (r m : Nat), qc_in w a → (∀ j, -2147483648 ≤ t j ∧ t j ≤ 2147483647) → (∀ j : Nat, (j : Int) < ln → 0 ≤ t j ∧ t j ≤ 255) → (0 ≤ ln ∧ ln ≤ 120) → (0 ≤ at_ ∧ at_ ≤ ln ∧ 0 ≤ sz ∧ sz + ln - at_ ≤ 121 ∧ -2147483648 ≤ nm ∧ nm ≤ 2147483647) → (0 ≤ op ∧ op ≤ 6 ∧ 0 ≤ lv ∧ lv ≤ 5 ∧ (m : Int) = 5 - lv ∧ (r : Int) = 6 - op ∧ (6 - op) * 7 + 6 - lv < mm) → qm_T (qe L xs vb) (d + mm + 5) 20 [.ref a, .int (qz lv), .int (qz op)] (qc w a ln at_ sz nm 0 t cd) (qpx w a ln t (fun N b => qtx_lv t ln (fun b => qtx_on t ln N r b) m b) at_ sz nm cd)) := by
  induction mm with
  | zero => exact ⟨fun w a ln at_ sz nm t cd op r _ _ _ _ _ h => absurd h (by omega), fun w a ln at_ sz nm t cd lv op r m _ _ _ _ _ h => absurd h (by omega)⟩
  | succ mm ih =>
    obtain ⟨ihO, ihP⟩ := ih
    have e : d + (mm + 1) + 5 = d + mm + 6 := by omega
    rw [e]
    constructor
    · intro w a ln at_ sz nm t cd op r hi ht hb hl h0 hm
      refine spx_opS (d := d + mm) hi ht hb hl h0 ⟨by omega, by omega, by omega⟩ ?_ ?_
      · intro h v hv at1 sz1 nm1 cd1 hb1
        exact ihO w a ln at1 sz1 nm1 t cd1 v (r - 1) hi ht hb hl hb1 (by omega)
      · intro h v hv at1 sz1 nm1 cd1 hb1
        exact ihP w a ln at1 sz1 nm1 t cd1 0 v (r - 1) 5 hi ht hb hl hb1 (by omega)
    · intro w a ln at_ sz nm t cd lv op r m hi ht hb hl h0 hm
      by_cases h5 : lv = 5
      · have hm0 : m = 0 := by omega
        subst hm0
        refine spx_part5 (d := d + mm) hi ht hb hl h0 h5 ?_
        intro at1 sz1 nm1 cd1 hb1
        exact ihO w a ln at1 sz1 nm1 t cd1 op r hi ht hb hl hb1 (by omega)
      · obtain ⟨m, rfl⟩ : ∃ m', m = m' + 1 := ⟨m - 1, by omega⟩
        refine spx_partS (d := d + mm) hi ht hb hl h0 ⟨by omega, by omega, by omega⟩ ?_
        intro v hv at1 sz1 nm1 cd1 hb1
        exact ihP w a ln at1 sz1 nm1 t cd1 v op r m hi ht hb hl hb1 (by omega)

theorem spx_part0 {L : Nat} {xs : Nat → Int} {vb : Bool} {d : Nat} {w : qm_W} {a : Nat} {ln at_ sz nm : Int} {t cd : Nat → Int} (hi : qc_in w a) (ht : ∀ j, -2147483648 ≤ t j ∧ t j ≤ 2147483647) (hb : ∀ j : Nat, (j : Int) < ln → 0 ≤ t j ∧ t j ≤ 255) (hl : 0 ≤ ln ∧ ln ≤ 120) (h0 : 0 ≤ at_ ∧ at_ ≤ ln ∧ 0 ≤ sz ∧ sz + ln - at_ ≤ 121 ∧ -2147483648 ≤ nm ∧ nm ≤ 2147483647) : qm_T (qe L xs vb) (d + 54) 20 [.ref a, .int (qz 0), .int (qz 0)] (qc w a ln at_ sz nm 0 t cd) (qpx w a ln t (fun N b => qtx_E t ln N 6 b) at_ sz nm cd) :=
  (spx_both (d := d) 49).2 w a ln at_ sz nm t cd 0 0 6 5 hi ht hb hl h0 (by omega)

set_option maxHeartbeats 4000000 in
set_option maxRecDepth 20000 in
theorem spx_line {L : Nat} {xs : Nat → Int} {vb : Bool} {d : Nat} {w : qm_W} {a : Nat} {ln at_ sz nm : Int} {t cd : Nat → Int} (hi : qc_in w a) (ht : ∀ j, -2147483648 ≤ t j ∧ t j ≤ 2147483647) (hb : ∀ j : Nat, (j : Int) < ln → 0 ≤ t j ∧ t j ≤ 255) (hl : 0 ≤ ln ∧ ln ≤ 120) (h0 : 0 ≤ at_ ∧ at_ ≤ ln ∧ 0 ≤ sz ∧ sz + ln - at_ ≤ 120 ∧ -2147483648 ≤ nm ∧ nm ≤ 2147483647) : qm_T (qe L xs vb) (d + 55) 19 [.ref a] (qc w a ln at_ sz nm 0 t cd) (fun r w' => r = none ∧ ∃ (at2 sz2 nm2 sk2 : Int) (cd2 : Nat → Int), w' = qc w a ln at2 sz2 nm2 sk2 t cd2 ∧ qRl ln (fun N => qtx_ln t ln (qtx_E t ln N 6) at_) at_ sz nm cd at2 sz2 nm2 sk2 cd2) := by
  refine qr_start (d := d + 54) qv_e19 (Nat.le_of_ble_eq_true rfl) ?_
  show qr_W (qe L xs vb) (d + 54) qx_e19 _ (0, [(0, .ref a)], [], qc w a ln at_ sz nm 0 t cd, 0, 0)
  refine qr_aload_n 1 rfl rfl rfl ?_
  refine qr_iconst 2 rfl rfl ?_
  refine qr_iconst 3 rfl rfl ?_
  refine qr_ccall (as := [.int (qz 0), .int (qz 0)]) (rest := []) hi 6 rfl rfl (Nat.le_of_ble_eq_true rfl) rfl rfl (spx_part0 hi ht hb hl (by omega)) ?_
  rintro _ _ ⟨rfl, at1, sz2, nm3, sk4, cd5, rfl, hr6⟩
  simp only [Option.toList, List.cons_append, List.nil_append]
  have hr6q : qRd ln (fun N => qtx_E t ln N 6 at_) at_ sz nm cd at1 sz2 nm3 sk4 cd5 := hr6
  have hr6b := hr6q.1
  refine qr_aload_n 7 rfl rfl rfl ?_
  refine qr_cget7 hi 10 rfl rfl ?_
  refine qr_if_ne 22 13 rfl rfl rfl (by omega) (fun h7 => ?_) (fun h7 => ?_)
  · skip
    refine qr_aload_n 23 rfl rfl rfl ?_
    refine qr_bipush 25 rfl (by decide) rfl ?_
    refine qr_iconst 26 rfl rfl ?_
    refine qr_ccall (as := [.int (qz 59), .int (qz 0)]) (rest := []) hi 29 rfl rfl (Nat.le_of_ble_eq_true rfl) rfl rfl (spx_emit hi (by omega) (by omega) (by omega)) ?_
    rintro _ _ ⟨rfl, rfl⟩
    simp only [Option.toList, List.cons_append, List.nil_append]
    refine qr_pop 30 rfl rfl rfl ?_
    refine qr_retV rfl rfl (Nat.zero_le _) (Nat.zero_le _) ?_
    exact ⟨rfl, _, _, _, _, _, rfl, qRl_pl (T := t) (E := fun N => qtx_E t ln N 6) hl.2 hr6q (by omega)⟩
  · skip
    refine qr_aload_n 14 rfl rfl rfl ?_
    refine qr_ccall (as := []) (rest := []) hi 17 rfl rfl (Nat.le_of_ble_eq_true rfl) rfl rfl (spx_next hi ht hl (by omega)) ?_
    rintro _ _ ⟨rfl, b8, rfl, hb9, rfl⟩
    simp only [Option.toList, List.cons_append, List.nil_append]
    have hc10r := qtx_c_b (a := at1) hb (by omega)
    have hc10c := qtx_c_c t ln at1
    refine qr_bipush 19 rfl (by decide) rfl ?_
    refine qr_icmp_eq 31 22 rfl rfl rfl (by omega) (by omega) (fun h11 => ?_) (fun h11 => ?_)
    · skip
      have hz : sk4 = 0 := by omega
      subst hz
      refine qr_aload_n 32 rfl rfl rfl ?_
      refine qr_dup 33 rfl rfl rfl ?_
      refine qr_cget4 hi 36 rfl rfl ?_
      refine qr_iconst 37 rfl rfl ?_
      refine qr_iadd 38 rfl rfl ?_
      refine qr_cput4 hi 41 rfl rfl ?_
      refine qr_aload_n 42 rfl rfl rfl ?_
      refine qr_bipush 44 rfl (by decide) rfl ?_
      refine qr_iconst 45 rfl rfl ?_
      refine qr_ccall (as := [.int (qz 63), .int (qz 0)]) (rest := []) hi 48 rfl rfl (Nat.le_of_ble_eq_true rfl) rfl rfl (spx_emit hi (by omega) (by omega) (by omega)) ?_
      rintro _ _ ⟨rfl, rfl⟩
      simp only [Option.toList, List.cons_append, List.nil_append]
      refine qr_istore_n [(1, .int (qz sz2)), (0, .ref a)] 49 rfl (by decide) rfl rfl ?_
      refine qr_aload_n 50 rfl rfl rfl ?_
      refine qr_iconst 51 rfl rfl ?_
      refine qr_iconst 52 rfl rfl ?_
      refine qr_ccall (as := [.int (qz 0), .int (qz 0)]) (rest := []) hi 55 rfl rfl (Nat.le_of_ble_eq_true rfl) rfl rfl (spx_part0 hi ht hb hl (by omega)) ?_
      rintro _ _ ⟨rfl, at12, sz13, nm14, sk15, cd16, rfl, hr17⟩
      simp only [Option.toList, List.cons_append, List.nil_append]
      have hr17q : qRd ln (fun N => qtx_E t ln N 6 (at1 + 1)) (at1 + 1) (sz2 + 1) nm3 (qzu cd5 (sz2 : Int).toNat (63 * 65536 + 0)) at12 sz13 nm14 sk15 cd16 := hr17
      have hr17b := hr17q.1
      refine qr_aload_n 56 rfl rfl rfl ?_
      refine qr_bipush 58 rfl (by decide) rfl ?_
      refine qr_iconst 59 rfl rfl ?_
      refine qr_ccall (as := [.int (qz 59), .int (qz 0)]) (rest := []) hi 62 rfl rfl (Nat.le_of_ble_eq_true rfl) rfl rfl (spx_emit hi (by omega) (by omega) (by omega)) ?_
      rintro _ _ ⟨rfl, rfl⟩
      simp only [Option.toList, List.cons_append, List.nil_append]
      refine qr_pop 63 rfl rfl rfl ?_
      refine qr_aload_n 64 rfl rfl rfl ?_
      refine qr_cget1 hi 67 rfl rfl ?_
      refine qr_iload_n 68 rfl rfl rfl ?_
      refine qr_ldc 4128768 70 rfl (by decide) rfl ?_
      refine qr_aload_n 71 rfl rfl rfl ?_
      refine qr_cget5 hi 74 rfl rfl ?_
      refine qr_ior 75 rfl rfl ?_
      refine qy_v (63 * 65536 + (sz13 + 1)) (qtx_em2 (by omega)) ?_
      refine qr_ccstore hi 76 rfl (by omega) rfl ?_
      refine qr_retV rfl rfl (Nat.zero_le _) (Nat.zero_le _) ?_
      exact ⟨rfl, _, _, _, _, _, rfl, qRl_if (T := t) (E := fun N => qtx_E t ln N 6) hl.2 (by omega) hr6q (by omega) hr17q⟩
    · skip
      refine qr_aload_n 23 rfl rfl rfl ?_
      refine qr_bipush 25 rfl (by decide) rfl ?_
      refine qr_iconst 26 rfl rfl ?_
      refine qr_ccall (as := [.int (qz 59), .int (qz 0)]) (rest := []) hi 29 rfl rfl (Nat.le_of_ble_eq_true rfl) rfl rfl (spx_emit hi (by omega) (by omega) (by omega)) ?_
      rintro _ _ ⟨rfl, rfl⟩
      simp only [Option.toList, List.cons_append, List.nil_append]
      refine qr_pop 30 rfl rfl rfl ?_
      refine qr_retV rfl rfl (Nat.zero_le _) (Nat.zero_le _) ?_
      exact ⟨rfl, _, _, _, _, _, rfl, qRl_pl (T := t) (E := fun N => qtx_E t ln N 6) hl.2 hr6q (by omega)⟩

set_option maxHeartbeats 4000000 in
set_option maxRecDepth 20000 in
theorem spx_lines {L : Nat} {xs : Nat → Int} {vb : Bool} {d : Nat} {w : qm_W} {a : Nat} {ln at_ sz nm sk : Int} {t cd : Nat → Int} (hi : qc_in w a) (ht : ∀ j, -2147483648 ≤ t j ∧ t j ≤ 2147483647) (hb : ∀ j : Nat, (j : Int) < ln → 0 ≤ t j ∧ t j ≤ 255) (hl : 0 ≤ ln ∧ ln ≤ 120) : qm_T (qe L xs vb) (d + 56) 18 [.ref a] (qc w a ln at_ sz nm sk t cd) (fun r w' => ∃ (v at2 sz2 nm2 sk2 : Int) (cd2 : Nat → Int), r = some (.int (qz v)) ∧ w' = qc w a ln at2 sz2 nm2 sk2 t cd2 ∧ (0 ≤ at2 ∧ at2 ≤ ln ∧ 0 ≤ sz2 ∧ sz2 ≤ 122 ∧ -2147483648 ≤ nm2 ∧ nm2 ≤ 2147483647 ∧ (sk2 = 0 ∨ sk2 = 1) ∧ -1 ≤ v ∧ v ≤ 120) ∧ qRt ln t v sz2 nm2 cd2) := by
  refine qr_start (d := d + 55) qv_e18 (Nat.le_of_ble_eq_true rfl) ?_
  show qr_W (qe L xs vb) (d + 55) qx_e18 _ (0, [(0, .ref a)], [], qc w a ln at_ sz nm sk t cd, 0, 0)
  have loop : ∀ (n : Nat) (i at1 sz1 nm1 : Int) (cd1 : Nat → Int), (i + n = 121 ∧ 0 ≤ i ∧ i ≤ at1) → (-2147483648 ≤ nm1 ∧ nm1 ≤ 2147483647) → qRs ln t n at1 sz1 nm1 cd1 → qr_W (qe L xs vb) (d + 55) qx_e18 (fun r w' => ∃ (v at2 sz2 nm2 sk2 : Int) (cd2 : Nat → Int), r = some (.int (qz v)) ∧ w' = qc w a ln at2 sz2 nm2 sk2 t cd2 ∧ (0 ≤ at2 ∧ at2 ≤ ln ∧ 0 ≤ sz2 ∧ sz2 ≤ 122 ∧ -2147483648 ≤ nm2 ∧ nm2 ≤ 2147483647 ∧ (sk2 = 0 ∨ sk2 = 1) ∧ -1 ≤ v ∧ v ≤ 120) ∧ qRt ln t v sz2 nm2 cd2) (22, [(1, .int (qz i)), (0, .ref a)], [], qc w a ln at1 sz1 nm1 0 t cd1, 0, 0) := by
    intro n
    induction n with
    | zero => intro i at1 sz1 nm1 cd1 h1 h2 hs; have hsb := hs.1; exact False.elim (by omega)
    | succ n ih =>
      intro i at1 sz1 nm1 cd1 h1 h2 hs
      have hsb := hs.1
      refine qr_iload_n 23 rfl rfl rfl ?_
      refine qr_bipush 25 rfl (by decide) rfl ?_
      refine qr_icmp_gt 72 28 rfl rfl rfl (by omega) (by omega) (fun h1 => ?_) (fun h1 => ?_)
      · skip
        refine qr_aload_n 73 rfl rfl rfl ?_
        refine qr_cget7 hi 76 rfl rfl ?_
        refine qr_if_eq 86 79 rfl rfl rfl (by omega) (fun _ => ?_) (fun h => False.elim (by omega))
        refine qr_iconst 87 rfl rfl ?_
        refine qr_retI rfl rfl (Nat.zero_le _) (Nat.zero_le _) ?_
        exact False.elim (by omega)
      · skip
        refine qr_aload_n 29 rfl rfl rfl ?_
        refine qr_cget7 hi 32 rfl rfl ?_
        refine qr_if_ne 72 35 rfl rfl rfl (by omega) (fun h => False.elim (by omega)) (fun _ => ?_)
        refine qr_aload_n 36 rfl rfl rfl ?_
        refine qr_ccall (as := []) (rest := []) hi 39 rfl rfl (Nat.le_of_ble_eq_true rfl) rfl rfl (spx_line hi ht hb hl (by omega)) ?_
        rintro _ _ ⟨rfl, at2, sz3, nm4, sk5, cd6, rfl, hr7⟩
        simp only [Option.toList, List.cons_append, List.nil_append]
        have hr7q : qRl ln (fun N => qtx_ln t ln (qtx_E t ln N 6) at1) at1 sz1 nm1 cd1 at2 sz3 nm4 sk5 cd6 := hr7
        have hr7b := hr7q.1
        refine qr_aload_n 40 rfl rfl rfl ?_
        refine qr_cget7 hi 43 rfl rfl ?_
        refine qr_if_ne 72 46 rfl rfl rfl (by omega) (fun h8 => ?_) (fun h8 => ?_)
        · skip
          refine qr_aload_n 73 rfl rfl rfl ?_
          refine qr_cget7 hi 76 rfl rfl ?_
          refine qr_if_eq 86 79 rfl rfl rfl (by omega) (fun h9 => ?_) (fun h9 => ?_)
          · skip
            refine qr_iconst 87 rfl rfl ?_
            refine qr_retI rfl rfl (Nat.zero_le _) (Nat.zero_le _) ?_
            first | exact False.elim (by omega) | (have hz : sk5 = 0 := (by omega); rw [hz] at hr7q; exact ⟨_, _, _, _, _, _, rfl, rfl, by omega, qRs_end hs hr7q (by omega)⟩)
          · skip
            refine qr_aload_n 80 rfl rfl rfl ?_
            refine qr_cget4 hi 83 rfl rfl ?_
            refine qr_goto 87 rfl rfl ?_
            refine qr_retI rfl rfl (Nat.zero_le _) (Nat.zero_le _) ?_
            first | exact ⟨_, _, _, _, _, _, rfl, rfl, by omega, qRs_bad hs hr7q (by omega) _ _ _⟩ | exact False.elim (by omega)
        · skip
          refine qr_aload_n 47 rfl rfl rfl ?_
          refine qr_cget4 hi 50 rfl rfl ?_
          refine qr_aload_n 51 rfl rfl rfl ?_
          refine qr_cget3 hi 54 rfl rfl ?_
          refine qr_icmp_lt 60 57 rfl rfl rfl (by omega) (by omega) (fun h10 => ?_) (fun h10 => ?_)
          · skip
            refine qr_aload_n 61 rfl rfl rfl ?_
            refine qr_bipush 63 rfl (by decide) rfl ?_
            refine qr_ccall (as := [.int (qz 59)]) (rest := []) hi 66 rfl rfl (Nat.le_of_ble_eq_true rfl) rfl rfl (spx_pass hi ht hl (by omega) (by decide)) ?_
            rintro _ _ ⟨rfl, at11, sk12, rfl, hp13⟩
            simp only [Option.toList, List.cons_append, List.nil_append]
            rcases hp13 with ⟨hpa, hpb, rfl, rfl⟩ | ⟨hpn, rfl, rfl⟩
            · skip
              subst hpa
              refine qr_iinc [(1, .int (qz (i + 1))), (0, .ref a)] 69 rfl rfl (by decide) rfl rfl ?_
              refine qr_goto 22 rfl rfl ?_
              exact ih (i + 1) (at2 + 1) sz3 nm4 cd6 (by omega) (by omega) (qRs_go hs hr7q hpb)
            · skip
              refine qr_iinc [(1, .int (qz (i + 1))), (0, .ref a)] 69 rfl rfl (by decide) rfl rfl ?_
              refine qr_goto 22 rfl rfl ?_
              refine qr_iload_n 23 rfl rfl rfl ?_
              refine qr_bipush 25 rfl (by decide) rfl ?_
              refine qr_icmp_gt 72 28 rfl rfl rfl (by omega) (by omega) (fun h14 => ?_) (fun h14 => ?_)
              · skip
                refine qr_aload_n 73 rfl rfl rfl ?_
                refine qr_cget7 hi 76 rfl rfl ?_
                refine qr_if_eq 86 79 rfl rfl rfl (by omega) (fun h => False.elim (by omega)) (fun _ => ?_)
                refine qr_aload_n 80 rfl rfl rfl ?_
                refine qr_cget4 hi 83 rfl rfl ?_
                refine qr_goto 87 rfl rfl ?_
                refine qr_retI rfl rfl (Nat.zero_le _) (Nat.zero_le _) ?_
                first | exact ⟨_, _, _, _, _, _, rfl, rfl, by omega, qRs_bad hs hr7q (by omega) _ _ _⟩ | exact False.elim (by omega)
              · skip
                refine qr_aload_n 29 rfl rfl rfl ?_
                refine qr_cget7 hi 32 rfl rfl ?_
                refine qr_if_ne 72 35 rfl rfl rfl (by omega) (fun _ => ?_) (fun h => False.elim (by omega))
                refine qr_aload_n 73 rfl rfl rfl ?_
                refine qr_cget7 hi 76 rfl rfl ?_
                refine qr_if_eq 86 79 rfl rfl rfl (by omega) (fun h => False.elim (by omega)) (fun _ => ?_)
                refine qr_aload_n 80 rfl rfl rfl ?_
                refine qr_cget4 hi 83 rfl rfl ?_
                refine qr_goto 87 rfl rfl ?_
                refine qr_retI rfl rfl (Nat.zero_le _) (Nat.zero_le _) ?_
                first | exact ⟨_, _, _, _, _, _, rfl, rfl, by omega, qRs_bad hs hr7q (by omega) _ _ _⟩ | exact False.elim (by omega)
          · skip
            refine qr_goto 72 rfl rfl ?_
            refine qr_aload_n 73 rfl rfl rfl ?_
            refine qr_cget7 hi 76 rfl rfl ?_
            refine qr_if_eq 86 79 rfl rfl rfl (by omega) (fun h15 => ?_) (fun h15 => ?_)
            · skip
              refine qr_iconst 87 rfl rfl ?_
              refine qr_retI rfl rfl (Nat.zero_le _) (Nat.zero_le _) ?_
              first | exact False.elim (by omega) | (have hz : sk5 = 0 := (by omega); rw [hz] at hr7q; exact ⟨_, _, _, _, _, _, rfl, rfl, by omega, qRs_end hs hr7q (by omega)⟩)
            · skip
              refine qr_aload_n 80 rfl rfl rfl ?_
              refine qr_cget4 hi 83 rfl rfl ?_
              refine qr_goto 87 rfl rfl ?_
              refine qr_retI rfl rfl (Nat.zero_le _) (Nat.zero_le _) ?_
              first | exact ⟨_, _, _, _, _, _, rfl, rfl, by omega, qRs_bad hs hr7q (by omega) _ _ _⟩ | exact False.elim (by omega)
  refine qr_aload_n 1 rfl rfl rfl ?_
  refine qr_iconst 2 rfl rfl ?_
  refine qr_cput4 hi 5 rfl rfl ?_
  refine qr_aload_n 6 rfl rfl rfl ?_
  refine qr_iconst 7 rfl rfl ?_
  refine qr_cput5 hi 10 rfl rfl ?_
  refine qr_aload_n 11 rfl rfl rfl ?_
  refine qr_iconst 12 rfl rfl ?_
  refine qr_cput6 hi 15 rfl rfl ?_
  refine qr_aload_n 16 rfl rfl rfl ?_
  refine qr_iconst 17 rfl rfl ?_
  refine qr_cput7 hi (by omega) 20 rfl rfl ?_
  refine qr_iconst 21 rfl rfl ?_
  refine qr_istore_n [(1, .int (qz 0)), (0, .ref a)] 22 rfl (by decide) rfl rfl ?_
  exact loop 121 0 0 0 0 cd (by omega) (by omega) (qRs_0 t 0 cd hl)

