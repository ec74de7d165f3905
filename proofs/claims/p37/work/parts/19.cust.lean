section QN
variable {X : qm_X} {d : Nat} {x : qs_Ent} {Q : Option Value → qm_W → Prop} {pc : Nat} {ls : qm_L} {st : List Value} {w : qm_W} {c n r1 r2 r3 : Nat} {rv : Value}
theorem qr_topI {y : Int} (k : ∀ v : Int, v = y → qr_W X d x Q (pc, ls, .int (qz v) :: st, w, c, n)) : qr_W X d x Q (pc, ls, .int (qz y) :: st, w, c, n) := k y rfl
theorem qr_topL {y : Int} (k : ∀ v : Int, v = y → qr_W X d x Q (pc, ls, .long (ql v) :: st, w, c, n)) : qr_W X d x Q (pc, ls, .long (ql y) :: st, w, c, n) := k y rfl
theorem qr_look {dflt : Int} {ps : Array (Int × Int)} {len : Nat} {a off : Int} (t : Nat) (hq : qm_fetch x.2.2.2.2.2.2.2 pc = some (pc, .lookupswitch dflt ps, len, r1, r2, r3, rv)) (ra : -2147483648 ≤ a ∧ a ≤ 2147483647) (hs : (ps.toList.zip (ps.toList.drop 1)).all (fun (a, next) => a.1 < next.1) = true) (ho : Op.lookupswitch.offset ps.toList dflt a = off) (ht : qm_to pc off = some t) (k : qr_W X d x Q (t, ls, st, w, c, n)) : qr_W X d x Q (pc, ls, .int (qz a) :: st, w, c, n) := by
  refine qr_eff hq rfl rfl (s' := (t, ls, st, w, c, n)) ?_ k
  refine (if_pos hs).trans ?_
  rw [qz_ti ra, ho]
  unfold qm_jump
  rw [ht]
  rfl
theorem qz_and_r (a b : Int) : -2147483648 ≤ qz_and a b ∧ qz_and a b ≤ 2147483647 := qz_rng _
theorem qz_or_r (a b : Int) : -2147483648 ≤ qz_or a b ∧ qz_or a b ≤ 2147483647 := qz_rng _
theorem qz_shl_r (a b : Int) : -2147483648 ≤ qz_shl a b ∧ qz_shl a b ≤ 2147483647 := qz_rng _
theorem qz_i2c_r (a : Int) : -2147483648 ≤ qz_i2c a ∧ qz_i2c a ≤ 2147483647 := qz_rng _
theorem qz_i2b_r (a : Int) : -2147483648 ≤ qz_i2b a ∧ qz_i2b a ≤ 2147483647 := qz_rng _
end QN

set_option maxHeartbeats 2000000 in
set_option maxRecDepth 20000 in
/-- Custom.isDigit -/
theorem sp_isDigit {X : qm_X} {d : Nat} {w : qm_W} {s : Int} (rs : -2147483648 ≤ s ∧ s ≤ 2147483647)  : qm_T X (d + 1) 23 [.int (qz s)] (w) (fun r w' => w' = w ∧ ∃ b : Int, r = some (.int (qz b)) ∧ (b = 0 ∨ b = 1) ∧ (b = 1 → 48 ≤ s ∧ s ≤ 57)) := by
  refine qr_start (d := d + 0) qv_e23 (Nat.le_of_ble_eq_true rfl) ?_
  show qr_W X (d + 0) qx_e23 _ (0, [(0, .int (qz s))], [], w, 0, 0)
  refine qr_iload_n 1 rfl rfl rfl ?_
  refine qr_bipush 3 rfl (by decide) rfl ?_
  refine qr_icmp_lt 16 6 rfl rfl rfl (by omega) (by omega) (fun h1 => ?_) (fun h1 => ?_)
  · skip
    refine qr_iconst 17 rfl rfl ?_
    refine qr_retZ rfl rfl (by omega) (Nat.zero_le _) (Nat.zero_le _) ?_
    exact ⟨rfl, _, rfl, by omega⟩
  · skip
    refine qr_iload_n 7 rfl rfl rfl ?_
    refine qr_bipush 9 rfl (by decide) rfl ?_
    refine qr_icmp_gt 16 12 rfl rfl rfl (by omega) (by omega) (fun h2 => ?_) (fun h2 => ?_)
    · skip
      refine qr_iconst 17 rfl rfl ?_
      refine qr_retZ rfl rfl (by omega) (Nat.zero_le _) (Nat.zero_le _) ?_
      exact ⟨rfl, _, rfl, by omega⟩
    · skip
      refine qr_iconst 13 rfl rfl ?_
      refine qr_goto 17 rfl rfl ?_
      refine qr_retZ rfl rfl (by omega) (Nat.zero_le _) (Nat.zero_le _) ?_
      exact ⟨rfl, _, rfl, by omega⟩

set_option maxHeartbeats 2000000 in
set_option maxRecDepth 20000 in
/-- Custom.levelOf -/
theorem sp_levelOf {X : qm_X} {d : Nat} {w : qm_W} {s : Int} (rs : -2147483648 ≤ s ∧ s ≤ 2147483647)  : qm_T X (d + 1) 33 [.int (qz s)] (w) (fun r w' => w' = w ∧ ∃ b : Int, r = some (.int (qz b)) ∧ (-1 ≤ b ∧ b ≤ 4) ∧ (s = -1 → b = -1)) := by
  refine qr_start (d := d + 0) qv_e33 (Nat.le_of_ble_eq_true rfl) ?_
  show qr_W X (d + 0) qx_e33 _ (0, [(0, .int (qz s))], [], w, 0, 0)
  refine qr_iload_n 1 rfl rfl rfl ?_
  by_cases k1 : (37 : Int) = s
  · refine qr_look (off := 99) 100 rfl (by omega) (by decide) (by rw [← k1] <;> decide) rfl ?_
    refine qr_iconst 101 rfl rfl ?_
    refine qr_retI rfl rfl (Nat.zero_le _) (Nat.zero_le _) ?_
    exact ⟨rfl, _, rfl, by omega⟩
  by_cases k2 : (38 : Int) = s
  · refine qr_look (off := 93) 94 rfl (by omega) (by decide) (by rw [← k2] <;> decide) rfl ?_
    refine qr_iconst 95 rfl rfl ?_
    refine qr_retI rfl rfl (Nat.zero_le _) (Nat.zero_le _) ?_
    exact ⟨rfl, _, rfl, by omega⟩
  by_cases k3 : (42 : Int) = s
  · refine qr_look (off := 99) 100 rfl (by omega) (by decide) (by rw [← k3] <;> decide) rfl ?_
    refine qr_iconst 101 rfl rfl ?_
    refine qr_retI rfl rfl (Nat.zero_le _) (Nat.zero_le _) ?_
    exact ⟨rfl, _, rfl, by omega⟩
  by_cases k4 : (43 : Int) = s
  · refine qr_look (off := 97) 98 rfl (by omega) (by decide) (by rw [← k4] <;> decide) rfl ?_
    refine qr_iconst 99 rfl rfl ?_
    refine qr_retI rfl rfl (Nat.zero_le _) (Nat.zero_le _) ?_
    exact ⟨rfl, _, rfl, by omega⟩
  by_cases k5 : (45 : Int) = s
  · refine qr_look (off := 97) 98 rfl (by omega) (by decide) (by rw [← k5] <;> decide) rfl ?_
    refine qr_iconst 99 rfl rfl ?_
    refine qr_retI rfl rfl (Nat.zero_le _) (Nat.zero_le _) ?_
    exact ⟨rfl, _, rfl, by omega⟩
  by_cases k6 : (47 : Int) = s
  · refine qr_look (off := 99) 100 rfl (by omega) (by decide) (by rw [← k6] <;> decide) rfl ?_
    refine qr_iconst 101 rfl rfl ?_
    refine qr_retI rfl rfl (Nat.zero_le _) (Nat.zero_le _) ?_
    exact ⟨rfl, _, rfl, by omega⟩
  by_cases k7 : (60 : Int) = s
  · refine qr_look (off := 95) 96 rfl (by omega) (by decide) (by rw [← k7] <;> decide) rfl ?_
    refine qr_iconst 97 rfl rfl ?_
    refine qr_retI rfl rfl (Nat.zero_le _) (Nat.zero_le _) ?_
    exact ⟨rfl, _, rfl, by omega⟩
  by_cases k8 : (61 : Int) = s
  · refine qr_look (off := 95) 96 rfl (by omega) (by decide) (by rw [← k8] <;> decide) rfl ?_
    refine qr_iconst 97 rfl rfl ?_
    refine qr_retI rfl rfl (Nat.zero_le _) (Nat.zero_le _) ?_
    exact ⟨rfl, _, rfl, by omega⟩
  by_cases k9 : (62 : Int) = s
  · refine qr_look (off := 95) 96 rfl (by omega) (by decide) (by rw [← k9] <;> decide) rfl ?_
    refine qr_iconst 97 rfl rfl ?_
    refine qr_retI rfl rfl (Nat.zero_le _) (Nat.zero_le _) ?_
    exact ⟨rfl, _, rfl, by omega⟩
  by_cases k10 : (124 : Int) = s
  · refine qr_look (off := 91) 92 rfl (by omega) (by decide) (by rw [← k10] <;> decide) rfl ?_
    refine qr_iconst 93 rfl rfl ?_
    refine qr_retI rfl rfl (Nat.zero_le _) (Nat.zero_le _) ?_
    exact ⟨rfl, _, rfl, by omega⟩
  refine qr_look (off := 101) 102 rfl (by omega) (by decide) (by simp [Op.lookupswitch.offset_cons, Op.lookupswitch.offset_nil, k1, k2, k3, k4, k5, k6, k7, k8, k9, k10]) rfl ?_
  refine qr_iconst 103 rfl rfl ?_
  refine qr_retI rfl rfl (Nat.zero_le _) (Nat.zero_le _) ?_
  exact ⟨rfl, _, rfl, by omega⟩

set_option maxHeartbeats 2000000 in
set_option maxRecDepth 20000 in
/-- Custom.next -/
theorem sp_next {X : qm_X} {d : Nat} {w : qm_W} {a : Nat} {ln at_ sz nm sk : Int} {t cd : Nat → Int} (hi : qc_in w a) (ht : ∀ j, -2147483648 ≤ t j ∧ t j ≤ 2147483647) (hl : 0 ≤ ln ∧ ln ≤ 120) (h0 : 0 ≤ at_ ∧ at_ ≤ ln ∧ 0 ≤ sz ∧ sz ≤ 122 ∧ -2147483648 ≤ nm ∧ nm ≤ 2147483647 ∧ (sk = 0 ∨ sk = 1))  : qm_T X (d + 1) 22 [.ref a] (qc w a ln at_ sz nm sk t cd) (fun r w' => w' = qc w a ln at_ sz nm sk t cd ∧ ∃ b : Int, r = some (.int (qz b)) ∧ (-2147483648 ≤ b ∧ b ≤ 2147483647) ∧ ((b = -1 ∧ ln ≤ at_) ∨ at_ < ln)) := by
  refine qr_start (d := d + 0) qv_e22 (Nat.le_of_ble_eq_true rfl) ?_
  show qr_W X (d + 0) qx_e22 _ (0, [(0, .ref a)], [], qc w a ln at_ sz nm sk t cd, 0, 0)
  refine qr_aload_n 1 rfl rfl rfl ?_
  refine qr_cget4 hi 4 rfl rfl ?_
  refine qr_aload_n 5 rfl rfl rfl ?_
  refine qr_cget3 hi 8 rfl rfl ?_
  refine qr_icmp_ge 23 11 rfl rfl rfl (by omega) (by omega) (fun h1 => ?_) (fun h1 => ?_)
  · skip
    refine qr_iconst 24 rfl rfl ?_
    refine qr_retI rfl rfl (Nat.zero_le _) (Nat.zero_le _) ?_
    exact ⟨rfl, _, rfl, by omega⟩
  · skip
    refine qr_aload_n 12 rfl rfl rfl ?_
    refine qr_cget0 hi 15 rfl rfl ?_
    refine qr_aload_n 16 rfl rfl rfl ?_
    refine qr_cget4 hi 19 rfl rfl ?_
    refine qr_ctload hi 20 rfl (by omega) rfl ?_
    refine qr_topI (fun v2 hv2 => ?_)
    have rv2 : -2147483648 ≤ v2 ∧ v2 ≤ 2147483647 := by rw [hv2]; exact ht _
    refine qr_goto 24 rfl rfl ?_
    refine qr_retI rfl rfl (Nat.zero_le _) (Nat.zero_le _) ?_
    exact ⟨rfl, _, rfl, by omega⟩

set_option maxHeartbeats 2000000 in
set_option maxRecDepth 20000 in
/-- Custom.emit -/
theorem sp_emit {X : qm_X} {d : Nat} {w : qm_W} {a : Nat} {ln at_ sz nm sk : Int} {t cd : Nat → Int} (hi : qc_in w a) (ht : ∀ j, -2147483648 ≤ t j ∧ t j ≤ 2147483647) (hl : 0 ≤ ln ∧ ln ≤ 120) (h0 : 0 ≤ at_ ∧ at_ ≤ ln ∧ 0 ≤ sz ∧ sz ≤ 122 ∧ -2147483648 ≤ nm ∧ nm ≤ 2147483647 ∧ (sk = 0 ∨ sk = 1)) {s u : Int}  : qm_T X (d + 1) 25 [.ref a, .int (qz s), .int (qz u)] (qc w a ln at_ sz nm sk t cd) (fun r w' => ∃ (b sz2 : Int) (cd2 : Nat → Int), r = some (.int (qz b)) ∧ w' = qc w a ln at_ sz2 nm sk t cd2 ∧ (0 ≤ b ∧ b < 122 ∧ 0 ≤ sz2 ∧ sz2 ≤ 122)) := by
  refine qr_start (d := d + 0) qv_e25 (Nat.le_of_ble_eq_true rfl) ?_
  show qr_W X (d + 0) qx_e25 _ (0, [(0, .ref a), (1, .int (qz s)), (2, .int (qz u))], [], qc w a ln at_ sz nm sk t cd, 0, 0)
  refine qr_aload_n 1 rfl rfl rfl ?_
  refine qr_cget5 hi 4 rfl rfl ?_
  refine qr_aload_n 5 rfl rfl rfl ?_
  refine qr_cget1 hi 8 rfl rfl ?_
  refine qr_cclen hi 9 rfl rfl ?_
  refine qr_icmp_lt 14 12 rfl rfl rfl (by omega) (by omega) (fun h1 => ?_) (fun h1 => ?_)
  · skip
    refine qr_aload_n 15 rfl rfl rfl ?_
    refine qr_cget1 hi 18 rfl rfl ?_
    refine qr_aload_n 19 rfl rfl rfl ?_
    refine qr_cget5 hi 22 rfl rfl ?_
    refine qr_iload_n 23 rfl rfl rfl ?_
    refine qr_bipush 25 rfl (by decide) rfl ?_
    refine qr_ishl 26 rfl rfl ?_
    refine qr_topI (fun v2 hv2 => ?_)
    have rv2 : -2147483648 ≤ v2 ∧ v2 ≤ 2147483647 := by rw [hv2]; exact qz_shl_r _ _
    refine qr_iload_n 27 rfl rfl rfl ?_
    refine qr_ior 28 rfl rfl ?_
    refine qr_topI (fun v3 hv3 => ?_)
    have rv3 : -2147483648 ≤ v3 ∧ v3 ≤ 2147483647 := by rw [hv3]; exact qz_or_r _ _
    refine qr_ccstore hi 29 rfl (by omega) rfl ?_
    refine qr_aload_n 30 rfl rfl rfl ?_
    refine qr_dup 31 rfl rfl rfl ?_
    refine qr_cget5 hi 34 rfl rfl ?_
    refine qr_dup_x1 35 rfl rfl rfl rfl ?_
    refine qr_iconst 36 rfl rfl ?_
    refine qr_iadd 37 rfl rfl ?_
    refine qr_topI (fun v4 hv4 => ?_)
    refine qr_cput5 hi 40 rfl rfl ?_
    refine qr_retI rfl rfl (Nat.zero_le _) (Nat.zero_le _) ?_
    exact ⟨_, _, _, rfl, rfl, by omega⟩
  · skip
    refine qr_iconst 13 rfl rfl ?_
    refine qr_retI rfl rfl (Nat.zero_le _) (Nat.zero_le _) ?_
    exact ⟨_, _, _, rfl, rfl, by omega⟩

set_option maxHeartbeats 2000000 in
set_option maxRecDepth 20000 in
/-- Custom.pass -/
theorem sp_pass {X : qm_X} {d : Nat} {w : qm_W} {a : Nat} {ln at_ sz nm sk : Int} {t cd : Nat → Int} (hi : qc_in w a) (ht : ∀ j, -2147483648 ≤ t j ∧ t j ≤ 2147483647) (hl : 0 ≤ ln ∧ ln ≤ 120) (h0 : 0 ≤ at_ ∧ at_ ≤ ln ∧ 0 ≤ sz ∧ sz ≤ 122 ∧ -2147483648 ≤ nm ∧ nm ≤ 2147483647 ∧ (sk = 0 ∨ sk = 1)) {s : Int} (rs : 0 ≤ s ∧ s ≤ 2147483647)  : qm_T X (d + 2) 32 [.ref a, .int (qz s)] (qc w a ln at_ sz nm sk t cd) (fun r w' => r = none ∧ ∃ (at2 sz2 nm2 sk2 : Int) (cd2 : Nat → Int), w' = qc w a ln at2 sz2 nm2 sk2 t cd2 ∧ (0 ≤ at2 ∧ at2 ≤ ln ∧ 0 ≤ sz2 ∧ sz2 ≤ 122 ∧ -2147483648 ≤ nm2 ∧ nm2 ≤ 2147483647 ∧ (sk2 = 0 ∨ sk2 = 1) ∧ (sk = 1 → sk2 = 1))) := by
  refine qr_start (d := d + 1) qv_e32 (Nat.le_of_ble_eq_true rfl) ?_
  show qr_W X (d + 1) qx_e32 _ (0, [(0, .ref a), (1, .int (qz s))], [], qc w a ln at_ sz nm sk t cd, 0, 0)
  refine qr_aload_n 1 rfl rfl rfl ?_
  refine qr_cget7 hi 4 rfl rfl ?_
  refine qr_if_ne 15 7 rfl rfl rfl (by omega) (fun h1 => ?_) (fun h1 => ?_)
  · skip
    refine qr_aload_n 16 rfl rfl rfl ?_
    refine qr_iconst 17 rfl rfl ?_
    refine qr_cput7 hi (by omega) 20 rfl rfl ?_
    refine qr_goto 33 rfl rfl ?_
    refine qr_retV rfl rfl (Nat.zero_le _) (Nat.zero_le _) ?_
    exact ⟨rfl, _, _, _, _, _, rfl, by omega⟩
  · skip
    refine qr_aload_n 8 rfl rfl rfl ?_
    refine qr_ccall (as := []) (rest := []) hi 11 rfl rfl (Nat.le_of_ble_eq_true rfl) rfl rfl (sp_next hi ht hl (by omega)) ?_
    rintro _ _ ⟨rfl, b2, rfl, hb3⟩
    simp only [Option.toList, List.cons_append, List.nil_append]
    refine qr_iload_n 12 rfl rfl rfl ?_
    refine qr_icmp_eq 23 15 rfl rfl rfl (by omega) (by omega) (fun h4 => ?_) (fun h4 => ?_)
    · skip
      refine qr_aload_n 24 rfl rfl rfl ?_
      refine qr_dup 25 rfl rfl rfl ?_
      refine qr_cget4 hi 28 rfl rfl ?_
      refine qr_iconst 29 rfl rfl ?_
      refine qr_iadd 30 rfl rfl ?_
      refine qr_topI (fun v5 hv5 => ?_)
      refine qr_cput4 hi 33 rfl rfl ?_
      refine qr_retV rfl rfl (Nat.zero_le _) (Nat.zero_le _) ?_
      exact ⟨rfl, _, _, _, _, _, rfl, by omega⟩
    · skip
      refine qr_aload_n 16 rfl rfl rfl ?_
      refine qr_iconst 17 rfl rfl ?_
      refine qr_cput7 hi (by omega) 20 rfl rfl ?_
      refine qr_goto 33 rfl rfl ?_
      refine qr_retV rfl rfl (Nat.zero_le _) (Nat.zero_le _) ?_
      exact ⟨rfl, _, _, _, _, _, rfl, by omega⟩
