theorem qz_and_m {c : Int} (h : 0 ≤ c ∧ c ≤ 2147483647) : qz_and c 65535 = c % 65536 := by
  have h1 : qlz (qz_and c 65535) = qlz c &&& qlz 65535 := qlz_and rfl
  rw [show qlz 65535 = 2 ^ 16 - 1 by decide +kernel, Nat.and_two_pow_sub_one_eq_mod] at h1
  have h2 := qlz_nn h
  have h3 := qz_andL 65535 h
  have h4 := qlz_nn (a := qz_and c 65535) (by omega)
  omega
section QWS
variable {C N : Nat → Int} {z i : Int} {s : Nat → Int} {p : Int}
theorem qws_num {a : Int} {k : Nat} (h : i < z) (hc : C i.toNat / 65536 = 48) (hp : p < 120) (ha : a = C i.toNat % 65536) (hk : k = p.toNat) : qwv C N z i s p = qwv C N z (i + 1) (qzu s k a) (p + 1) := by
  rw [qwv_s C N s p h, if_pos (Or.inl hc), if_neg (by omega), if_pos hc, ha, hk]
theorem qws_nam {a : Int} {k : Nat} (h : i < z) (hc : C i.toNat / 65536 = 97) (hp : p < 120) (hm : C i.toNat % 65536 < 9) (ha : a = N (C i.toNat % 65536).toNat) (hk : k = p.toNat) : qwv C N z i s p = qwv C N z (i + 1) (qzu s k a) (p + 1) := by
  rw [qwv_s C N s p h, if_pos (Or.inr hc), if_neg (by omega), if_neg (by omega), if_pos hm, ha, hk]
theorem qws_nam9 {a : Int} {k : Nat} (h : i < z) (hc : C i.toNat / 65536 = 97) (hp : p < 120) (hm : 9 ≤ C i.toNat % 65536) (ha : a = 0) (hk : k = p.toNat) : qwv C N z i s p = qwv C N z (i + 1) (qzu s k a) (p + 1) := by
  rw [qwv_s C N s p h, if_pos (Or.inr hc), if_neg (by omega), if_neg (by omega), if_neg (by omega), ha, hk]
theorem qws_ful (h : i < z) (hc : C i.toNat / 65536 = 48 ∨ C i.toNat / 65536 = 97) (hp : 120 ≤ p) : qwv C N z i s p = 0 := by
  rw [qwv_s C N s p h, if_pos hc, if_pos hp]
theorem qws_emp (h : i < z) (hc : ¬ C i.toNat / 65536 = 48 ∧ ¬ C i.toNat / 65536 = 97) (hp : p < 1) : qwv C N z i s p = 0 := by
  rw [qwv_s C N s p h, if_neg (by omega), if_pos hp]
theorem qws_end (h : i < z) (hc : C i.toNat / 65536 = 59) (hp : 1 ≤ p) : qwv C N z i s p = s (p - 1).toNat := by
  rw [qwv_s C N s p h, if_neg (by omega), if_neg (by omega), if_pos hc]
theorem qws_if {j : Int} (h : i < z) (hc : C i.toNat / 65536 = 63) (hp : 1 ≤ p) (hj : (s (p - 1).toNat = 0 ∧ ((i + 1 ≤ C i.toNat % 65536 ∧ j = C i.toNat % 65536) ∨ (C i.toNat % 65536 ≤ i + 1 ∧ j = i + 1))) ∨ (¬ s (p - 1).toNat = 0 ∧ j = i + 1)) : qwv C N z i s p = qwv C N z j s (p - 1) := by
  rw [qwv_s C N s p h, if_neg (by omega), if_neg (by omega), if_neg (by omega), if_pos hc]
  have e : (if s (p - 1).toNat = 0 ∧ i + 1 ≤ C i.toNat % 65536 then C i.toNat % 65536 else i + 1) = j := by
    split <;> omega
  rw [e]
theorem qws_not {a : Int} {k : Nat} (h : i < z) (hc : C i.toNat / 65536 = 33) (hp : 1 ≤ p) (ha : (s (p - 1).toNat = 0 ∧ a = 1) ∨ (¬ s (p - 1).toNat = 0 ∧ a = 0)) (hk : k = (p - 1).toNat) : qwv C N z i s p = qwv C N z (i + 1) (qzu s k a) p := by
  rw [qwv_s C N s p h, if_neg (by omega), if_neg (by omega), if_neg (by omega), if_neg (by omega), if_pos hc]
  have e : (if s (p - 1).toNat = 0 then (1 : Int) else 0) = a := by split <;> omega
  rw [e, hk]
theorem qws_neg {a : Int} {k : Nat} (h : i < z) (hc : C i.toNat / 65536 = 126) (hp : 1 ≤ p) (ha : a = (qz (-(s (p - 1).toNat))).toInt) (hk : k = (p - 1).toNat) : qwv C N z i s p = qwv C N z (i + 1) (qzu s k a) p := by
  rw [qwv_s C N s p h, if_neg (by omega), if_neg (by omega), if_neg (by omega), if_neg (by omega), if_neg (by omega), if_pos hc, ha, hk]
theorem qws_two (h : i < z) (hc : ¬ C i.toNat / 65536 = 48 ∧ ¬ C i.toNat / 65536 = 97 ∧ ¬ C i.toNat / 65536 = 59 ∧ ¬ C i.toNat / 65536 = 63 ∧ ¬ C i.toNat / 65536 = 33 ∧ ¬ C i.toNat / 65536 = 126) (hp : 1 ≤ p ∧ p < 2) : qwv C N z i s p = 0 := by
  rw [qwv_s C N s p h, if_neg (by omega), if_neg (by omega), if_neg (by omega), if_neg (by omega), if_neg (by omega), if_neg (by omega), if_pos (by omega)]
theorem qws_bin {a : Int} {k : Nat} (h : i < z) (hc : ¬ C i.toNat / 65536 = 48 ∧ ¬ C i.toNat / 65536 = 97 ∧ ¬ C i.toNat / 65536 = 59 ∧ ¬ C i.toNat / 65536 = 63 ∧ ¬ C i.toNat / 65536 = 33 ∧ ¬ C i.toNat / 65536 = 126) (hp : 2 ≤ p) (ha : a = qtx_ap (C i.toNat / 65536) (s (p - 2).toNat) (s (p - 1).toNat)) (hk : k = (p - 2).toNat) : qwv C N z i s p = qwv C N z (i + 1) (qzu s k a) (p - 1) := by
  rw [qwv_s C N s p h, if_neg (by omega), if_neg (by omega), if_neg (by omega), if_neg (by omega), if_neg (by omega), if_neg (by omega), if_neg (by omega), ha, hk]
end QWS
theorem qap_def {c x y : Int} (h : ¬ c = 124 ∧ ¬ c = 38 ∧ ¬ c = 60 ∧ ¬ c = 61 ∧ ¬ c = 62 ∧ ¬ c = 43 ∧ ¬ c = 45 ∧ ¬ c = 42 ∧ ¬ c = 47 ∧ ¬ c = 37) : 0 = qtx_ap c x y := by
  unfold qtx_ap
  rw [if_neg h.1, if_neg h.2.1, if_neg h.2.2.1, if_neg h.2.2.2.1, if_neg h.2.2.2.2.1, if_neg h.2.2.2.2.2.1, if_neg h.2.2.2.2.2.2.1, if_neg h.2.2.2.2.2.2.2.1, if_neg h.2.2.2.2.2.2.2.2.1, if_neg h.2.2.2.2.2.2.2.2.2]
  split <;> rfl

set_option maxHeartbeats 4000000 in
set_option maxRecDepth 20000 in
/-- OneRoof$Custom.joined -/
theorem sf_98x {L : Nat} {xs : Nat → Int} {vb : Bool} {d : Nat} {σ α : Nat → Nat → Int} {κ : Nat → Option Nat} {ρ : Nat} {x0 : Int} {x1 : Int} {x2 : Int} (hI : qI σ α κ ρ) (r0 : (-2147483648) ≤ x0 ∧ x0 ≤ 2147483647) (r1 : (-2147483648) ≤ x1 ∧ x1 ≤ 2147483647) (r2 : (-2147483648) ≤ x2 ∧ x2 ≤ 2147483647) : qm_T (qe L xs vb) (d + 1) 98 [.int (qz x0), .int (qz x1), .int (qz x2)] (qw σ α κ ρ) (fun r w' => w' = qw σ α κ ρ ∧ ∃ v : Int, r = some (.int (qz v)) ∧ ((-2147483648) ≤ v ∧ v ≤ 2147483647) ∧ v = qtx_ap x0 x1 x2) := by
  refine qr_start (d := d + 0) qv_e98 (Nat.le_of_ble_eq_true rfl) ?_
  show qr_W (qe L xs vb) (d + 0) qx_e98 _ (0, [(0, .int (qz x0)), (1, .int (qz x1)), (2, .int (qz x2))], [], _, 0, 0)
  refine qr_iload_n 1 rfl rfl rfl ?_
  have h1 : x0 = 37 ∨ x0 = 38 ∨ x0 = 42 ∨ x0 = 43 ∨ x0 = 45 ∨ x0 = 47 ∨ x0 = 60 ∨ x0 = 61 ∨ x0 = 62 ∨ x0 = 124 ∨ (¬ x0 = 37 ∧ ¬ x0 = 38 ∧ ¬ x0 = 42 ∧ ¬ x0 = 43 ∧ ¬ x0 = 45 ∧ ¬ x0 = 47 ∧ ¬ x0 = 60 ∧ ¬ x0 = 61 ∧ ¬ x0 = 62 ∧ ¬ x0 = 124) := by omega
  rcases h1 with h1 | h1 | h1 | h1 | h1 | h1 | h1 | h1 | h1 | h1 | h1
  · skip
    refine qr_look (off := 176) 177 rfl (by omega) (by decide) (by rw [h1]; decide) rfl ?_
    refine qr_iload_n 178 rfl rfl rfl ?_
    refine qr_if_ne 185 181 rfl rfl rfl (by omega) (fun h3 => ?_) (fun h3 => ?_)
    · skip
      refine qr_iload_n 186 rfl rfl rfl ?_
      refine qr_iload_n 187 rfl rfl rfl ?_
      refine qr_iremW 188 rfl (by omega) rfl ?_
      refine qy_canE (fun v4 hv4 hev4 => ?_)
      refine qr_retI rfl rfl (by decide) (by decide) ?_
      exact ⟨rfl, v4, rfl, by omega, (qap_rem (by omega) (by omega) hev4 (by omega))⟩
    · skip
      refine qr_iconst 182 rfl rfl ?_
      refine qr_goto 188 rfl rfl ?_
      refine qr_retI rfl rfl (by decide) (by decide) ?_
      exact ⟨rfl, 0, rfl, by omega, (qap_z (by omega) (by omega))⟩
  · skip
    refine qr_look (off := 105) 106 rfl (by omega) (by decide) (by rw [h1]; decide) rfl ?_
    refine qr_iload_n 107 rfl rfl rfl ?_
    refine qr_if_eq 118 110 rfl rfl rfl (by omega) (fun h5 => ?_) (fun h5 => ?_)
    · skip
      refine qr_iconst 119 rfl rfl ?_
      refine qr_retI rfl rfl (by decide) (by decide) ?_
      exact ⟨rfl, 0, rfl, by omega, (qap_and (by omega) (by omega))⟩
    · skip
      refine qr_iload_n 111 rfl rfl rfl ?_
      refine qr_if_eq 118 114 rfl rfl rfl (by omega) (fun h6 => ?_) (fun h6 => ?_)
      · skip
        refine qr_iconst 119 rfl rfl ?_
        refine qr_retI rfl rfl (by decide) (by decide) ?_
        exact ⟨rfl, 0, rfl, by omega, (qap_and (by omega) (by omega))⟩
      · skip
        refine qr_iconst 115 rfl rfl ?_
        refine qr_goto 119 rfl rfl ?_
        refine qr_retI rfl rfl (by decide) (by decide) ?_
        exact ⟨rfl, 1, rfl, by omega, (qap_and (by omega) (by omega))⟩
  · skip
    refine qr_look (off := 160) 161 rfl (by omega) (by decide) (by rw [h1]; decide) rfl ?_
    refine qr_iload_n 162 rfl rfl rfl ?_
    refine qr_iload_n 163 rfl rfl rfl ?_
    refine qr_imul 164 rfl rfl ?_
    refine qy_canE (fun v7 hv7 hev7 => ?_)
    refine qr_retI rfl rfl (by decide) (by decide) ?_
    exact ⟨rfl, v7, rfl, by omega, (qap_mul (by omega) hev7 (by omega))⟩
  · skip
    refine qr_look (off := 152) 153 rfl (by omega) (by decide) (by rw [h1]; decide) rfl ?_
    refine qr_iload_n 154 rfl rfl rfl ?_
    refine qr_iload_n 155 rfl rfl rfl ?_
    refine qr_iadd 156 rfl rfl ?_
    refine qy_canE (fun v8 hv8 hev8 => ?_)
    refine qr_retI rfl rfl (by decide) (by decide) ?_
    exact ⟨rfl, v8, rfl, by omega, (qap_add (by omega) hev8 (by omega))⟩
  · skip
    refine qr_look (off := 156) 157 rfl (by omega) (by decide) (by rw [h1]; decide) rfl ?_
    refine qr_iload_n 158 rfl rfl rfl ?_
    refine qr_iload_n 159 rfl rfl rfl ?_
    refine qr_isub 160 rfl rfl ?_
    refine qy_canE (fun v9 hv9 hev9 => ?_)
    refine qr_retI rfl rfl (by decide) (by decide) ?_
    exact ⟨rfl, v9, rfl, by omega, (qap_sub (by omega) hev9 (by omega))⟩
  · skip
    refine qr_look (off := 164) 165 rfl (by omega) (by decide) (by rw [h1]; decide) rfl ?_
    refine qr_iload_n 166 rfl rfl rfl ?_
    refine qr_if_ne 173 169 rfl rfl rfl (by omega) (fun h10 => ?_) (fun h10 => ?_)
    · skip
      refine qr_iload_n 174 rfl rfl rfl ?_
      refine qr_iload_n 175 rfl rfl rfl ?_
      refine qr_idivW 176 rfl (by omega) rfl ?_
      refine qy_canE (fun v11 hv11 hev11 => ?_)
      refine qr_retI rfl rfl (by decide) (by decide) ?_
      exact ⟨rfl, v11, rfl, by omega, (qap_div (by omega) (by omega) hev11 (by omega))⟩
    · skip
      refine qr_iconst 170 rfl rfl ?_
      refine qr_goto 176 rfl rfl ?_
      refine qr_retI rfl rfl (by decide) (by decide) ?_
      exact ⟨rfl, 0, rfl, by omega, (qap_z (by omega) (by omega))⟩
  · skip
    refine qr_look (off := 119) 120 rfl (by omega) (by decide) (by rw [h1]; decide) rfl ?_
    refine qr_iload_n 121 rfl rfl rfl ?_
    refine qr_iload_n 122 rfl rfl rfl ?_
    refine qr_icmp_ge 129 125 rfl rfl rfl (by omega) (by omega) (fun h12 => ?_) (fun h12 => ?_)
    · skip
      refine qr_iconst 130 rfl rfl ?_
      refine qr_retI rfl rfl (by decide) (by decide) ?_
      exact ⟨rfl, 0, rfl, by omega, (qap_cmp (by omega))⟩
    · skip
      refine qr_iconst 126 rfl rfl ?_
      refine qr_goto 130 rfl rfl ?_
      refine qr_retI rfl rfl (by decide) (by decide) ?_
      exact ⟨rfl, 1, rfl, by omega, (qap_cmp (by omega))⟩
  · skip
    refine qr_look (off := 130) 131 rfl (by omega) (by decide) (by rw [h1]; decide) rfl ?_
    refine qr_iload_n 132 rfl rfl rfl ?_
    refine qr_iload_n 133 rfl rfl rfl ?_
    refine qr_icmp_ne 140 136 rfl rfl rfl (by omega) (by omega) (fun h13 => ?_) (fun h13 => ?_)
    · skip
      refine qr_iconst 141 rfl rfl ?_
      refine qr_retI rfl rfl (by decide) (by decide) ?_
      exact ⟨rfl, 0, rfl, by omega, (qap_cmp (by omega))⟩
    · skip
      refine qr_iconst 137 rfl rfl ?_
      refine qr_goto 141 rfl rfl ?_
      refine qr_retI rfl rfl (by decide) (by decide) ?_
      exact ⟨rfl, 1, rfl, by omega, (qap_cmp (by omega))⟩
  · skip
    refine qr_look (off := 141) 142 rfl (by omega) (by decide) (by rw [h1]; decide) rfl ?_
    refine qr_iload_n 143 rfl rfl rfl ?_
    refine qr_iload_n 144 rfl rfl rfl ?_
    refine qr_icmp_le 151 147 rfl rfl rfl (by omega) (by omega) (fun h14 => ?_) (fun h14 => ?_)
    · skip
      refine qr_iconst 152 rfl rfl ?_
      refine qr_retI rfl rfl (by decide) (by decide) ?_
      exact ⟨rfl, 0, rfl, by omega, (qap_cmp (by omega))⟩
    · skip
      refine qr_iconst 148 rfl rfl ?_
      refine qr_goto 152 rfl rfl ?_
      refine qr_retI rfl rfl (by decide) (by decide) ?_
      exact ⟨rfl, 1, rfl, by omega, (qap_cmp (by omega))⟩
  · skip
    refine qr_look (off := 91) 92 rfl (by omega) (by decide) (by rw [h1]; decide) rfl ?_
    refine qr_iload_n 93 rfl rfl rfl ?_
    refine qr_if_ne 100 96 rfl rfl rfl (by omega) (fun h15 => ?_) (fun h15 => ?_)
    · skip
      refine qr_iconst 101 rfl rfl ?_
      refine qr_goto 105 rfl rfl ?_
      refine qr_retI rfl rfl (by decide) (by decide) ?_
      exact ⟨rfl, 1, rfl, by omega, (qap_or (by omega) (by omega))⟩
    · skip
      refine qr_iload_n 97 rfl rfl rfl ?_
      refine qr_if_eq 104 100 rfl rfl rfl (by omega) (fun h16 => ?_) (fun h16 => ?_)
      · skip
        refine qr_iconst 105 rfl rfl ?_
        refine qr_retI rfl rfl (by decide) (by decide) ?_
        exact ⟨rfl, 0, rfl, by omega, (qap_or (by omega) (by omega))⟩
      · skip
        refine qr_iconst 101 rfl rfl ?_
        refine qr_goto 105 rfl rfl ?_
        refine qr_retI rfl rfl (by decide) (by decide) ?_
        exact ⟨rfl, 1, rfl, by omega, (qap_or (by omega) (by omega))⟩
  · skip
    refine qr_look (off := 188) 189 rfl (by omega) (by decide) (by simp only [Op.lookupswitch.offset_cons, Op.lookupswitch.offset_nil]; repeat' split; all_goals omega) rfl ?_
    refine qr_iconst 190 rfl rfl ?_
    refine qr_retI rfl rfl (by decide) (by decide) ?_
    exact ⟨rfl, 0, rfl, by omega, (qap_def (by omega))⟩

set_option maxHeartbeats 4000000 in
set_option maxRecDepth 20000 in
/-- OneRoof$Custom.worth -/
theorem sf_97_50_59x {L : Nat} {xs : Nat → Int} {vb : Bool} {d : Nat} {σ α : Nat → Nat → Int} {κ : Nat → Option Nat} {ρ : Nat}  (hI : qI σ α κ ρ) (p0 : ∀ k : Int, 0 ≤ k → k < σ 50 5 → 0 ≤ α 52 k.toNat ∧ α 52 k.toNat < 8388608) : qm_T (qe L xs vb) (d + 2) 97 [.ref 50, .ref 59] (qw σ α κ ρ) (fun r w' => ∃ α', w' = qw σ α' κ ρ ∧ qI σ α' κ ρ ∧ qFr [] [53] σ α σ α' ∧ ∃ v : Int, r = some (.int (qz v)) ∧ ((-2147483648) ≤ v ∧ v ≤ 2147483647) ∧ v = qwv (α 52) (α 59) (σ 50 5) 0 (α 53) 0) := by
  refine qr_start (d := d + 1) qv_e97 (Nat.le_of_ble_eq_true rfl) ?_
  show qr_W (qe L xs vb) (d + 1) qx_e97 _ (0, [(0, .ref 50), (1, .ref 59)], [], _, 0, 0)
  have hF0 := qFr_rf [] [53] σ α
  have hz50_5 : 0 ≤ σ 50 5 ∧ σ 50 5 ≤ 122 := hI.1 50 5
  refine qr_iconst 1 rfl rfl ?_
  refine qr_istore_n _ 2 rfl (by decide) rfl rfl ?_
  refine qr_iconst 3 rfl rfl ?_
  refine qr_istore_n _ 4 rfl (by decide) rfl rfl ?_
  have hL1533 : ∀ (n : Nat) (ls : qm_L) (u1521 u1523 : Int) (α1525 : Nat → Nat → Int), 65536 - u1523 < (n : Int) → qm_get ls 0 = some (.ref 50) → qm_get ls 1 = some (.ref 59) → qm_get ls 2 = some (.int (qz u1521)) → qm_get ls 3 = some (.int (qz u1523)) → (0 ≤ u1521 ∧ u1521 ≤ 120) → (0 ≤ u1523 ∧ u1523 ≤ 65535) → qI σ α1525 κ ρ → qFr [] [53] σ α σ α1525 → α1525 52 = (α 52) → α1525 59 = (α 59) → qwv (α 52) (α 59) (σ 50 5) 0 (α 53) 0 = qwv (α 52) (α 59) (σ 50 5) u1523 (α1525 53) u1521 → qr_W (qe L xs vb) (d + 1) qx_e97 (fun r w' => ∃ α', w' = qw σ α' κ ρ ∧ qI σ α' κ ρ ∧ qFr [] [53] σ α σ α' ∧ ∃ v : Int, r = some (.int (qz v)) ∧ ((-2147483648) ≤ v ∧ v ≤ 2147483647) ∧ v = qwv (α 52) (α 59) (σ 50 5) 0 (α 53) 0) (4, ls, [], qw σ α1525 κ ρ, 0, 0) := by
    intro n
    induction n with
    | zero => intro ls u1521 u1523 α1525 hm g1518 g1519 g1520 g1522 hf1530 hf1531 hI1526 hF1527 hk1528 hk1529 hx1532; exact False.elim (by omega)
    | succ n ih1534 =>
      intro ls u1521 u1523 α1525 hm g1518 g1519 g1520 g1522 hf1530 hf1531 hI1526 hF1527 hk1528 hk1529 hx1532
      refine qr_iload_n 5 rfl g1522 rfl ?_
      refine qr_aload_n 6 rfl g1518 rfl ?_
      refine qr_get 9 rfl rfl rfl (by decide) rfl ?_
      refine qr_icmp_ge 240 12 rfl rfl rfl (by omega) (by omega) (fun h1535 => ?_) (fun h1535 => ?_)
      · skip
        refine qr_iconst 241 rfl rfl ?_
        refine qr_retI rfl rfl (by decide) (by decide) ?_
        exact ⟨_, rfl, hI1526, hF1527, 0, rfl, by omega, (by rw [hx1532, qwv_end (by omega)])⟩
      · skip
        refine qr_aload_n 13 rfl g1518 rfl ?_
        refine qr_get 16 rfl rfl rfl (by decide) rfl ?_
        refine qr_iload_n 17 rfl g1522 rfl ?_
        refine qr_iaload 18 rfl rfl (by omega) (by decide) rfl ?_
        refine qr_topI (fun v1536 hv1536 => ?_)
        have hs1537 : (-2147483648) ≤ v1536 ∧ v1536 ≤ 2147483647 := by rw [hv1536]; exact hI1526.2.1 52 _ (show _ < 122 by omega)
        have hrv1536 : v1536 = (α 52) (u1523 : Int).toNat := hv1536.trans (congrFun hk1528 _)
        have hcv1536 := p0 u1523 (by omega) (by omega)
        rw [← hrv1536] at hcv1536
        refine qr_bipush 20 rfl (by decide) rfl ?_
        refine qr_iushr 21 rfl rfl ?_
        refine qy_v (v1536 / 65536) (qz_ushr16 (by omega)) ?_
        refine qr_istore _ 23 rfl (by decide) rfl rfl ?_
        refine qr_aload_n 24 rfl (qm_gk g1518 (by decide) (Or.inl (by decide))) rfl ?_
        refine qr_get 27 rfl rfl rfl (by decide) rfl ?_
        refine qr_iload_n 28 rfl (qm_gk g1522 (by decide) (Or.inr rfl)) rfl ?_
        refine qr_iaload 29 rfl rfl (by omega) (by decide) rfl ?_
        refine qr_topI (fun v1538 hv1538 => ?_)
        have hs1539 : (-2147483648) ≤ v1538 ∧ v1538 ≤ 2147483647 := by rw [hv1538]; exact hI1526.2.1 52 _ (show _ < 122 by omega)
        have hrv1538 : v1538 = (α 52) (u1523 : Int).toNat := hv1538.trans (congrFun hk1528 _)
        have hdv1538 : v1538 = v1536 := hrv1538.trans hrv1536.symm
        refine qr_ldc 65535 31 rfl (by decide) rfl ?_
        refine qr_iand 32 rfl rfl ?_
        refine qy_andrE (by omega) (fun v1540 hv1540 hev1540 => ?_)
        refine qr_istore _ 34 rfl (by decide) rfl rfl ?_
        rw [qz_and_m (by omega)] at hev1540
        refine qr_iload 36 rfl (qm_gk (qm_ge _ _ _) (by decide) (Or.inr rfl)) rfl ?_
        refine qr_bipush 38 rfl (by decide) rfl ?_
        refine qr_icmp_eq 48 41 rfl rfl rfl (by omega) (by omega) (fun h1541 => ?_) (fun h1541 => ?_)
        · skip
          refine qr_iload_n 49 rfl (qm_gk (qm_gk g1520 (by decide) (Or.inl (by decide))) (by decide) (Or.inl (by decide))) rfl ?_
          refine qr_aload_n 50 rfl (qm_gk (qm_gk g1518 (by decide) (Or.inl (by decide))) (by decide) (Or.inl (by decide))) rfl ?_
          refine qr_get 53 rfl rfl rfl (by decide) rfl ?_
          refine qr_alen 54 rfl rfl (by first | exact Or.inl (by decide) | exact Or.inr (Or.inl rfl) | exact Or.inr (Or.inr (Or.inl rfl)) | exact Or.inr (Or.inr (Or.inr (Or.inl rfl)))) rfl ?_
          refine qy_v 120 rfl ?_
          refine qr_icmp_lt 59 57 rfl rfl rfl (by omega) (by omega) (fun h1542 => ?_) (fun h1542 => ?_)
          · skip
            refine qr_aload_n 60 rfl (qm_gk (qm_gk g1518 (by decide) (Or.inl (by decide))) (by decide) (Or.inl (by decide))) rfl ?_
            refine qr_get 63 rfl rfl rfl (by decide) rfl ?_
            refine qr_iload_n 64 rfl (qm_gk (qm_gk g1520 (by decide) (Or.inl (by decide))) (by decide) (Or.inl (by decide))) rfl ?_
            refine qr_iinc _ 67 rfl (qm_gk (qm_gk g1520 (by decide) (Or.inl (by decide))) (by decide) (Or.inl (by decide))) (by decide) rfl rfl ?_
            refine qr_iload 69 rfl (qm_gk (qm_gk (qm_ge _ _ _) (by decide) (Or.inr rfl)) (by decide) (Or.inl (by decide))) rfl ?_
            refine qr_bipush 71 rfl (by decide) rfl ?_
            refine qr_icmp_ne 79 74 rfl rfl rfl (by omega) (by omega) (fun h => False.elim (by omega)) (fun h1543 => ?_)
            refine qr_iload 76 rfl (qm_gk (qm_ge _ _ _) (by decide) (Or.inl (by decide))) rfl ?_
            refine qr_goto 94 rfl rfl ?_
            refine qr_iastore 95 rfl (by decide) rfl (by omega) (by decide) rfl ?_
            refine qy_wA (qw_r α1525 53 (qzu (α1525 53) (u1521 : Int).toNat v1540)) rfl (fun α1544 e1545 => ?_)
            have hI1546 : qI σ α1544 κ ρ := by rw [e1545]; exact qI_r hI1526 53 _ rfl (show (-2147483648) ≤ v1540 ∧ v1540 ≤ 2147483647 by omega)
            have hF1547 : qFr [] [53] σ α σ α1544 := by rw [e1545]; exact qFr_r hF1527 53 _ (by decide)
            refine qr_goto 234 rfl rfl ?_
            refine qr_iinc _ 237 rfl (qm_gk (qm_gk (qm_gk g1522 (by decide) (Or.inr rfl)) (by decide) (Or.inl (by decide))) (by decide) (Or.inl (by decide))) (by decide) rfl rfl ?_
            refine qr_goto 4 rfl rfl ?_
            exact ih1534 _ (u1521 + 1) (u1523 + 1) α1544 (by omega) (qm_gk (qm_gk (qm_gk (qm_gk g1518 (by decide) (Or.inl (by decide))) (by decide) (Or.inl (by decide))) (by decide) (Or.inl (by decide))) (by decide) (Or.inl (by decide))) (qm_gk (qm_gk (qm_gk (qm_gk g1519 (by decide) (Or.inl (by decide))) (by decide) (Or.inl (by decide))) (by decide) (Or.inr rfl)) (by decide) (Or.inl (by decide))) (qm_gk (qm_ge _ _ _) (by decide) (Or.inr rfl)) (qm_ge _ _ _) (by omega) (by omega) hI1546 hF1547 ((congrFun e1545 52).trans ((qw_r_ne (by decide)).trans hk1528)) ((congrFun e1545 59).trans ((qw_r_ne (by decide)).trans hk1529)) (by rw [(congrFun e1545 53).trans qw_r_eq]; exact hx1532.trans (qws_num (by omega) (by rw [← hrv1536]; omega) (by omega) (by rw [← hrv1536]; omega) rfl))
          · skip
            refine qr_iconst 58 rfl rfl ?_
            refine qr_retI rfl rfl (by decide) (by decide) ?_
            exact ⟨_, rfl, hI1526, hF1527, 0, rfl, by omega, (by rw [hx1532, (qws_ful (by omega) (by rw [← hrv1536]; omega) (by omega))])⟩
        · skip
          refine qr_iload 43 rfl (qm_gk (qm_ge _ _ _) (by decide) (Or.inr rfl)) rfl ?_
          refine qr_bipush 45 rfl (by decide) rfl ?_
          refine qr_icmp_ne 98 48 rfl rfl rfl (by omega) (by omega) (fun h1548 => ?_) (fun h1548 => ?_)
          · skip
            refine qr_iload_n 99 rfl (qm_gk (qm_gk g1520 (by decide) (Or.inl (by decide))) (by decide) (Or.inl (by decide))) rfl ?_
            refine qr_iconst 100 rfl rfl ?_
            refine qr_icmp_ge 105 103 rfl rfl rfl (by omega) (by omega) (fun h1549 => ?_) (fun h1549 => ?_)
            · skip
              refine qr_aload_n 106 rfl (qm_gk (qm_gk g1518 (by decide) (Or.inl (by decide))) (by decide) (Or.inl (by decide))) rfl ?_
              refine qr_get 109 rfl rfl rfl (by decide) rfl ?_
              refine qr_iload_n 110 rfl (qm_gk (qm_gk g1520 (by decide) (Or.inl (by decide))) (by decide) (Or.inl (by decide))) rfl ?_
              refine qr_iconst 111 rfl rfl ?_
              refine qr_isub 112 rfl rfl ?_
              refine qr_iaload 113 rfl rfl (by omega) (by decide) rfl ?_
              refine qr_topI (fun v1550 hv1550 => ?_)
              have hs1551 : (-2147483648) ≤ v1550 ∧ v1550 ≤ 2147483647 := by rw [hv1550]; exact hI1526.2.1 53 _ (show _ < 120 by omega)
              refine qr_istore _ 115 rfl (by decide) rfl rfl ?_
              refine qr_iload 117 rfl (qm_gk (qm_gk (qm_ge _ _ _) (by decide) (Or.inr rfl)) (by decide) (Or.inl (by decide))) rfl ?_
              refine qr_bipush 119 rfl (by decide) rfl ?_
              refine qr_icmp_ne 125 122 rfl rfl rfl (by omega) (by omega) (fun h1552 => ?_) (fun h1552 => ?_)
              · skip
                refine qr_iload 127 rfl (qm_gk (qm_gk (qm_ge _ _ _) (by decide) (Or.inr rfl)) (by decide) (Or.inl (by decide))) rfl ?_
                refine qr_bipush 129 rfl (by decide) rfl ?_
                refine qr_icmp_ne 152 132 rfl rfl rfl (by omega) (by omega) (fun h1553 => ?_) (fun h1553 => ?_)
                · skip
                  refine qr_iload 154 rfl (qm_gk (qm_gk (qm_ge _ _ _) (by decide) (Or.inr rfl)) (by decide) (Or.inl (by decide))) rfl ?_
                  refine qr_bipush 156 rfl (by decide) rfl ?_
                  refine qr_icmp_ne 180 159 rfl rfl rfl (by omega) (by omega) (fun h1554 => ?_) (fun h1554 => ?_)
                  · skip
                    refine qr_iload 182 rfl (qm_gk (qm_gk (qm_ge _ _ _) (by decide) (Or.inr rfl)) (by decide) (Or.inl (by decide))) rfl ?_
                    refine qr_bipush 184 rfl (by decide) rfl ?_
                    refine qr_icmp_ne 201 187 rfl rfl rfl (by omega) (by omega) (fun h1555 => ?_) (fun h1555 => ?_)
                    · skip
                      refine qr_iload_n 202 rfl (qm_gk (qm_gk (qm_gk g1520 (by decide) (Or.inl (by decide))) (by decide) (Or.inl (by decide))) (by decide) (Or.inl (by decide))) rfl ?_
                      refine qr_iconst 203 rfl rfl ?_
                      refine qr_icmp_ge 208 206 rfl rfl rfl (by omega) (by omega) (fun h1556 => ?_) (fun h1556 => ?_)
                      · skip
                        refine qr_iinc _ 211 rfl (qm_gk (qm_gk (qm_gk g1520 (by decide) (Or.inl (by decide))) (by decide) (Or.inl (by decide))) (by decide) (Or.inl (by decide))) (by decide) rfl rfl ?_
                        as_aux_lemma =>
                          refine qr_aload_n 212 rfl (qm_gk (qm_gk (qm_gk (qm_gk g1518 (by decide) (Or.inl (by decide))) (by decide) (Or.inl (by decide))) (by decide) (Or.inl (by decide))) (by decide) (Or.inl (by decide))) rfl ?_
                          refine qr_get 215 rfl rfl rfl (by decide) rfl ?_
                          refine qr_iload_n 216 rfl (qm_ge _ _ _) rfl ?_
                          refine qr_iconst 217 rfl rfl ?_
                          refine qr_isub 218 rfl rfl ?_
                          refine qr_iload 220 rfl (qm_gk (qm_gk (qm_gk (qm_ge _ _ _) (by decide) (Or.inr rfl)) (by decide) (Or.inl (by decide))) (by decide) (Or.inl (by decide))) rfl ?_
                          refine qr_aload_n 221 rfl (qm_gk (qm_gk (qm_gk (qm_gk g1518 (by decide) (Or.inl (by decide))) (by decide) (Or.inl (by decide))) (by decide) (Or.inl (by decide))) (by decide) (Or.inl (by decide))) rfl ?_
                          refine qr_get 224 rfl rfl rfl (by decide) rfl ?_
                          refine qr_iload_n 225 rfl (qm_ge _ _ _) rfl ?_
                          refine qr_iconst 226 rfl rfl ?_
                          refine qr_isub 227 rfl rfl ?_
                          refine qr_iaload 228 rfl rfl (by omega) (by decide) rfl ?_
                          refine qr_topI (fun v1557 hv1557 => ?_)
                          have hs1558 : (-2147483648) ≤ v1557 ∧ v1557 ≤ 2147483647 := by rw [hv1557]; exact hI1526.2.1 53 _ (show _ < 120 by omega)
                          refine qr_iload 230 rfl (qm_gk (qm_ge _ _ _) (by decide) (Or.inl (by decide))) rfl ?_
                          refine qr_callN 233 rfl rfl rfl (sf_98x (d := d + 0) hI1526 (by omega) (by omega) (by omega)) ?_
                          rintro _ _ ⟨rfl, v1559, rfl, hv1559, hx1560⟩
                          show qr_W (qe L xs vb) (d + 1) qx_e97 _ (233, _, [.int (qz v1559), .int (qz ((u1521 + (-1)) - 1)), .ref 53], qw σ α1525 κ ρ, 0, 0)
                          refine qr_iastore 234 rfl (by decide) rfl (by omega) (by decide) rfl ?_
                          refine qy_wA (qw_r α1525 53 (qzu (α1525 53) (((u1521 + (-1)) - 1) : Int).toNat v1559)) rfl (fun α1561 e1562 => ?_)
                          have hI1563 : qI σ α1561 κ ρ := by rw [e1562]; exact qI_r hI1526 53 _ rfl (show (-2147483648) ≤ v1559 ∧ v1559 ≤ 2147483647 by omega)
                          have hF1564 : qFr [] [53] σ α σ α1561 := by rw [e1562]; exact qFr_r hF1527 53 _ (by decide)
                          refine qr_iinc _ 237 rfl (qm_gk (qm_gk (qm_gk (qm_gk g1522 (by decide) (Or.inr rfl)) (by decide) (Or.inl (by decide))) (by decide) (Or.inl (by decide))) (by decide) (Or.inl (by decide))) (by decide) rfl rfl ?_
                          refine qr_goto 4 rfl rfl ?_
                          exact ih1534 _ (u1521 + (-1)) (u1523 + 1) α1561 (by omega) (qm_gk (qm_gk (qm_gk (qm_gk (qm_gk g1518 (by decide) (Or.inl (by decide))) (by decide) (Or.inl (by decide))) (by decide) (Or.inl (by decide))) (by decide) (Or.inl (by decide))) (by decide) (Or.inl (by decide))) (qm_gk (qm_gk (qm_gk (qm_gk (qm_gk g1519 (by decide) (Or.inl (by decide))) (by decide) (Or.inl (by decide))) (by decide) (Or.inl (by decide))) (by decide) (Or.inr rfl)) (by decide) (Or.inl (by decide))) (qm_gk (qm_ge _ _ _) (by decide) (Or.inr rfl)) (qm_ge _ _ _) (by omega) (by omega) hI1563 hF1564 ((congrFun e1562 52).trans ((qw_r_ne (by decide)).trans hk1528)) ((congrFun e1562 59).trans ((qw_r_ne (by decide)).trans hk1529)) (by rw [(congrFun e1562 53).trans qw_r_eq]; exact hx1532.trans (qws_bin (by omega) (by rw [← hrv1536]; omega) (by omega) (by rw [show (u1521 - 2 : Int).toNat = (((u1521 + (-1)) - 1) : Int).toNat by omega, ← hrv1536, ← hv1557, ← hv1550]; exact (hx1560).trans (by rw [show v1536 / 65536 = (v1536 / 65536) by omega])) (by omega)))
                      · skip
                        refine qr_iconst 207 rfl rfl ?_
                        as_aux_lemma =>
                          refine qr_retI rfl rfl (by decide) (by decide) ?_
                          exact ⟨_, rfl, hI1526, hF1527, 0, rfl, by omega, (by rw [hx1532, (qws_two (by omega) (by rw [← hrv1536]; omega) (by omega))])⟩
                    · skip
                      refine qr_aload_n 188 rfl (qm_gk (qm_gk (qm_gk g1518 (by decide) (Or.inl (by decide))) (by decide) (Or.inl (by decide))) (by decide) (Or.inl (by decide))) rfl ?_
                      refine qr_get 191 rfl rfl rfl (by decide) rfl ?_
                      refine qr_iload_n 192 rfl (qm_gk (qm_gk (qm_gk g1520 (by decide) (Or.inl (by decide))) (by decide) (Or.inl (by decide))) (by decide) (Or.inl (by decide))) rfl ?_
                      refine qr_iconst 193 rfl rfl ?_
                      as_aux_lemma =>
                        refine qr_isub 194 rfl rfl ?_
                        refine qr_iload 196 rfl (qm_ge _ _ _) rfl ?_
                        refine qr_ineg 197 rfl rfl ?_
                        refine qy_canE (fun v1565 hv1565 hev1565 => ?_)
                        refine qr_iastore 198 rfl (by decide) rfl (by omega) (by decide) rfl ?_
                        refine qy_wA (qw_r α1525 53 (qzu (α1525 53) ((u1521 - 1) : Int).toNat v1565)) rfl (fun α1566 e1567 => ?_)
                        have hI1568 : qI σ α1566 κ ρ := by rw [e1567]; exact qI_r hI1526 53 _ rfl (show (-2147483648) ≤ v1565 ∧ v1565 ≤ 2147483647 by omega)
                        have hF1569 : qFr [] [53] σ α σ α1566 := by rw [e1567]; exact qFr_r hF1527 53 _ (by decide)
                        refine qr_goto 234 rfl rfl ?_
                        refine qr_iinc _ 237 rfl (qm_gk (qm_gk (qm_gk g1522 (by decide) (Or.inr rfl)) (by decide) (Or.inl (by decide))) (by decide) (Or.inl (by decide))) (by decide) rfl rfl ?_
                        refine qr_goto 4 rfl rfl ?_
                        exact ih1534 _ u1521 (u1523 + 1) α1566 (by omega) (qm_gk (qm_gk (qm_gk (qm_gk g1518 (by decide) (Or.inl (by decide))) (by decide) (Or.inl (by decide))) (by decide) (Or.inl (by decide))) (by decide) (Or.inl (by decide))) (qm_gk (qm_gk (qm_gk (qm_gk g1519 (by decide) (Or.inl (by decide))) (by decide) (Or.inl (by decide))) (by decide) (Or.inl (by decide))) (by decide) (Or.inl (by decide))) (qm_gk (qm_gk (qm_gk (qm_gk g1520 (by decide) (Or.inl (by decide))) (by decide) (Or.inl (by decide))) (by decide) (Or.inl (by decide))) (by decide) (Or.inr rfl)) (qm_ge _ _ _) (by omega) (by omega) hI1568 hF1569 ((congrFun e1567 52).trans ((qw_r_ne (by decide)).trans hk1528)) ((congrFun e1567 59).trans ((qw_r_ne (by decide)).trans hk1529)) (by rw [(congrFun e1567 53).trans qw_r_eq]; exact hx1532.trans (qws_neg (by omega) (by rw [← hrv1536]; omega) (by omega) (by rw [← hv1550]; exact qtx_can hev1565 (by omega)) rfl))
                  · skip
                    refine qr_aload_n 160 rfl (qm_gk (qm_gk (qm_gk g1518 (by decide) (Or.inl (by decide))) (by decide) (Or.inl (by decide))) (by decide) (Or.inl (by decide))) rfl ?_
                    refine qr_get 163 rfl rfl rfl (by decide) rfl ?_
                    refine qr_iload_n 164 rfl (qm_gk (qm_gk (qm_gk g1520 (by decide) (Or.inl (by decide))) (by decide) (Or.inl (by decide))) (by decide) (Or.inl (by decide))) rfl ?_
                    refine qr_iconst 165 rfl rfl ?_
                    refine qr_isub 166 rfl rfl ?_
                    refine qr_iload 168 rfl (qm_ge _ _ _) rfl ?_
                    refine qr_if_ne 175 171 rfl rfl rfl (by omega) (fun h1570 => ?_) (fun h1570 => ?_)
                    · skip
                      as_aux_lemma =>
                        refine qr_iconst 176 rfl rfl ?_
                        refine qr_iastore 177 rfl (by decide) rfl (by omega) (by decide) rfl ?_
                        refine qy_wA (qw_r α1525 53 (qzu (α1525 53) ((u1521 - 1) : Int).toNat 0)) rfl (fun α1571 e1572 => ?_)
                        have hI1573 : qI σ α1571 κ ρ := by rw [e1572]; exact qI_r hI1526 53 _ rfl (show (-2147483648) ≤ 0 ∧ 0 ≤ 2147483647 by omega)
                        have hF1574 : qFr [] [53] σ α σ α1571 := by rw [e1572]; exact qFr_r hF1527 53 _ (by decide)
                        refine qr_goto 234 rfl rfl ?_
                        refine qr_iinc _ 237 rfl (qm_gk (qm_gk (qm_gk g1522 (by decide) (Or.inr rfl)) (by decide) (Or.inl (by decide))) (by decide) (Or.inl (by decide))) (by decide) rfl rfl ?_
                        refine qr_goto 4 rfl rfl ?_
                        exact ih1534 _ u1521 (u1523 + 1) α1571 (by omega) (qm_gk (qm_gk (qm_gk (qm_gk g1518 (by decide) (Or.inl (by decide))) (by decide) (Or.inl (by decide))) (by decide) (Or.inl (by decide))) (by decide) (Or.inl (by decide))) (qm_gk (qm_gk (qm_gk (qm_gk g1519 (by decide) (Or.inl (by decide))) (by decide) (Or.inl (by decide))) (by decide) (Or.inl (by decide))) (by decide) (Or.inl (by decide))) (qm_gk (qm_gk (qm_gk (qm_gk g1520 (by decide) (Or.inl (by decide))) (by decide) (Or.inl (by decide))) (by decide) (Or.inl (by decide))) (by decide) (Or.inr rfl)) (qm_ge _ _ _) (by omega) (by omega) hI1573 hF1574 ((congrFun e1572 52).trans ((qw_r_ne (by decide)).trans hk1528)) ((congrFun e1572 59).trans ((qw_r_ne (by decide)).trans hk1529)) (by rw [(congrFun e1572 53).trans qw_r_eq]; exact hx1532.trans (qws_not (by omega) (by rw [← hrv1536]; omega) (by omega) (by rw [← hv1550]; omega) rfl))
                    · skip
                      as_aux_lemma =>
                        refine qr_iconst 172 rfl rfl ?_
                        refine qr_goto 176 rfl rfl ?_
                        refine qr_iastore 177 rfl (by decide) rfl (by omega) (by decide) rfl ?_
                        refine qy_wA (qw_r α1525 53 (qzu (α1525 53) ((u1521 - 1) : Int).toNat 1)) rfl (fun α1575 e1576 => ?_)
                        have hI1577 : qI σ α1575 κ ρ := by rw [e1576]; exact qI_r hI1526 53 _ rfl (show (-2147483648) ≤ 1 ∧ 1 ≤ 2147483647 by omega)
                        have hF1578 : qFr [] [53] σ α σ α1575 := by rw [e1576]; exact qFr_r hF1527 53 _ (by decide)
                        refine qr_goto 234 rfl rfl ?_
                        refine qr_iinc _ 237 rfl (qm_gk (qm_gk (qm_gk g1522 (by decide) (Or.inr rfl)) (by decide) (Or.inl (by decide))) (by decide) (Or.inl (by decide))) (by decide) rfl rfl ?_
                        refine qr_goto 4 rfl rfl ?_
                        exact ih1534 _ u1521 (u1523 + 1) α1575 (by omega) (qm_gk (qm_gk (qm_gk (qm_gk g1518 (by decide) (Or.inl (by decide))) (by decide) (Or.inl (by decide))) (by decide) (Or.inl (by decide))) (by decide) (Or.inl (by decide))) (qm_gk (qm_gk (qm_gk (qm_gk g1519 (by decide) (Or.inl (by decide))) (by decide) (Or.inl (by decide))) (by decide) (Or.inl (by decide))) (by decide) (Or.inl (by decide))) (qm_gk (qm_gk (qm_gk (qm_gk g1520 (by decide) (Or.inl (by decide))) (by decide) (Or.inl (by decide))) (by decide) (Or.inl (by decide))) (by decide) (Or.inr rfl)) (qm_ge _ _ _) (by omega) (by omega) hI1577 hF1578 ((congrFun e1576 52).trans ((qw_r_ne (by decide)).trans hk1528)) ((congrFun e1576 59).trans ((qw_r_ne (by decide)).trans hk1529)) (by rw [(congrFun e1576 53).trans qw_r_eq]; exact hx1532.trans (qws_not (by omega) (by rw [← hrv1536]; omega) (by omega) (by rw [← hv1550]; omega) rfl))
                · skip
                  refine qr_iinc _ 135 rfl (qm_gk (qm_gk (qm_gk g1520 (by decide) (Or.inl (by decide))) (by decide) (Or.inl (by decide))) (by decide) (Or.inl (by decide))) (by decide) rfl rfl ?_
                  refine qr_iload 137 rfl (qm_gk (qm_ge _ _ _) (by decide) (Or.inl (by decide))) rfl ?_
                  refine qr_if_ne 234 140 rfl rfl rfl (by omega) (fun h1579 => ?_) (fun h1579 => ?_)
                  · skip
                    refine qr_iinc _ 237 rfl (qm_gk (qm_gk (qm_gk (qm_gk g1522 (by decide) (Or.inr rfl)) (by decide) (Or.inl (by decide))) (by decide) (Or.inl (by decide))) (by decide) (Or.inl (by decide))) (by decide) rfl rfl ?_
                    refine qr_goto 4 rfl rfl ?_
                    exact ih1534 _ (u1521 + (-1)) (u1523 + 1) α1525 (by omega) (qm_gk (qm_gk (qm_gk (qm_gk (qm_gk g1518 (by decide) (Or.inl (by decide))) (by decide) (Or.inl (by decide))) (by decide) (Or.inl (by decide))) (by decide) (Or.inl (by decide))) (by decide) (Or.inl (by decide))) (qm_gk (qm_gk (qm_gk (qm_gk (qm_gk g1519 (by decide) (Or.inl (by decide))) (by decide) (Or.inl (by decide))) (by decide) (Or.inl (by decide))) (by decide) (Or.inr rfl)) (by decide) (Or.inl (by decide))) (qm_gk (qm_ge _ _ _) (by decide) (Or.inr rfl)) (qm_ge _ _ _) (by omega) (by omega) hI1526 hF1527 hk1528 hk1529 (by exact hx1532.trans (qws_if (by omega) (by rw [← hrv1536]; omega) (by omega) (by rw [← hv1550, ← hrv1536]; omega)))
                  · skip
                    refine qr_iload_n 141 rfl (qm_gk (qm_gk (qm_gk (qm_gk g1522 (by decide) (Or.inr rfl)) (by decide) (Or.inl (by decide))) (by decide) (Or.inl (by decide))) (by decide) (Or.inl (by decide))) rfl ?_
                    refine qr_iload 143 rfl (qm_gk (qm_gk (qm_ge _ _ _) (by decide) (Or.inr rfl)) (by decide) (Or.inl (by decide))) rfl ?_
                    refine qr_iconst 144 rfl rfl ?_
                    refine qr_isub 145 rfl rfl ?_
                    refine qr_callN 148 rfl rfl rfl (sf_30 (d := d + 0) hI1526 (by omega) (by omega)) ?_
                    rintro _ _ ⟨rfl, v1580, rfl, hv1580, hp1581⟩
                    show qr_W (qe L xs vb) (d + 1) qx_e97 _ (148, _, [.int (qz v1580)], qw σ α1525 κ ρ, 0, 0)
                    refine qr_istore_n _ 149 rfl (by decide) rfl rfl ?_
                    refine qr_goto 234 rfl rfl ?_
                    as_aux_lemma =>
                      refine qr_iinc _ 237 rfl (qm_ge _ _ _) (by decide) rfl rfl ?_
                      refine qr_goto 4 rfl rfl ?_
                      exact ih1534 _ (u1521 + (-1)) (v1580 + 1) α1525 (by omega) (qm_gk (qm_gk (qm_gk (qm_gk (qm_gk (qm_gk g1518 (by decide) (Or.inl (by decide))) (by decide) (Or.inl (by decide))) (by decide) (Or.inl (by decide))) (by decide) (Or.inl (by decide))) (by decide) (Or.inl (by decide))) (by decide) (Or.inl (by decide))) (qm_gk (qm_gk (qm_gk (qm_gk (qm_gk (qm_gk g1519 (by decide) (Or.inl (by decide))) (by decide) (Or.inl (by decide))) (by decide) (Or.inl (by decide))) (by decide) (Or.inr rfl)) (by decide) (Or.inl (by decide))) (by decide) (Or.inl (by decide))) (qm_gk (qm_gk (qm_ge _ _ _) (by decide) (Or.inr rfl)) (by decide) (Or.inr rfl)) (qm_ge _ _ _) (by omega) (by omega) hI1526 hF1527 hk1528 hk1529 (by exact hx1532.trans (qws_if (by omega) (by rw [← hrv1536]; omega) (by omega) (by rw [← hv1550, ← hrv1536]; omega)))
              · skip
                refine qr_iload 124 rfl (qm_ge _ _ _) rfl ?_
                refine qr_retI rfl rfl (by decide) (by decide) ?_
                exact ⟨_, rfl, hI1526, hF1527, v1550, rfl, by omega, (by rw [hx1532, (qws_end (by omega) (by rw [← hrv1536]; omega) (by omega))]; exact hv1550)⟩
            · skip
              refine qr_iconst 104 rfl rfl ?_
              refine qr_retI rfl rfl (by decide) (by decide) ?_
              exact ⟨_, rfl, hI1526, hF1527, 0, rfl, by omega, (by rw [hx1532, (qws_emp (by omega) (by rw [← hrv1536]; omega) (by omega))])⟩
          · skip
            refine qr_iload_n 49 rfl (qm_gk (qm_gk g1520 (by decide) (Or.inl (by decide))) (by decide) (Or.inl (by decide))) rfl ?_
            refine qr_aload_n 50 rfl (qm_gk (qm_gk g1518 (by decide) (Or.inl (by decide))) (by decide) (Or.inl (by decide))) rfl ?_
            refine qr_get 53 rfl rfl rfl (by decide) rfl ?_
            refine qr_alen 54 rfl rfl (by first | exact Or.inl (by decide) | exact Or.inr (Or.inl rfl) | exact Or.inr (Or.inr (Or.inl rfl)) | exact Or.inr (Or.inr (Or.inr (Or.inl rfl)))) rfl ?_
            refine qy_v 120 rfl ?_
            refine qr_icmp_lt 59 57 rfl rfl rfl (by omega) (by omega) (fun h1582 => ?_) (fun h1582 => ?_)
            · skip
              refine qr_aload_n 60 rfl (qm_gk (qm_gk g1518 (by decide) (Or.inl (by decide))) (by decide) (Or.inl (by decide))) rfl ?_
              refine qr_get 63 rfl rfl rfl (by decide) rfl ?_
              refine qr_iload_n 64 rfl (qm_gk (qm_gk g1520 (by decide) (Or.inl (by decide))) (by decide) (Or.inl (by decide))) rfl ?_
              refine qr_iinc _ 67 rfl (qm_gk (qm_gk g1520 (by decide) (Or.inl (by decide))) (by decide) (Or.inl (by decide))) (by decide) rfl rfl ?_
              refine qr_iload 69 rfl (qm_gk (qm_gk (qm_ge _ _ _) (by decide) (Or.inr rfl)) (by decide) (Or.inl (by decide))) rfl ?_
              refine qr_bipush 71 rfl (by decide) rfl ?_
              refine qr_icmp_ne 79 74 rfl rfl rfl (by omega) (by omega) (fun h1583 => ?_) (fun h => False.elim (by omega))
              refine qr_iload 81 rfl (qm_gk (qm_ge _ _ _) (by decide) (Or.inl (by decide))) rfl ?_
              refine qr_aload_n 82 rfl (qm_gk (qm_gk (qm_gk g1519 (by decide) (Or.inl (by decide))) (by decide) (Or.inl (by decide))) (by decide) (Or.inr rfl)) rfl ?_
              refine qr_alen 83 rfl rfl (by first | exact Or.inl (by decide) | exact Or.inr (Or.inl rfl) | exact Or.inr (Or.inr (Or.inl rfl)) | exact Or.inr (Or.inr (Or.inr (Or.inl rfl)))) rfl ?_
              refine qy_v 9 rfl ?_
              refine qr_icmp_ge 93 86 rfl rfl rfl (by omega) (by omega) (fun h1584 => ?_) (fun h1584 => ?_)
              · skip
                refine qr_iconst 94 rfl rfl ?_
                refine qr_iastore 95 rfl (by decide) rfl (by omega) (by decide) rfl ?_
                refine qy_wA (qw_r α1525 53 (qzu (α1525 53) (u1521 : Int).toNat 0)) rfl (fun α1585 e1586 => ?_)
                have hI1587 : qI σ α1585 κ ρ := by rw [e1586]; exact qI_r hI1526 53 _ rfl (show (-2147483648) ≤ 0 ∧ 0 ≤ 2147483647 by omega)
                have hF1588 : qFr [] [53] σ α σ α1585 := by rw [e1586]; exact qFr_r hF1527 53 _ (by decide)
                refine qr_goto 234 rfl rfl ?_
                refine qr_iinc _ 237 rfl (qm_gk (qm_gk (qm_gk g1522 (by decide) (Or.inr rfl)) (by decide) (Or.inl (by decide))) (by decide) (Or.inl (by decide))) (by decide) rfl rfl ?_
                refine qr_goto 4 rfl rfl ?_
                exact ih1534 _ (u1521 + 1) (u1523 + 1) α1585 (by omega) (qm_gk (qm_gk (qm_gk (qm_gk g1518 (by decide) (Or.inl (by decide))) (by decide) (Or.inl (by decide))) (by decide) (Or.inl (by decide))) (by decide) (Or.inl (by decide))) (qm_gk (qm_gk (qm_gk (qm_gk g1519 (by decide) (Or.inl (by decide))) (by decide) (Or.inl (by decide))) (by decide) (Or.inr rfl)) (by decide) (Or.inl (by decide))) (qm_gk (qm_ge _ _ _) (by decide) (Or.inr rfl)) (qm_ge _ _ _) (by omega) (by omega) hI1587 hF1588 ((congrFun e1586 52).trans ((qw_r_ne (by decide)).trans hk1528)) ((congrFun e1586 59).trans ((qw_r_ne (by decide)).trans hk1529)) (by rw [(congrFun e1586 53).trans qw_r_eq]; exact hx1532.trans (qws_nam9 (by omega) (by rw [← hrv1536]; omega) (by omega) (by rw [← hrv1536]; omega) rfl rfl))
              · skip
                refine qr_aload_n 87 rfl (qm_gk (qm_gk (qm_gk g1519 (by decide) (Or.inl (by decide))) (by decide) (Or.inl (by decide))) (by decide) (Or.inr rfl)) rfl ?_
                refine qr_iload 89 rfl (qm_gk (qm_ge _ _ _) (by decide) (Or.inl (by decide))) rfl ?_
                refine qr_iaload 90 rfl rfl (by omega) (by decide) rfl ?_
                refine qr_topI (fun v1589 hv1589 => ?_)
                have hs1590 : (-2147483648) ≤ v1589 ∧ v1589 ≤ 2147483647 := by rw [hv1589]; exact hI1526.2.1 59 _ (show _ < 9 by omega)
                have hrv1589 : v1589 = (α 59) (v1540 : Int).toNat := hv1589.trans (congrFun hk1529 _)
                refine qr_goto 94 rfl rfl ?_
                refine qr_iastore 95 rfl (by decide) rfl (by omega) (by decide) rfl ?_
                refine qy_wA (qw_r α1525 53 (qzu (α1525 53) (u1521 : Int).toNat v1589)) rfl (fun α1591 e1592 => ?_)
                have hI1593 : qI σ α1591 κ ρ := by rw [e1592]; exact qI_r hI1526 53 _ rfl (show (-2147483648) ≤ v1589 ∧ v1589 ≤ 2147483647 by omega)
                have hF1594 : qFr [] [53] σ α σ α1591 := by rw [e1592]; exact qFr_r hF1527 53 _ (by decide)
                refine qr_goto 234 rfl rfl ?_
                refine qr_iinc _ 237 rfl (qm_gk (qm_gk (qm_gk g1522 (by decide) (Or.inr rfl)) (by decide) (Or.inl (by decide))) (by decide) (Or.inl (by decide))) (by decide) rfl rfl ?_
                refine qr_goto 4 rfl rfl ?_
                exact ih1534 _ (u1521 + 1) (u1523 + 1) α1591 (by omega) (qm_gk (qm_gk (qm_gk (qm_gk g1518 (by decide) (Or.inl (by decide))) (by decide) (Or.inl (by decide))) (by decide) (Or.inl (by decide))) (by decide) (Or.inl (by decide))) (qm_gk (qm_gk (qm_gk (qm_gk g1519 (by decide) (Or.inl (by decide))) (by decide) (Or.inl (by decide))) (by decide) (Or.inr rfl)) (by decide) (Or.inl (by decide))) (qm_gk (qm_ge _ _ _) (by decide) (Or.inr rfl)) (qm_ge _ _ _) (by omega) (by omega) hI1593 hF1594 ((congrFun e1592 52).trans ((qw_r_ne (by decide)).trans hk1528)) ((congrFun e1592 59).trans ((qw_r_ne (by decide)).trans hk1529)) (by rw [(congrFun e1592 53).trans qw_r_eq]; exact hx1532.trans (qws_nam (by omega) (by rw [← hrv1536]; omega) (by omega) (by rw [← hrv1536]; omega) (by rw [← hrv1536, show v1536 % 65536 = v1540 by omega]; exact hrv1589) rfl))
            · skip
              refine qr_iconst 58 rfl rfl ?_
              refine qr_retI rfl rfl (by decide) (by decide) ?_
              exact ⟨_, rfl, hI1526, hF1527, 0, rfl, by omega, (by rw [hx1532, (qws_ful (by omega) (by rw [← hrv1536]; omega) (by omega))])⟩
  exact hL1533 ((65536 - 0 + 1 : Int)).toNat _ 0 0 α (by omega) rfl rfl rfl rfl (by omega) (by omega) hI hF0 rfl rfl rfl

set_option maxHeartbeats 4000000 in
set_option maxRecDepth 20000 in
/-- OneRoof$Custom.worth -/
theorem sf_97_54_59x {L : Nat} {xs : Nat → Int} {vb : Bool} {d : Nat} {σ α : Nat → Nat → Int} {κ : Nat → Option Nat} {ρ : Nat}  (hI : qI σ α κ ρ) (p0 : ∀ k : Int, 0 ≤ k → k < σ 54 5 → 0 ≤ α 56 k.toNat ∧ α 56 k.toNat < 8388608) : qm_T (qe L xs vb) (d + 2) 97 [.ref 54, .ref 59] (qw σ α κ ρ) (fun r w' => ∃ α', w' = qw σ α' κ ρ ∧ qI σ α' κ ρ ∧ qFr [] [57] σ α σ α' ∧ ∃ v : Int, r = some (.int (qz v)) ∧ ((-2147483648) ≤ v ∧ v ≤ 2147483647) ∧ v = qwv (α 56) (α 59) (σ 54 5) 0 (α 57) 0) := by
  refine qr_start (d := d + 1) qv_e97 (Nat.le_of_ble_eq_true rfl) ?_
  show qr_W (qe L xs vb) (d + 1) qx_e97 _ (0, [(0, .ref 54), (1, .ref 59)], [], _, 0, 0)
  have hF0 := qFr_rf [] [57] σ α
  have hz54_5 : 0 ≤ σ 54 5 ∧ σ 54 5 ≤ 122 := hI.1 54 5
  refine qr_iconst 1 rfl rfl ?_
  refine qr_istore_n _ 2 rfl (by decide) rfl rfl ?_
  refine qr_iconst 3 rfl rfl ?_
  refine qr_istore_n _ 4 rfl (by decide) rfl rfl ?_
  have hL1533 : ∀ (n : Nat) (ls : qm_L) (u1521 u1523 : Int) (α1525 : Nat → Nat → Int), 65536 - u1523 < (n : Int) → qm_get ls 0 = some (.ref 54) → qm_get ls 1 = some (.ref 59) → qm_get ls 2 = some (.int (qz u1521)) → qm_get ls 3 = some (.int (qz u1523)) → (0 ≤ u1521 ∧ u1521 ≤ 120) → (0 ≤ u1523 ∧ u1523 ≤ 65535) → qI σ α1525 κ ρ → qFr [] [57] σ α σ α1525 → α1525 56 = (α 56) → α1525 59 = (α 59) → qwv (α 56) (α 59) (σ 54 5) 0 (α 57) 0 = qwv (α 56) (α 59) (σ 54 5) u1523 (α1525 57) u1521 → qr_W (qe L xs vb) (d + 1) qx_e97 (fun r w' => ∃ α', w' = qw σ α' κ ρ ∧ qI σ α' κ ρ ∧ qFr [] [57] σ α σ α' ∧ ∃ v : Int, r = some (.int (qz v)) ∧ ((-2147483648) ≤ v ∧ v ≤ 2147483647) ∧ v = qwv (α 56) (α 59) (σ 54 5) 0 (α 57) 0) (4, ls, [], qw σ α1525 κ ρ, 0, 0) := by
    intro n
    induction n with
    | zero => intro ls u1521 u1523 α1525 hm g1518 g1519 g1520 g1522 hf1530 hf1531 hI1526 hF1527 hk1528 hk1529 hx1532; exact False.elim (by omega)
    | succ n ih1534 =>
      intro ls u1521 u1523 α1525 hm g1518 g1519 g1520 g1522 hf1530 hf1531 hI1526 hF1527 hk1528 hk1529 hx1532
      refine qr_iload_n 5 rfl g1522 rfl ?_
      refine qr_aload_n 6 rfl g1518 rfl ?_
      refine qr_get 9 rfl rfl rfl (by decide) rfl ?_
      refine qr_icmp_ge 240 12 rfl rfl rfl (by omega) (by omega) (fun h1535 => ?_) (fun h1535 => ?_)
      · skip
        refine qr_iconst 241 rfl rfl ?_
        refine qr_retI rfl rfl (by decide) (by decide) ?_
        exact ⟨_, rfl, hI1526, hF1527, 0, rfl, by omega, (by rw [hx1532, qwv_end (by omega)])⟩
      · skip
        refine qr_aload_n 13 rfl g1518 rfl ?_
        refine qr_get 16 rfl rfl rfl (by decide) rfl ?_
        refine qr_iload_n 17 rfl g1522 rfl ?_
        refine qr_iaload 18 rfl rfl (by omega) (by decide) rfl ?_
        refine qr_topI (fun v1536 hv1536 => ?_)
        have hs1537 : (-2147483648) ≤ v1536 ∧ v1536 ≤ 2147483647 := by rw [hv1536]; exact hI1526.2.1 56 _ (show _ < 122 by omega)
        have hrv1536 : v1536 = (α 56) (u1523 : Int).toNat := hv1536.trans (congrFun hk1528 _)
        have hcv1536 := p0 u1523 (by omega) (by omega)
        rw [← hrv1536] at hcv1536
        refine qr_bipush 20 rfl (by decide) rfl ?_
        refine qr_iushr 21 rfl rfl ?_
        refine qy_v (v1536 / 65536) (qz_ushr16 (by omega)) ?_
        refine qr_istore _ 23 rfl (by decide) rfl rfl ?_
        refine qr_aload_n 24 rfl (qm_gk g1518 (by decide) (Or.inl (by decide))) rfl ?_
        refine qr_get 27 rfl rfl rfl (by decide) rfl ?_
        refine qr_iload_n 28 rfl (qm_gk g1522 (by decide) (Or.inr rfl)) rfl ?_
        refine qr_iaload 29 rfl rfl (by omega) (by decide) rfl ?_
        refine qr_topI (fun v1538 hv1538 => ?_)
        have hs1539 : (-2147483648) ≤ v1538 ∧ v1538 ≤ 2147483647 := by rw [hv1538]; exact hI1526.2.1 56 _ (show _ < 122 by omega)
        have hrv1538 : v1538 = (α 56) (u1523 : Int).toNat := hv1538.trans (congrFun hk1528 _)
        have hdv1538 : v1538 = v1536 := hrv1538.trans hrv1536.symm
        refine qr_ldc 65535 31 rfl (by decide) rfl ?_
        refine qr_iand 32 rfl rfl ?_
        refine qy_andrE (by omega) (fun v1540 hv1540 hev1540 => ?_)
        refine qr_istore _ 34 rfl (by decide) rfl rfl ?_
        rw [qz_and_m (by omega)] at hev1540
        refine qr_iload 36 rfl (qm_gk (qm_ge _ _ _) (by decide) (Or.inr rfl)) rfl ?_
        refine qr_bipush 38 rfl (by decide) rfl ?_
        refine qr_icmp_eq 48 41 rfl rfl rfl (by omega) (by omega) (fun h1541 => ?_) (fun h1541 => ?_)
        · skip
          refine qr_iload_n 49 rfl (qm_gk (qm_gk g1520 (by decide) (Or.inl (by decide))) (by decide) (Or.inl (by decide))) rfl ?_
          refine qr_aload_n 50 rfl (qm_gk (qm_gk g1518 (by decide) (Or.inl (by decide))) (by decide) (Or.inl (by decide))) rfl ?_
          refine qr_get 53 rfl rfl rfl (by decide) rfl ?_
          refine qr_alen 54 rfl rfl (by first | exact Or.inl (by decide) | exact Or.inr (Or.inl rfl) | exact Or.inr (Or.inr (Or.inl rfl)) | exact Or.inr (Or.inr (Or.inr (Or.inl rfl)))) rfl ?_
          refine qy_v 120 rfl ?_
          refine qr_icmp_lt 59 57 rfl rfl rfl (by omega) (by omega) (fun h1542 => ?_) (fun h1542 => ?_)
          · skip
            refine qr_aload_n 60 rfl (qm_gk (qm_gk g1518 (by decide) (Or.inl (by decide))) (by decide) (Or.inl (by decide))) rfl ?_
            refine qr_get 63 rfl rfl rfl (by decide) rfl ?_
            refine qr_iload_n 64 rfl (qm_gk (qm_gk g1520 (by decide) (Or.inl (by decide))) (by decide) (Or.inl (by decide))) rfl ?_
            refine qr_iinc _ 67 rfl (qm_gk (qm_gk g1520 (by decide) (Or.inl (by decide))) (by decide) (Or.inl (by decide))) (by decide) rfl rfl ?_
            refine qr_iload 69 rfl (qm_gk (qm_gk (qm_ge _ _ _) (by decide) (Or.inr rfl)) (by decide) (Or.inl (by decide))) rfl ?_
            refine qr_bipush 71 rfl (by decide) rfl ?_
            refine qr_icmp_ne 79 74 rfl rfl rfl (by omega) (by omega) (fun h => False.elim (by omega)) (fun h1543 => ?_)
            refine qr_iload 76 rfl (qm_gk (qm_ge _ _ _) (by decide) (Or.inl (by decide))) rfl ?_
            refine qr_goto 94 rfl rfl ?_
            refine qr_iastore 95 rfl (by decide) rfl (by omega) (by decide) rfl ?_
            refine qy_wA (qw_r α1525 57 (qzu (α1525 57) (u1521 : Int).toNat v1540)) rfl (fun α1544 e1545 => ?_)
            have hI1546 : qI σ α1544 κ ρ := by rw [e1545]; exact qI_r hI1526 57 _ rfl (show (-2147483648) ≤ v1540 ∧ v1540 ≤ 2147483647 by omega)
            have hF1547 : qFr [] [57] σ α σ α1544 := by rw [e1545]; exact qFr_r hF1527 57 _ (by decide)
            refine qr_goto 234 rfl rfl ?_
            refine qr_iinc _ 237 rfl (qm_gk (qm_gk (qm_gk g1522 (by decide) (Or.inr rfl)) (by decide) (Or.inl (by decide))) (by decide) (Or.inl (by decide))) (by decide) rfl rfl ?_
            refine qr_goto 4 rfl rfl ?_
            exact ih1534 _ (u1521 + 1) (u1523 + 1) α1544 (by omega) (qm_gk (qm_gk (qm_gk (qm_gk g1518 (by decide) (Or.inl (by decide))) (by decide) (Or.inl (by decide))) (by decide) (Or.inl (by decide))) (by decide) (Or.inl (by decide))) (qm_gk (qm_gk (qm_gk (qm_gk g1519 (by decide) (Or.inl (by decide))) (by decide) (Or.inl (by decide))) (by decide) (Or.inr rfl)) (by decide) (Or.inl (by decide))) (qm_gk (qm_ge _ _ _) (by decide) (Or.inr rfl)) (qm_ge _ _ _) (by omega) (by omega) hI1546 hF1547 ((congrFun e1545 56).trans ((qw_r_ne (by decide)).trans hk1528)) ((congrFun e1545 59).trans ((qw_r_ne (by decide)).trans hk1529)) (by rw [(congrFun e1545 57).trans qw_r_eq]; exact hx1532.trans (qws_num (by omega) (by rw [← hrv1536]; omega) (by omega) (by rw [← hrv1536]; omega) rfl))
          · skip
            refine qr_iconst 58 rfl rfl ?_
            refine qr_retI rfl rfl (by decide) (by decide) ?_
            exact ⟨_, rfl, hI1526, hF1527, 0, rfl, by omega, (by rw [hx1532, (qws_ful (by omega) (by rw [← hrv1536]; omega) (by omega))])⟩
        · skip
          refine qr_iload 43 rfl (qm_gk (qm_ge _ _ _) (by decide) (Or.inr rfl)) rfl ?_
          refine qr_bipush 45 rfl (by decide) rfl ?_
          refine qr_icmp_ne 98 48 rfl rfl rfl (by omega) (by omega) (fun h1548 => ?_) (fun h1548 => ?_)
          · skip
            refine qr_iload_n 99 rfl (qm_gk (qm_gk g1520 (by decide) (Or.inl (by decide))) (by decide) (Or.inl (by decide))) rfl ?_
            refine qr_iconst 100 rfl rfl ?_
            refine qr_icmp_ge 105 103 rfl rfl rfl (by omega) (by omega) (fun h1549 => ?_) (fun h1549 => ?_)
            · skip
              refine qr_aload_n 106 rfl (qm_gk (qm_gk g1518 (by decide) (Or.inl (by decide))) (by decide) (Or.inl (by decide))) rfl ?_
              refine qr_get 109 rfl rfl rfl (by decide) rfl ?_
              refine qr_iload_n 110 rfl (qm_gk (qm_gk g1520 (by decide) (Or.inl (by decide))) (by decide) (Or.inl (by decide))) rfl ?_
              refine qr_iconst 111 rfl rfl ?_
              refine qr_isub 112 rfl rfl ?_
              refine qr_iaload 113 rfl rfl (by omega) (by decide) rfl ?_
              refine qr_topI (fun v1550 hv1550 => ?_)
              have hs1551 : (-2147483648) ≤ v1550 ∧ v1550 ≤ 2147483647 := by rw [hv1550]; exact hI1526.2.1 57 _ (show _ < 120 by omega)
              refine qr_istore _ 115 rfl (by decide) rfl rfl ?_
              refine qr_iload 117 rfl (qm_gk (qm_gk (qm_ge _ _ _) (by decide) (Or.inr rfl)) (by decide) (Or.inl (by decide))) rfl ?_
              refine qr_bipush 119 rfl (by decide) rfl ?_
              refine qr_icmp_ne 125 122 rfl rfl rfl (by omega) (by omega) (fun h1552 => ?_) (fun h1552 => ?_)
              · skip
                refine qr_iload 127 rfl (qm_gk (qm_gk (qm_ge _ _ _) (by decide) (Or.inr rfl)) (by decide) (Or.inl (by decide))) rfl ?_
                refine qr_bipush 129 rfl (by decide) rfl ?_
                refine qr_icmp_ne 152 132 rfl rfl rfl (by omega) (by omega) (fun h1553 => ?_) (fun h1553 => ?_)
                · skip
                  refine qr_iload 154 rfl (qm_gk (qm_gk (qm_ge _ _ _) (by decide) (Or.inr rfl)) (by decide) (Or.inl (by decide))) rfl ?_
                  refine qr_bipush 156 rfl (by decide) rfl ?_
                  refine qr_icmp_ne 180 159 rfl rfl rfl (by omega) (by omega) (fun h1554 => ?_) (fun h1554 => ?_)
                  · skip
                    refine qr_iload 182 rfl (qm_gk (qm_gk (qm_ge _ _ _) (by decide) (Or.inr rfl)) (by decide) (Or.inl (by decide))) rfl ?_
                    refine qr_bipush 184 rfl (by decide) rfl ?_
                    refine qr_icmp_ne 201 187 rfl rfl rfl (by omega) (by omega) (fun h1555 => ?_) (fun h1555 => ?_)
                    · skip
                      refine qr_iload_n 202 rfl (qm_gk (qm_gk (qm_gk g1520 (by decide) (Or.inl (by decide))) (by decide) (Or.inl (by decide))) (by decide) (Or.inl (by decide))) rfl ?_
                      refine qr_iconst 203 rfl rfl ?_
                      refine qr_icmp_ge 208 206 rfl rfl rfl (by omega) (by omega) (fun h1556 => ?_) (fun h1556 => ?_)
                      · skip
                        refine qr_iinc _ 211 rfl (qm_gk (qm_gk (qm_gk g1520 (by decide) (Or.inl (by decide))) (by decide) (Or.inl (by decide))) (by decide) (Or.inl (by decide))) (by decide) rfl rfl ?_
                        as_aux_lemma =>
                          refine qr_aload_n 212 rfl (qm_gk (qm_gk (qm_gk (qm_gk g1518 (by decide) (Or.inl (by decide))) (by decide) (Or.inl (by decide))) (by decide) (Or.inl (by decide))) (by decide) (Or.inl (by decide))) rfl ?_
                          refine qr_get 215 rfl rfl rfl (by decide) rfl ?_
                          refine qr_iload_n 216 rfl (qm_ge _ _ _) rfl ?_
                          refine qr_iconst 217 rfl rfl ?_
                          refine qr_isub 218 rfl rfl ?_
                          refine qr_iload 220 rfl (qm_gk (qm_gk (qm_gk (qm_ge _ _ _) (by decide) (Or.inr rfl)) (by decide) (Or.inl (by decide))) (by decide) (Or.inl (by decide))) rfl ?_
                          refine qr_aload_n 221 rfl (qm_gk (qm_gk (qm_gk (qm_gk g1518 (by decide) (Or.inl (by decide))) (by decide) (Or.inl (by decide))) (by decide) (Or.inl (by decide))) (by decide) (Or.inl (by decide))) rfl ?_
                          refine qr_get 224 rfl rfl rfl (by decide) rfl ?_
                          refine qr_iload_n 225 rfl (qm_ge _ _ _) rfl ?_
                          refine qr_iconst 226 rfl rfl ?_
                          refine qr_isub 227 rfl rfl ?_
                          refine qr_iaload 228 rfl rfl (by omega) (by decide) rfl ?_
                          refine qr_topI (fun v1557 hv1557 => ?_)
                          have hs1558 : (-2147483648) ≤ v1557 ∧ v1557 ≤ 2147483647 := by rw [hv1557]; exact hI1526.2.1 57 _ (show _ < 120 by omega)
                          refine qr_iload 230 rfl (qm_gk (qm_ge _ _ _) (by decide) (Or.inl (by decide))) rfl ?_
                          refine qr_callN 233 rfl rfl rfl (sf_98x (d := d + 0) hI1526 (by omega) (by omega) (by omega)) ?_
                          rintro _ _ ⟨rfl, v1559, rfl, hv1559, hx1560⟩
                          show qr_W (qe L xs vb) (d + 1) qx_e97 _ (233, _, [.int (qz v1559), .int (qz ((u1521 + (-1)) - 1)), .ref 57], qw σ α1525 κ ρ, 0, 0)
                          refine qr_iastore 234 rfl (by decide) rfl (by omega) (by decide) rfl ?_
                          refine qy_wA (qw_r α1525 57 (qzu (α1525 57) (((u1521 + (-1)) - 1) : Int).toNat v1559)) rfl (fun α1561 e1562 => ?_)
                          have hI1563 : qI σ α1561 κ ρ := by rw [e1562]; exact qI_r hI1526 57 _ rfl (show (-2147483648) ≤ v1559 ∧ v1559 ≤ 2147483647 by omega)
                          have hF1564 : qFr [] [57] σ α σ α1561 := by rw [e1562]; exact qFr_r hF1527 57 _ (by decide)
                          refine qr_iinc _ 237 rfl (qm_gk (qm_gk (qm_gk (qm_gk g1522 (by decide) (Or.inr rfl)) (by decide) (Or.inl (by decide))) (by decide) (Or.inl (by decide))) (by decide) (Or.inl (by decide))) (by decide) rfl rfl ?_
                          refine qr_goto 4 rfl rfl ?_
                          exact ih1534 _ (u1521 + (-1)) (u1523 + 1) α1561 (by omega) (qm_gk (qm_gk (qm_gk (qm_gk (qm_gk g1518 (by decide) (Or.inl (by decide))) (by decide) (Or.inl (by decide))) (by decide) (Or.inl (by decide))) (by decide) (Or.inl (by decide))) (by decide) (Or.inl (by decide))) (qm_gk (qm_gk (qm_gk (qm_gk (qm_gk g1519 (by decide) (Or.inl (by decide))) (by decide) (Or.inl (by decide))) (by decide) (Or.inl (by decide))) (by decide) (Or.inr rfl)) (by decide) (Or.inl (by decide))) (qm_gk (qm_ge _ _ _) (by decide) (Or.inr rfl)) (qm_ge _ _ _) (by omega) (by omega) hI1563 hF1564 ((congrFun e1562 56).trans ((qw_r_ne (by decide)).trans hk1528)) ((congrFun e1562 59).trans ((qw_r_ne (by decide)).trans hk1529)) (by rw [(congrFun e1562 57).trans qw_r_eq]; exact hx1532.trans (qws_bin (by omega) (by rw [← hrv1536]; omega) (by omega) (by rw [show (u1521 - 2 : Int).toNat = (((u1521 + (-1)) - 1) : Int).toNat by omega, ← hrv1536, ← hv1557, ← hv1550]; exact (hx1560).trans (by rw [show v1536 / 65536 = (v1536 / 65536) by omega])) (by omega)))
                      · skip
                        refine qr_iconst 207 rfl rfl ?_
                        as_aux_lemma =>
                          refine qr_retI rfl rfl (by decide) (by decide) ?_
                          exact ⟨_, rfl, hI1526, hF1527, 0, rfl, by omega, (by rw [hx1532, (qws_two (by omega) (by rw [← hrv1536]; omega) (by omega))])⟩
                    · skip
                      refine qr_aload_n 188 rfl (qm_gk (qm_gk (qm_gk g1518 (by decide) (Or.inl (by decide))) (by decide) (Or.inl (by decide))) (by decide) (Or.inl (by decide))) rfl ?_
                      refine qr_get 191 rfl rfl rfl (by decide) rfl ?_
                      refine qr_iload_n 192 rfl (qm_gk (qm_gk (qm_gk g1520 (by decide) (Or.inl (by decide))) (by decide) (Or.inl (by decide))) (by decide) (Or.inl (by decide))) rfl ?_
                      refine qr_iconst 193 rfl rfl ?_
                      as_aux_lemma =>
                        refine qr_isub 194 rfl rfl ?_
                        refine qr_iload 196 rfl (qm_ge _ _ _) rfl ?_
                        refine qr_ineg 197 rfl rfl ?_
                        refine qy_canE (fun v1565 hv1565 hev1565 => ?_)
                        refine qr_iastore 198 rfl (by decide) rfl (by omega) (by decide) rfl ?_
                        refine qy_wA (qw_r α1525 57 (qzu (α1525 57) ((u1521 - 1) : Int).toNat v1565)) rfl (fun α1566 e1567 => ?_)
                        have hI1568 : qI σ α1566 κ ρ := by rw [e1567]; exact qI_r hI1526 57 _ rfl (show (-2147483648) ≤ v1565 ∧ v1565 ≤ 2147483647 by omega)
                        have hF1569 : qFr [] [57] σ α σ α1566 := by rw [e1567]; exact qFr_r hF1527 57 _ (by decide)
                        refine qr_goto 234 rfl rfl ?_
                        refine qr_iinc _ 237 rfl (qm_gk (qm_gk (qm_gk g1522 (by decide) (Or.inr rfl)) (by decide) (Or.inl (by decide))) (by decide) (Or.inl (by decide))) (by decide) rfl rfl ?_
                        refine qr_goto 4 rfl rfl ?_
                        exact ih1534 _ u1521 (u1523 + 1) α1566 (by omega) (qm_gk (qm_gk (qm_gk (qm_gk g1518 (by decide) (Or.inl (by decide))) (by decide) (Or.inl (by decide))) (by decide) (Or.inl (by decide))) (by decide) (Or.inl (by decide))) (qm_gk (qm_gk (qm_gk (qm_gk g1519 (by decide) (Or.inl (by decide))) (by decide) (Or.inl (by decide))) (by decide) (Or.inl (by decide))) (by decide) (Or.inl (by decide))) (qm_gk (qm_gk (qm_gk (qm_gk g1520 (by decide) (Or.inl (by decide))) (by decide) (Or.inl (by decide))) (by decide) (Or.inl (by decide))) (by decide) (Or.inr rfl)) (qm_ge _ _ _) (by omega) (by omega) hI1568 hF1569 ((congrFun e1567 56).trans ((qw_r_ne (by decide)).trans hk1528)) ((congrFun e1567 59).trans ((qw_r_ne (by decide)).trans hk1529)) (by rw [(congrFun e1567 57).trans qw_r_eq]; exact hx1532.trans (qws_neg (by omega) (by rw [← hrv1536]; omega) (by omega) (by rw [← hv1550]; exact qtx_can hev1565 (by omega)) rfl))
                  · skip
                    refine qr_aload_n 160 rfl (qm_gk (qm_gk (qm_gk g1518 (by decide) (Or.inl (by decide))) (by decide) (Or.inl (by decide))) (by decide) (Or.inl (by decide))) rfl ?_
                    refine qr_get 163 rfl rfl rfl (by decide) rfl ?_
                    refine qr_iload_n 164 rfl (qm_gk (qm_gk (qm_gk g1520 (by decide) (Or.inl (by decide))) (by decide) (Or.inl (by decide))) (by decide) (Or.inl (by decide))) rfl ?_
                    refine qr_iconst 165 rfl rfl ?_
                    refine qr_isub 166 rfl rfl ?_
                    refine qr_iload 168 rfl (qm_ge _ _ _) rfl ?_
                    refine qr_if_ne 175 171 rfl rfl rfl (by omega) (fun h1570 => ?_) (fun h1570 => ?_)
                    · skip
                      as_aux_lemma =>
                        refine qr_iconst 176 rfl rfl ?_
                        refine qr_iastore 177 rfl (by decide) rfl (by omega) (by decide) rfl ?_
                        refine qy_wA (qw_r α1525 57 (qzu (α1525 57) ((u1521 - 1) : Int).toNat 0)) rfl (fun α1571 e1572 => ?_)
                        have hI1573 : qI σ α1571 κ ρ := by rw [e1572]; exact qI_r hI1526 57 _ rfl (show (-2147483648) ≤ 0 ∧ 0 ≤ 2147483647 by omega)
                        have hF1574 : qFr [] [57] σ α σ α1571 := by rw [e1572]; exact qFr_r hF1527 57 _ (by decide)
                        refine qr_goto 234 rfl rfl ?_
                        refine qr_iinc _ 237 rfl (qm_gk (qm_gk (qm_gk g1522 (by decide) (Or.inr rfl)) (by decide) (Or.inl (by decide))) (by decide) (Or.inl (by decide))) (by decide) rfl rfl ?_
                        refine qr_goto 4 rfl rfl ?_
                        exact ih1534 _ u1521 (u1523 + 1) α1571 (by omega) (qm_gk (qm_gk (qm_gk (qm_gk g1518 (by decide) (Or.inl (by decide))) (by decide) (Or.inl (by decide))) (by decide) (Or.inl (by decide))) (by decide) (Or.inl (by decide))) (qm_gk (qm_gk (qm_gk (qm_gk g1519 (by decide) (Or.inl (by decide))) (by decide) (Or.inl (by decide))) (by decide) (Or.inl (by decide))) (by decide) (Or.inl (by decide))) (qm_gk (qm_gk (qm_gk (qm_gk g1520 (by decide) (Or.inl (by decide))) (by decide) (Or.inl (by decide))) (by decide) (Or.inl (by decide))) (by decide) (Or.inr rfl)) (qm_ge _ _ _) (by omega) (by omega) hI1573 hF1574 ((congrFun e1572 56).trans ((qw_r_ne (by decide)).trans hk1528)) ((congrFun e1572 59).trans ((qw_r_ne (by decide)).trans hk1529)) (by rw [(congrFun e1572 57).trans qw_r_eq]; exact hx1532.trans (qws_not (by omega) (by rw [← hrv1536]; omega) (by omega) (by rw [← hv1550]; omega) rfl))
                    · skip
                      as_aux_lemma =>
                        refine qr_iconst 172 rfl rfl ?_
                        refine qr_goto 176 rfl rfl ?_
                        refine qr_iastore 177 rfl (by decide) rfl (by omega) (by decide) rfl ?_
                        refine qy_wA (qw_r α1525 57 (qzu (α1525 57) ((u1521 - 1) : Int).toNat 1)) rfl (fun α1575 e1576 => ?_)
                        have hI1577 : qI σ α1575 κ ρ := by rw [e1576]; exact qI_r hI1526 57 _ rfl (show (-2147483648) ≤ 1 ∧ 1 ≤ 2147483647 by omega)
                        have hF1578 : qFr [] [57] σ α σ α1575 := by rw [e1576]; exact qFr_r hF1527 57 _ (by decide)
                        refine qr_goto 234 rfl rfl ?_
                        refine qr_iinc _ 237 rfl (qm_gk (qm_gk (qm_gk g1522 (by decide) (Or.inr rfl)) (by decide) (Or.inl (by decide))) (by decide) (Or.inl (by decide))) (by decide) rfl rfl ?_
                        refine qr_goto 4 rfl rfl ?_
                        exact ih1534 _ u1521 (u1523 + 1) α1575 (by omega) (qm_gk (qm_gk (qm_gk (qm_gk g1518 (by decide) (Or.inl (by decide))) (by decide) (Or.inl (by decide))) (by decide) (Or.inl (by decide))) (by decide) (Or.inl (by decide))) (qm_gk (qm_gk (qm_gk (qm_gk g1519 (by decide) (Or.inl (by decide))) (by decide) (Or.inl (by decide))) (by decide) (Or.inl (by decide))) (by decide) (Or.inl (by decide))) (qm_gk (qm_gk (qm_gk (qm_gk g1520 (by decide) (Or.inl (by decide))) (by decide) (Or.inl (by decide))) (by decide) (Or.inl (by decide))) (by decide) (Or.inr rfl)) (qm_ge _ _ _) (by omega) (by omega) hI1577 hF1578 ((congrFun e1576 56).trans ((qw_r_ne (by decide)).trans hk1528)) ((congrFun e1576 59).trans ((qw_r_ne (by decide)).trans hk1529)) (by rw [(congrFun e1576 57).trans qw_r_eq]; exact hx1532.trans (qws_not (by omega) (by rw [← hrv1536]; omega) (by omega) (by rw [← hv1550]; omega) rfl))
                · skip
                  refine qr_iinc _ 135 rfl (qm_gk (qm_gk (qm_gk g1520 (by decide) (Or.inl (by decide))) (by decide) (Or.inl (by decide))) (by decide) (Or.inl (by decide))) (by decide) rfl rfl ?_
                  refine qr_iload 137 rfl (qm_gk (qm_ge _ _ _) (by decide) (Or.inl (by decide))) rfl ?_
                  refine qr_if_ne 234 140 rfl rfl rfl (by omega) (fun h1579 => ?_) (fun h1579 => ?_)
                  · skip
                    refine qr_iinc _ 237 rfl (qm_gk (qm_gk (qm_gk (qm_gk g1522 (by decide) (Or.inr rfl)) (by decide) (Or.inl (by decide))) (by decide) (Or.inl (by decide))) (by decide) (Or.inl (by decide))) (by decide) rfl rfl ?_
                    refine qr_goto 4 rfl rfl ?_
                    exact ih1534 _ (u1521 + (-1)) (u1523 + 1) α1525 (by omega) (qm_gk (qm_gk (qm_gk (qm_gk (qm_gk g1518 (by decide) (Or.inl (by decide))) (by decide) (Or.inl (by decide))) (by decide) (Or.inl (by decide))) (by decide) (Or.inl (by decide))) (by decide) (Or.inl (by decide))) (qm_gk (qm_gk (qm_gk (qm_gk (qm_gk g1519 (by decide) (Or.inl (by decide))) (by decide) (Or.inl (by decide))) (by decide) (Or.inl (by decide))) (by decide) (Or.inr rfl)) (by decide) (Or.inl (by decide))) (qm_gk (qm_ge _ _ _) (by decide) (Or.inr rfl)) (qm_ge _ _ _) (by omega) (by omega) hI1526 hF1527 hk1528 hk1529 (by exact hx1532.trans (qws_if (by omega) (by rw [← hrv1536]; omega) (by omega) (by rw [← hv1550, ← hrv1536]; omega)))
                  · skip
                    refine qr_iload_n 141 rfl (qm_gk (qm_gk (qm_gk (qm_gk g1522 (by decide) (Or.inr rfl)) (by decide) (Or.inl (by decide))) (by decide) (Or.inl (by decide))) (by decide) (Or.inl (by decide))) rfl ?_
                    refine qr_iload 143 rfl (qm_gk (qm_gk (qm_ge _ _ _) (by decide) (Or.inr rfl)) (by decide) (Or.inl (by decide))) rfl ?_
                    refine qr_iconst 144 rfl rfl ?_
                    refine qr_isub 145 rfl rfl ?_
                    refine qr_callN 148 rfl rfl rfl (sf_30 (d := d + 0) hI1526 (by omega) (by omega)) ?_
                    rintro _ _ ⟨rfl, v1580, rfl, hv1580, hp1581⟩
                    show qr_W (qe L xs vb) (d + 1) qx_e97 _ (148, _, [.int (qz v1580)], qw σ α1525 κ ρ, 0, 0)
                    refine qr_istore_n _ 149 rfl (by decide) rfl rfl ?_
                    refine qr_goto 234 rfl rfl ?_
                    as_aux_lemma =>
                      refine qr_iinc _ 237 rfl (qm_ge _ _ _) (by decide) rfl rfl ?_
                      refine qr_goto 4 rfl rfl ?_
                      exact ih1534 _ (u1521 + (-1)) (v1580 + 1) α1525 (by omega) (qm_gk (qm_gk (qm_gk (qm_gk (qm_gk (qm_gk g1518 (by decide) (Or.inl (by decide))) (by decide) (Or.inl (by decide))) (by decide) (Or.inl (by decide))) (by decide) (Or.inl (by decide))) (by decide) (Or.inl (by decide))) (by decide) (Or.inl (by decide))) (qm_gk (qm_gk (qm_gk (qm_gk (qm_gk (qm_gk g1519 (by decide) (Or.inl (by decide))) (by decide) (Or.inl (by decide))) (by decide) (Or.inl (by decide))) (by decide) (Or.inr rfl)) (by decide) (Or.inl (by decide))) (by decide) (Or.inl (by decide))) (qm_gk (qm_gk (qm_ge _ _ _) (by decide) (Or.inr rfl)) (by decide) (Or.inr rfl)) (qm_ge _ _ _) (by omega) (by omega) hI1526 hF1527 hk1528 hk1529 (by exact hx1532.trans (qws_if (by omega) (by rw [← hrv1536]; omega) (by omega) (by rw [← hv1550, ← hrv1536]; omega)))
              · skip
                refine qr_iload 124 rfl (qm_ge _ _ _) rfl ?_
                refine qr_retI rfl rfl (by decide) (by decide) ?_
                exact ⟨_, rfl, hI1526, hF1527, v1550, rfl, by omega, (by rw [hx1532, (qws_end (by omega) (by rw [← hrv1536]; omega) (by omega))]; exact hv1550)⟩
            · skip
              refine qr_iconst 104 rfl rfl ?_
              refine qr_retI rfl rfl (by decide) (by decide) ?_
              exact ⟨_, rfl, hI1526, hF1527, 0, rfl, by omega, (by rw [hx1532, (qws_emp (by omega) (by rw [← hrv1536]; omega) (by omega))])⟩
          · skip
            refine qr_iload_n 49 rfl (qm_gk (qm_gk g1520 (by decide) (Or.inl (by decide))) (by decide) (Or.inl (by decide))) rfl ?_
            refine qr_aload_n 50 rfl (qm_gk (qm_gk g1518 (by decide) (Or.inl (by decide))) (by decide) (Or.inl (by decide))) rfl ?_
            refine qr_get 53 rfl rfl rfl (by decide) rfl ?_
            refine qr_alen 54 rfl rfl (by first | exact Or.inl (by decide) | exact Or.inr (Or.inl rfl) | exact Or.inr (Or.inr (Or.inl rfl)) | exact Or.inr (Or.inr (Or.inr (Or.inl rfl)))) rfl ?_
            refine qy_v 120 rfl ?_
            refine qr_icmp_lt 59 57 rfl rfl rfl (by omega) (by omega) (fun h1582 => ?_) (fun h1582 => ?_)
            · skip
              refine qr_aload_n 60 rfl (qm_gk (qm_gk g1518 (by decide) (Or.inl (by decide))) (by decide) (Or.inl (by decide))) rfl ?_
              refine qr_get 63 rfl rfl rfl (by decide) rfl ?_
              refine qr_iload_n 64 rfl (qm_gk (qm_gk g1520 (by decide) (Or.inl (by decide))) (by decide) (Or.inl (by decide))) rfl ?_
              refine qr_iinc _ 67 rfl (qm_gk (qm_gk g1520 (by decide) (Or.inl (by decide))) (by decide) (Or.inl (by decide))) (by decide) rfl rfl ?_
              refine qr_iload 69 rfl (qm_gk (qm_gk (qm_ge _ _ _) (by decide) (Or.inr rfl)) (by decide) (Or.inl (by decide))) rfl ?_
              refine qr_bipush 71 rfl (by decide) rfl ?_
              refine qr_icmp_ne 79 74 rfl rfl rfl (by omega) (by omega) (fun h1583 => ?_) (fun h => False.elim (by omega))
              refine qr_iload 81 rfl (qm_gk (qm_ge _ _ _) (by decide) (Or.inl (by decide))) rfl ?_
              refine qr_aload_n 82 rfl (qm_gk (qm_gk (qm_gk g1519 (by decide) (Or.inl (by decide))) (by decide) (Or.inl (by decide))) (by decide) (Or.inr rfl)) rfl ?_
              refine qr_alen 83 rfl rfl (by first | exact Or.inl (by decide) | exact Or.inr (Or.inl rfl) | exact Or.inr (Or.inr (Or.inl rfl)) | exact Or.inr (Or.inr (Or.inr (Or.inl rfl)))) rfl ?_
              refine qy_v 9 rfl ?_
              refine qr_icmp_ge 93 86 rfl rfl rfl (by omega) (by omega) (fun h1584 => ?_) (fun h1584 => ?_)
              · skip
                refine qr_iconst 94 rfl rfl ?_
                refine qr_iastore 95 rfl (by decide) rfl (by omega) (by decide) rfl ?_
                refine qy_wA (qw_r α1525 57 (qzu (α1525 57) (u1521 : Int).toNat 0)) rfl (fun α1585 e1586 => ?_)
                have hI1587 : qI σ α1585 κ ρ := by rw [e1586]; exact qI_r hI1526 57 _ rfl (show (-2147483648) ≤ 0 ∧ 0 ≤ 2147483647 by omega)
                have hF1588 : qFr [] [57] σ α σ α1585 := by rw [e1586]; exact qFr_r hF1527 57 _ (by decide)
                refine qr_goto 234 rfl rfl ?_
                refine qr_iinc _ 237 rfl (qm_gk (qm_gk (qm_gk g1522 (by decide) (Or.inr rfl)) (by decide) (Or.inl (by decide))) (by decide) (Or.inl (by decide))) (by decide) rfl rfl ?_
                refine qr_goto 4 rfl rfl ?_
                exact ih1534 _ (u1521 + 1) (u1523 + 1) α1585 (by omega) (qm_gk (qm_gk (qm_gk (qm_gk g1518 (by decide) (Or.inl (by decide))) (by decide) (Or.inl (by decide))) (by decide) (Or.inl (by decide))) (by decide) (Or.inl (by decide))) (qm_gk (qm_gk (qm_gk (qm_gk g1519 (by decide) (Or.inl (by decide))) (by decide) (Or.inl (by decide))) (by decide) (Or.inr rfl)) (by decide) (Or.inl (by decide))) (qm_gk (qm_ge _ _ _) (by decide) (Or.inr rfl)) (qm_ge _ _ _) (by omega) (by omega) hI1587 hF1588 ((congrFun e1586 56).trans ((qw_r_ne (by decide)).trans hk1528)) ((congrFun e1586 59).trans ((qw_r_ne (by decide)).trans hk1529)) (by rw [(congrFun e1586 57).trans qw_r_eq]; exact hx1532.trans (qws_nam9 (by omega) (by rw [← hrv1536]; omega) (by omega) (by rw [← hrv1536]; omega) rfl rfl))
              · skip
                refine qr_aload_n 87 rfl (qm_gk (qm_gk (qm_gk g1519 (by decide) (Or.inl (by decide))) (by decide) (Or.inl (by decide))) (by decide) (Or.inr rfl)) rfl ?_
                refine qr_iload 89 rfl (qm_gk (qm_ge _ _ _) (by decide) (Or.inl (by decide))) rfl ?_
                refine qr_iaload 90 rfl rfl (by omega) (by decide) rfl ?_
                refine qr_topI (fun v1589 hv1589 => ?_)
                have hs1590 : (-2147483648) ≤ v1589 ∧ v1589 ≤ 2147483647 := by rw [hv1589]; exact hI1526.2.1 59 _ (show _ < 9 by omega)
                have hrv1589 : v1589 = (α 59) (v1540 : Int).toNat := hv1589.trans (congrFun hk1529 _)
                refine qr_goto 94 rfl rfl ?_
                refine qr_iastore 95 rfl (by decide) rfl (by omega) (by decide) rfl ?_
                refine qy_wA (qw_r α1525 57 (qzu (α1525 57) (u1521 : Int).toNat v1589)) rfl (fun α1591 e1592 => ?_)
                have hI1593 : qI σ α1591 κ ρ := by rw [e1592]; exact qI_r hI1526 57 _ rfl (show (-2147483648) ≤ v1589 ∧ v1589 ≤ 2147483647 by omega)
                have hF1594 : qFr [] [57] σ α σ α1591 := by rw [e1592]; exact qFr_r hF1527 57 _ (by decide)
                refine qr_goto 234 rfl rfl ?_
                refine qr_iinc _ 237 rfl (qm_gk (qm_gk (qm_gk g1522 (by decide) (Or.inr rfl)) (by decide) (Or.inl (by decide))) (by decide) (Or.inl (by decide))) (by decide) rfl rfl ?_
                refine qr_goto 4 rfl rfl ?_
                exact ih1534 _ (u1521 + 1) (u1523 + 1) α1591 (by omega) (qm_gk (qm_gk (qm_gk (qm_gk g1518 (by decide) (Or.inl (by decide))) (by decide) (Or.inl (by decide))) (by decide) (Or.inl (by decide))) (by decide) (Or.inl (by decide))) (qm_gk (qm_gk (qm_gk (qm_gk g1519 (by decide) (Or.inl (by decide))) (by decide) (Or.inl (by decide))) (by decide) (Or.inr rfl)) (by decide) (Or.inl (by decide))) (qm_gk (qm_ge _ _ _) (by decide) (Or.inr rfl)) (qm_ge _ _ _) (by omega) (by omega) hI1593 hF1594 ((congrFun e1592 56).trans ((qw_r_ne (by decide)).trans hk1528)) ((congrFun e1592 59).trans ((qw_r_ne (by decide)).trans hk1529)) (by rw [(congrFun e1592 57).trans qw_r_eq]; exact hx1532.trans (qws_nam (by omega) (by rw [← hrv1536]; omega) (by omega) (by rw [← hrv1536]; omega) (by rw [← hrv1536, show v1536 % 65536 = v1540 by omega]; exact hrv1589) rfl))
            · skip
              refine qr_iconst 58 rfl rfl ?_
              refine qr_retI rfl rfl (by decide) (by decide) ?_
              exact ⟨_, rfl, hI1526, hF1527, 0, rfl, by omega, (by rw [hx1532, (qws_ful (by omega) (by rw [← hrv1536]; omega) (by omega))])⟩
  exact hL1533 ((65536 - 0 + 1 : Int)).toNat _ 0 0 α (by omega) rfl rfl rfl rfl (by omega) (by omega) hI hF0 rfl rfl rfl

set_option maxHeartbeats 4000000 in
set_option maxRecDepth 20000 in
/-- OneRoof$Custom.worth -/
theorem sf_97_82_59x {L : Nat} {xs : Nat → Int} {vb : Bool} {d : Nat} {σ α : Nat → Nat → Int} {κ : Nat → Option Nat} {ρ : Nat}  (hI : qI σ α κ ρ) (p0 : ∀ k : Int, 0 ≤ k → k < σ 82 5 → 0 ≤ α 84 k.toNat ∧ α 84 k.toNat < 8388608) : qm_T (qe L xs vb) (d + 2) 97 [.ref 82, .ref 59] (qw σ α κ ρ) (fun r w' => ∃ α', w' = qw σ α' κ ρ ∧ qI σ α' κ ρ ∧ qFr [] [85] σ α σ α' ∧ ∃ v : Int, r = some (.int (qz v)) ∧ ((-2147483648) ≤ v ∧ v ≤ 2147483647) ∧ v = qwv (α 84) (α 59) (σ 82 5) 0 (α 85) 0) := by
  refine qr_start (d := d + 1) qv_e97 (Nat.le_of_ble_eq_true rfl) ?_
  show qr_W (qe L xs vb) (d + 1) qx_e97 _ (0, [(0, .ref 82), (1, .ref 59)], [], _, 0, 0)
  have hF0 := qFr_rf [] [85] σ α
  have hz82_5 : 0 ≤ σ 82 5 ∧ σ 82 5 ≤ 122 := hI.1 82 5
  refine qr_iconst 1 rfl rfl ?_
  refine qr_istore_n _ 2 rfl (by decide) rfl rfl ?_
  refine qr_iconst 3 rfl rfl ?_
  refine qr_istore_n _ 4 rfl (by decide) rfl rfl ?_
  have hL1533 : ∀ (n : Nat) (ls : qm_L) (u1521 u1523 : Int) (α1525 : Nat → Nat → Int), 65536 - u1523 < (n : Int) → qm_get ls 0 = some (.ref 82) → qm_get ls 1 = some (.ref 59) → qm_get ls 2 = some (.int (qz u1521)) → qm_get ls 3 = some (.int (qz u1523)) → (0 ≤ u1521 ∧ u1521 ≤ 120) → (0 ≤ u1523 ∧ u1523 ≤ 65535) → qI σ α1525 κ ρ → qFr [] [85] σ α σ α1525 → α1525 59 = (α 59) → α1525 84 = (α 84) → qwv (α 84) (α 59) (σ 82 5) 0 (α 85) 0 = qwv (α 84) (α 59) (σ 82 5) u1523 (α1525 85) u1521 → qr_W (qe L xs vb) (d + 1) qx_e97 (fun r w' => ∃ α', w' = qw σ α' κ ρ ∧ qI σ α' κ ρ ∧ qFr [] [85] σ α σ α' ∧ ∃ v : Int, r = some (.int (qz v)) ∧ ((-2147483648) ≤ v ∧ v ≤ 2147483647) ∧ v = qwv (α 84) (α 59) (σ 82 5) 0 (α 85) 0) (4, ls, [], qw σ α1525 κ ρ, 0, 0) := by
    intro n
    induction n with
    | zero => intro ls u1521 u1523 α1525 hm g1518 g1519 g1520 g1522 hf1530 hf1531 hI1526 hF1527 hk1528 hk1529 hx1532; exact False.elim (by omega)
    | succ n ih1534 =>
      intro ls u1521 u1523 α1525 hm g1518 g1519 g1520 g1522 hf1530 hf1531 hI1526 hF1527 hk1528 hk1529 hx1532
      refine qr_iload_n 5 rfl g1522 rfl ?_
      refine qr_aload_n 6 rfl g1518 rfl ?_
      refine qr_get 9 rfl rfl rfl (by decide) rfl ?_
      refine qr_icmp_ge 240 12 rfl rfl rfl (by omega) (by omega) (fun h1535 => ?_) (fun h1535 => ?_)
      · skip
        refine qr_iconst 241 rfl rfl ?_
        refine qr_retI rfl rfl (by decide) (by decide) ?_
        exact ⟨_, rfl, hI1526, hF1527, 0, rfl, by omega, (by rw [hx1532, qwv_end (by omega)])⟩
      · skip
        refine qr_aload_n 13 rfl g1518 rfl ?_
        refine qr_get 16 rfl rfl rfl (by decide) rfl ?_
        refine qr_iload_n 17 rfl g1522 rfl ?_
        refine qr_iaload 18 rfl rfl (by omega) (by decide) rfl ?_
        refine qr_topI (fun v1536 hv1536 => ?_)
        have hs1537 : (-2147483648) ≤ v1536 ∧ v1536 ≤ 2147483647 := by rw [hv1536]; exact hI1526.2.1 84 _ (show _ < 122 by omega)
        have hrv1536 : v1536 = (α 84) (u1523 : Int).toNat := hv1536.trans (congrFun hk1529 _)
        have hcv1536 := p0 u1523 (by omega) (by omega)
        rw [← hrv1536] at hcv1536
        refine qr_bipush 20 rfl (by decide) rfl ?_
        refine qr_iushr 21 rfl rfl ?_
        refine qy_v (v1536 / 65536) (qz_ushr16 (by omega)) ?_
        refine qr_istore _ 23 rfl (by decide) rfl rfl ?_
        refine qr_aload_n 24 rfl (qm_gk g1518 (by decide) (Or.inl (by decide))) rfl ?_
        refine qr_get 27 rfl rfl rfl (by decide) rfl ?_
        refine qr_iload_n 28 rfl (qm_gk g1522 (by decide) (Or.inr rfl)) rfl ?_
        refine qr_iaload 29 rfl rfl (by omega) (by decide) rfl ?_
        refine qr_topI (fun v1538 hv1538 => ?_)
        have hs1539 : (-2147483648) ≤ v1538 ∧ v1538 ≤ 2147483647 := by rw [hv1538]; exact hI1526.2.1 84 _ (show _ < 122 by omega)
        have hrv1538 : v1538 = (α 84) (u1523 : Int).toNat := hv1538.trans (congrFun hk1529 _)
        have hdv1538 : v1538 = v1536 := hrv1538.trans hrv1536.symm
        refine qr_ldc 65535 31 rfl (by decide) rfl ?_
        refine qr_iand 32 rfl rfl ?_
        refine qy_andrE (by omega) (fun v1540 hv1540 hev1540 => ?_)
        refine qr_istore _ 34 rfl (by decide) rfl rfl ?_
        rw [qz_and_m (by omega)] at hev1540
        refine qr_iload 36 rfl (qm_gk (qm_ge _ _ _) (by decide) (Or.inr rfl)) rfl ?_
        refine qr_bipush 38 rfl (by decide) rfl ?_
        refine qr_icmp_eq 48 41 rfl rfl rfl (by omega) (by omega) (fun h1541 => ?_) (fun h1541 => ?_)
        · skip
          refine qr_iload_n 49 rfl (qm_gk (qm_gk g1520 (by decide) (Or.inl (by decide))) (by decide) (Or.inl (by decide))) rfl ?_
          refine qr_aload_n 50 rfl (qm_gk (qm_gk g1518 (by decide) (Or.inl (by decide))) (by decide) (Or.inl (by decide))) rfl ?_
          refine qr_get 53 rfl rfl rfl (by decide) rfl ?_
          refine qr_alen 54 rfl rfl (by first | exact Or.inl (by decide) | exact Or.inr (Or.inl rfl) | exact Or.inr (Or.inr (Or.inl rfl)) | exact Or.inr (Or.inr (Or.inr (Or.inl rfl)))) rfl ?_
          refine qy_v 120 rfl ?_
          refine qr_icmp_lt 59 57 rfl rfl rfl (by omega) (by omega) (fun h1542 => ?_) (fun h1542 => ?_)
          · skip
            refine qr_aload_n 60 rfl (qm_gk (qm_gk g1518 (by decide) (Or.inl (by decide))) (by decide) (Or.inl (by decide))) rfl ?_
            refine qr_get 63 rfl rfl rfl (by decide) rfl ?_
            refine qr_iload_n 64 rfl (qm_gk (qm_gk g1520 (by decide) (Or.inl (by decide))) (by decide) (Or.inl (by decide))) rfl ?_
            refine qr_iinc _ 67 rfl (qm_gk (qm_gk g1520 (by decide) (Or.inl (by decide))) (by decide) (Or.inl (by decide))) (by decide) rfl rfl ?_
            refine qr_iload 69 rfl (qm_gk (qm_gk (qm_ge _ _ _) (by decide) (Or.inr rfl)) (by decide) (Or.inl (by decide))) rfl ?_
            refine qr_bipush 71 rfl (by decide) rfl ?_
            refine qr_icmp_ne 79 74 rfl rfl rfl (by omega) (by omega) (fun h => False.elim (by omega)) (fun h1543 => ?_)
            refine qr_iload 76 rfl (qm_gk (qm_ge _ _ _) (by decide) (Or.inl (by decide))) rfl ?_
            refine qr_goto 94 rfl rfl ?_
            refine qr_iastore 95 rfl (by decide) rfl (by omega) (by decide) rfl ?_
            refine qy_wA (qw_r α1525 85 (qzu (α1525 85) (u1521 : Int).toNat v1540)) rfl (fun α1544 e1545 => ?_)
            have hI1546 : qI σ α1544 κ ρ := by rw [e1545]; exact qI_r hI1526 85 _ rfl (show (-2147483648) ≤ v1540 ∧ v1540 ≤ 2147483647 by omega)
            have hF1547 : qFr [] [85] σ α σ α1544 := by rw [e1545]; exact qFr_r hF1527 85 _ (by decide)
            refine qr_goto 234 rfl rfl ?_
            refine qr_iinc _ 237 rfl (qm_gk (qm_gk (qm_gk g1522 (by decide) (Or.inr rfl)) (by decide) (Or.inl (by decide))) (by decide) (Or.inl (by decide))) (by decide) rfl rfl ?_
            refine qr_goto 4 rfl rfl ?_
            exact ih1534 _ (u1521 + 1) (u1523 + 1) α1544 (by omega) (qm_gk (qm_gk (qm_gk (qm_gk g1518 (by decide) (Or.inl (by decide))) (by decide) (Or.inl (by decide))) (by decide) (Or.inl (by decide))) (by decide) (Or.inl (by decide))) (qm_gk (qm_gk (qm_gk (qm_gk g1519 (by decide) (Or.inl (by decide))) (by decide) (Or.inl (by decide))) (by decide) (Or.inr rfl)) (by decide) (Or.inl (by decide))) (qm_gk (qm_ge _ _ _) (by decide) (Or.inr rfl)) (qm_ge _ _ _) (by omega) (by omega) hI1546 hF1547 ((congrFun e1545 59).trans ((qw_r_ne (by decide)).trans hk1528)) ((congrFun e1545 84).trans ((qw_r_ne (by decide)).trans hk1529)) (by rw [(congrFun e1545 85).trans qw_r_eq]; exact hx1532.trans (qws_num (by omega) (by rw [← hrv1536]; omega) (by omega) (by rw [← hrv1536]; omega) rfl))
          · skip
            refine qr_iconst 58 rfl rfl ?_
            refine qr_retI rfl rfl (by decide) (by decide) ?_
            exact ⟨_, rfl, hI1526, hF1527, 0, rfl, by omega, (by rw [hx1532, (qws_ful (by omega) (by rw [← hrv1536]; omega) (by omega))])⟩
        · skip
          refine qr_iload 43 rfl (qm_gk (qm_ge _ _ _) (by decide) (Or.inr rfl)) rfl ?_
          refine qr_bipush 45 rfl (by decide) rfl ?_
          refine qr_icmp_ne 98 48 rfl rfl rfl (by omega) (by omega) (fun h1548 => ?_) (fun h1548 => ?_)
          · skip
            refine qr_iload_n 99 rfl (qm_gk (qm_gk g1520 (by decide) (Or.inl (by decide))) (by decide) (Or.inl (by decide))) rfl ?_
            refine qr_iconst 100 rfl rfl ?_
            refine qr_icmp_ge 105 103 rfl rfl rfl (by omega) (by omega) (fun h1549 => ?_) (fun h1549 => ?_)
            · skip
              refine qr_aload_n 106 rfl (qm_gk (qm_gk g1518 (by decide) (Or.inl (by decide))) (by decide) (Or.inl (by decide))) rfl ?_
              refine qr_get 109 rfl rfl rfl (by decide) rfl ?_
              refine qr_iload_n 110 rfl (qm_gk (qm_gk g1520 (by decide) (Or.inl (by decide))) (by decide) (Or.inl (by decide))) rfl ?_
              refine qr_iconst 111 rfl rfl ?_
              refine qr_isub 112 rfl rfl ?_
              refine qr_iaload 113 rfl rfl (by omega) (by decide) rfl ?_
              refine qr_topI (fun v1550 hv1550 => ?_)
              have hs1551 : (-2147483648) ≤ v1550 ∧ v1550 ≤ 2147483647 := by rw [hv1550]; exact hI1526.2.1 85 _ (show _ < 120 by omega)
              refine qr_istore _ 115 rfl (by decide) rfl rfl ?_
              refine qr_iload 117 rfl (qm_gk (qm_gk (qm_ge _ _ _) (by decide) (Or.inr rfl)) (by decide) (Or.inl (by decide))) rfl ?_
              refine qr_bipush 119 rfl (by decide) rfl ?_
              refine qr_icmp_ne 125 122 rfl rfl rfl (by omega) (by omega) (fun h1552 => ?_) (fun h1552 => ?_)
              · skip
                refine qr_iload 127 rfl (qm_gk (qm_gk (qm_ge _ _ _) (by decide) (Or.inr rfl)) (by decide) (Or.inl (by decide))) rfl ?_
                refine qr_bipush 129 rfl (by decide) rfl ?_
                refine qr_icmp_ne 152 132 rfl rfl rfl (by omega) (by omega) (fun h1553 => ?_) (fun h1553 => ?_)
                · skip
                  refine qr_iload 154 rfl (qm_gk (qm_gk (qm_ge _ _ _) (by decide) (Or.inr rfl)) (by decide) (Or.inl (by decide))) rfl ?_
                  refine qr_bipush 156 rfl (by decide) rfl ?_
                  refine qr_icmp_ne 180 159 rfl rfl rfl (by omega) (by omega) (fun h1554 => ?_) (fun h1554 => ?_)
                  · skip
                    refine qr_iload 182 rfl (qm_gk (qm_gk (qm_ge _ _ _) (by decide) (Or.inr rfl)) (by decide) (Or.inl (by decide))) rfl ?_
                    refine qr_bipush 184 rfl (by decide) rfl ?_
                    refine qr_icmp_ne 201 187 rfl rfl rfl (by omega) (by omega) (fun h1555 => ?_) (fun h1555 => ?_)
                    · skip
                      refine qr_iload_n 202 rfl (qm_gk (qm_gk (qm_gk g1520 (by decide) (Or.inl (by decide))) (by decide) (Or.inl (by decide))) (by decide) (Or.inl (by decide))) rfl ?_
                      refine qr_iconst 203 rfl rfl ?_
                      refine qr_icmp_ge 208 206 rfl rfl rfl (by omega) (by omega) (fun h1556 => ?_) (fun h1556 => ?_)
                      · skip
                        refine qr_iinc _ 211 rfl (qm_gk (qm_gk (qm_gk g1520 (by decide) (Or.inl (by decide))) (by decide) (Or.inl (by decide))) (by decide) (Or.inl (by decide))) (by decide) rfl rfl ?_
                        as_aux_lemma =>
                          refine qr_aload_n 212 rfl (qm_gk (qm_gk (qm_gk (qm_gk g1518 (by decide) (Or.inl (by decide))) (by decide) (Or.inl (by decide))) (by decide) (Or.inl (by decide))) (by decide) (Or.inl (by decide))) rfl ?_
                          refine qr_get 215 rfl rfl rfl (by decide) rfl ?_
                          refine qr_iload_n 216 rfl (qm_ge _ _ _) rfl ?_
                          refine qr_iconst 217 rfl rfl ?_
                          refine qr_isub 218 rfl rfl ?_
                          refine qr_iload 220 rfl (qm_gk (qm_gk (qm_gk (qm_ge _ _ _) (by decide) (Or.inr rfl)) (by decide) (Or.inl (by decide))) (by decide) (Or.inl (by decide))) rfl ?_
                          refine qr_aload_n 221 rfl (qm_gk (qm_gk (qm_gk (qm_gk g1518 (by decide) (Or.inl (by decide))) (by decide) (Or.inl (by decide))) (by decide) (Or.inl (by decide))) (by decide) (Or.inl (by decide))) rfl ?_
                          refine qr_get 224 rfl rfl rfl (by decide) rfl ?_
                          refine qr_iload_n 225 rfl (qm_ge _ _ _) rfl ?_
                          refine qr_iconst 226 rfl rfl ?_
                          refine qr_isub 227 rfl rfl ?_
                          refine qr_iaload 228 rfl rfl (by omega) (by decide) rfl ?_
                          refine qr_topI (fun v1557 hv1557 => ?_)
                          have hs1558 : (-2147483648) ≤ v1557 ∧ v1557 ≤ 2147483647 := by rw [hv1557]; exact hI1526.2.1 85 _ (show _ < 120 by omega)
                          refine qr_iload 230 rfl (qm_gk (qm_ge _ _ _) (by decide) (Or.inl (by decide))) rfl ?_
                          refine qr_callN 233 rfl rfl rfl (sf_98x (d := d + 0) hI1526 (by omega) (by omega) (by omega)) ?_
                          rintro _ _ ⟨rfl, v1559, rfl, hv1559, hx1560⟩
                          show qr_W (qe L xs vb) (d + 1) qx_e97 _ (233, _, [.int (qz v1559), .int (qz ((u1521 + (-1)) - 1)), .ref 85], qw σ α1525 κ ρ, 0, 0)
                          refine qr_iastore 234 rfl (by decide) rfl (by omega) (by decide) rfl ?_
                          refine qy_wA (qw_r α1525 85 (qzu (α1525 85) (((u1521 + (-1)) - 1) : Int).toNat v1559)) rfl (fun α1561 e1562 => ?_)
                          have hI1563 : qI σ α1561 κ ρ := by rw [e1562]; exact qI_r hI1526 85 _ rfl (show (-2147483648) ≤ v1559 ∧ v1559 ≤ 2147483647 by omega)
                          have hF1564 : qFr [] [85] σ α σ α1561 := by rw [e1562]; exact qFr_r hF1527 85 _ (by decide)
                          refine qr_iinc _ 237 rfl (qm_gk (qm_gk (qm_gk (qm_gk g1522 (by decide) (Or.inr rfl)) (by decide) (Or.inl (by decide))) (by decide) (Or.inl (by decide))) (by decide) (Or.inl (by decide))) (by decide) rfl rfl ?_
                          refine qr_goto 4 rfl rfl ?_
                          exact ih1534 _ (u1521 + (-1)) (u1523 + 1) α1561 (by omega) (qm_gk (qm_gk (qm_gk (qm_gk (qm_gk g1518 (by decide) (Or.inl (by decide))) (by decide) (Or.inl (by decide))) (by decide) (Or.inl (by decide))) (by decide) (Or.inl (by decide))) (by decide) (Or.inl (by decide))) (qm_gk (qm_gk (qm_gk (qm_gk (qm_gk g1519 (by decide) (Or.inl (by decide))) (by decide) (Or.inl (by decide))) (by decide) (Or.inl (by decide))) (by decide) (Or.inr rfl)) (by decide) (Or.inl (by decide))) (qm_gk (qm_ge _ _ _) (by decide) (Or.inr rfl)) (qm_ge _ _ _) (by omega) (by omega) hI1563 hF1564 ((congrFun e1562 59).trans ((qw_r_ne (by decide)).trans hk1528)) ((congrFun e1562 84).trans ((qw_r_ne (by decide)).trans hk1529)) (by rw [(congrFun e1562 85).trans qw_r_eq]; exact hx1532.trans (qws_bin (by omega) (by rw [← hrv1536]; omega) (by omega) (by rw [show (u1521 - 2 : Int).toNat = (((u1521 + (-1)) - 1) : Int).toNat by omega, ← hrv1536, ← hv1557, ← hv1550]; exact (hx1560).trans (by rw [show v1536 / 65536 = (v1536 / 65536) by omega])) (by omega)))
                      · skip
                        refine qr_iconst 207 rfl rfl ?_
                        as_aux_lemma =>
                          refine qr_retI rfl rfl (by decide) (by decide) ?_
                          exact ⟨_, rfl, hI1526, hF1527, 0, rfl, by omega, (by rw [hx1532, (qws_two (by omega) (by rw [← hrv1536]; omega) (by omega))])⟩
                    · skip
                      refine qr_aload_n 188 rfl (qm_gk (qm_gk (qm_gk g1518 (by decide) (Or.inl (by decide))) (by decide) (Or.inl (by decide))) (by decide) (Or.inl (by decide))) rfl ?_
                      refine qr_get 191 rfl rfl rfl (by decide) rfl ?_
                      refine qr_iload_n 192 rfl (qm_gk (qm_gk (qm_gk g1520 (by decide) (Or.inl (by decide))) (by decide) (Or.inl (by decide))) (by decide) (Or.inl (by decide))) rfl ?_
                      refine qr_iconst 193 rfl rfl ?_
                      as_aux_lemma =>
                        refine qr_isub 194 rfl rfl ?_
                        refine qr_iload 196 rfl (qm_ge _ _ _) rfl ?_
                        refine qr_ineg 197 rfl rfl ?_
                        refine qy_canE (fun v1565 hv1565 hev1565 => ?_)
                        refine qr_iastore 198 rfl (by decide) rfl (by omega) (by decide) rfl ?_
                        refine qy_wA (qw_r α1525 85 (qzu (α1525 85) ((u1521 - 1) : Int).toNat v1565)) rfl (fun α1566 e1567 => ?_)
                        have hI1568 : qI σ α1566 κ ρ := by rw [e1567]; exact qI_r hI1526 85 _ rfl (show (-2147483648) ≤ v1565 ∧ v1565 ≤ 2147483647 by omega)
                        have hF1569 : qFr [] [85] σ α σ α1566 := by rw [e1567]; exact qFr_r hF1527 85 _ (by decide)
                        refine qr_goto 234 rfl rfl ?_
                        refine qr_iinc _ 237 rfl (qm_gk (qm_gk (qm_gk g1522 (by decide) (Or.inr rfl)) (by decide) (Or.inl (by decide))) (by decide) (Or.inl (by decide))) (by decide) rfl rfl ?_
                        refine qr_goto 4 rfl rfl ?_
                        exact ih1534 _ u1521 (u1523 + 1) α1566 (by omega) (qm_gk (qm_gk (qm_gk (qm_gk g1518 (by decide) (Or.inl (by decide))) (by decide) (Or.inl (by decide))) (by decide) (Or.inl (by decide))) (by decide) (Or.inl (by decide))) (qm_gk (qm_gk (qm_gk (qm_gk g1519 (by decide) (Or.inl (by decide))) (by decide) (Or.inl (by decide))) (by decide) (Or.inl (by decide))) (by decide) (Or.inl (by decide))) (qm_gk (qm_gk (qm_gk (qm_gk g1520 (by decide) (Or.inl (by decide))) (by decide) (Or.inl (by decide))) (by decide) (Or.inl (by decide))) (by decide) (Or.inr rfl)) (qm_ge _ _ _) (by omega) (by omega) hI1568 hF1569 ((congrFun e1567 59).trans ((qw_r_ne (by decide)).trans hk1528)) ((congrFun e1567 84).trans ((qw_r_ne (by decide)).trans hk1529)) (by rw [(congrFun e1567 85).trans qw_r_eq]; exact hx1532.trans (qws_neg (by omega) (by rw [← hrv1536]; omega) (by omega) (by rw [← hv1550]; exact qtx_can hev1565 (by omega)) rfl))
                  · skip
                    refine qr_aload_n 160 rfl (qm_gk (qm_gk (qm_gk g1518 (by decide) (Or.inl (by decide))) (by decide) (Or.inl (by decide))) (by decide) (Or.inl (by decide))) rfl ?_
                    refine qr_get 163 rfl rfl rfl (by decide) rfl ?_
                    refine qr_iload_n 164 rfl (qm_gk (qm_gk (qm_gk g1520 (by decide) (Or.inl (by decide))) (by decide) (Or.inl (by decide))) (by decide) (Or.inl (by decide))) rfl ?_
                    refine qr_iconst 165 rfl rfl ?_
                    refine qr_isub 166 rfl rfl ?_
                    refine qr_iload 168 rfl (qm_ge _ _ _) rfl ?_
                    refine qr_if_ne 175 171 rfl rfl rfl (by omega) (fun h1570 => ?_) (fun h1570 => ?_)
                    · skip
                      as_aux_lemma =>
                        refine qr_iconst 176 rfl rfl ?_
                        refine qr_iastore 177 rfl (by decide) rfl (by omega) (by decide) rfl ?_
                        refine qy_wA (qw_r α1525 85 (qzu (α1525 85) ((u1521 - 1) : Int).toNat 0)) rfl (fun α1571 e1572 => ?_)
                        have hI1573 : qI σ α1571 κ ρ := by rw [e1572]; exact qI_r hI1526 85 _ rfl (show (-2147483648) ≤ 0 ∧ 0 ≤ 2147483647 by omega)
                        have hF1574 : qFr [] [85] σ α σ α1571 := by rw [e1572]; exact qFr_r hF1527 85 _ (by decide)
                        refine qr_goto 234 rfl rfl ?_
                        refine qr_iinc _ 237 rfl (qm_gk (qm_gk (qm_gk g1522 (by decide) (Or.inr rfl)) (by decide) (Or.inl (by decide))) (by decide) (Or.inl (by decide))) (by decide) rfl rfl ?_
                        refine qr_goto 4 rfl rfl ?_
                        exact ih1534 _ u1521 (u1523 + 1) α1571 (by omega) (qm_gk (qm_gk (qm_gk (qm_gk g1518 (by decide) (Or.inl (by decide))) (by decide) (Or.inl (by decide))) (by decide) (Or.inl (by decide))) (by decide) (Or.inl (by decide))) (qm_gk (qm_gk (qm_gk (qm_gk g1519 (by decide) (Or.inl (by decide))) (by decide) (Or.inl (by decide))) (by decide) (Or.inl (by decide))) (by decide) (Or.inl (by decide))) (qm_gk (qm_gk (qm_gk (qm_gk g1520 (by decide) (Or.inl (by decide))) (by decide) (Or.inl (by decide))) (by decide) (Or.inl (by decide))) (by decide) (Or.inr rfl)) (qm_ge _ _ _) (by omega) (by omega) hI1573 hF1574 ((congrFun e1572 59).trans ((qw_r_ne (by decide)).trans hk1528)) ((congrFun e1572 84).trans ((qw_r_ne (by decide)).trans hk1529)) (by rw [(congrFun e1572 85).trans qw_r_eq]; exact hx1532.trans (qws_not (by omega) (by rw [← hrv1536]; omega) (by omega) (by rw [← hv1550]; omega) rfl))
                    · skip
                      as_aux_lemma =>
                        refine qr_iconst 172 rfl rfl ?_
                        refine qr_goto 176 rfl rfl ?_
                        refine qr_iastore 177 rfl (by decide) rfl (by omega) (by decide) rfl ?_
                        refine qy_wA (qw_r α1525 85 (qzu (α1525 85) ((u1521 - 1) : Int).toNat 1)) rfl (fun α1575 e1576 => ?_)
                        have hI1577 : qI σ α1575 κ ρ := by rw [e1576]; exact qI_r hI1526 85 _ rfl (show (-2147483648) ≤ 1 ∧ 1 ≤ 2147483647 by omega)
                        have hF1578 : qFr [] [85] σ α σ α1575 := by rw [e1576]; exact qFr_r hF1527 85 _ (by decide)
                        refine qr_goto 234 rfl rfl ?_
                        refine qr_iinc _ 237 rfl (qm_gk (qm_gk (qm_gk g1522 (by decide) (Or.inr rfl)) (by decide) (Or.inl (by decide))) (by decide) (Or.inl (by decide))) (by decide) rfl rfl ?_
                        refine qr_goto 4 rfl rfl ?_
                        exact ih1534 _ u1521 (u1523 + 1) α1575 (by omega) (qm_gk (qm_gk (qm_gk (qm_gk g1518 (by decide) (Or.inl (by decide))) (by decide) (Or.inl (by decide))) (by decide) (Or.inl (by decide))) (by decide) (Or.inl (by decide))) (qm_gk (qm_gk (qm_gk (qm_gk g1519 (by decide) (Or.inl (by decide))) (by decide) (Or.inl (by decide))) (by decide) (Or.inl (by decide))) (by decide) (Or.inl (by decide))) (qm_gk (qm_gk (qm_gk (qm_gk g1520 (by decide) (Or.inl (by decide))) (by decide) (Or.inl (by decide))) (by decide) (Or.inl (by decide))) (by decide) (Or.inr rfl)) (qm_ge _ _ _) (by omega) (by omega) hI1577 hF1578 ((congrFun e1576 59).trans ((qw_r_ne (by decide)).trans hk1528)) ((congrFun e1576 84).trans ((qw_r_ne (by decide)).trans hk1529)) (by rw [(congrFun e1576 85).trans qw_r_eq]; exact hx1532.trans (qws_not (by omega) (by rw [← hrv1536]; omega) (by omega) (by rw [← hv1550]; omega) rfl))
                · skip
                  refine qr_iinc _ 135 rfl (qm_gk (qm_gk (qm_gk g1520 (by decide) (Or.inl (by decide))) (by decide) (Or.inl (by decide))) (by decide) (Or.inl (by decide))) (by decide) rfl rfl ?_
                  refine qr_iload 137 rfl (qm_gk (qm_ge _ _ _) (by decide) (Or.inl (by decide))) rfl ?_
                  refine qr_if_ne 234 140 rfl rfl rfl (by omega) (fun h1579 => ?_) (fun h1579 => ?_)
                  · skip
                    refine qr_iinc _ 237 rfl (qm_gk (qm_gk (qm_gk (qm_gk g1522 (by decide) (Or.inr rfl)) (by decide) (Or.inl (by decide))) (by decide) (Or.inl (by decide))) (by decide) (Or.inl (by decide))) (by decide) rfl rfl ?_
                    refine qr_goto 4 rfl rfl ?_
                    exact ih1534 _ (u1521 + (-1)) (u1523 + 1) α1525 (by omega) (qm_gk (qm_gk (qm_gk (qm_gk (qm_gk g1518 (by decide) (Or.inl (by decide))) (by decide) (Or.inl (by decide))) (by decide) (Or.inl (by decide))) (by decide) (Or.inl (by decide))) (by decide) (Or.inl (by decide))) (qm_gk (qm_gk (qm_gk (qm_gk (qm_gk g1519 (by decide) (Or.inl (by decide))) (by decide) (Or.inl (by decide))) (by decide) (Or.inl (by decide))) (by decide) (Or.inr rfl)) (by decide) (Or.inl (by decide))) (qm_gk (qm_ge _ _ _) (by decide) (Or.inr rfl)) (qm_ge _ _ _) (by omega) (by omega) hI1526 hF1527 hk1528 hk1529 (by exact hx1532.trans (qws_if (by omega) (by rw [← hrv1536]; omega) (by omega) (by rw [← hv1550, ← hrv1536]; omega)))
                  · skip
                    refine qr_iload_n 141 rfl (qm_gk (qm_gk (qm_gk (qm_gk g1522 (by decide) (Or.inr rfl)) (by decide) (Or.inl (by decide))) (by decide) (Or.inl (by decide))) (by decide) (Or.inl (by decide))) rfl ?_
                    refine qr_iload 143 rfl (qm_gk (qm_gk (qm_ge _ _ _) (by decide) (Or.inr rfl)) (by decide) (Or.inl (by decide))) rfl ?_
                    refine qr_iconst 144 rfl rfl ?_
                    refine qr_isub 145 rfl rfl ?_
                    refine qr_callN 148 rfl rfl rfl (sf_30 (d := d + 0) hI1526 (by omega) (by omega)) ?_
                    rintro _ _ ⟨rfl, v1580, rfl, hv1580, hp1581⟩
                    show qr_W (qe L xs vb) (d + 1) qx_e97 _ (148, _, [.int (qz v1580)], qw σ α1525 κ ρ, 0, 0)
                    refine qr_istore_n _ 149 rfl (by decide) rfl rfl ?_
                    refine qr_goto 234 rfl rfl ?_
                    as_aux_lemma =>
                      refine qr_iinc _ 237 rfl (qm_ge _ _ _) (by decide) rfl rfl ?_
                      refine qr_goto 4 rfl rfl ?_
                      exact ih1534 _ (u1521 + (-1)) (v1580 + 1) α1525 (by omega) (qm_gk (qm_gk (qm_gk (qm_gk (qm_gk (qm_gk g1518 (by decide) (Or.inl (by decide))) (by decide) (Or.inl (by decide))) (by decide) (Or.inl (by decide))) (by decide) (Or.inl (by decide))) (by decide) (Or.inl (by decide))) (by decide) (Or.inl (by decide))) (qm_gk (qm_gk (qm_gk (qm_gk (qm_gk (qm_gk g1519 (by decide) (Or.inl (by decide))) (by decide) (Or.inl (by decide))) (by decide) (Or.inl (by decide))) (by decide) (Or.inr rfl)) (by decide) (Or.inl (by decide))) (by decide) (Or.inl (by decide))) (qm_gk (qm_gk (qm_ge _ _ _) (by decide) (Or.inr rfl)) (by decide) (Or.inr rfl)) (qm_ge _ _ _) (by omega) (by omega) hI1526 hF1527 hk1528 hk1529 (by exact hx1532.trans (qws_if (by omega) (by rw [← hrv1536]; omega) (by omega) (by rw [← hv1550, ← hrv1536]; omega)))
              · skip
                refine qr_iload 124 rfl (qm_ge _ _ _) rfl ?_
                refine qr_retI rfl rfl (by decide) (by decide) ?_
                exact ⟨_, rfl, hI1526, hF1527, v1550, rfl, by omega, (by rw [hx1532, (qws_end (by omega) (by rw [← hrv1536]; omega) (by omega))]; exact hv1550)⟩
            · skip
              refine qr_iconst 104 rfl rfl ?_
              refine qr_retI rfl rfl (by decide) (by decide) ?_
              exact ⟨_, rfl, hI1526, hF1527, 0, rfl, by omega, (by rw [hx1532, (qws_emp (by omega) (by rw [← hrv1536]; omega) (by omega))])⟩
          · skip
            refine qr_iload_n 49 rfl (qm_gk (qm_gk g1520 (by decide) (Or.inl (by decide))) (by decide) (Or.inl (by decide))) rfl ?_
            refine qr_aload_n 50 rfl (qm_gk (qm_gk g1518 (by decide) (Or.inl (by decide))) (by decide) (Or.inl (by decide))) rfl ?_
            refine qr_get 53 rfl rfl rfl (by decide) rfl ?_
            refine qr_alen 54 rfl rfl (by first | exact Or.inl (by decide) | exact Or.inr (Or.inl rfl) | exact Or.inr (Or.inr (Or.inl rfl)) | exact Or.inr (Or.inr (Or.inr (Or.inl rfl)))) rfl ?_
            refine qy_v 120 rfl ?_
            refine qr_icmp_lt 59 57 rfl rfl rfl (by omega) (by omega) (fun h1582 => ?_) (fun h1582 => ?_)
            · skip
              refine qr_aload_n 60 rfl (qm_gk (qm_gk g1518 (by decide) (Or.inl (by decide))) (by decide) (Or.inl (by decide))) rfl ?_
              refine qr_get 63 rfl rfl rfl (by decide) rfl ?_
              refine qr_iload_n 64 rfl (qm_gk (qm_gk g1520 (by decide) (Or.inl (by decide))) (by decide) (Or.inl (by decide))) rfl ?_
              refine qr_iinc _ 67 rfl (qm_gk (qm_gk g1520 (by decide) (Or.inl (by decide))) (by decide) (Or.inl (by decide))) (by decide) rfl rfl ?_
              refine qr_iload 69 rfl (qm_gk (qm_gk (qm_ge _ _ _) (by decide) (Or.inr rfl)) (by decide) (Or.inl (by decide))) rfl ?_
              refine qr_bipush 71 rfl (by decide) rfl ?_
              refine qr_icmp_ne 79 74 rfl rfl rfl (by omega) (by omega) (fun h1583 => ?_) (fun h => False.elim (by omega))
              refine qr_iload 81 rfl (qm_gk (qm_ge _ _ _) (by decide) (Or.inl (by decide))) rfl ?_
              refine qr_aload_n 82 rfl (qm_gk (qm_gk (qm_gk g1519 (by decide) (Or.inl (by decide))) (by decide) (Or.inl (by decide))) (by decide) (Or.inr rfl)) rfl ?_
              refine qr_alen 83 rfl rfl (by first | exact Or.inl (by decide) | exact Or.inr (Or.inl rfl) | exact Or.inr (Or.inr (Or.inl rfl)) | exact Or.inr (Or.inr (Or.inr (Or.inl rfl)))) rfl ?_
              refine qy_v 9 rfl ?_
              refine qr_icmp_ge 93 86 rfl rfl rfl (by omega) (by omega) (fun h1584 => ?_) (fun h1584 => ?_)
              · skip
                refine qr_iconst 94 rfl rfl ?_
                refine qr_iastore 95 rfl (by decide) rfl (by omega) (by decide) rfl ?_
                refine qy_wA (qw_r α1525 85 (qzu (α1525 85) (u1521 : Int).toNat 0)) rfl (fun α1585 e1586 => ?_)
                have hI1587 : qI σ α1585 κ ρ := by rw [e1586]; exact qI_r hI1526 85 _ rfl (show (-2147483648) ≤ 0 ∧ 0 ≤ 2147483647 by omega)
                have hF1588 : qFr [] [85] σ α σ α1585 := by rw [e1586]; exact qFr_r hF1527 85 _ (by decide)
                refine qr_goto 234 rfl rfl ?_
                refine qr_iinc _ 237 rfl (qm_gk (qm_gk (qm_gk g1522 (by decide) (Or.inr rfl)) (by decide) (Or.inl (by decide))) (by decide) (Or.inl (by decide))) (by decide) rfl rfl ?_
                refine qr_goto 4 rfl rfl ?_
                exact ih1534 _ (u1521 + 1) (u1523 + 1) α1585 (by omega) (qm_gk (qm_gk (qm_gk (qm_gk g1518 (by decide) (Or.inl (by decide))) (by decide) (Or.inl (by decide))) (by decide) (Or.inl (by decide))) (by decide) (Or.inl (by decide))) (qm_gk (qm_gk (qm_gk (qm_gk g1519 (by decide) (Or.inl (by decide))) (by decide) (Or.inl (by decide))) (by decide) (Or.inr rfl)) (by decide) (Or.inl (by decide))) (qm_gk (qm_ge _ _ _) (by decide) (Or.inr rfl)) (qm_ge _ _ _) (by omega) (by omega) hI1587 hF1588 ((congrFun e1586 59).trans ((qw_r_ne (by decide)).trans hk1528)) ((congrFun e1586 84).trans ((qw_r_ne (by decide)).trans hk1529)) (by rw [(congrFun e1586 85).trans qw_r_eq]; exact hx1532.trans (qws_nam9 (by omega) (by rw [← hrv1536]; omega) (by omega) (by rw [← hrv1536]; omega) rfl rfl))
              · skip
                refine qr_aload_n 87 rfl (qm_gk (qm_gk (qm_gk g1519 (by decide) (Or.inl (by decide))) (by decide) (Or.inl (by decide))) (by decide) (Or.inr rfl)) rfl ?_
                refine qr_iload 89 rfl (qm_gk (qm_ge _ _ _) (by decide) (Or.inl (by decide))) rfl ?_
                refine qr_iaload 90 rfl rfl (by omega) (by decide) rfl ?_
                refine qr_topI (fun v1589 hv1589 => ?_)
                have hs1590 : (-2147483648) ≤ v1589 ∧ v1589 ≤ 2147483647 := by rw [hv1589]; exact hI1526.2.1 59 _ (show _ < 9 by omega)
                have hrv1589 : v1589 = (α 59) (v1540 : Int).toNat := hv1589.trans (congrFun hk1528 _)
                refine qr_goto 94 rfl rfl ?_
                refine qr_iastore 95 rfl (by decide) rfl (by omega) (by decide) rfl ?_
                refine qy_wA (qw_r α1525 85 (qzu (α1525 85) (u1521 : Int).toNat v1589)) rfl (fun α1591 e1592 => ?_)
                have hI1593 : qI σ α1591 κ ρ := by rw [e1592]; exact qI_r hI1526 85 _ rfl (show (-2147483648) ≤ v1589 ∧ v1589 ≤ 2147483647 by omega)
                have hF1594 : qFr [] [85] σ α σ α1591 := by rw [e1592]; exact qFr_r hF1527 85 _ (by decide)
                refine qr_goto 234 rfl rfl ?_
                refine qr_iinc _ 237 rfl (qm_gk (qm_gk (qm_gk g1522 (by decide) (Or.inr rfl)) (by decide) (Or.inl (by decide))) (by decide) (Or.inl (by decide))) (by decide) rfl rfl ?_
                refine qr_goto 4 rfl rfl ?_
                exact ih1534 _ (u1521 + 1) (u1523 + 1) α1591 (by omega) (qm_gk (qm_gk (qm_gk (qm_gk g1518 (by decide) (Or.inl (by decide))) (by decide) (Or.inl (by decide))) (by decide) (Or.inl (by decide))) (by decide) (Or.inl (by decide))) (qm_gk (qm_gk (qm_gk (qm_gk g1519 (by decide) (Or.inl (by decide))) (by decide) (Or.inl (by decide))) (by decide) (Or.inr rfl)) (by decide) (Or.inl (by decide))) (qm_gk (qm_ge _ _ _) (by decide) (Or.inr rfl)) (qm_ge _ _ _) (by omega) (by omega) hI1593 hF1594 ((congrFun e1592 59).trans ((qw_r_ne (by decide)).trans hk1528)) ((congrFun e1592 84).trans ((qw_r_ne (by decide)).trans hk1529)) (by rw [(congrFun e1592 85).trans qw_r_eq]; exact hx1532.trans (qws_nam (by omega) (by rw [← hrv1536]; omega) (by omega) (by rw [← hrv1536]; omega) (by rw [← hrv1536, show v1536 % 65536 = v1540 by omega]; exact hrv1589) rfl))
            · skip
              refine qr_iconst 58 rfl rfl ?_
              refine qr_retI rfl rfl (by decide) (by decide) ?_
              exact ⟨_, rfl, hI1526, hF1527, 0, rfl, by omega, (by rw [hx1532, (qws_ful (by omega) (by rw [← hrv1536]; omega) (by omega))])⟩
  exact hL1533 ((65536 - 0 + 1 : Int)).toNat _ 0 0 α (by omega) rfl rfl rfl rfl (by omega) (by omega) hI hF0 rfl rfl rfl
