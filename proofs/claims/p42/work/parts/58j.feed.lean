/-! the tape: bytes of a number, the lowest first -/
theorem qlz_ushr {v b : Int} (k : Nat) (hb : ((qz b).toUInt32 &&& Int32.toUInt32 31) = UInt32.ofNat k) (hk : k < 32) : qlz (qz_ushr v b) = qlz v / 2 ^ k := by
  have e4 : (qz v).toUInt32.toNat = qlz v := rfl
  have e5 : ((qz v).toUInt32 >>> UInt32.ofNat k).toNat = qlz v / 2 ^ k := by
    rw [UInt32.toNat_shiftRight, e4, UInt32.toNat_ofNat_of_lt' (Nat.lt_trans hk (by decide)), Nat.mod_eq_of_lt hk, Nat.shiftRight_eq_div_pow]
  show (qz (qz_ushr v b)).toBitVec.toNat = qlz v / 2 ^ k
  unfold qz_ushr
  rw [hb, ← qz_of]
  exact e5
theorem qlz_shr (v : Int) {m i : Nat} (h : i + m < 32) : (qlz (qz_shr v (m : Int))).testBit i = (qlz v).testBit (m + i) := by
  have g0 : (qz (qz_shr v (m : Int))).toBitVec = (qz v).toBitVec.sshiftRight m := by
    unfold qz_shr
    rw [← qz_of, Int32.toBitVec_shiftRight, qb31s ⟨m, by omega⟩]
    show (qz v).toBitVec.sshiftRight (BitVec.ofNat 32 m).toNat = _
    rw [BitVec.toNat_ofNat, Nat.mod_eq_of_lt (by omega)]
  unfold qlz
  rw [BitVec.testBit_toNat, BitVec.testBit_toNat, g0, BitVec.getLsbD_sshiftRight]
  simp [show m + i < 32 by omega, show ¬ 32 ≤ i by omega]
theorem qby_m (v : Int) {m : Nat} (hm : m ≤ 24) (hb : ((qz (m : Int)).toUInt32 &&& Int32.toUInt32 31) = UInt32.ofNat m) : qz_and (qz_ushr v (m : Int)) 255 = qz_and (qz_shr v (m : Int)) 255 := by
  refine qbi_ext (qz_rng _) (qz_rng _) (fun i h0 h1 => ?_)
  rw [qbi_and, qbi_and]
  by_cases hi : i < 8
  · have e : qbi (qz_ushr v (m : Int)) i = qbi (qz_shr v (m : Int)) i := by
      rw [qbi_if, qbi_if (qz_shr v (m : Int)), qlz_ushr m hb (by omega), Nat.testBit_div_two_pow, qlz_shr v (by omega), Nat.add_comm i.toNat m]
    rw [e]
  · have e : qbi 255 i = 0 := by
      rw [qbi_if, show qlz 255 = 2 ^ 8 - 1 by decide +kernel, Nat.testBit_two_pow_sub_one, if_neg (by rw [decide_eq_true_eq]; omega)]
    rw [e, if_neg (by omega), if_neg (by omega)]
theorem qby_eq {v k : Int} (hk : 0 ≤ k ∧ k ≤ 3) : qz_and (qz_ushr v (8 * k)) 255 = qz_and (qz_shr v (8 * k)) 255 := by
  have h : k = 0 ∨ k = 1 ∨ k = 2 ∨ k = 3 := by omega
  rcases h with rfl | rfl | rfl | rfl
  · exact qby_m v (m := 0) (by decide) (by decide)
  · exact qby_m v (m := 8) (by decide) (by decide)
  · exact qby_m v (m := 16) (by decide) (by decide)
  · exact qby_m v (m := 24) (by decide) (by decide)
def qby (v : Int) (k : Nat) : Int := qz_and (qz_shr v (8 * (k : Int))) 255
def qfd (f : Nat → Int) (t v : Int) : Nat → Nat → Int
  | 0 => f
  | k + 1 => qzu (qfd f t v k) (t + (k : Int)).toNat (qby v k)
theorem qfd_s {f : Nat → Int} {t v u val : Int} {ix : Nat} (hu : 0 ≤ u) (hi : ix = (t + u).toNat) (hv : val = qz_and (qz_shr v (8 * u)) 255) : qzu (qfd f t v u.toNat) ix val = qfd f t v (u + 1).toNat := by
  rw [show (u + 1).toNat = u.toNat + 1 by omega]
  show qzu (qfd f t v u.toNat) ix val = qzu (qfd f t v u.toNat) (t + ((u.toNat : Nat) : Int)).toNat (qby v u.toNat)
  unfold qby
  rw [show ((u.toNat : Nat) : Int) = u by omega, hi, hv]
theorem qfd_r {f : Nat → Int} (t v : Int) (h : ∀ j, 0 ≤ f j ∧ f j ≤ 255) : ∀ (k j : Nat), 0 ≤ qfd f t v k j ∧ qfd f t v k j ≤ 255 := by
  intro k
  induction k with
  | zero => exact h
  | succ k ih =>
    intro j
    show 0 ≤ qzu (qfd f t v k) (t + (k : Int)).toNat (qby v k) j ∧ qzu (qfd f t v k) (t + (k : Int)).toNat (qby v k) j ≤ 255
    unfold qzu
    by_cases e : j = (t + (k : Int)).toNat
    · rw [if_pos e]
      unfold qby
      rw [qz_and_c]
      exact qz_andL _ (by decide)
    · rw [if_neg e]
      exact ih j

set_option maxHeartbeats 4000000 in
set_option maxRecDepth 20000 in
/-- OneRoof.feed -/
theorem sf_84_16x {L : Nat} {xs : Nat → Int} {vb : Bool} {d : Nat} {σ α : Nat → Nat → Int} {κ : Nat → Option Nat} {ρ : Nat} {x1 : Int} {x2 : Int} (hI : qI σ α κ ρ) (r1 : (-2147483648) ≤ x1 ∧ x1 ≤ 2147483647) (r2 : (-2147483648) ≤ x2 ∧ x2 ≤ 2147483647) : qm_T (qe L xs vb) (d + 1) 84 [.ref 16, .int (qz x1), .int (qz x2)] (qw σ α κ ρ) (fun r w' => ∃ σ' α', w' = qw σ' α' κ ρ ∧ qI σ' α' κ ρ ∧ qFr [(16, 15)] [81] σ α σ' α' ∧ ∃ v : Int, r = some (.int (qz v)) ∧ ((-2147483648) ≤ v ∧ v ≤ 2147483647) ∧ (((v = -1 ∧ ¬ (1 ≤ x1 ∧ x1 ≤ 4) ∧ σ' 16 15 = σ 16 15) ∧ α' 81 = α 81) ∨ ((v = -3 ∧ (1 ≤ x1 ∧ x1 ≤ 4) ∧ 120 < σ 16 15 + x1 ∧ σ' 16 15 = σ 16 15) ∧ α' 81 = α 81) ∨ ((v = σ 16 15 + x1 ∧ (1 ≤ x1 ∧ x1 ≤ 4) ∧ σ 16 15 + x1 ≤ 120 ∧ σ' 16 15 = v) ∧ α' 81 = qfd (α 81) (σ 16 15) x2 (x1 : Int).toNat))) := by
  refine qr_start (d := d + 0) qv_e84 (Nat.le_of_ble_eq_true rfl) ?_
  show qr_W (qe L xs vb) (d + 0) qx_e84 _ (0, [(0, .ref 16), (1, .int (qz x1)), (2, .int (qz x2))], [], _, 0, 0)
  have hF0 := qFr_rf [(16, 15)] [81] σ α
  have hz16_15 : 0 ≤ σ 16 15 ∧ σ 16 15 ≤ 120 := hI.1 16 15
  refine qr_iload_n 1 rfl rfl rfl ?_
  refine qr_iconst 2 rfl rfl ?_
  refine qr_icmp_lt 10 5 rfl rfl rfl (by omega) (by omega) (fun h1 => ?_) (fun h1 => ?_)
  · skip
    refine qr_iconst 11 rfl rfl ?_
    refine qr_retI rfl rfl (by decide) (by decide) ?_
    have hw2 : σ 16 15 = (σ 16 15) := rfl
    exact ⟨_, _, rfl, hI, hF0, (-1), rfl, by omega, (Or.inl ⟨by omega, rfl⟩)⟩
  · skip
    refine qr_iload_n 6 rfl rfl rfl ?_
    refine qr_iconst 7 rfl rfl ?_
    refine qr_icmp_le 12 10 rfl rfl rfl (by omega) (by omega) (fun h3 => ?_) (fun h3 => ?_)
    · skip
      refine qr_aload_n 13 rfl rfl rfl ?_
      refine qr_get 16 rfl rfl rfl (by decide) rfl ?_
      refine qr_iload_n 17 rfl rfl rfl ?_
      refine qr_iadd 18 rfl rfl ?_
      refine qr_bipush 20 rfl (by decide) rfl ?_
      refine qr_icmp_le 26 23 rfl rfl rfl (by omega) (by omega) (fun h4 => ?_) (fun h4 => ?_)
      · skip
        refine qr_iconst 27 rfl rfl ?_
        refine qr_istore_n _ 28 rfl (by decide) rfl rfl ?_
        have hL111 : ∀ (n : Nat) (ls : qm_L) (u103 : Int) (α105 : Nat → Nat → Int), 4 - u103 < (n : Int) → qm_get ls 0 = some (.ref 16) → qm_get ls 1 = some (.int (qz x1)) → qm_get ls 2 = some (.int (qz x2)) → qm_get ls 3 = some (.int (qz u103)) → (0 ≤ u103 ∧ u103 ≤ 4) → qI σ α105 κ ρ → qFr [(16, 15)] [81] σ α σ α105 → α105 81 = (qfd (α 81) (σ 16 15) x2 (u103 : Int).toNat) → u103 ≤ x1 → qr_W (qe L xs vb) (d + 0) qx_e84 (fun r w' => ∃ σ' α', w' = qw σ' α' κ ρ ∧ qI σ' α' κ ρ ∧ qFr [(16, 15)] [81] σ α σ' α' ∧ ∃ v : Int, r = some (.int (qz v)) ∧ ((-2147483648) ≤ v ∧ v ≤ 2147483647) ∧ (((v = -1 ∧ ¬ (1 ≤ x1 ∧ x1 ≤ 4) ∧ σ' 16 15 = σ 16 15) ∧ α' 81 = α 81) ∨ ((v = -3 ∧ (1 ≤ x1 ∧ x1 ≤ 4) ∧ 120 < σ 16 15 + x1 ∧ σ' 16 15 = σ 16 15) ∧ α' 81 = α 81) ∨ ((v = σ 16 15 + x1 ∧ (1 ≤ x1 ∧ x1 ≤ 4) ∧ σ 16 15 + x1 ≤ 120 ∧ σ' 16 15 = v) ∧ α' 81 = qfd (α 81) (σ 16 15) x2 (x1 : Int).toNat))) (28, ls, [], qw σ α105 κ ρ, 0, 0) := by
          intro n
          induction n with
          | zero => intro ls u103 α105 hm g99 g100 g101 g102 hf108 hI106 hF107 hx109 hx110; exact False.elim (by omega)
          | succ n ih112 =>
            intro ls u103 α105 hm g99 g100 g101 g102 hf108 hI106 hF107 hx109 hx110
            refine qr_iload_n 29 rfl g102 rfl ?_
            refine qr_iload_n 30 rfl g100 rfl ?_
            refine qr_icmp_ge 60 33 rfl rfl rfl (by omega) (by omega) (fun h113 => ?_) (fun h113 => ?_)
            · skip
              refine qr_aload_n 61 rfl g99 rfl ?_
              refine qr_dup 62 rfl rfl rfl ?_
              refine qr_get 65 rfl rfl rfl (by decide) rfl ?_
              refine qr_iload_n 66 rfl g100 rfl ?_
              refine qr_iadd 67 rfl rfl ?_
              refine qr_put 70 rfl (by decide) rfl (Nat.le_of_ble_eq_true rfl) (Nat.le_of_ble_eq_true rfl) (Or.inl rfl) (qr_fitI rfl _) rfl ?_
              refine qy_wS (qw_s σ 16 15 ((σ 16 15) + x1)) rfl (fun σ114 e115 => ?_)
              have hI116 : qI σ114 α105 κ ρ := by rw [e115]; exact qI_s hI106 16 15 rfl (show 0 ≤ ((σ 16 15) + x1) ∧ ((σ 16 15) + x1) ≤ 120 by omega)
              have hF117 : qFr [(16, 15)] [81] σ α σ114 α105 := by rw [e115]; exact qFr_s hF107 16 15 _ (by decide)
              refine qr_aload_n 71 rfl g99 rfl ?_
              refine qr_get 74 rfl rfl rfl (by decide) rfl ?_
              refine qy_v ((σ 16 15) + x1) ((congrFun (congrFun e115 16) 15).trans rfl) ?_
              refine qr_retI rfl rfl (by decide) (by decide) ?_
              have hw118 : σ114 16 15 = ((σ 16 15) + x1) := (congrFun (congrFun e115 16) 15).trans rfl
              exact ⟨_, _, rfl, hI116, hF117, ((σ 16 15) + x1), rfl, by omega, (Or.inr (Or.inr (⟨by omega, (hx109.trans (by congr 1; omega))⟩)))⟩
            · skip
              refine qr_aload_n 34 rfl g99 rfl ?_
              refine qr_get 37 rfl rfl rfl (by decide) rfl ?_
              refine qr_aload_n 38 rfl g99 rfl ?_
              refine qr_get 41 rfl rfl rfl (by decide) rfl ?_
              refine qr_iload_n 42 rfl g102 rfl ?_
              refine qr_iadd 43 rfl rfl ?_
              refine qr_iload_n 44 rfl g101 rfl ?_
              refine qr_bipush 46 rfl (by decide) rfl ?_
              refine qr_iload_n 47 rfl g102 rfl ?_
              refine qr_imul 48 rfl rfl ?_
              refine qr_iushr 49 rfl rfl ?_
              refine qy_canE (fun v119 hv119 hev119 => ?_)
              refine qr_sipush 52 rfl (by decide) rfl ?_
              refine qr_iand 53 rfl rfl ?_
              refine qy_andrE (by omega) (fun v120 hv120 hev120 => ?_)
              refine qr_iastore 54 rfl (by decide) rfl (by omega) (by decide) rfl ?_
              refine qy_wA (qw_r α105 81 (qzu (α105 81) (((σ 16 15) + u103) : Int).toNat v120)) rfl (fun α121 e122 => ?_)
              have hI123 : qI σ α121 κ ρ := by rw [e122]; exact qI_r hI106 81 _ rfl (show (-2147483648) ≤ v120 ∧ v120 ≤ 2147483647 by omega)
              have hF124 : qFr [(16, 15)] [81] σ α σ α121 := by rw [e122]; exact qFr_r hF107 81 _ (by decide)
              refine qr_iinc _ 57 rfl g102 (by decide) rfl rfl ?_
              refine qr_goto 28 rfl rfl ?_
              exact ih112 _ (u103 + 1) α121 (by omega) (qm_gk g99 (by decide) (Or.inl (by decide))) (qm_gk g100 (by decide) (Or.inl (by decide))) (qm_gk g101 (by decide) (Or.inr rfl)) (qm_ge _ _ _) (by omega) hI123 hF124 (((congrFun e122 81).trans (qw_r_eq.trans (congrArg (fun f => qzu f (((σ 16 15) + u103) : Int).toNat v120) hx109))).trans (qfd_s (by omega) (by omega) (by rw [hev120, qz_val hev119 (by omega) (qz_ushr_r _ _)]; exact qby_eq (by omega)))) (by omega)
        exact hL111 ((4 - 0 + 1 : Int)).toNat _ 0 α (by omega) rfl rfl rfl rfl (by omega) hI hF0 rfl (by omega)
      · skip
        refine qr_bipush 25 rfl (by decide) rfl ?_
        refine qr_retI rfl rfl (by decide) (by decide) ?_
        have hw125 : σ 16 15 = (σ 16 15) := rfl
        exact ⟨_, _, rfl, hI, hF0, (-3), rfl, by omega, (Or.inr (Or.inl ⟨by omega, rfl⟩))⟩
    · skip
      refine qr_iconst 11 rfl rfl ?_
      refine qr_retI rfl rfl (by decide) (by decide) ?_
      have hw126 : σ 16 15 = (σ 16 15) := rfl
      exact ⟨_, _, rfl, hI, hF0, (-1), rfl, by omega, (Or.inl ⟨by omega, rfl⟩)⟩

set_option maxHeartbeats 4000000 in
set_option maxRecDepth 20000 in
/-- OneRoofModel.feed -/
theorem sf_211_86x {L : Nat} {xs : Nat → Int} {vb : Bool} {d : Nat} {σ α : Nat → Nat → Int} {κ : Nat → Option Nat} {ρ : Nat} {x1 : Int} {x2 : Int} (hI : qI σ α κ ρ) (r1 : (-2147483648) ≤ x1 ∧ x1 ≤ 2147483647) (r2 : (-2147483648) ≤ x2 ∧ x2 ≤ 2147483647) : qm_T (qe L xs vb) (d + 2) 211 [.ref 86, .int (qz x1), .int (qz x2)] (qw σ α κ ρ) (fun r w' => ∃ σ' α', w' = qw σ' α' κ ρ ∧ qI σ' α' κ ρ ∧ qFr [(86, 32)] [106] σ α σ' α' ∧ ∃ v : Int, r = some (.int (qz v)) ∧ ((-2147483648) ≤ v ∧ v ≤ 2147483647) ∧ (((v = -1 ∧ ¬ (1 ≤ x1 ∧ x1 ≤ 4) ∧ σ' 86 32 = σ 86 32) ∧ α' 106 = α 106) ∨ ((v = -3 ∧ (1 ≤ x1 ∧ x1 ≤ 4) ∧ 120 < σ 86 32 + x1 ∧ σ' 86 32 = σ 86 32) ∧ α' 106 = α 106) ∨ ((v = σ 86 32 + x1 ∧ (1 ≤ x1 ∧ x1 ≤ 4) ∧ σ 86 32 + x1 ≤ 120 ∧ σ' 86 32 = v) ∧ α' 106 = qfd (α 106) (σ 86 32) x2 (x1 : Int).toNat))) := by
  refine qr_start (d := d + 1) qv_e211 (Nat.le_of_ble_eq_true rfl) ?_
  show qr_W (qe L xs vb) (d + 1) qx_e211 _ (0, [(0, .ref 86), (1, .int (qz x1)), (2, .int (qz x2))], [], _, 0, 0)
  have hF0 := qFr_rf [(86, 32)] [106] σ α
  have hz86_32 : 0 ≤ σ 86 32 ∧ σ 86 32 ≤ 120 := hI.1 86 32
  refine qr_iload_n 1 rfl rfl rfl ?_
  refine qr_i2l 2 rfl (by omega) rfl ?_
  refine qr_lconst 3 rfl rfl ?_
  refine qy_vl 1 rfl ?_
  refine qr_ldc2 4 6 rfl (by decide) rfl ?_
  refine qr_callN 9 rfl rfl rfl (sf_176 (d := d + 0) hI (by omega) (by omega) (by omega)) ?_
  rintro _ _ ⟨rfl, v1, rfl, hv1, hp2⟩
  show qr_W (qe L xs vb) (d + 1) qx_e211 _ (9, _, [.int (qz v1)], qw σ α κ ρ, 0, 0)
  refine qr_if_ne 14 12 rfl rfl rfl (by omega) (fun h3 => ?_) (fun h3 => ?_)
  · skip
    refine qr_aload_n 15 rfl rfl rfl ?_
    refine qr_get 18 rfl rfl rfl (by decide) rfl ?_
    refine qr_iload_n 19 rfl rfl rfl ?_
    refine qr_iadd 20 rfl rfl ?_
    refine qr_bipush 22 rfl (by decide) rfl ?_
    refine qr_icmp_le 28 25 rfl rfl rfl (by omega) (by omega) (fun h4 => ?_) (fun h4 => ?_)
    · skip
      refine qr_iconst 29 rfl rfl ?_
      refine qr_istore_n _ 30 rfl (by decide) rfl rfl ?_
      have hL117 : ∀ (n : Nat) (ls : qm_L) (u107 : Int) (σ108 α109 : Nat → Nat → Int), 4 - u107 < (n : Int) → qm_get ls 0 = some (.ref 86) → qm_get ls 1 = some (.int (qz x1)) → qm_get ls 2 = some (.int (qz x2)) → qm_get ls 3 = some (.int (qz u107)) → (0 ≤ u107 ∧ u107 ≤ 4) → qI σ108 α109 κ ρ → qFr [(86, 32)] [106] σ α σ108 α109 → α109 106 = (qfd (α 106) (σ 86 32) x2 (u107 : Int).toNat) → u107 ≤ x1 → σ108 86 32 = σ 86 32 + u107 → σ108 86 32 + (x1 - u107) ≤ 120 → qr_W (qe L xs vb) (d + 1) qx_e211 (fun r w' => ∃ σ' α', w' = qw σ' α' κ ρ ∧ qI σ' α' κ ρ ∧ qFr [(86, 32)] [106] σ α σ' α' ∧ ∃ v : Int, r = some (.int (qz v)) ∧ ((-2147483648) ≤ v ∧ v ≤ 2147483647) ∧ (((v = -1 ∧ ¬ (1 ≤ x1 ∧ x1 ≤ 4) ∧ σ' 86 32 = σ 86 32) ∧ α' 106 = α 106) ∨ ((v = -3 ∧ (1 ≤ x1 ∧ x1 ≤ 4) ∧ 120 < σ 86 32 + x1 ∧ σ' 86 32 = σ 86 32) ∧ α' 106 = α 106) ∨ ((v = σ 86 32 + x1 ∧ (1 ≤ x1 ∧ x1 ≤ 4) ∧ σ 86 32 + x1 ≤ 120 ∧ σ' 86 32 = v) ∧ α' 106 = qfd (α 106) (σ 86 32) x2 (x1 : Int).toNat))) (30, ls, [], qw σ108 α109 κ ρ, 0, 0) := by
        intro n
        induction n with
        | zero => intro ls u107 σ108 α109 hm g103 g104 g105 g106 hf112 hI110 hF111 hx113 hx114 hx115 hx116; exact False.elim (by omega)
        | succ n ih118 =>
          intro ls u107 σ108 α109 hm g103 g104 g105 g106 hf112 hI110 hF111 hx113 hx114 hx115 hx116
          have hs119 : 0 ≤ σ108 86 32 ∧ σ108 86 32 ≤ 120 := hI110.1 86 32
          refine qr_iload_n 31 rfl g106 rfl ?_
          refine qr_iload_n 32 rfl g104 rfl ?_
          refine qr_icmp_ge 70 35 rfl rfl rfl (by omega) (by omega) (fun h120 => ?_) (fun h120 => ?_)
          · skip
            refine qr_aload_n 71 rfl g103 rfl ?_
            refine qr_get 74 rfl rfl rfl (by decide) rfl ?_
            refine qr_retI rfl rfl (by decide) (by decide) ?_
            have hw121 : σ108 86 32 = (σ108 86 32) := rfl
            exact ⟨_, _, rfl, hI110, hF111, (σ108 86 32), rfl, by omega, (Or.inr (Or.inr (⟨by omega, (hx113.trans (by congr 1; omega))⟩)))⟩
          · skip
            refine qr_aload_n 36 rfl g103 rfl ?_
            refine qr_get 39 rfl rfl rfl (by decide) rfl ?_
            refine qr_aload_n 40 rfl g103 rfl ?_
            refine qr_get 43 rfl rfl rfl (by decide) rfl ?_
            refine qr_iload_n 44 rfl g105 rfl ?_
            refine qr_bipush 46 rfl (by decide) rfl ?_
            refine qr_iload_n 47 rfl g106 rfl ?_
            refine qr_imul 48 rfl rfl ?_
            refine qr_ishr 49 rfl rfl ?_
            refine qy_canE (fun v122 hv122 hev122 => ?_)
            refine qr_sipush 52 rfl (by decide) rfl ?_
            refine qr_iand 53 rfl rfl ?_
            refine qy_andrE (by omega) (fun v123 hv123 hev123 => ?_)
            refine qr_iastore 54 rfl (by decide) rfl (by omega) (by decide) rfl ?_
            refine qy_wA (qw_r α109 106 (qzu (α109 106) ((σ108 86 32) : Int).toNat v123)) rfl (fun α124 e125 => ?_)
            have hI126 : qI σ108 α124 κ ρ := by rw [e125]; exact qI_r hI110 106 _ rfl (show (-2147483648) ≤ v123 ∧ v123 ≤ 2147483647 by omega)
            have hF127 : qFr [(86, 32)] [106] σ α σ108 α124 := by rw [e125]; exact qFr_r hF111 106 _ (by decide)
            refine qr_aload_n 55 rfl g103 rfl ?_
            refine qr_dup 56 rfl rfl rfl ?_
            refine qr_get 59 rfl rfl rfl (by decide) rfl ?_
            refine qr_iconst 60 rfl rfl ?_
            refine qr_iadd 61 rfl rfl ?_
            refine qr_put 64 rfl (by decide) rfl (Nat.le_of_ble_eq_true rfl) (Nat.le_of_ble_eq_true rfl) (Or.inl rfl) (qr_fitI rfl _) rfl ?_
            refine qy_wS (qw_s σ108 86 32 ((σ108 86 32) + 1)) rfl (fun σ128 e129 => ?_)
            have hI130 : qI σ128 α124 κ ρ := by rw [e129]; exact qI_s hI126 86 32 rfl (show 0 ≤ ((σ108 86 32) + 1) ∧ ((σ108 86 32) + 1) ≤ 120 by omega)
            have hF131 : qFr [(86, 32)] [106] σ α σ128 α124 := by rw [e129]; exact qFr_s hF127 86 32 _ (by decide)
            refine qr_iinc _ 67 rfl g106 (by decide) rfl rfl ?_
            refine qr_goto 30 rfl rfl ?_
            exact ih118 _ (u107 + 1) σ128 α124 (by omega) (qm_gk g103 (by decide) (Or.inl (by decide))) (qm_gk g104 (by decide) (Or.inl (by decide))) (qm_gk g105 (by decide) (Or.inr rfl)) (qm_ge _ _ _) (by omega) hI130 hF131 (((congrFun e125 106).trans (qw_r_eq.trans (congrArg (fun f => qzu f ((σ108 86 32) : Int).toNat v123) hx113))).trans (qfd_s (by omega) (by omega) (by rw [hev123, qz_val hev122 (by omega) (qz_shr_r _ _)]))) (by omega) (by have hw : σ128 86 32 = ((σ108 86 32) + 1) := (congrFun (congrFun e129 86) 32).trans rfl; omega) (by have hw : σ128 86 32 = ((σ108 86 32) + 1) := (congrFun (congrFun e129 86) 32).trans rfl; omega)
      exact hL117 ((4 - 0 + 1 : Int)).toNat _ 0 σ α (by omega) rfl rfl rfl rfl (by omega) hI hF0 rfl (by omega) (by have hw : σ 86 32 = (σ 86 32) := rfl; omega) (by have hw : σ 86 32 = (σ 86 32) := rfl; omega)
    · skip
      refine qr_bipush 27 rfl (by decide) rfl ?_
      refine qr_retI rfl rfl (by decide) (by decide) ?_
      have hw132 : σ 86 32 = (σ 86 32) := rfl
      exact ⟨_, _, rfl, hI, hF0, (-3), rfl, by omega, (Or.inr (Or.inl ⟨by omega, rfl⟩))⟩
  · skip
    refine qr_iconst 13 rfl rfl ?_
    refine qr_retI rfl rfl (by decide) (by decide) ?_
    have hw133 : σ 86 32 = (σ 86 32) := rfl
    exact ⟨_, _, rfl, hI, hF0, (-1), rfl, by omega, (Or.inl ⟨by omega, rfl⟩)⟩
/-! the tape both sides hold alike -/
def qTp (α : Nat → Nat → Int) : Prop := α 81 = α 106 ∧ ∀ j : Nat, 0 ≤ α 81 j ∧ α 81 j ≤ 255
theorem qTp_fr {S : List (Nat × Nat)} {R : List Nat} {σ α σ' α' : Nat → Nat → Int} (hG : qFr S R σ α σ' α') (hr : [81, 106].all (fun x => !R.contains x) = true) (h : qTp α) : qTp α' := by
  have er : ∀ a, a ∈ [81, 106] → α' a = α a := fun a hm => hG.2 a (fun hn => by
    have h1 := List.all_eq_true.mp hr a hm
    rw [List.contains_iff_mem.mpr hn] at h1
    exact absurd h1 (by decide))
  unfold qTp
  rw [er 81 (by decide), er 106 (by decide)]
  exact h
theorem qTp_0 (s g : Nat → Nat → Int) : qTp (qJ_r g) := ⟨rfl, fun _ => ⟨show (0 : Int) ≤ 0 by decide, show (0 : Int) ≤ 255 by decide⟩⟩
set_option maxHeartbeats 4000000 in
theorem rl_feed {σ α σ1 α1 σ2 α2 : Nat → Nat → Int} {x1 x2 v1 v2 : Int} (he : σ 16 15 = σ 86 32) (hT : qTp α) (hG1 : qFr [(16, 15)] [81] σ α σ1 α1) (hG2 : qFr [(86, 32)] [106] σ1 α1 σ2 α2) (hx : ((v1 = -1 ∧ ¬ (1 ≤ x1 ∧ x1 ≤ 4) ∧ σ1 16 15 = σ 16 15) ∧ α1 81 = α 81) ∨ ((v1 = -3 ∧ (1 ≤ x1 ∧ x1 ≤ 4) ∧ 120 < σ 16 15 + x1 ∧ σ1 16 15 = σ 16 15) ∧ α1 81 = α 81) ∨ ((v1 = σ 16 15 + x1 ∧ (1 ≤ x1 ∧ x1 ≤ 4) ∧ σ 16 15 + x1 ≤ 120 ∧ σ1 16 15 = v1) ∧ α1 81 = qfd (α 81) (σ 16 15) x2 (x1 : Int).toNat)) (hy : ((v2 = -1 ∧ ¬ (1 ≤ x1 ∧ x1 ≤ 4) ∧ σ2 86 32 = σ1 86 32) ∧ α2 106 = α1 106) ∨ ((v2 = -3 ∧ (1 ≤ x1 ∧ x1 ≤ 4) ∧ 120 < σ1 86 32 + x1 ∧ σ2 86 32 = σ1 86 32) ∧ α2 106 = α1 106) ∨ ((v2 = σ1 86 32 + x1 ∧ (1 ≤ x1 ∧ x1 ≤ 4) ∧ σ1 86 32 + x1 ≤ 120 ∧ σ2 86 32 = v2) ∧ α2 106 = qfd (α1 106) (σ1 86 32) x2 (x1 : Int).toNat)) : v1 = v2 ∧ σ2 16 15 = σ2 86 32 ∧ qTp α2 := by
  have c32 := hG1.1 86 32 (by decide)
  have c106 := hG1.2 106 (by decide)
  have d15 := hG2.1 16 15 (by decide)
  have d81 := hG2.2 81 (by decide)
  rw [c32, c106] at hy
  have hl := hT.2
  have same : α1 81 = α 81 → α2 106 = α 106 → qTp α2 := fun e1 e2 => by
    unfold qTp
    rw [d81, e1, e2]
    exact hT
  rcases hx with ⟨x0, x81⟩ | ⟨x0, x81⟩ | ⟨x0, x81⟩
  · rcases hy with ⟨y0, y106⟩ | ⟨y0, y106⟩ | ⟨y0, y106⟩
    · exact ⟨by omega, by omega, same x81 y106⟩
    · exact False.elim (by omega)
    · exact False.elim (by omega)
  · rcases hy with ⟨y0, y106⟩ | ⟨y0, y106⟩ | ⟨y0, y106⟩
    · exact False.elim (by omega)
    · exact ⟨by omega, by omega, same x81 y106⟩
    · exact False.elim (by omega)
  · rcases hy with ⟨y0, y106⟩ | ⟨y0, y106⟩ | ⟨y0, y106⟩
    · exact False.elim (by omega)
    · exact False.elim (by omega)
    · refine ⟨by omega, by omega, ?_⟩
      unfold qTp
      rw [d81, x81, y106, he, hT.1]
      rw [hT.1] at hl
      exact ⟨rfl, fun j => qfd_r _ _ hl _ j⟩
