/-- whether a place of a long is set -/
def qbit (t i : Int) : Int := ((qlu t / 2 ^ i.toNat % 2 : Nat) : Int)
/-- how many of the first places of a long are set -/
def qcn (t i : Int) : Int := (qbN (qlu t) i.toNat : Int)
theorem qcn_s (t : Int) {i : Int} (h : 0 ≤ i) : qcn t (i + 1) = qcn t i + qbit t i ∧ 0 ≤ qcn t i ∧ 0 ≤ qbit t i ∧ qbit t i ≤ 1 := by
  have e : (i + 1).toNat = i.toNat + 1 := by omega
  unfold qcn qbit
  rw [e]
  show ((qbN (qlu t) i.toNat + qlu t / 2 ^ i.toNat % 2 : Nat) : Int) = _ ∧ _
  omega
theorem qcn_0 (t : Int) : qcn t 0 = 0 := rfl
theorem qcn_le (t : Int) {i j : Int} (h : i ≤ j) : qcn t i ≤ qcn t j := by
  have := qbN_le (qlu t) i.toNat j.toNat (by omega)
  unfold qcn
  omega
theorem qlu_sm {v : Int} (h : -9223372036854775808 ≤ v ∧ v ≤ 9223372036854775807) (hs : qlu v < 9223372036854775808) : v = (qlu v : Int) := by
  have h1 : (ql v).toInt = v := ql_ti h
  have hm : (ql v).toBitVec.msb = false := by
    rw [BitVec.msb_eq_decide, decide_eq_false_iff_not]
    exact Nat.not_le_of_lt hs
  have h2 : (ql v).toInt = ((ql v).toBitVec.toNat : Int) := BitVec.toInt_eq_toNat_of_msb hm
  unfold qlu at *
  omega
theorem qb63 : ∀ k : Fin 64, ((qz ((k : Nat) : Int)).toInt64.toUInt64 &&& Int64.toUInt64 63) = UInt64.ofNat (k : Nat) := by decide +kernel
theorem qlu_ushr {v a b : Int} (hb : 0 ≤ b ∧ b ≤ 63) (h : ql v = ql (ql_ushr a b)) : qlu v = qlu a / 2 ^ b.toNat := by
  obtain ⟨m, rfl⟩ : ∃ m : Nat, b = m := ⟨b.toNat, by omega⟩
  exact qlu_ushrN m (qb63 ⟨m, by omega⟩) (by omega) h
theorem qbit_in {t i v1 v2 : Int} (hi : 0 ≤ i ∧ i ≤ 63) (hr : -9223372036854775808 ≤ v2 ∧ v2 ≤ 9223372036854775807) (h1 : ql v1 = ql (ql_ushr t i)) (h2 : ql v2 = ql (ql_and v1 1)) : v2 = qbit t i ∧ 0 ≤ v2 ∧ v2 ≤ 1 := by
  have g1 := qlu_ushr hi h1
  have g2 := qlu_and h2
  rw [show qlu 1 = 2 ^ 1 - 1 from by decide +kernel, Nat.and_two_pow_sub_one_eq_mod, g1] at g2
  have g3 := qlu_sm hr (by omega)
  unfold qbit
  omega
section QYE
variable {X : qm_X} {d : Nat} {x : qs_Ent} {Q : Option Value → qm_W → Prop} {pc : Nat} {ls : qm_L} {st : List Value} {w : qm_W} {c n : Nat}
theorem qy_canE {y : Int} (k : ∀ v : Int, (-2147483648 ≤ v ∧ v ≤ 2147483647) → qz v = qz y → qr_W X d x Q (pc, ls, .int (qz v) :: st, w, c, n)) : qr_W X d x Q (pc, ls, .int (qz y) :: st, w, c, n) := by
  rw [qz_of (qz y)]
  exact k _ (qz_rng _) (qz_of (qz y)).symm
theorem qy_canlE {y : Int} (k : ∀ v : Int, (-9223372036854775808 ≤ v ∧ v ≤ 9223372036854775807) → ql v = ql y → qr_W X d x Q (pc, ls, .long (ql v) :: st, w, c, n)) : qr_W X d x Q (pc, ls, .long (ql y) :: st, w, c, n) := by
  rw [ql_of (ql y)]
  exact k _ (ql_rng _) (ql_of (ql y)).symm
theorem qy_andrE {a b : Int} (h : 0 ≤ b ∧ b ≤ 2147483647) (k : ∀ v : Int, (0 ≤ v ∧ v ≤ b) → v = qz_and a b → qr_W X d x Q (pc, ls, .int (qz v) :: st, w, c, n)) : qr_W X d x Q (pc, ls, .int (qz (qz_and a b)) :: st, w, c, n) := k _ (by rw [qz_and_c]; exact qz_andL a h) rfl
theorem qy_copyl {z r1 r2 : Nat} {rv : Value} {a0 a1 n0 n1 : Nat} {sp dp m : Int} {f g : Nat → Int} (p : Nat) (hq : qm_fetch x.2.2.2.2.2.2.2 pc = some (pc, .invokestatic z, 3, r1, r2, 7, rv)) (ha0 : 16 ≤ a0) (ha1 : 16 ≤ a1) (h0 : w[a0 - 16]? = some (.inl (.long, n0, .inr (.inl (qlf f))))) (h1 : w[a1 - 16]? = some (.inl (.long, n1, .inr (.inl (qlf g))))) (hs : 0 ≤ sp ∧ sp ≤ 1000000) (hd : 0 ≤ dp ∧ dp ≤ 1000000) (hm : 0 ≤ m ∧ m ≤ 1000000) (hn0 : sp.toNat + m.toNat ≤ n0) (hn1 : dp.toNat + m.toNat ≤ n1) (hsum : qm_sum st ≤ 8) (hz : qz 0 = 0) (hp : pc + 3 = p) (k : qr_W X d x Q (p, ls, st, w.set (a1 - 16) (.inl (.long, n1, .inr (.inl (qlf (va_cpy f g sp.toNat dp.toNat m.toNat))))), c, n)) : qr_W X d x Q (pc, ls, .int (qz m) :: .int (qz dp) :: .ref a1 :: .int (qz sp) :: .ref a0 :: st, w, c, n) := by
  subst hp
  refine qr_eff hq rfl rfl (s' := (pc + 3, ls, st, w.set (a1 - 16) (.inl (.long, n1, .inr (.inl (qlf (va_cpy f g sp.toNat dp.toNat m.toNat))))), c, n)) ?_ k
  have e1 : (qz sp).toNatClampNeg = sp.toNat := qz_clamp (by omega)
  have e2 : (qz dp).toNatClampNeg = dp.toNat := qz_clamp (by omega)
  have e3 : (qz m).toNatClampNeg = m.toNat := qz_clamp (by omega)
  have l1 : ¬ qz sp < 0 := fun h => absurd ((qz_lt (by omega) (by omega)).1 (show qz sp < qz 0 from h)) (by omega)
  have l2 : ¬ qz dp < 0 := fun h => absurd ((qz_lt (by omega) (by omega)).1 (show qz dp < qz 0 from h)) (by omega)
  have l3 : ¬ qz m < 0 := fun h => absurd ((qz_lt (by omega) (by omega)).1 (show qz m < qz 0 from h)) (by omega)
  unfold qm_eff
  refine (if_pos ⟨rfl, rfl, ha0, ha1, l1, l2, l3, hsum⟩).trans ?_
  simp only [h0, h1, e1, e2, e3, ql_cpy]
  rw [if_pos ⟨hn0, hn1⟩]
  rfl
end QYE

set_option maxHeartbeats 4000000 in
set_option maxRecDepth 20000 in
/-- OneRoof.isIn -/
theorem sf_50b {L : Nat} {xs : Nat → Int} {vb : Bool} {d : Nat} {σ α : Nat → Nat → Int} {κ : Nat → Option Nat} {ρ : Nat} {x0 : Int} {x1 : Int} (hI : qI σ α κ ρ) (r0 : (-9223372036854775808) ≤ x0 ∧ x0 ≤ 9223372036854775807) (r1 : 0 ≤ x1 ∧ x1 ≤ 63) : qm_T (qe L xs vb) (d + 1) 50 [.long (ql x0), .int (qz x1)] (qw σ α κ ρ) (fun r w' => w' = qw σ α κ ρ ∧ ∃ v : Int, r = some (.int (qz v)) ∧ (0 ≤ v ∧ v ≤ 1) ∧ v = qbit x0 x1) := by
  refine qr_start (d := d + 0) qv_e50 (Nat.le_of_ble_eq_true rfl) ?_
  show qr_W (qe L xs vb) (d + 0) qx_e50 _ (0, [(0, .long (ql x0)), (2, .int (qz x1))], [], _, 0, 0)
  refine qr_lload_n 1 rfl rfl rfl ?_
  refine qr_iload_n 2 rfl rfl rfl ?_
  refine qr_lushr 3 rfl rfl ?_
  refine qy_canlE (fun v1 hv1 hev1 => ?_)
  refine qr_lconst 4 rfl rfl ?_
  refine qy_vl 1 rfl ?_
  refine qr_land 5 rfl rfl ?_
  refine qy_canlE (fun v2 hv2 hev2 => ?_)
  refine qr_lconst 6 rfl rfl ?_
  refine qy_vl 0 rfl ?_
  refine qr_lc_eq 14 10 rfl rfl rfl rfl hv2 (by decide) (fun h3 => ?_) (fun h3 => ?_)
  · skip
    refine qr_iconst 15 rfl rfl ?_
    refine qr_retZ rfl rfl (Or.inl rfl) (by decide) (by decide) ?_
    exact ⟨rfl, 0, rfl, (by decide), (by have hq := qbit_in (t := x0) (i := x1) (by omega) (by omega) hev1 hev2; omega)⟩
  · skip
    refine qr_iconst 11 rfl rfl ?_
    refine qr_goto 15 rfl rfl ?_
    refine qr_retZ rfl rfl (Or.inr rfl) (by decide) (by decide) ?_
    exact ⟨rfl, 1, rfl, (by decide), (by have hq := qbit_in (t := x0) (i := x1) (by omega) (by omega) hev1 hev2; omega)⟩

set_option maxHeartbeats 4000000 in
set_option maxRecDepth 20000 in
/-- java/lang/Long.bitCount -/
theorem sf_74c {L : Nat} {xs : Nat → Int} {vb : Bool} {d : Nat} {σ α : Nat → Nat → Int} {κ : Nat → Option Nat} {ρ : Nat} {x0 : Int} (hI : qI σ α κ ρ) (r0 : (-9223372036854775808) ≤ x0 ∧ x0 ≤ 9223372036854775807) : qm_T (qe L xs vb) (d + 1) 74 [.long (ql x0)] (qw σ α κ ρ) (fun r w' => w' = qw σ α κ ρ ∧ ∃ v : Int, r = some (.int (qz v)) ∧ (0 ≤ v ∧ v ≤ 127) ∧ v = qcn x0 64) := by
  refine qr_start (d := d + 0) qv_e74 (Nat.le_of_ble_eq_true rfl) ?_
  show qr_W (qe L xs vb) (d + 0) qx_e74 _ (0, [(0, .long (ql x0))], [], _, 0, 0)
  refine qr_lload_n 1 rfl rfl rfl ?_
  refine qr_lload_n 2 rfl rfl rfl ?_
  refine qr_iconst 3 rfl rfl ?_
  refine qr_lushr 4 rfl rfl ?_
  refine qy_canlE (fun v1 hv1 hev1 => ?_)
  refine qr_ldc2 6148914691236517205 7 rfl (by decide) rfl ?_
  refine qr_land 8 rfl rfl ?_
  refine qy_canlE (fun v2 hv2 hev2 => ?_)
  refine qr_lsub 9 rfl rfl ?_
  refine qy_canlE (fun v3 hv3 hev3 => ?_)
  refine qr_lstore_n _ 10 rfl (by decide) rfl rfl ?_
  refine qr_lload_n 11 rfl rfl rfl ?_
  refine qr_ldc2 3689348814741910323 14 rfl (by decide) rfl ?_
  refine qr_land 15 rfl rfl ?_
  refine qy_canlE (fun v4 hv4 hev4 => ?_)
  refine qr_lload_n 16 rfl rfl rfl ?_
  refine qr_iconst 17 rfl rfl ?_
  refine qr_lushr 18 rfl rfl ?_
  refine qy_canlE (fun v5 hv5 hev5 => ?_)
  refine qr_ldc2 3689348814741910323 21 rfl (by decide) rfl ?_
  refine qr_land 22 rfl rfl ?_
  refine qy_canlE (fun v6 hv6 hev6 => ?_)
  refine qr_ladd 23 rfl rfl ?_
  refine qy_canlE (fun v7 hv7 hev7 => ?_)
  refine qr_lstore_n _ 24 rfl (by decide) rfl rfl ?_
  refine qr_lload_n 25 rfl rfl rfl ?_
  refine qr_lload_n 26 rfl rfl rfl ?_
  refine qr_iconst 27 rfl rfl ?_
  refine qr_lushr 28 rfl rfl ?_
  refine qy_canlE (fun v8 hv8 hev8 => ?_)
  refine qr_ladd 29 rfl rfl ?_
  refine qy_canlE (fun v9 hv9 hev9 => ?_)
  refine qr_ldc2 1085102592571150095 32 rfl (by decide) rfl ?_
  refine qr_land 33 rfl rfl ?_
  refine qy_canlE (fun v10 hv10 hev10 => ?_)
  refine qr_lstore_n _ 34 rfl (by decide) rfl rfl ?_
  refine qr_lload_n 35 rfl rfl rfl ?_
  refine qr_lload_n 36 rfl rfl rfl ?_
  refine qr_bipush 38 rfl (by decide) rfl ?_
  refine qr_lushr 39 rfl rfl ?_
  refine qy_canlE (fun v11 hv11 hev11 => ?_)
  refine qr_ladd 40 rfl rfl ?_
  refine qy_canlE (fun v12 hv12 hev12 => ?_)
  refine qr_lstore_n _ 41 rfl (by decide) rfl rfl ?_
  refine qr_lload_n 42 rfl rfl rfl ?_
  refine qr_lload_n 43 rfl rfl rfl ?_
  refine qr_bipush 45 rfl (by decide) rfl ?_
  refine qr_lushr 46 rfl rfl ?_
  refine qy_canlE (fun v13 hv13 hev13 => ?_)
  refine qr_ladd 47 rfl rfl ?_
  refine qy_canlE (fun v14 hv14 hev14 => ?_)
  refine qr_lstore_n _ 48 rfl (by decide) rfl rfl ?_
  refine qr_lload_n 49 rfl rfl rfl ?_
  refine qr_lload_n 50 rfl rfl rfl ?_
  refine qr_bipush 52 rfl (by decide) rfl ?_
  refine qr_lushr 53 rfl rfl ?_
  refine qy_canlE (fun v15 hv15 hev15 => ?_)
  refine qr_ladd 54 rfl rfl ?_
  refine qy_canlE (fun v16 hv16 hev16 => ?_)
  refine qr_lstore_n _ 55 rfl (by decide) rfl rfl ?_
  refine qr_lload_n 56 rfl rfl rfl ?_
  refine qr_l2i 57 rfl rfl ?_
  refine qy_canE (fun v17 hv17 hev17 => ?_)
  refine qr_bipush 59 rfl (by decide) rfl ?_
  refine qr_iand 60 rfl rfl ?_
  refine qy_andrE (by omega) (fun v18 hv18 hev18 => ?_)
  refine qr_retI rfl rfl (by decide) (by decide) ?_
  exact ⟨rfl, v18, rfl, (by omega), (by rw [hev18]; exact qpop hev1 hev2 hev3 hev4 hev5 hev6 hev7 hev8 hev9 hev10 hev11 hev12 hev13 hev14 hev15 hev16 hev17)⟩

set_option maxHeartbeats 4000000 in
set_option maxRecDepth 20000 in
/-- OneRoof.isGathering -/
theorem sf_109 {L : Nat} {xs : Nat → Int} {vb : Bool} {d : Nat} {σ α : Nat → Nat → Int} {κ : Nat → Option Nat} {ρ : Nat} {x0 : Int} {x1 : Int} (hI : qI σ α κ ρ) (r0 : (-9223372036854775808) ≤ x0 ∧ x0 ≤ 9223372036854775807) (r1 : (-2147483648) ≤ x1 ∧ x1 ≤ 2147483647) : qm_T (qe L xs vb) (d + 2) 109 [.long (ql x0), .int (qz x1)] (qw σ α κ ρ) (fun r w' => w' = qw σ α κ ρ ∧ ∃ v : Int, r = some (.int (qz v)) ∧ (0 ≤ v ∧ v ≤ 1) ∧ (v = 0 ∨ (v = 1 ∧ qcn x0 64 ≤ x1))) := by
  refine qr_start (d := d + 1) qv_e109 (Nat.le_of_ble_eq_true rfl) ?_
  show qr_W (qe L xs vb) (d + 1) qx_e109 _ (0, [(0, .long (ql x0)), (2, .int (qz x1))], [], _, 0, 0)
  refine qr_lload_n 1 rfl rfl rfl ?_
  refine qr_lconst 2 rfl rfl ?_
  refine qy_vl 0 rfl ?_
  refine qr_lc_eq 18 6 rfl rfl rfl rfl r0 (by decide) (fun h1 => ?_) (fun h1 => ?_)
  · skip
    refine qr_iconst 19 rfl rfl ?_
    refine qr_retZ rfl rfl (Or.inl rfl) (by decide) (by decide) ?_
    exact ⟨rfl, 0, rfl, (by decide), by omega⟩
  · skip
    refine qr_lload_n 7 rfl rfl rfl ?_
    refine qr_callN 10 rfl rfl rfl (sf_74c (d := d + 0) hI r0) ?_
    rintro _ _ ⟨rfl, v2, rfl, hv2, hp3⟩
    show qr_W (qe L xs vb) (d + 1) qx_e109 _ (10, _, [.int (qz v2)], qw σ α κ ρ, 0, 0)
    refine qr_iload_n 11 rfl rfl rfl ?_
    refine qr_icmp_gt 18 14 rfl rfl rfl (qrg hv2 (by decide) (by decide)) r1 (fun h4 => ?_) (fun h4 => ?_)
    · skip
      refine qr_iconst 19 rfl rfl ?_
      refine qr_retZ rfl rfl (Or.inl rfl) (by decide) (by decide) ?_
      exact ⟨rfl, 0, rfl, (by decide), by omega⟩
    · skip
      refine qr_iconst 15 rfl rfl ?_
      refine qr_goto 19 rfl rfl ?_
      refine qr_retZ rfl rfl (Or.inr rfl) (by decide) (by decide) ?_
      exact ⟨rfl, 1, rfl, (by decide), by omega⟩

set_option maxHeartbeats 4000000 in
set_option maxRecDepth 20000 in
/-- OneRoof$Guests.gather -/
theorem sf_110_64 {L : Nat} {xs : Nat → Int} {vb : Bool} {d : Nat} {σ α : Nat → Nat → Int} {κ : Nat → Option Nat} {ρ : Nat} {x1 : Int} (hI : qI σ α κ ρ) (r1 : (-9223372036854775808) ≤ x1 ∧ x1 ≤ 9223372036854775807) : qm_T (qe L xs vb) (d + 2) 110 [.ref 64, .long (ql x1)] (qw σ α κ ρ) (fun r w' => ∃ σ' α', w' = qw σ' α' κ ρ ∧ qI σ' α' κ ρ ∧ qFr [(64, 2)] [65] σ α σ' α' ∧ σ' 64 2 ≤ qcn x1 64 ∧ r = none) := by
  refine qr_start (d := d + 1) qv_e110 (Nat.le_of_ble_eq_true rfl) ?_
  show qr_W (qe L xs vb) (d + 1) qx_e110 _ (0, [(0, .ref 64), (1, .long (ql x1))], [], _, 0, 0)
  have hF0 := qFr_rf [(64, 2)] [65] σ α
  refine qr_aload_n 1 rfl rfl rfl ?_
  refine qr_iconst 2 rfl rfl ?_
  refine qr_put 5 rfl (by decide) rfl (Nat.le_of_ble_eq_true rfl) (Nat.le_of_ble_eq_true rfl) (Or.inl rfl) (qr_fitI rfl _) rfl ?_
  refine qy_wS (qw_s σ 64 2 0) rfl (fun σ1 e2 => ?_)
  have hI3 : qI σ1 α κ ρ := by rw [e2]; exact qI_g0 hI
  have hF4 : qFr [(64, 2)] [65] σ α σ1 α := by rw [e2]; exact qFr_s hF0 64 2 _ (by decide)
  have hq5 := qcn_0 x1
  refine qr_iconst 6 rfl rfl ?_
  refine qr_istore_n _ 7 rfl (by decide) rfl rfl ?_
  have hL276 : ∀ (n : Nat) (ls : qm_L) (u268 : Int) (σ269 α270 : Nat → Nat → Int), 32 - u268 < (n : Int) → qm_get ls 0 = some (.ref 64) → qm_get ls 1 = some (.long (ql x1)) → qm_get ls 3 = some (.int (qz u268)) → (0 ≤ u268 ∧ u268 ≤ 32) → qI σ269 α270 κ ρ → qFr [(64, 2)] [65] σ α σ269 α270 → (∀ j : Nat, (j : Int) < σ269 64 2 → α270 65 j < u268) → σ269 64 2 ≤ qcn x1 u268 → qr_W (qe L xs vb) (d + 1) qx_e110 (fun r w' => ∃ σ' α', w' = qw σ' α' κ ρ ∧ qI σ' α' κ ρ ∧ qFr [(64, 2)] [65] σ α σ' α' ∧ σ' 64 2 ≤ qcn x1 64 ∧ r = none) (7, ls, [], qw σ269 α270 κ ρ, 0, 0) := by
    intro n
    induction n with
    | zero => intro ls u268 σ269 α270 hm g265 g266 g267 hf273 hI271 hF272 hx274 hx275; exact False.elim (by omega)
    | succ n ih277 =>
      intro ls u268 σ269 α270 hm g265 g266 g267 hf273 hI271 hF272 hx274 hx275
      refine qr_iload_n 8 rfl g267 rfl ?_
      refine qr_bipush 10 rfl (by decide) rfl ?_
      refine qr_icmp_ge 56 13 rfl rfl rfl (qrg hf273 (by decide) (by decide)) (by decide) (fun h278 => ?_) (fun h278 => ?_)
      · skip
        have hq279 := qcn_le x1 (i := u268) (j := 64) (by omega)
        refine qr_retV rfl rfl (by decide) (by decide) ?_
        exact ⟨_, _, rfl, hI271, hF272, (by omega), rfl⟩
      · skip
        refine qr_aload_n 14 rfl g265 rfl ?_
        refine qr_get 17 rfl rfl rfl (by decide) rfl ?_
        have hs280 : 0 ≤ σ269 64 2 ∧ σ269 64 2 ≤ 12 := hI271.1 64 2
        refine qr_aload_n 18 rfl g265 rfl ?_
        refine qr_get 21 rfl rfl rfl (by decide) rfl ?_
        refine qr_alen 22 rfl rfl (by first | exact Or.inl (by decide) | exact Or.inr (Or.inl rfl) | exact Or.inr (Or.inr (Or.inl rfl)) | exact Or.inr (Or.inr (Or.inr (Or.inl rfl)))) rfl ?_
        refine qy_v 12 rfl ?_
        refine qr_icmp_ge 56 25 rfl rfl rfl (qrg hs280 (by decide) (by decide)) (by decide) (fun h281 => ?_) (fun h281 => ?_)
        · skip
          have hq282 := qcn_le x1 (i := u268) (j := 64) (by omega)
          refine qr_retV rfl rfl (by decide) (by decide) ?_
          exact ⟨_, _, rfl, hI271, hF272, (by have hw : σ269 64 2 = (σ269 64 2) := rfl; omega), rfl⟩
        · skip
          have hq283 := qcn_s x1 (i := u268) (by omega)
          refine qr_lload_n 26 rfl g266 rfl ?_
          refine qr_iload_n 27 rfl g267 rfl ?_
          refine qr_callN 30 rfl rfl rfl (sf_50b (d := d + 0) hI271 r1 (qrg hf273 (by decide) (by decide))) ?_
          rintro _ _ ⟨rfl, v284, rfl, hv284, hp285⟩
          show qr_W (qe L xs vb) (d + 1) qx_e110 _ (30, _, [.int (qz v284)], qw σ269 α270 κ ρ, 0, 0)
          refine qr_if_eq 50 33 rfl rfl rfl (qrg hv284 (by decide) (by decide)) (fun h286 => ?_) (fun h286 => ?_)
          · skip
            refine qr_iinc _ 53 rfl g267 (by decide) rfl rfl ?_
            refine qr_goto 7 rfl rfl ?_
            exact ih277 _ (u268 + 1) σ269 α270 (by omega) (qm_gk g265 (by decide) (Or.inl (by decide))) (qm_gk g266 (by decide) (Or.inl (by decide))) (qm_ge _ _ _) (by omega) hI271 hF272 (fun j hj => by have hg := hx274 j hj; omega) (by have hw : σ269 64 2 = (σ269 64 2) := rfl; omega)
          · skip
            refine qr_aload_n 34 rfl g265 rfl ?_
            refine qr_get 37 rfl rfl rfl (by decide) rfl ?_
            refine qr_aload_n 38 rfl g265 rfl ?_
            refine qr_dup 39 rfl rfl rfl ?_
            refine qr_get 42 rfl rfl rfl (by decide) rfl ?_
            refine qr_dup_x1 43 rfl rfl rfl rfl ?_
            refine qr_iconst 44 rfl rfl ?_
            refine qr_iadd 45 rfl rfl ?_
            refine qr_put 48 rfl (by decide) rfl (Nat.le_of_ble_eq_true rfl) (Nat.le_of_ble_eq_true rfl) (Or.inl rfl) (qr_fitI rfl _) rfl ?_
            refine qy_wS (qw_s σ269 64 2 ((σ269 64 2) + 1)) rfl (fun σ287 e288 => ?_)
            have hF290 : qFr [(64, 2)] [65] σ α σ287 α270 := by rw [e288]; exact qFr_s hF272 64 2 _ (by decide)
            refine qr_iload_n 49 rfl g267 rfl ?_
            refine qr_iastore 50 rfl (by decide) rfl (by omega) (by decide) rfl ?_
            refine qy_wA (qw_r α270 65 (qzu (α270 65) ((σ269 64 2) : Int).toNat u268)) rfl (fun α291 e292 => ?_)
            have hI293 : qI σ287 α291 κ ρ := by rw [e292, e288]; exact qI_g1 hI271 _ (by omega) (by omega) (show 0 ≤ u268 ∧ u268 ≤ 31 by omega) (fun j hj => by have hg := hx274 j hj; omega)
            have hF294 : qFr [(64, 2)] [65] σ α σ287 α291 := by rw [e292]; exact qFr_r hF290 65 _ (by decide)
            refine qr_iinc _ 53 rfl g267 (by decide) rfl rfl ?_
            refine qr_goto 7 rfl rfl ?_
            exact ih277 _ (u268 + 1) σ287 α291 (by omega) (qm_gk g265 (by decide) (Or.inl (by decide))) (qm_gk g266 (by decide) (Or.inl (by decide))) (qm_ge _ _ _) (by omega) hI293 hF294 (fun j hj => by have hw : σ287 64 2 = ((σ269 64 2) + 1) := (congrFun (congrFun e288 64) 2).trans rfl; rw [e292, qw_r_eq]; unfold qzu; split; (omega); (have hg := hx274 j (by omega); omega)) (by have hw : σ287 64 2 = ((σ269 64 2) + 1) := (congrFun (congrFun e288 64) 2).trans rfl; omega)
  exact hL276 ((32 - 0 + 1 : Int)).toNat _ 0 σ1 α (by omega) rfl rfl rfl (by decide) hI3 hF4 (fun j hj => by have hw : σ1 64 2 = 0 := (congrFun (congrFun e2 64) 2).trans rfl; omega) (by have hw : σ1 64 2 = 0 := (congrFun (congrFun e2 64) 2).trans rfl; omega)

set_option maxHeartbeats 4000000 in
set_option maxRecDepth 20000 in
/-- OneRoof$Guests.depart -/
theorem sf_131_64t6 {L : Nat} {xs : Nat → Int} {vb : Bool} {d : Nat} {σ α : Nat → Nat → Int} {κ : Nat → Option Nat} {ρ : Nat} {x2 : Int} {x3 : Int} (hI : qI σ α κ ρ) (r2 : (-2147483648) ≤ x2 ∧ x2 ≤ 2147483647) (r3 : (-2147483648) ≤ x3 ∧ x3 ≤ 2147483647) (p0 : σ 64 2 ≤ 6) : qm_T (qe L xs vb) (d + 1) 131 [.ref 64, .int (qz 6), .int (qz x2), .int (qz x3)] (qw σ α κ ρ) (fun r w' => ∃ α', w' = qw σ α' κ ρ ∧ qI σ α' κ ρ ∧ qFr [] [69] σ α σ α' ∧ ∃ v : Int, r = some (.int (qz v)) ∧ ((-2147483648) ≤ v ∧ v ≤ 2147483647)) := by
  refine qr_start (d := d + 0) qv_e131 (Nat.le_of_ble_eq_true rfl) ?_
  show qr_W (qe L xs vb) (d + 0) qx_e131 _ (0, [(0, .ref 64), (1, .int (qz 6)), (2, .int (qz x2)), (3, .int (qz x3))], [], _, 0, 0)
  have hF0 := qFr_rf [] [69] σ α
  have hz64_2 : 0 ≤ σ 64 2 ∧ σ 64 2 ≤ 12 := hI.1 64 2
  refine qr_iload_n 1 rfl rfl rfl ?_
  refine qr_aload_n 2 rfl rfl rfl ?_
  refine qr_get 5 rfl rfl rfl (by decide) rfl ?_
  refine qr_icmp_ge 14 8 rfl rfl rfl (by decide) (qrg hz64_2 (by decide) (by decide)) (fun h1 => ?_) (fun h => False.elim (by omega))
  refine qr_iload_n 15 rfl rfl rfl ?_
  refine qr_retI rfl rfl (by decide) (by decide) ?_
  exact ⟨_, rfl, hI, hF0, x3, rfl, r3⟩

set_option maxHeartbeats 4000000 in
set_option maxRecDepth 20000 in
/-- OneRoof$Guests.depart -/
theorem sf_131_64t5 {L : Nat} {xs : Nat → Int} {vb : Bool} {d : Nat} {σ α : Nat → Nat → Int} {κ : Nat → Option Nat} {ρ : Nat} {x2 : Int} {x3 : Int} (hI : qI σ α κ ρ) (r2 : (-2147483648) ≤ x2 ∧ x2 ≤ 2147483647) (r3 : (-2147483648) ≤ x3 ∧ x3 ≤ 2147483647) (p0 : σ 64 2 ≤ 6) : qm_T (qe L xs vb) (d + 3) 131 [.ref 64, .int (qz 5), .int (qz x2), .int (qz x3)] (qw σ α κ ρ) (fun r w' => ∃ α', w' = qw σ α' κ ρ ∧ qI σ α' κ ρ ∧ qFr [] [69] σ α σ α' ∧ ∃ v : Int, r = some (.int (qz v)) ∧ ((-2147483648) ≤ v ∧ v ≤ 2147483647)) := by
  refine qr_start (d := d + 2) qv_e131 (Nat.le_of_ble_eq_true rfl) ?_
  show qr_W (qe L xs vb) (d + 2) qx_e131 _ (0, [(0, .ref 64), (1, .int (qz 5)), (2, .int (qz x2)), (3, .int (qz x3))], [], _, 0, 0)
  have hF0 := qFr_rf [] [69] σ α
  have hz64_2 : 0 ≤ σ 64 2 ∧ σ 64 2 ≤ 12 := hI.1 64 2
  refine qr_iload_n 1 rfl rfl rfl ?_
  refine qr_aload_n 2 rfl rfl rfl ?_
  refine qr_get 5 rfl rfl rfl (by decide) rfl ?_
  refine qr_icmp_ge 14 8 rfl rfl rfl (by decide) (qrg hz64_2 (by decide) (by decide)) (fun h1 => ?_) (fun h1 => ?_)
  · skip
    refine qr_iload_n 15 rfl rfl rfl ?_
    refine qr_retI rfl rfl (by decide) (by decide) ?_
    exact ⟨_, rfl, hI, hF0, x3, rfl, r3⟩
  · skip
    refine qr_iload_n 9 rfl rfl rfl ?_
    refine qr_bipush 11 rfl (by decide) rfl ?_
    refine qr_icmp_lt 16 14 rfl rfl rfl (by decide) (by decide) (fun h2 => ?_) (fun h => False.elim (by omega))
    refine qr_iconst 17 rfl rfl ?_
    refine qr_istore _ 19 rfl (by decide) rfl rfl ?_
    have hL173 : ∀ (n : Nat) (ls : qm_L) (u167 : Int) (α169 : Nat → Nat → Int), 6 - u167 < (n : Int) → qm_get ls 0 = some (.ref 64) → qm_get ls 1 = some (.int (qz 5)) → qm_get ls 2 = some (.int (qz x2)) → qm_get ls 3 = some (.int (qz x3)) → qm_get ls 4 = some (.int (qz u167)) → (0 ≤ u167 ∧ u167 ≤ 6) → qI σ α169 κ ρ → qFr [] [69] σ α σ α169 → qr_W (qe L xs vb) (d + 2) qx_e131 (fun r w' => ∃ α', w' = qw σ α' κ ρ ∧ qI σ α' κ ρ ∧ qFr [] [69] σ α σ α' ∧ ∃ v : Int, r = some (.int (qz v)) ∧ ((-2147483648) ≤ v ∧ v ≤ 2147483647)) (19, ls, [], qw σ α169 κ ρ, 0, 0) := by
      intro n
      induction n with
      | zero => intro ls u167 α169 hm g162 g163 g164 g165 g166 hf172 hI170 hF171; exact False.elim (by omega)
      | succ n ih174 =>
        intro ls u167 α169 hm g162 g163 g164 g165 g166 hf172 hI170 hF171
        refine qr_iload 21 rfl g166 rfl ?_
        refine qr_aload_n 22 rfl g162 rfl ?_
        refine qr_get 25 rfl rfl rfl (by decide) rfl ?_
        refine qr_icmp_ge 99 28 rfl rfl rfl (qrg hf172 (by decide) (by decide)) (qrg hz64_2 (by decide) (by decide)) (fun h175 => ?_) (fun h175 => ?_)
        · skip
          refine qr_bipush 101 rfl (by decide) rfl ?_
          refine qr_retI rfl rfl (by decide) (by decide) ?_
          exact ⟨_, rfl, hI170, hF171, (-2), rfl, (by decide)⟩
        · skip
          refine qr_iload_n 29 rfl g164 rfl ?_
          refine qr_i2l 30 rfl r2 rfl ?_
          refine qr_iload 32 rfl g166 rfl ?_
          refine qr_callN 35 rfl rfl rfl (sf_50 (d := d + 1) hI170 (qrg r2 (by decide) (by decide)) (qrg hf172 (by decide) (by decide))) ?_
          rintro _ _ ⟨rfl, v176, rfl, hv176⟩
          show qr_W (qe L xs vb) (d + 2) qx_e131 _ (35, _, [.int (qz v176)], qw σ α169 κ ρ, 0, 0)
          refine qr_if_ne 93 38 rfl rfl rfl (qrg hv176 (by decide) (by decide)) (fun h177 => ?_) (fun h177 => ?_)
          · skip
            refine qr_iinc _ 96 rfl g166 (by decide) rfl rfl ?_
            refine qr_goto 19 rfl rfl ?_
            exact ih174 _ (u167 + 1) α169 (by omega) (qm_gk g162 (by decide) (Or.inl (by decide))) (qm_gk g163 (by decide) (Or.inl (by decide))) (qm_gk g164 (by decide) (Or.inl (by decide))) (qm_gk g165 (by decide) (Or.inr rfl)) (qm_ge _ _ _) (by omega) hI170 hF171
          · skip
            refine qr_aload_n 39 rfl g162 rfl ?_
            refine qr_iload_n 40 rfl g163 rfl ?_
            refine qr_iload 42 rfl g166 rfl ?_
            refine qr_callN 45 rfl rfl rfl (sf_132_64 (d := d + 0) hI170 (by decide) (by omega)) ?_
            rintro _ _ ⟨rfl, v178, rfl, hv178⟩
            show qr_W (qe L xs vb) (d + 2) qx_e131 _ (45, _, [.int (qz v178)], qw σ α169 κ ρ, 0, 0)
            refine qr_if_eq 51 48 rfl rfl rfl (qrg hv178 (by decide) (by decide)) (fun h179 => ?_) (fun h179 => ?_)
            · skip
              refine qr_aload_n 52 rfl g162 rfl ?_
              refine qr_get 55 rfl rfl rfl (by decide) rfl ?_
              refine qr_iload_n 56 rfl g163 rfl ?_
              refine qr_iload 58 rfl g166 rfl ?_
              refine qr_iastore 59 rfl (by decide) rfl (by decide) (by decide) rfl ?_
              refine qy_wA (qw_r α169 69 (qzu (α169 69) (5 : Int).toNat u167)) rfl (fun α180 e181 => ?_)
              have hI182 : qI σ α180 κ ρ := by rw [e181]; exact qI_r hI170 69 _ rfl (show 0 ≤ u167 ∧ u167 ≤ 11 by omega)
              have hF183 : qFr [] [69] σ α σ α180 := by rw [e181]; exact qFr_r hF171 69 _ (by decide)
              refine qr_aload_n 60 rfl g162 rfl ?_
              refine qr_iload_n 61 rfl g163 rfl ?_
              refine qr_iconst 62 rfl rfl ?_
              refine qr_iadd 63 rfl rfl ?_
              refine qy_v 6 rfl ?_
              refine qr_iload_n 64 rfl g164 rfl ?_
              refine qr_iconst 65 rfl rfl ?_
              refine qr_iload 67 rfl g166 rfl ?_
              refine qr_ishl 68 rfl rfl ?_
              refine qy_shl1 (N := 5) (by omega) (fun v184 hv184 => ?_)
              refine qr_ior 69 rfl rfl ?_
              refine qy_can (fun v185 hv185 => ?_)
              refine qr_bipush 71 rfl (by decide) rfl ?_
              refine qr_iload_n 72 rfl g165 rfl ?_
              refine qr_imul 73 rfl rfl ?_
              refine qy_can (fun v186 hv186 => ?_)
              refine qr_iload 75 rfl g166 rfl ?_
              refine qr_iadd 76 rfl rfl ?_
              refine qy_can (fun v187 hv187 => ?_)
              refine qr_iconst 77 rfl rfl ?_
              refine qr_iadd 78 rfl rfl ?_
              refine qy_can (fun v188 hv188 => ?_)
              refine qr_callN 81 rfl rfl rfl (sf_131_64t6 (d := d + 1) hI182 hv185 hv188 (by omega)) ?_
              rintro _ _ ⟨α190, rfl, hI191, hG192, v189, rfl, hv189⟩
              have hF193 : qFr [] [69] σ α σ α190 := qFr_t hF183 hG192 (by decide) (by decide)
              show qr_W (qe L xs vb) (d + 2) qx_e131 _ (81, _, [.int (qz v189)], qw σ α190 κ ρ, 0, 0)
              refine qr_istore _ 83 rfl (by decide) rfl rfl ?_
              refine qr_iload 85 rfl (qm_ge _ _ _) rfl ?_
              refine qr_bipush 87 rfl (by decide) rfl ?_
              refine qr_icmp_eq 93 90 rfl rfl rfl hv189 (by decide) (fun h194 => ?_) (fun h194 => ?_)
              · skip
                refine qr_iinc _ 96 rfl (qm_gk g166 (by decide) (Or.inr rfl)) (by decide) rfl rfl ?_
                refine qr_goto 19 rfl rfl ?_
                exact ih174 _ (u167 + 1) α190 (by omega) (qm_gk (qm_gk g162 (by decide) (Or.inl (by decide))) (by decide) (Or.inl (by decide))) (qm_gk (qm_gk g163 (by decide) (Or.inl (by decide))) (by decide) (Or.inl (by decide))) (qm_gk (qm_gk g164 (by decide) (Or.inl (by decide))) (by decide) (Or.inl (by decide))) (qm_gk (qm_gk g165 (by decide) (Or.inl (by decide))) (by decide) (Or.inr rfl)) (qm_ge _ _ _) (by omega) hI191 hF193
              · skip
                refine qr_iload 92 rfl (qm_ge _ _ _) rfl ?_
                refine qr_retI rfl rfl (by decide) (by decide) ?_
                exact ⟨_, rfl, hI191, hF193, v189, rfl, hv189⟩
            · skip
              refine qr_goto 93 rfl rfl ?_
              refine qr_iinc _ 96 rfl g166 (by decide) rfl rfl ?_
              refine qr_goto 19 rfl rfl ?_
              exact ih174 _ (u167 + 1) α169 (by omega) (qm_gk g162 (by decide) (Or.inl (by decide))) (qm_gk g163 (by decide) (Or.inl (by decide))) (qm_gk g164 (by decide) (Or.inl (by decide))) (qm_gk g165 (by decide) (Or.inr rfl)) (qm_ge _ _ _) (by omega) hI170 hF171
    exact hL173 ((6 - 0 + 1 : Int)).toNat _ 0 α (by omega) rfl rfl rfl rfl rfl (by decide) hI hF0

set_option maxHeartbeats 4000000 in
set_option maxRecDepth 20000 in
/-- OneRoof$Guests.depart -/
theorem sf_131_64t4 {L : Nat} {xs : Nat → Int} {vb : Bool} {d : Nat} {σ α : Nat → Nat → Int} {κ : Nat → Option Nat} {ρ : Nat} {x2 : Int} {x3 : Int} (hI : qI σ α κ ρ) (r2 : (-2147483648) ≤ x2 ∧ x2 ≤ 2147483647) (r3 : (-2147483648) ≤ x3 ∧ x3 ≤ 2147483647) (p0 : σ 64 2 ≤ 6) : qm_T (qe L xs vb) (d + 4) 131 [.ref 64, .int (qz 4), .int (qz x2), .int (qz x3)] (qw σ α κ ρ) (fun r w' => ∃ α', w' = qw σ α' κ ρ ∧ qI σ α' κ ρ ∧ qFr [] [69] σ α σ α' ∧ ∃ v : Int, r = some (.int (qz v)) ∧ ((-2147483648) ≤ v ∧ v ≤ 2147483647)) := by
  refine qr_start (d := d + 3) qv_e131 (Nat.le_of_ble_eq_true rfl) ?_
  show qr_W (qe L xs vb) (d + 3) qx_e131 _ (0, [(0, .ref 64), (1, .int (qz 4)), (2, .int (qz x2)), (3, .int (qz x3))], [], _, 0, 0)
  have hF0 := qFr_rf [] [69] σ α
  have hz64_2 : 0 ≤ σ 64 2 ∧ σ 64 2 ≤ 12 := hI.1 64 2
  refine qr_iload_n 1 rfl rfl rfl ?_
  refine qr_aload_n 2 rfl rfl rfl ?_
  refine qr_get 5 rfl rfl rfl (by decide) rfl ?_
  refine qr_icmp_ge 14 8 rfl rfl rfl (by decide) (qrg hz64_2 (by decide) (by decide)) (fun h1 => ?_) (fun h1 => ?_)
  · skip
    refine qr_iload_n 15 rfl rfl rfl ?_
    refine qr_retI rfl rfl (by decide) (by decide) ?_
    exact ⟨_, rfl, hI, hF0, x3, rfl, r3⟩
  · skip
    refine qr_iload_n 9 rfl rfl rfl ?_
    refine qr_bipush 11 rfl (by decide) rfl ?_
    refine qr_icmp_lt 16 14 rfl rfl rfl (by decide) (by decide) (fun h2 => ?_) (fun h => False.elim (by omega))
    refine qr_iconst 17 rfl rfl ?_
    refine qr_istore _ 19 rfl (by decide) rfl rfl ?_
    have hL173 : ∀ (n : Nat) (ls : qm_L) (u167 : Int) (α169 : Nat → Nat → Int), 6 - u167 < (n : Int) → qm_get ls 0 = some (.ref 64) → qm_get ls 1 = some (.int (qz 4)) → qm_get ls 2 = some (.int (qz x2)) → qm_get ls 3 = some (.int (qz x3)) → qm_get ls 4 = some (.int (qz u167)) → (0 ≤ u167 ∧ u167 ≤ 6) → qI σ α169 κ ρ → qFr [] [69] σ α σ α169 → qr_W (qe L xs vb) (d + 3) qx_e131 (fun r w' => ∃ α', w' = qw σ α' κ ρ ∧ qI σ α' κ ρ ∧ qFr [] [69] σ α σ α' ∧ ∃ v : Int, r = some (.int (qz v)) ∧ ((-2147483648) ≤ v ∧ v ≤ 2147483647)) (19, ls, [], qw σ α169 κ ρ, 0, 0) := by
      intro n
      induction n with
      | zero => intro ls u167 α169 hm g162 g163 g164 g165 g166 hf172 hI170 hF171; exact False.elim (by omega)
      | succ n ih174 =>
        intro ls u167 α169 hm g162 g163 g164 g165 g166 hf172 hI170 hF171
        refine qr_iload 21 rfl g166 rfl ?_
        refine qr_aload_n 22 rfl g162 rfl ?_
        refine qr_get 25 rfl rfl rfl (by decide) rfl ?_
        refine qr_icmp_ge 99 28 rfl rfl rfl (qrg hf172 (by decide) (by decide)) (qrg hz64_2 (by decide) (by decide)) (fun h175 => ?_) (fun h175 => ?_)
        · skip
          refine qr_bipush 101 rfl (by decide) rfl ?_
          refine qr_retI rfl rfl (by decide) (by decide) ?_
          exact ⟨_, rfl, hI170, hF171, (-2), rfl, (by decide)⟩
        · skip
          refine qr_iload_n 29 rfl g164 rfl ?_
          refine qr_i2l 30 rfl r2 rfl ?_
          refine qr_iload 32 rfl g166 rfl ?_
          refine qr_callN 35 rfl rfl rfl (sf_50 (d := d + 2) hI170 (qrg r2 (by decide) (by decide)) (qrg hf172 (by decide) (by decide))) ?_
          rintro _ _ ⟨rfl, v176, rfl, hv176⟩
          show qr_W (qe L xs vb) (d + 3) qx_e131 _ (35, _, [.int (qz v176)], qw σ α169 κ ρ, 0, 0)
          refine qr_if_ne 93 38 rfl rfl rfl (qrg hv176 (by decide) (by decide)) (fun h177 => ?_) (fun h177 => ?_)
          · skip
            refine qr_iinc _ 96 rfl g166 (by decide) rfl rfl ?_
            refine qr_goto 19 rfl rfl ?_
            exact ih174 _ (u167 + 1) α169 (by omega) (qm_gk g162 (by decide) (Or.inl (by decide))) (qm_gk g163 (by decide) (Or.inl (by decide))) (qm_gk g164 (by decide) (Or.inl (by decide))) (qm_gk g165 (by decide) (Or.inr rfl)) (qm_ge _ _ _) (by omega) hI170 hF171
          · skip
            refine qr_aload_n 39 rfl g162 rfl ?_
            refine qr_iload_n 40 rfl g163 rfl ?_
            refine qr_iload 42 rfl g166 rfl ?_
            refine qr_callN 45 rfl rfl rfl (sf_132_64 (d := d + 1) hI170 (by decide) (by omega)) ?_
            rintro _ _ ⟨rfl, v178, rfl, hv178⟩
            show qr_W (qe L xs vb) (d + 3) qx_e131 _ (45, _, [.int (qz v178)], qw σ α169 κ ρ, 0, 0)
            refine qr_if_eq 51 48 rfl rfl rfl (qrg hv178 (by decide) (by decide)) (fun h179 => ?_) (fun h179 => ?_)
            · skip
              refine qr_aload_n 52 rfl g162 rfl ?_
              refine qr_get 55 rfl rfl rfl (by decide) rfl ?_
              refine qr_iload_n 56 rfl g163 rfl ?_
              refine qr_iload 58 rfl g166 rfl ?_
              refine qr_iastore 59 rfl (by decide) rfl (by decide) (by decide) rfl ?_
              refine qy_wA (qw_r α169 69 (qzu (α169 69) (4 : Int).toNat u167)) rfl (fun α180 e181 => ?_)
              have hI182 : qI σ α180 κ ρ := by rw [e181]; exact qI_r hI170 69 _ rfl (show 0 ≤ u167 ∧ u167 ≤ 11 by omega)
              have hF183 : qFr [] [69] σ α σ α180 := by rw [e181]; exact qFr_r hF171 69 _ (by decide)
              refine qr_aload_n 60 rfl g162 rfl ?_
              refine qr_iload_n 61 rfl g163 rfl ?_
              refine qr_iconst 62 rfl rfl ?_
              refine qr_iadd 63 rfl rfl ?_
              refine qy_v 5 rfl ?_
              refine qr_iload_n 64 rfl g164 rfl ?_
              refine qr_iconst 65 rfl rfl ?_
              refine qr_iload 67 rfl g166 rfl ?_
              refine qr_ishl 68 rfl rfl ?_
              refine qy_shl1 (N := 5) (by omega) (fun v184 hv184 => ?_)
              refine qr_ior 69 rfl rfl ?_
              refine qy_can (fun v185 hv185 => ?_)
              refine qr_bipush 71 rfl (by decide) rfl ?_
              refine qr_iload_n 72 rfl g165 rfl ?_
              refine qr_imul 73 rfl rfl ?_
              refine qy_can (fun v186 hv186 => ?_)
              refine qr_iload 75 rfl g166 rfl ?_
              refine qr_iadd 76 rfl rfl ?_
              refine qy_can (fun v187 hv187 => ?_)
              refine qr_iconst 77 rfl rfl ?_
              refine qr_iadd 78 rfl rfl ?_
              refine qy_can (fun v188 hv188 => ?_)
              refine qr_callN 81 rfl rfl rfl (sf_131_64t5 (d := d + 0) hI182 hv185 hv188 (by omega)) ?_
              rintro _ _ ⟨α190, rfl, hI191, hG192, v189, rfl, hv189⟩
              have hF193 : qFr [] [69] σ α σ α190 := qFr_t hF183 hG192 (by decide) (by decide)
              show qr_W (qe L xs vb) (d + 3) qx_e131 _ (81, _, [.int (qz v189)], qw σ α190 κ ρ, 0, 0)
              refine qr_istore _ 83 rfl (by decide) rfl rfl ?_
              refine qr_iload 85 rfl (qm_ge _ _ _) rfl ?_
              refine qr_bipush 87 rfl (by decide) rfl ?_
              refine qr_icmp_eq 93 90 rfl rfl rfl hv189 (by decide) (fun h194 => ?_) (fun h194 => ?_)
              · skip
                refine qr_iinc _ 96 rfl (qm_gk g166 (by decide) (Or.inr rfl)) (by decide) rfl rfl ?_
                refine qr_goto 19 rfl rfl ?_
                exact ih174 _ (u167 + 1) α190 (by omega) (qm_gk (qm_gk g162 (by decide) (Or.inl (by decide))) (by decide) (Or.inl (by decide))) (qm_gk (qm_gk g163 (by decide) (Or.inl (by decide))) (by decide) (Or.inl (by decide))) (qm_gk (qm_gk g164 (by decide) (Or.inl (by decide))) (by decide) (Or.inl (by decide))) (qm_gk (qm_gk g165 (by decide) (Or.inl (by decide))) (by decide) (Or.inr rfl)) (qm_ge _ _ _) (by omega) hI191 hF193
              · skip
                refine qr_iload 92 rfl (qm_ge _ _ _) rfl ?_
                refine qr_retI rfl rfl (by decide) (by decide) ?_
                exact ⟨_, rfl, hI191, hF193, v189, rfl, hv189⟩
            · skip
              refine qr_goto 93 rfl rfl ?_
              refine qr_iinc _ 96 rfl g166 (by decide) rfl rfl ?_
              refine qr_goto 19 rfl rfl ?_
              exact ih174 _ (u167 + 1) α169 (by omega) (qm_gk g162 (by decide) (Or.inl (by decide))) (qm_gk g163 (by decide) (Or.inl (by decide))) (qm_gk g164 (by decide) (Or.inl (by decide))) (qm_gk g165 (by decide) (Or.inr rfl)) (qm_ge _ _ _) (by omega) hI170 hF171
    exact hL173 ((6 - 0 + 1 : Int)).toNat _ 0 α (by omega) rfl rfl rfl rfl rfl (by decide) hI hF0

set_option maxHeartbeats 4000000 in
set_option maxRecDepth 20000 in
/-- OneRoof$Guests.depart -/
theorem sf_131_64t3 {L : Nat} {xs : Nat → Int} {vb : Bool} {d : Nat} {σ α : Nat → Nat → Int} {κ : Nat → Option Nat} {ρ : Nat} {x2 : Int} {x3 : Int} (hI : qI σ α κ ρ) (r2 : (-2147483648) ≤ x2 ∧ x2 ≤ 2147483647) (r3 : (-2147483648) ≤ x3 ∧ x3 ≤ 2147483647) (p0 : σ 64 2 ≤ 6) : qm_T (qe L xs vb) (d + 5) 131 [.ref 64, .int (qz 3), .int (qz x2), .int (qz x3)] (qw σ α κ ρ) (fun r w' => ∃ α', w' = qw σ α' κ ρ ∧ qI σ α' κ ρ ∧ qFr [] [69] σ α σ α' ∧ ∃ v : Int, r = some (.int (qz v)) ∧ ((-2147483648) ≤ v ∧ v ≤ 2147483647)) := by
  refine qr_start (d := d + 4) qv_e131 (Nat.le_of_ble_eq_true rfl) ?_
  show qr_W (qe L xs vb) (d + 4) qx_e131 _ (0, [(0, .ref 64), (1, .int (qz 3)), (2, .int (qz x2)), (3, .int (qz x3))], [], _, 0, 0)
  have hF0 := qFr_rf [] [69] σ α
  have hz64_2 : 0 ≤ σ 64 2 ∧ σ 64 2 ≤ 12 := hI.1 64 2
  refine qr_iload_n 1 rfl rfl rfl ?_
  refine qr_aload_n 2 rfl rfl rfl ?_
  refine qr_get 5 rfl rfl rfl (by decide) rfl ?_
  refine qr_icmp_ge 14 8 rfl rfl rfl (by decide) (qrg hz64_2 (by decide) (by decide)) (fun h1 => ?_) (fun h1 => ?_)
  · skip
    refine qr_iload_n 15 rfl rfl rfl ?_
    refine qr_retI rfl rfl (by decide) (by decide) ?_
    exact ⟨_, rfl, hI, hF0, x3, rfl, r3⟩
  · skip
    refine qr_iload_n 9 rfl rfl rfl ?_
    refine qr_bipush 11 rfl (by decide) rfl ?_
    refine qr_icmp_lt 16 14 rfl rfl rfl (by decide) (by decide) (fun h2 => ?_) (fun h => False.elim (by omega))
    refine qr_iconst 17 rfl rfl ?_
    refine qr_istore _ 19 rfl (by decide) rfl rfl ?_
    have hL173 : ∀ (n : Nat) (ls : qm_L) (u167 : Int) (α169 : Nat → Nat → Int), 6 - u167 < (n : Int) → qm_get ls 0 = some (.ref 64) → qm_get ls 1 = some (.int (qz 3)) → qm_get ls 2 = some (.int (qz x2)) → qm_get ls 3 = some (.int (qz x3)) → qm_get ls 4 = some (.int (qz u167)) → (0 ≤ u167 ∧ u167 ≤ 6) → qI σ α169 κ ρ → qFr [] [69] σ α σ α169 → qr_W (qe L xs vb) (d + 4) qx_e131 (fun r w' => ∃ α', w' = qw σ α' κ ρ ∧ qI σ α' κ ρ ∧ qFr [] [69] σ α σ α' ∧ ∃ v : Int, r = some (.int (qz v)) ∧ ((-2147483648) ≤ v ∧ v ≤ 2147483647)) (19, ls, [], qw σ α169 κ ρ, 0, 0) := by
      intro n
      induction n with
      | zero => intro ls u167 α169 hm g162 g163 g164 g165 g166 hf172 hI170 hF171; exact False.elim (by omega)
      | succ n ih174 =>
        intro ls u167 α169 hm g162 g163 g164 g165 g166 hf172 hI170 hF171
        refine qr_iload 21 rfl g166 rfl ?_
        refine qr_aload_n 22 rfl g162 rfl ?_
        refine qr_get 25 rfl rfl rfl (by decide) rfl ?_
        refine qr_icmp_ge 99 28 rfl rfl rfl (qrg hf172 (by decide) (by decide)) (qrg hz64_2 (by decide) (by decide)) (fun h175 => ?_) (fun h175 => ?_)
        · skip
          refine qr_bipush 101 rfl (by decide) rfl ?_
          refine qr_retI rfl rfl (by decide) (by decide) ?_
          exact ⟨_, rfl, hI170, hF171, (-2), rfl, (by decide)⟩
        · skip
          refine qr_iload_n 29 rfl g164 rfl ?_
          refine qr_i2l 30 rfl r2 rfl ?_
          refine qr_iload 32 rfl g166 rfl ?_
          refine qr_callN 35 rfl rfl rfl (sf_50 (d := d + 3) hI170 (qrg r2 (by decide) (by decide)) (qrg hf172 (by decide) (by decide))) ?_
          rintro _ _ ⟨rfl, v176, rfl, hv176⟩
          show qr_W (qe L xs vb) (d + 4) qx_e131 _ (35, _, [.int (qz v176)], qw σ α169 κ ρ, 0, 0)
          refine qr_if_ne 93 38 rfl rfl rfl (qrg hv176 (by decide) (by decide)) (fun h177 => ?_) (fun h177 => ?_)
          · skip
            refine qr_iinc _ 96 rfl g166 (by decide) rfl rfl ?_
            refine qr_goto 19 rfl rfl ?_
            exact ih174 _ (u167 + 1) α169 (by omega) (qm_gk g162 (by decide) (Or.inl (by decide))) (qm_gk g163 (by decide) (Or.inl (by decide))) (qm_gk g164 (by decide) (Or.inl (by decide))) (qm_gk g165 (by decide) (Or.inr rfl)) (qm_ge _ _ _) (by omega) hI170 hF171
          · skip
            refine qr_aload_n 39 rfl g162 rfl ?_
            refine qr_iload_n 40 rfl g163 rfl ?_
            refine qr_iload 42 rfl g166 rfl ?_
            refine qr_callN 45 rfl rfl rfl (sf_132_64 (d := d + 2) hI170 (by decide) (by omega)) ?_
            rintro _ _ ⟨rfl, v178, rfl, hv178⟩
            show qr_W (qe L xs vb) (d + 4) qx_e131 _ (45, _, [.int (qz v178)], qw σ α169 κ ρ, 0, 0)
            refine qr_if_eq 51 48 rfl rfl rfl (qrg hv178 (by decide) (by decide)) (fun h179 => ?_) (fun h179 => ?_)
            · skip
              refine qr_aload_n 52 rfl g162 rfl ?_
              refine qr_get 55 rfl rfl rfl (by decide) rfl ?_
              refine qr_iload_n 56 rfl g163 rfl ?_
              refine qr_iload 58 rfl g166 rfl ?_
              refine qr_iastore 59 rfl (by decide) rfl (by decide) (by decide) rfl ?_
              refine qy_wA (qw_r α169 69 (qzu (α169 69) (3 : Int).toNat u167)) rfl (fun α180 e181 => ?_)
              have hI182 : qI σ α180 κ ρ := by rw [e181]; exact qI_r hI170 69 _ rfl (show 0 ≤ u167 ∧ u167 ≤ 11 by omega)
              have hF183 : qFr [] [69] σ α σ α180 := by rw [e181]; exact qFr_r hF171 69 _ (by decide)
              refine qr_aload_n 60 rfl g162 rfl ?_
              refine qr_iload_n 61 rfl g163 rfl ?_
              refine qr_iconst 62 rfl rfl ?_
              refine qr_iadd 63 rfl rfl ?_
              refine qy_v 4 rfl ?_
              refine qr_iload_n 64 rfl g164 rfl ?_
              refine qr_iconst 65 rfl rfl ?_
              refine qr_iload 67 rfl g166 rfl ?_
              refine qr_ishl 68 rfl rfl ?_
              refine qy_shl1 (N := 5) (by omega) (fun v184 hv184 => ?_)
              refine qr_ior 69 rfl rfl ?_
              refine qy_can (fun v185 hv185 => ?_)
              refine qr_bipush 71 rfl (by decide) rfl ?_
              refine qr_iload_n 72 rfl g165 rfl ?_
              refine qr_imul 73 rfl rfl ?_
              refine qy_can (fun v186 hv186 => ?_)
              refine qr_iload 75 rfl g166 rfl ?_
              refine qr_iadd 76 rfl rfl ?_
              refine qy_can (fun v187 hv187 => ?_)
              refine qr_iconst 77 rfl rfl ?_
              refine qr_iadd 78 rfl rfl ?_
              refine qy_can (fun v188 hv188 => ?_)
              refine qr_callN 81 rfl rfl rfl (sf_131_64t4 (d := d + 0) hI182 hv185 hv188 (by omega)) ?_
              rintro _ _ ⟨α190, rfl, hI191, hG192, v189, rfl, hv189⟩
              have hF193 : qFr [] [69] σ α σ α190 := qFr_t hF183 hG192 (by decide) (by decide)
              show qr_W (qe L xs vb) (d + 4) qx_e131 _ (81, _, [.int (qz v189)], qw σ α190 κ ρ, 0, 0)
              refine qr_istore _ 83 rfl (by decide) rfl rfl ?_
              refine qr_iload 85 rfl (qm_ge _ _ _) rfl ?_
              refine qr_bipush 87 rfl (by decide) rfl ?_
              refine qr_icmp_eq 93 90 rfl rfl rfl hv189 (by decide) (fun h194 => ?_) (fun h194 => ?_)
              · skip
                refine qr_iinc _ 96 rfl (qm_gk g166 (by decide) (Or.inr rfl)) (by decide) rfl rfl ?_
                refine qr_goto 19 rfl rfl ?_
                exact ih174 _ (u167 + 1) α190 (by omega) (qm_gk (qm_gk g162 (by decide) (Or.inl (by decide))) (by decide) (Or.inl (by decide))) (qm_gk (qm_gk g163 (by decide) (Or.inl (by decide))) (by decide) (Or.inl (by decide))) (qm_gk (qm_gk g164 (by decide) (Or.inl (by decide))) (by decide) (Or.inl (by decide))) (qm_gk (qm_gk g165 (by decide) (Or.inl (by decide))) (by decide) (Or.inr rfl)) (qm_ge _ _ _) (by omega) hI191 hF193
              · skip
                refine qr_iload 92 rfl (qm_ge _ _ _) rfl ?_
                refine qr_retI rfl rfl (by decide) (by decide) ?_
                exact ⟨_, rfl, hI191, hF193, v189, rfl, hv189⟩
            · skip
              refine qr_goto 93 rfl rfl ?_
              refine qr_iinc _ 96 rfl g166 (by decide) rfl rfl ?_
              refine qr_goto 19 rfl rfl ?_
              exact ih174 _ (u167 + 1) α169 (by omega) (qm_gk g162 (by decide) (Or.inl (by decide))) (qm_gk g163 (by decide) (Or.inl (by decide))) (qm_gk g164 (by decide) (Or.inl (by decide))) (qm_gk g165 (by decide) (Or.inr rfl)) (qm_ge _ _ _) (by omega) hI170 hF171
    exact hL173 ((6 - 0 + 1 : Int)).toNat _ 0 α (by omega) rfl rfl rfl rfl rfl (by decide) hI hF0

set_option maxHeartbeats 4000000 in
set_option maxRecDepth 20000 in
/-- OneRoof$Guests.depart -/
theorem sf_131_64t2 {L : Nat} {xs : Nat → Int} {vb : Bool} {d : Nat} {σ α : Nat → Nat → Int} {κ : Nat → Option Nat} {ρ : Nat} {x2 : Int} {x3 : Int} (hI : qI σ α κ ρ) (r2 : (-2147483648) ≤ x2 ∧ x2 ≤ 2147483647) (r3 : (-2147483648) ≤ x3 ∧ x3 ≤ 2147483647) (p0 : σ 64 2 ≤ 6) : qm_T (qe L xs vb) (d + 6) 131 [.ref 64, .int (qz 2), .int (qz x2), .int (qz x3)] (qw σ α κ ρ) (fun r w' => ∃ α', w' = qw σ α' κ ρ ∧ qI σ α' κ ρ ∧ qFr [] [69] σ α σ α' ∧ ∃ v : Int, r = some (.int (qz v)) ∧ ((-2147483648) ≤ v ∧ v ≤ 2147483647)) := by
  refine qr_start (d := d + 5) qv_e131 (Nat.le_of_ble_eq_true rfl) ?_
  show qr_W (qe L xs vb) (d + 5) qx_e131 _ (0, [(0, .ref 64), (1, .int (qz 2)), (2, .int (qz x2)), (3, .int (qz x3))], [], _, 0, 0)
  have hF0 := qFr_rf [] [69] σ α
  have hz64_2 : 0 ≤ σ 64 2 ∧ σ 64 2 ≤ 12 := hI.1 64 2
  refine qr_iload_n 1 rfl rfl rfl ?_
  refine qr_aload_n 2 rfl rfl rfl ?_
  refine qr_get 5 rfl rfl rfl (by decide) rfl ?_
  refine qr_icmp_ge 14 8 rfl rfl rfl (by decide) (qrg hz64_2 (by decide) (by decide)) (fun h1 => ?_) (fun h1 => ?_)
  · skip
    refine qr_iload_n 15 rfl rfl rfl ?_
    refine qr_retI rfl rfl (by decide) (by decide) ?_
    exact ⟨_, rfl, hI, hF0, x3, rfl, r3⟩
  · skip
    refine qr_iload_n 9 rfl rfl rfl ?_
    refine qr_bipush 11 rfl (by decide) rfl ?_
    refine qr_icmp_lt 16 14 rfl rfl rfl (by decide) (by decide) (fun h2 => ?_) (fun h => False.elim (by omega))
    refine qr_iconst 17 rfl rfl ?_
    refine qr_istore _ 19 rfl (by decide) rfl rfl ?_
    have hL173 : ∀ (n : Nat) (ls : qm_L) (u167 : Int) (α169 : Nat → Nat → Int), 6 - u167 < (n : Int) → qm_get ls 0 = some (.ref 64) → qm_get ls 1 = some (.int (qz 2)) → qm_get ls 2 = some (.int (qz x2)) → qm_get ls 3 = some (.int (qz x3)) → qm_get ls 4 = some (.int (qz u167)) → (0 ≤ u167 ∧ u167 ≤ 6) → qI σ α169 κ ρ → qFr [] [69] σ α σ α169 → qr_W (qe L xs vb) (d + 5) qx_e131 (fun r w' => ∃ α', w' = qw σ α' κ ρ ∧ qI σ α' κ ρ ∧ qFr [] [69] σ α σ α' ∧ ∃ v : Int, r = some (.int (qz v)) ∧ ((-2147483648) ≤ v ∧ v ≤ 2147483647)) (19, ls, [], qw σ α169 κ ρ, 0, 0) := by
      intro n
      induction n with
      | zero => intro ls u167 α169 hm g162 g163 g164 g165 g166 hf172 hI170 hF171; exact False.elim (by omega)
      | succ n ih174 =>
        intro ls u167 α169 hm g162 g163 g164 g165 g166 hf172 hI170 hF171
        refine qr_iload 21 rfl g166 rfl ?_
        refine qr_aload_n 22 rfl g162 rfl ?_
        refine qr_get 25 rfl rfl rfl (by decide) rfl ?_
        refine qr_icmp_ge 99 28 rfl rfl rfl (qrg hf172 (by decide) (by decide)) (qrg hz64_2 (by decide) (by decide)) (fun h175 => ?_) (fun h175 => ?_)
        · skip
          refine qr_bipush 101 rfl (by decide) rfl ?_
          refine qr_retI rfl rfl (by decide) (by decide) ?_
          exact ⟨_, rfl, hI170, hF171, (-2), rfl, (by decide)⟩
        · skip
          refine qr_iload_n 29 rfl g164 rfl ?_
          refine qr_i2l 30 rfl r2 rfl ?_
          refine qr_iload 32 rfl g166 rfl ?_
          refine qr_callN 35 rfl rfl rfl (sf_50 (d := d + 4) hI170 (qrg r2 (by decide) (by decide)) (qrg hf172 (by decide) (by decide))) ?_
          rintro _ _ ⟨rfl, v176, rfl, hv176⟩
          show qr_W (qe L xs vb) (d + 5) qx_e131 _ (35, _, [.int (qz v176)], qw σ α169 κ ρ, 0, 0)
          refine qr_if_ne 93 38 rfl rfl rfl (qrg hv176 (by decide) (by decide)) (fun h177 => ?_) (fun h177 => ?_)
          · skip
            refine qr_iinc _ 96 rfl g166 (by decide) rfl rfl ?_
            refine qr_goto 19 rfl rfl ?_
            exact ih174 _ (u167 + 1) α169 (by omega) (qm_gk g162 (by decide) (Or.inl (by decide))) (qm_gk g163 (by decide) (Or.inl (by decide))) (qm_gk g164 (by decide) (Or.inl (by decide))) (qm_gk g165 (by decide) (Or.inr rfl)) (qm_ge _ _ _) (by omega) hI170 hF171
          · skip
            refine qr_aload_n 39 rfl g162 rfl ?_
            refine qr_iload_n 40 rfl g163 rfl ?_
            refine qr_iload 42 rfl g166 rfl ?_
            refine qr_callN 45 rfl rfl rfl (sf_132_64 (d := d + 3) hI170 (by decide) (by omega)) ?_
            rintro _ _ ⟨rfl, v178, rfl, hv178⟩
            show qr_W (qe L xs vb) (d + 5) qx_e131 _ (45, _, [.int (qz v178)], qw σ α169 κ ρ, 0, 0)
            refine qr_if_eq 51 48 rfl rfl rfl (qrg hv178 (by decide) (by decide)) (fun h179 => ?_) (fun h179 => ?_)
            · skip
              refine qr_aload_n 52 rfl g162 rfl ?_
              refine qr_get 55 rfl rfl rfl (by decide) rfl ?_
              refine qr_iload_n 56 rfl g163 rfl ?_
              refine qr_iload 58 rfl g166 rfl ?_
              refine qr_iastore 59 rfl (by decide) rfl (by decide) (by decide) rfl ?_
              refine qy_wA (qw_r α169 69 (qzu (α169 69) (2 : Int).toNat u167)) rfl (fun α180 e181 => ?_)
              have hI182 : qI σ α180 κ ρ := by rw [e181]; exact qI_r hI170 69 _ rfl (show 0 ≤ u167 ∧ u167 ≤ 11 by omega)
              have hF183 : qFr [] [69] σ α σ α180 := by rw [e181]; exact qFr_r hF171 69 _ (by decide)
              refine qr_aload_n 60 rfl g162 rfl ?_
              refine qr_iload_n 61 rfl g163 rfl ?_
              refine qr_iconst 62 rfl rfl ?_
              refine qr_iadd 63 rfl rfl ?_
              refine qy_v 3 rfl ?_
              refine qr_iload_n 64 rfl g164 rfl ?_
              refine qr_iconst 65 rfl rfl ?_
              refine qr_iload 67 rfl g166 rfl ?_
              refine qr_ishl 68 rfl rfl ?_
              refine qy_shl1 (N := 5) (by omega) (fun v184 hv184 => ?_)
              refine qr_ior 69 rfl rfl ?_
              refine qy_can (fun v185 hv185 => ?_)
              refine qr_bipush 71 rfl (by decide) rfl ?_
              refine qr_iload_n 72 rfl g165 rfl ?_
              refine qr_imul 73 rfl rfl ?_
              refine qy_can (fun v186 hv186 => ?_)
              refine qr_iload 75 rfl g166 rfl ?_
              refine qr_iadd 76 rfl rfl ?_
              refine qy_can (fun v187 hv187 => ?_)
              refine qr_iconst 77 rfl rfl ?_
              refine qr_iadd 78 rfl rfl ?_
              refine qy_can (fun v188 hv188 => ?_)
              refine qr_callN 81 rfl rfl rfl (sf_131_64t3 (d := d + 0) hI182 hv185 hv188 (by omega)) ?_
              rintro _ _ ⟨α190, rfl, hI191, hG192, v189, rfl, hv189⟩
              have hF193 : qFr [] [69] σ α σ α190 := qFr_t hF183 hG192 (by decide) (by decide)
              show qr_W (qe L xs vb) (d + 5) qx_e131 _ (81, _, [.int (qz v189)], qw σ α190 κ ρ, 0, 0)
              refine qr_istore _ 83 rfl (by decide) rfl rfl ?_
              refine qr_iload 85 rfl (qm_ge _ _ _) rfl ?_
              refine qr_bipush 87 rfl (by decide) rfl ?_
              refine qr_icmp_eq 93 90 rfl rfl rfl hv189 (by decide) (fun h194 => ?_) (fun h194 => ?_)
              · skip
                refine qr_iinc _ 96 rfl (qm_gk g166 (by decide) (Or.inr rfl)) (by decide) rfl rfl ?_
                refine qr_goto 19 rfl rfl ?_
                exact ih174 _ (u167 + 1) α190 (by omega) (qm_gk (qm_gk g162 (by decide) (Or.inl (by decide))) (by decide) (Or.inl (by decide))) (qm_gk (qm_gk g163 (by decide) (Or.inl (by decide))) (by decide) (Or.inl (by decide))) (qm_gk (qm_gk g164 (by decide) (Or.inl (by decide))) (by decide) (Or.inl (by decide))) (qm_gk (qm_gk g165 (by decide) (Or.inl (by decide))) (by decide) (Or.inr rfl)) (qm_ge _ _ _) (by omega) hI191 hF193
              · skip
                refine qr_iload 92 rfl (qm_ge _ _ _) rfl ?_
                refine qr_retI rfl rfl (by decide) (by decide) ?_
                exact ⟨_, rfl, hI191, hF193, v189, rfl, hv189⟩
            · skip
              refine qr_goto 93 rfl rfl ?_
              refine qr_iinc _ 96 rfl g166 (by decide) rfl rfl ?_
              refine qr_goto 19 rfl rfl ?_
              exact ih174 _ (u167 + 1) α169 (by omega) (qm_gk g162 (by decide) (Or.inl (by decide))) (qm_gk g163 (by decide) (Or.inl (by decide))) (qm_gk g164 (by decide) (Or.inl (by decide))) (qm_gk g165 (by decide) (Or.inr rfl)) (qm_ge _ _ _) (by omega) hI170 hF171
    exact hL173 ((6 - 0 + 1 : Int)).toNat _ 0 α (by omega) rfl rfl rfl rfl rfl (by decide) hI hF0

set_option maxHeartbeats 4000000 in
set_option maxRecDepth 20000 in
/-- OneRoof$Guests.depart -/
theorem sf_131_64t1 {L : Nat} {xs : Nat → Int} {vb : Bool} {d : Nat} {σ α : Nat → Nat → Int} {κ : Nat → Option Nat} {ρ : Nat} {x2 : Int} {x3 : Int} (hI : qI σ α κ ρ) (r2 : (-2147483648) ≤ x2 ∧ x2 ≤ 2147483647) (r3 : (-2147483648) ≤ x3 ∧ x3 ≤ 2147483647) (p0 : σ 64 2 ≤ 6) : qm_T (qe L xs vb) (d + 7) 131 [.ref 64, .int (qz 1), .int (qz x2), .int (qz x3)] (qw σ α κ ρ) (fun r w' => ∃ α', w' = qw σ α' κ ρ ∧ qI σ α' κ ρ ∧ qFr [] [69] σ α σ α' ∧ ∃ v : Int, r = some (.int (qz v)) ∧ ((-2147483648) ≤ v ∧ v ≤ 2147483647)) := by
  refine qr_start (d := d + 6) qv_e131 (Nat.le_of_ble_eq_true rfl) ?_
  show qr_W (qe L xs vb) (d + 6) qx_e131 _ (0, [(0, .ref 64), (1, .int (qz 1)), (2, .int (qz x2)), (3, .int (qz x3))], [], _, 0, 0)
  have hF0 := qFr_rf [] [69] σ α
  have hz64_2 : 0 ≤ σ 64 2 ∧ σ 64 2 ≤ 12 := hI.1 64 2
  refine qr_iload_n 1 rfl rfl rfl ?_
  refine qr_aload_n 2 rfl rfl rfl ?_
  refine qr_get 5 rfl rfl rfl (by decide) rfl ?_
  refine qr_icmp_ge 14 8 rfl rfl rfl (by decide) (qrg hz64_2 (by decide) (by decide)) (fun h1 => ?_) (fun h1 => ?_)
  · skip
    refine qr_iload_n 15 rfl rfl rfl ?_
    refine qr_retI rfl rfl (by decide) (by decide) ?_
    exact ⟨_, rfl, hI, hF0, x3, rfl, r3⟩
  · skip
    refine qr_iload_n 9 rfl rfl rfl ?_
    refine qr_bipush 11 rfl (by decide) rfl ?_
    refine qr_icmp_lt 16 14 rfl rfl rfl (by decide) (by decide) (fun h2 => ?_) (fun h => False.elim (by omega))
    refine qr_iconst 17 rfl rfl ?_
    refine qr_istore _ 19 rfl (by decide) rfl rfl ?_
    have hL173 : ∀ (n : Nat) (ls : qm_L) (u167 : Int) (α169 : Nat → Nat → Int), 6 - u167 < (n : Int) → qm_get ls 0 = some (.ref 64) → qm_get ls 1 = some (.int (qz 1)) → qm_get ls 2 = some (.int (qz x2)) → qm_get ls 3 = some (.int (qz x3)) → qm_get ls 4 = some (.int (qz u167)) → (0 ≤ u167 ∧ u167 ≤ 6) → qI σ α169 κ ρ → qFr [] [69] σ α σ α169 → qr_W (qe L xs vb) (d + 6) qx_e131 (fun r w' => ∃ α', w' = qw σ α' κ ρ ∧ qI σ α' κ ρ ∧ qFr [] [69] σ α σ α' ∧ ∃ v : Int, r = some (.int (qz v)) ∧ ((-2147483648) ≤ v ∧ v ≤ 2147483647)) (19, ls, [], qw σ α169 κ ρ, 0, 0) := by
      intro n
      induction n with
      | zero => intro ls u167 α169 hm g162 g163 g164 g165 g166 hf172 hI170 hF171; exact False.elim (by omega)
      | succ n ih174 =>
        intro ls u167 α169 hm g162 g163 g164 g165 g166 hf172 hI170 hF171
        refine qr_iload 21 rfl g166 rfl ?_
        refine qr_aload_n 22 rfl g162 rfl ?_
        refine qr_get 25 rfl rfl rfl (by decide) rfl ?_
        refine qr_icmp_ge 99 28 rfl rfl rfl (qrg hf172 (by decide) (by decide)) (qrg hz64_2 (by decide) (by decide)) (fun h175 => ?_) (fun h175 => ?_)
        · skip
          refine qr_bipush 101 rfl (by decide) rfl ?_
          refine qr_retI rfl rfl (by decide) (by decide) ?_
          exact ⟨_, rfl, hI170, hF171, (-2), rfl, (by decide)⟩
        · skip
          refine qr_iload_n 29 rfl g164 rfl ?_
          refine qr_i2l 30 rfl r2 rfl ?_
          refine qr_iload 32 rfl g166 rfl ?_
          refine qr_callN 35 rfl rfl rfl (sf_50 (d := d + 5) hI170 (qrg r2 (by decide) (by decide)) (qrg hf172 (by decide) (by decide))) ?_
          rintro _ _ ⟨rfl, v176, rfl, hv176⟩
          show qr_W (qe L xs vb) (d + 6) qx_e131 _ (35, _, [.int (qz v176)], qw σ α169 κ ρ, 0, 0)
          refine qr_if_ne 93 38 rfl rfl rfl (qrg hv176 (by decide) (by decide)) (fun h177 => ?_) (fun h177 => ?_)
          · skip
            refine qr_iinc _ 96 rfl g166 (by decide) rfl rfl ?_
            refine qr_goto 19 rfl rfl ?_
            exact ih174 _ (u167 + 1) α169 (by omega) (qm_gk g162 (by decide) (Or.inl (by decide))) (qm_gk g163 (by decide) (Or.inl (by decide))) (qm_gk g164 (by decide) (Or.inl (by decide))) (qm_gk g165 (by decide) (Or.inr rfl)) (qm_ge _ _ _) (by omega) hI170 hF171
          · skip
            refine qr_aload_n 39 rfl g162 rfl ?_
            refine qr_iload_n 40 rfl g163 rfl ?_
            refine qr_iload 42 rfl g166 rfl ?_
            refine qr_callN 45 rfl rfl rfl (sf_132_64 (d := d + 4) hI170 (by decide) (by omega)) ?_
            rintro _ _ ⟨rfl, v178, rfl, hv178⟩
            show qr_W (qe L xs vb) (d + 6) qx_e131 _ (45, _, [.int (qz v178)], qw σ α169 κ ρ, 0, 0)
            refine qr_if_eq 51 48 rfl rfl rfl (qrg hv178 (by decide) (by decide)) (fun h179 => ?_) (fun h179 => ?_)
            · skip
              refine qr_aload_n 52 rfl g162 rfl ?_
              refine qr_get 55 rfl rfl rfl (by decide) rfl ?_
              refine qr_iload_n 56 rfl g163 rfl ?_
              refine qr_iload 58 rfl g166 rfl ?_
              refine qr_iastore 59 rfl (by decide) rfl (by decide) (by decide) rfl ?_
              refine qy_wA (qw_r α169 69 (qzu (α169 69) (1 : Int).toNat u167)) rfl (fun α180 e181 => ?_)
              have hI182 : qI σ α180 κ ρ := by rw [e181]; exact qI_r hI170 69 _ rfl (show 0 ≤ u167 ∧ u167 ≤ 11 by omega)
              have hF183 : qFr [] [69] σ α σ α180 := by rw [e181]; exact qFr_r hF171 69 _ (by decide)
              refine qr_aload_n 60 rfl g162 rfl ?_
              refine qr_iload_n 61 rfl g163 rfl ?_
              refine qr_iconst 62 rfl rfl ?_
              refine qr_iadd 63 rfl rfl ?_
              refine qy_v 2 rfl ?_
              refine qr_iload_n 64 rfl g164 rfl ?_
              refine qr_iconst 65 rfl rfl ?_
              refine qr_iload 67 rfl g166 rfl ?_
              refine qr_ishl 68 rfl rfl ?_
              refine qy_shl1 (N := 5) (by omega) (fun v184 hv184 => ?_)
              refine qr_ior 69 rfl rfl ?_
              refine qy_can (fun v185 hv185 => ?_)
              refine qr_bipush 71 rfl (by decide) rfl ?_
              refine qr_iload_n 72 rfl g165 rfl ?_
              refine qr_imul 73 rfl rfl ?_
              refine qy_can (fun v186 hv186 => ?_)
              refine qr_iload 75 rfl g166 rfl ?_
              refine qr_iadd 76 rfl rfl ?_
              refine qy_can (fun v187 hv187 => ?_)
              refine qr_iconst 77 rfl rfl ?_
              refine qr_iadd 78 rfl rfl ?_
              refine qy_can (fun v188 hv188 => ?_)
              refine qr_callN 81 rfl rfl rfl (sf_131_64t2 (d := d + 0) hI182 hv185 hv188 (by omega)) ?_
              rintro _ _ ⟨α190, rfl, hI191, hG192, v189, rfl, hv189⟩
              have hF193 : qFr [] [69] σ α σ α190 := qFr_t hF183 hG192 (by decide) (by decide)
              show qr_W (qe L xs vb) (d + 6) qx_e131 _ (81, _, [.int (qz v189)], qw σ α190 κ ρ, 0, 0)
              refine qr_istore _ 83 rfl (by decide) rfl rfl ?_
              refine qr_iload 85 rfl (qm_ge _ _ _) rfl ?_
              refine qr_bipush 87 rfl (by decide) rfl ?_
              refine qr_icmp_eq 93 90 rfl rfl rfl hv189 (by decide) (fun h194 => ?_) (fun h194 => ?_)
              · skip
                refine qr_iinc _ 96 rfl (qm_gk g166 (by decide) (Or.inr rfl)) (by decide) rfl rfl ?_
                refine qr_goto 19 rfl rfl ?_
                exact ih174 _ (u167 + 1) α190 (by omega) (qm_gk (qm_gk g162 (by decide) (Or.inl (by decide))) (by decide) (Or.inl (by decide))) (qm_gk (qm_gk g163 (by decide) (Or.inl (by decide))) (by decide) (Or.inl (by decide))) (qm_gk (qm_gk g164 (by decide) (Or.inl (by decide))) (by decide) (Or.inl (by decide))) (qm_gk (qm_gk g165 (by decide) (Or.inl (by decide))) (by decide) (Or.inr rfl)) (qm_ge _ _ _) (by omega) hI191 hF193
              · skip
                refine qr_iload 92 rfl (qm_ge _ _ _) rfl ?_
                refine qr_retI rfl rfl (by decide) (by decide) ?_
                exact ⟨_, rfl, hI191, hF193, v189, rfl, hv189⟩
            · skip
              refine qr_goto 93 rfl rfl ?_
              refine qr_iinc _ 96 rfl g166 (by decide) rfl rfl ?_
              refine qr_goto 19 rfl rfl ?_
              exact ih174 _ (u167 + 1) α169 (by omega) (qm_gk g162 (by decide) (Or.inl (by decide))) (qm_gk g163 (by decide) (Or.inl (by decide))) (qm_gk g164 (by decide) (Or.inl (by decide))) (qm_gk g165 (by decide) (Or.inr rfl)) (qm_ge _ _ _) (by omega) hI170 hF171
    exact hL173 ((6 - 0 + 1 : Int)).toNat _ 0 α (by omega) rfl rfl rfl rfl rfl (by decide) hI hF0

set_option maxHeartbeats 4000000 in
set_option maxRecDepth 20000 in
/-- OneRoof$Guests.depart -/
theorem sf_131_64t0 {L : Nat} {xs : Nat → Int} {vb : Bool} {d : Nat} {σ α : Nat → Nat → Int} {κ : Nat → Option Nat} {ρ : Nat} {x2 : Int} {x3 : Int} (hI : qI σ α κ ρ) (r2 : (-2147483648) ≤ x2 ∧ x2 ≤ 2147483647) (r3 : (-2147483648) ≤ x3 ∧ x3 ≤ 2147483647) (p0 : σ 64 2 ≤ 6) : qm_T (qe L xs vb) (d + 8) 131 [.ref 64, .int (qz 0), .int (qz x2), .int (qz x3)] (qw σ α κ ρ) (fun r w' => ∃ α', w' = qw σ α' κ ρ ∧ qI σ α' κ ρ ∧ qFr [] [69] σ α σ α' ∧ ∃ v : Int, r = some (.int (qz v)) ∧ ((-2147483648) ≤ v ∧ v ≤ 2147483647)) := by
  refine qr_start (d := d + 7) qv_e131 (Nat.le_of_ble_eq_true rfl) ?_
  show qr_W (qe L xs vb) (d + 7) qx_e131 _ (0, [(0, .ref 64), (1, .int (qz 0)), (2, .int (qz x2)), (3, .int (qz x3))], [], _, 0, 0)
  have hF0 := qFr_rf [] [69] σ α
  have hz64_2 : 0 ≤ σ 64 2 ∧ σ 64 2 ≤ 12 := hI.1 64 2
  refine qr_iload_n 1 rfl rfl rfl ?_
  refine qr_aload_n 2 rfl rfl rfl ?_
  refine qr_get 5 rfl rfl rfl (by decide) rfl ?_
  refine qr_icmp_ge 14 8 rfl rfl rfl (by decide) (qrg hz64_2 (by decide) (by decide)) (fun h1 => ?_) (fun h1 => ?_)
  · skip
    refine qr_iload_n 15 rfl rfl rfl ?_
    refine qr_retI rfl rfl (by decide) (by decide) ?_
    exact ⟨_, rfl, hI, hF0, x3, rfl, r3⟩
  · skip
    refine qr_iload_n 9 rfl rfl rfl ?_
    refine qr_bipush 11 rfl (by decide) rfl ?_
    refine qr_icmp_lt 16 14 rfl rfl rfl (by decide) (by decide) (fun h2 => ?_) (fun h => False.elim (by omega))
    refine qr_iconst 17 rfl rfl ?_
    refine qr_istore _ 19 rfl (by decide) rfl rfl ?_
    have hL173 : ∀ (n : Nat) (ls : qm_L) (u167 : Int) (α169 : Nat → Nat → Int), 6 - u167 < (n : Int) → qm_get ls 0 = some (.ref 64) → qm_get ls 1 = some (.int (qz 0)) → qm_get ls 2 = some (.int (qz x2)) → qm_get ls 3 = some (.int (qz x3)) → qm_get ls 4 = some (.int (qz u167)) → (0 ≤ u167 ∧ u167 ≤ 6) → qI σ α169 κ ρ → qFr [] [69] σ α σ α169 → qr_W (qe L xs vb) (d + 7) qx_e131 (fun r w' => ∃ α', w' = qw σ α' κ ρ ∧ qI σ α' κ ρ ∧ qFr [] [69] σ α σ α' ∧ ∃ v : Int, r = some (.int (qz v)) ∧ ((-2147483648) ≤ v ∧ v ≤ 2147483647)) (19, ls, [], qw σ α169 κ ρ, 0, 0) := by
      intro n
      induction n with
      | zero => intro ls u167 α169 hm g162 g163 g164 g165 g166 hf172 hI170 hF171; exact False.elim (by omega)
      | succ n ih174 =>
        intro ls u167 α169 hm g162 g163 g164 g165 g166 hf172 hI170 hF171
        refine qr_iload 21 rfl g166 rfl ?_
        refine qr_aload_n 22 rfl g162 rfl ?_
        refine qr_get 25 rfl rfl rfl (by decide) rfl ?_
        refine qr_icmp_ge 99 28 rfl rfl rfl (qrg hf172 (by decide) (by decide)) (qrg hz64_2 (by decide) (by decide)) (fun h175 => ?_) (fun h175 => ?_)
        · skip
          refine qr_bipush 101 rfl (by decide) rfl ?_
          refine qr_retI rfl rfl (by decide) (by decide) ?_
          exact ⟨_, rfl, hI170, hF171, (-2), rfl, (by decide)⟩
        · skip
          refine qr_iload_n 29 rfl g164 rfl ?_
          refine qr_i2l 30 rfl r2 rfl ?_
          refine qr_iload 32 rfl g166 rfl ?_
          refine qr_callN 35 rfl rfl rfl (sf_50 (d := d + 6) hI170 (qrg r2 (by decide) (by decide)) (qrg hf172 (by decide) (by decide))) ?_
          rintro _ _ ⟨rfl, v176, rfl, hv176⟩
          show qr_W (qe L xs vb) (d + 7) qx_e131 _ (35, _, [.int (qz v176)], qw σ α169 κ ρ, 0, 0)
          refine qr_if_ne 93 38 rfl rfl rfl (qrg hv176 (by decide) (by decide)) (fun h177 => ?_) (fun h177 => ?_)
          · skip
            refine qr_iinc _ 96 rfl g166 (by decide) rfl rfl ?_
            refine qr_goto 19 rfl rfl ?_
            exact ih174 _ (u167 + 1) α169 (by omega) (qm_gk g162 (by decide) (Or.inl (by decide))) (qm_gk g163 (by decide) (Or.inl (by decide))) (qm_gk g164 (by decide) (Or.inl (by decide))) (qm_gk g165 (by decide) (Or.inr rfl)) (qm_ge _ _ _) (by omega) hI170 hF171
          · skip
            refine qr_aload_n 39 rfl g162 rfl ?_
            refine qr_iload_n 40 rfl g163 rfl ?_
            refine qr_iload 42 rfl g166 rfl ?_
            refine qr_callN 45 rfl rfl rfl (sf_132_64 (d := d + 5) hI170 (by decide) (by omega)) ?_
            rintro _ _ ⟨rfl, v178, rfl, hv178⟩
            show qr_W (qe L xs vb) (d + 7) qx_e131 _ (45, _, [.int (qz v178)], qw σ α169 κ ρ, 0, 0)
            refine qr_if_eq 51 48 rfl rfl rfl (qrg hv178 (by decide) (by decide)) (fun h179 => ?_) (fun h179 => ?_)
            · skip
              refine qr_aload_n 52 rfl g162 rfl ?_
              refine qr_get 55 rfl rfl rfl (by decide) rfl ?_
              refine qr_iload_n 56 rfl g163 rfl ?_
              refine qr_iload 58 rfl g166 rfl ?_
              refine qr_iastore 59 rfl (by decide) rfl (by decide) (by decide) rfl ?_
              refine qy_wA (qw_r α169 69 (qzu (α169 69) (0 : Int).toNat u167)) rfl (fun α180 e181 => ?_)
              have hI182 : qI σ α180 κ ρ := by rw [e181]; exact qI_r hI170 69 _ rfl (show 0 ≤ u167 ∧ u167 ≤ 11 by omega)
              have hF183 : qFr [] [69] σ α σ α180 := by rw [e181]; exact qFr_r hF171 69 _ (by decide)
              refine qr_aload_n 60 rfl g162 rfl ?_
              refine qr_iload_n 61 rfl g163 rfl ?_
              refine qr_iconst 62 rfl rfl ?_
              refine qr_iadd 63 rfl rfl ?_
              refine qy_v 1 rfl ?_
              refine qr_iload_n 64 rfl g164 rfl ?_
              refine qr_iconst 65 rfl rfl ?_
              refine qr_iload 67 rfl g166 rfl ?_
              refine qr_ishl 68 rfl rfl ?_
              refine qy_shl1 (N := 5) (by omega) (fun v184 hv184 => ?_)
              refine qr_ior 69 rfl rfl ?_
              refine qy_can (fun v185 hv185 => ?_)
              refine qr_bipush 71 rfl (by decide) rfl ?_
              refine qr_iload_n 72 rfl g165 rfl ?_
              refine qr_imul 73 rfl rfl ?_
              refine qy_can (fun v186 hv186 => ?_)
              refine qr_iload 75 rfl g166 rfl ?_
              refine qr_iadd 76 rfl rfl ?_
              refine qy_can (fun v187 hv187 => ?_)
              refine qr_iconst 77 rfl rfl ?_
              refine qr_iadd 78 rfl rfl ?_
              refine qy_can (fun v188 hv188 => ?_)
              refine qr_callN 81 rfl rfl rfl (sf_131_64t1 (d := d + 0) hI182 hv185 hv188 (by omega)) ?_
              rintro _ _ ⟨α190, rfl, hI191, hG192, v189, rfl, hv189⟩
              have hF193 : qFr [] [69] σ α σ α190 := qFr_t hF183 hG192 (by decide) (by decide)
              show qr_W (qe L xs vb) (d + 7) qx_e131 _ (81, _, [.int (qz v189)], qw σ α190 κ ρ, 0, 0)
              refine qr_istore _ 83 rfl (by decide) rfl rfl ?_
              refine qr_iload 85 rfl (qm_ge _ _ _) rfl ?_
              refine qr_bipush 87 rfl (by decide) rfl ?_
              refine qr_icmp_eq 93 90 rfl rfl rfl hv189 (by decide) (fun h194 => ?_) (fun h194 => ?_)
              · skip
                refine qr_iinc _ 96 rfl (qm_gk g166 (by decide) (Or.inr rfl)) (by decide) rfl rfl ?_
                refine qr_goto 19 rfl rfl ?_
                exact ih174 _ (u167 + 1) α190 (by omega) (qm_gk (qm_gk g162 (by decide) (Or.inl (by decide))) (by decide) (Or.inl (by decide))) (qm_gk (qm_gk g163 (by decide) (Or.inl (by decide))) (by decide) (Or.inl (by decide))) (qm_gk (qm_gk g164 (by decide) (Or.inl (by decide))) (by decide) (Or.inl (by decide))) (qm_gk (qm_gk g165 (by decide) (Or.inl (by decide))) (by decide) (Or.inr rfl)) (qm_ge _ _ _) (by omega) hI191 hF193
              · skip
                refine qr_iload 92 rfl (qm_ge _ _ _) rfl ?_
                refine qr_retI rfl rfl (by decide) (by decide) ?_
                exact ⟨_, rfl, hI191, hF193, v189, rfl, hv189⟩
            · skip
              refine qr_goto 93 rfl rfl ?_
              refine qr_iinc _ 96 rfl g166 (by decide) rfl rfl ?_
              refine qr_goto 19 rfl rfl ?_
              exact ih174 _ (u167 + 1) α169 (by omega) (qm_gk g162 (by decide) (Or.inl (by decide))) (qm_gk g163 (by decide) (Or.inl (by decide))) (qm_gk g164 (by decide) (Or.inl (by decide))) (qm_gk g165 (by decide) (Or.inr rfl)) (qm_ge _ _ _) (by omega) hI170 hF171
    exact hL173 ((6 - 0 + 1 : Int)).toNat _ 0 α (by omega) rfl rfl rfl rfl rfl (by decide) hI hF0

set_option maxHeartbeats 4000000 in
set_option maxRecDepth 20000 in
/-- OneRoof$Guests.firstOrder -/
theorem sf_130_64 {L : Nat} {xs : Nat → Int} {vb : Bool} {d : Nat} {σ α : Nat → Nat → Int} {κ : Nat → Option Nat} {ρ : Nat}  (hI : qI σ α κ ρ) (p0 : σ 64 2 ≤ 6) : qm_T (qe L xs vb) (d + 9) 130 [.ref 64] (qw σ α κ ρ) (fun r w' => ∃ α', w' = qw σ α' κ ρ ∧ qI σ α' κ ρ ∧ qFr [] [69] σ α σ α' ∧ ∃ v : Int, r = some (.int (qz v)) ∧ ((-2147483648) ≤ v ∧ v ≤ 2147483647)) := by
  refine qr_start (d := d + 8) qv_e130 (Nat.le_of_ble_eq_true rfl) ?_
  show qr_W (qe L xs vb) (d + 8) qx_e130 _ (0, [(0, .ref 64)], [], _, 0, 0)
  have hF0 := qFr_rf [] [69] σ α
  have hz64_2 : 0 ≤ σ 64 2 ∧ σ 64 2 ≤ 12 := hI.1 64 2
  refine qr_aload_n 1 rfl rfl rfl ?_
  refine qr_iconst 2 rfl rfl ?_
  refine qr_iconst 3 rfl rfl ?_
  refine qr_iconst 4 rfl rfl ?_
  refine qr_callN 7 rfl rfl rfl (sf_131_64t0 (d := d + 0) hI (by decide) (by decide) (by omega)) ?_
  rintro _ _ ⟨α2, rfl, hI3, hG4, v1, rfl, hv1⟩
  have hF5 : qFr [] [69] σ α σ α2 := qFr_t hF0 hG4 (by decide) (by decide)
  show qr_W (qe L xs vb) (d + 8) qx_e130 _ (7, _, [.int (qz v1)], qw σ α2 κ ρ, 0, 0)
  refine qr_retI rfl rfl (by decide) (by decide) ?_
  exact ⟨_, rfl, hI3, hF5, v1, rfl, hv1⟩

set_option maxHeartbeats 4000000 in
set_option maxRecDepth 20000 in
/-- OneRoof$Acts.begin -/
theorem sf_153_42b1_0_0 {L : Nat} {xs : Nat → Int} {vb : Bool} {d : Nat} {σ α : Nat → Nat → Int} {κ : Nat → Option Nat} {ρ : Nat} {x4 : Int} {x5 : Int} {x6 : Int} (hI : qI σ α κ ρ) (r4 : (-2147483648) ≤ x4 ∧ x4 ≤ 2147483647) (r5 : (-2147483648) ≤ x5 ∧ x5 ≤ 2147483647) (r6 : 0 ≤ x6 ∧ x6 ≤ 40) (p0 : 0 ≤ σ 42 1 ∧ σ 42 1 ≤ 1900) : qm_T (qe L xs vb) (d + 1) 153 [.ref 42, .int (qz 1), .int (qz 0), .int (qz 0), .int (qz x4), .int (qz x5), .int (qz x6)] (qw σ α κ ρ) (fun r w' => ∃ σ' α', w' = qw σ' α' κ ρ ∧ qI σ' α' κ ρ ∧ qFr [(42, 1)] [43] σ α σ' α' ∧ ∃ v : Int, r = some (.int (qz v)) ∧ ((-2147483648) ≤ v ∧ v ≤ 2147483647) ∧ σ' 42 1 = σ 42 1 + 1) := by
  refine qr_start (d := d + 0) qv_e153 (Nat.le_of_ble_eq_true rfl) ?_
  show qr_W (qe L xs vb) (d + 0) qx_e153 _ (0, [(0, .ref 42), (1, .int (qz 1)), (2, .int (qz 0)), (3, .int (qz 0)), (4, .int (qz x4)), (5, .int (qz x5)), (6, .int (qz x6))], [], _, 0, 0)
  have hF0 := qFr_rf [(42, 1)] [43] σ α
  have hz42_1 : (-2147483648) ≤ σ 42 1 ∧ σ 42 1 ≤ 2147483647 := hI.1 42 1
  refine qr_aload_n 1 rfl rfl rfl ?_
  refine qr_get 4 rfl rfl rfl (by decide) rfl ?_
  refine qr_aload_n 5 rfl rfl rfl ?_
  refine qr_get 8 rfl rfl rfl (by decide) rfl ?_
  refine qr_alen 9 rfl rfl (by first | exact Or.inl (by decide) | exact Or.inr (Or.inl rfl) | exact Or.inr (Or.inr (Or.inl rfl)) | exact Or.inr (Or.inr (Or.inr (Or.inl rfl)))) rfl ?_
  refine qy_v 24 rfl ?_
  refine qr_icmp_ge 22 12 rfl rfl rfl hz42_1 (by decide) (fun h1 => ?_) (fun h1 => ?_)
  · skip
    refine qr_aload_n 23 rfl rfl rfl ?_
    refine qr_dup 24 rfl rfl rfl ?_
    refine qr_get 27 rfl rfl rfl (by decide) rfl ?_
    refine qr_iconst 28 rfl rfl ?_
    refine qr_iadd 29 rfl rfl ?_
    refine qr_put 32 rfl (by decide) rfl (Nat.le_of_ble_eq_true rfl) (Nat.le_of_ble_eq_true rfl) (Or.inl rfl) (qr_fitI rfl _) rfl ?_
    refine qy_wS (qw_s σ 42 1 ((σ 42 1) + 1)) rfl (fun σ2 e3 => ?_)
    have hI4 : qI σ2 α κ ρ := by rw [e3]; exact qI_s hI 42 1 rfl (show (-2147483648) ≤ ((σ 42 1) + 1) ∧ ((σ 42 1) + 1) ≤ 2147483647 by omega)
    have hF5 : qFr [(42, 1)] [43] σ α σ2 α := by rw [e3]; exact qFr_s hF0 42 1 _ (by decide)
    refine qr_getst 35 rfl rfl ?_
    refine qr_iload_n 36 rfl rfl rfl ?_
    refine qr_iaload 37 rfl rfl (by decide) (by decide) rfl ?_
    refine qy_v (-1) (by decide) ?_
    refine qr_istore _ 39 rfl (by decide) rfl rfl ?_
    refine qr_iload_n 40 rfl rfl rfl ?_
    refine qr_look (off := 108) 148 rfl (by omega) (by decide) (by decide) rfl ?_
    refine qr_iload 150 rfl rfl rfl ?_
    refine qr_iload 152 rfl rfl rfl ?_
    refine qr_iadd 153 rfl rfl ?_
    refine qy_can (fun v6 hv6 => ?_)
    refine qr_retI rfl rfl (by decide) (by decide) ?_
    have hw7 : σ2 42 1 = ((σ 42 1) + 1) := (congrFun (congrFun e3 42) 1).trans rfl
    exact ⟨_, _, rfl, hI4, hF5, v6, rfl, hv6, by omega⟩
  · skip
    refine qr_aload_n 13 rfl rfl rfl ?_
    refine qr_get 16 rfl rfl rfl (by decide) rfl ?_
    refine qr_aload_n 17 rfl rfl rfl ?_
    refine qr_get 20 rfl rfl rfl (by decide) rfl ?_
    refine qr_iload_n 21 rfl rfl rfl ?_
    refine qr_iastore 22 rfl (by decide) rfl (by omega) (by decide) rfl ?_
    refine qy_wA (qw_r α 43 (qzu (α 43) ((σ 42 1) : Int).toNat 1)) rfl (fun α8 e9 => ?_)
    have hI10 : qI σ α8 κ ρ := by rw [e9]; exact qI_r hI 43 _ rfl (show (-2147483648) ≤ 1 ∧ 1 ≤ 2147483647 by omega)
    have hF11 : qFr [(42, 1)] [43] σ α σ α8 := by rw [e9]; exact qFr_r hF0 43 _ (by decide)
    refine qr_aload_n 23 rfl rfl rfl ?_
    refine qr_dup 24 rfl rfl rfl ?_
    refine qr_get 27 rfl rfl rfl (by decide) rfl ?_
    refine qr_iconst 28 rfl rfl ?_
    refine qr_iadd 29 rfl rfl ?_
    refine qr_put 32 rfl (by decide) rfl (Nat.le_of_ble_eq_true rfl) (Nat.le_of_ble_eq_true rfl) (Or.inl rfl) (qr_fitI rfl _) rfl ?_
    refine qy_wS (qw_s σ 42 1 ((σ 42 1) + 1)) rfl (fun σ12 e13 => ?_)
    have hI14 : qI σ12 α8 κ ρ := by rw [e13]; exact qI_s hI10 42 1 rfl (show (-2147483648) ≤ ((σ 42 1) + 1) ∧ ((σ 42 1) + 1) ≤ 2147483647 by omega)
    have hF15 : qFr [(42, 1)] [43] σ α σ12 α8 := by rw [e13]; exact qFr_s hF11 42 1 _ (by decide)
    refine qr_getst 35 rfl rfl ?_
    refine qr_iload_n 36 rfl rfl rfl ?_
    refine qr_iaload 37 rfl rfl (by decide) (by decide) rfl ?_
    refine qy_v (-1) (by decide) ?_
    refine qr_istore _ 39 rfl (by decide) rfl rfl ?_
    refine qr_iload_n 40 rfl rfl rfl ?_
    refine qr_look (off := 108) 148 rfl (by omega) (by decide) (by decide) rfl ?_
    refine qr_iload 150 rfl rfl rfl ?_
    refine qr_iload 152 rfl rfl rfl ?_
    refine qr_iadd 153 rfl rfl ?_
    refine qy_can (fun v16 hv16 => ?_)
    refine qr_retI rfl rfl (by decide) (by decide) ?_
    have hw17 : σ12 42 1 = ((σ 42 1) + 1) := (congrFun (congrFun e13 42) 1).trans rfl
    exact ⟨_, _, rfl, hI14, hF15, v16, rfl, hv16, by omega⟩

set_option maxHeartbeats 4000000 in
set_option maxRecDepth 20000 in
/-- OneRoof$Acts.runFrom -/
theorem sf_152_42f0_0_0 {L : Nat} {xs : Nat → Int} {vb : Bool} {d : Nat} {σ α : Nat → Nat → Int} {κ : Nat → Option Nat} {ρ : Nat} {x4 : Int} {x5 : Int} {x6 : Int} (hI : qI σ α κ ρ) (r4 : (-2147483648) ≤ x4 ∧ x4 ≤ 2147483647) (r5 : (-2147483648) ≤ x5 ∧ x5 ≤ 2147483647) (r6 : 0 ≤ x6 ∧ x6 ≤ 39) (p0 : 0 ≤ σ 42 1 ∧ σ 42 1 ≤ 1900) : qm_T (qe L xs vb) (d + 2) 152 [.ref 42, .int (qz 0), .int (qz 0), .int (qz 0), .int (qz x4), .int (qz x5), .int (qz x6)] (qw σ α κ ρ) (fun r w' => ∃ σ' α', w' = qw σ' α' κ ρ ∧ qI σ' α' κ ρ ∧ qFr [(42, 1)] [43] σ α σ' α' ∧ ∃ v : Int, r = some (.int (qz v)) ∧ ((-2147483648) ≤ v ∧ v ≤ 2147483647) ∧ σ' 42 1 = σ 42 1 + 1) := by
  refine qr_start (d := d + 1) qv_e152 (Nat.le_of_ble_eq_true rfl) ?_
  show qr_W (qe L xs vb) (d + 1) qx_e152 _ (0, [(0, .ref 42), (1, .int (qz 0)), (2, .int (qz 0)), (3, .int (qz 0)), (4, .int (qz x4)), (5, .int (qz x5)), (6, .int (qz x6))], [], _, 0, 0)
  have hF0 := qFr_rf [(42, 1)] [43] σ α
  have hz42_1 : (-2147483648) ≤ σ 42 1 ∧ σ 42 1 ≤ 2147483647 := hI.1 42 1
  refine qr_iload_n 1 rfl rfl rfl ?_
  refine qr_istore _ 3 rfl (by decide) rfl rfl ?_
  refine qr_iconst 4 rfl rfl ?_
  refine qr_istore _ 6 rfl (by decide) rfl rfl ?_
  refine qr_iload 8 rfl rfl rfl ?_
  refine qr_getst 11 rfl rfl ?_
  refine qr_alen 12 rfl rfl (by first | exact Or.inl (by decide) | exact Or.inr (Or.inl rfl) | exact Or.inr (Or.inr (Or.inl rfl)) | exact Or.inr (Or.inr (Or.inr (Or.inl rfl)))) rfl ?_
  refine qy_v 7 rfl ?_
  refine qr_icmp_ge 89 15 rfl rfl rfl (by decide) (by decide) (fun h => False.elim (by omega)) (fun h1 => ?_)
  refine qr_iload 17 rfl rfl rfl ?_
  refine qr_if_lt 89 20 rfl rfl rfl (by decide) (fun h => False.elim (by omega)) (fun h2 => ?_)
  refine qr_iload 22 rfl rfl rfl ?_
  refine qr_getst 25 rfl rfl ?_
  refine qr_alen 26 rfl rfl (by first | exact Or.inl (by decide) | exact Or.inr (Or.inl rfl) | exact Or.inr (Or.inr (Or.inl rfl)) | exact Or.inr (Or.inr (Or.inr (Or.inl rfl)))) rfl ?_
  refine qy_v 7 rfl ?_
  refine qr_icmp_ge 89 29 rfl rfl rfl (by decide) (by decide) (fun h => False.elim (by omega)) (fun h3 => ?_)
  refine qr_getst 32 rfl rfl ?_
  refine qr_iload 34 rfl rfl rfl ?_
  refine qr_iconst 35 rfl rfl ?_
  refine qr_imul 36 rfl rfl ?_
  refine qy_v 0 rfl ?_
  refine qr_iload_n 37 rfl rfl rfl ?_
  refine qr_iadd 38 rfl rfl ?_
  refine qy_v 0 rfl ?_
  refine qr_iaload 39 rfl rfl (by decide) (by decide) rfl ?_
  refine qy_v 1 (by decide) ?_
  refine qr_istore _ 41 rfl (by decide) rfl rfl ?_
  refine qr_iload 43 rfl rfl rfl ?_
  refine qr_if_eq 75 46 rfl rfl rfl (by decide) (fun h => False.elim (by omega)) (fun h4 => ?_)
  refine qr_iload 48 rfl rfl rfl ?_
  refine qr_bipush 50 rfl (by decide) rfl ?_
  refine qr_icmp_le 57 53 rfl rfl rfl (qrg r6 (by decide) (by decide)) (by decide) (fun h5 => ?_) (fun h => False.elim (by omega))
  refine qr_aload_n 58 rfl rfl rfl ?_
  refine qr_iload 60 rfl rfl rfl ?_
  refine qr_iload 62 rfl rfl rfl ?_
  refine qr_iload_n 63 rfl rfl rfl ?_
  refine qr_iload 65 rfl rfl rfl ?_
  refine qr_iload 67 rfl rfl rfl ?_
  refine qr_iload 69 rfl rfl rfl ?_
  refine qr_iconst 70 rfl rfl ?_
  refine qr_iadd 71 rfl rfl ?_
  have hs6 : (-2147483648) ≤ σ 42 1 ∧ σ 42 1 ≤ 2147483647 := hI.1 42 1
  refine qr_callN 74 rfl rfl rfl (sf_153_42b1_0_0 (d := d + 0) hI r4 r5 (by omega) (by omega)) ?_
  have hs9 : (-2147483648) ≤ σ 42 1 ∧ σ 42 1 ≤ 2147483647 := hI.1 42 1
  rintro _ _ ⟨σ10, α11, rfl, hI12, hG13, v7, rfl, hv7, hp8⟩
  have hF14 : qFr [(42, 1)] [43] σ α σ10 α11 := qFr_t hF0 hG13 (by decide) (by decide)
  have hs15 : (-2147483648) ≤ σ10 42 1 ∧ σ10 42 1 ≤ 2147483647 := hI12.1 42 1
  show qr_W (qe L xs vb) (d + 1) qx_e152 _ (74, _, [.int (qz v7)], qw σ10 α11 κ ρ, 0, 0)
  refine qr_retI rfl rfl (by decide) (by decide) ?_
  have hw16 : σ10 42 1 = (σ10 42 1) := rfl
  exact ⟨_, _, rfl, hI12, hF14, v7, rfl, hv7, by omega⟩

set_option maxHeartbeats 4000000 in
set_option maxRecDepth 20000 in
/-- OneRoof$Acts.run -/
theorem sf_151_42r0_0 {L : Nat} {xs : Nat → Int} {vb : Bool} {d : Nat} {σ α : Nat → Nat → Int} {κ : Nat → Option Nat} {ρ : Nat} {x3 : Int} {x4 : Int} {x5 : Int} (hI : qI σ α κ ρ) (r3 : (-2147483648) ≤ x3 ∧ x3 ≤ 2147483647) (r4 : (-2147483648) ≤ x4 ∧ x4 ≤ 2147483647) (r5 : 0 ≤ x5 ∧ x5 ≤ 39) (p0 : 0 ≤ σ 42 1 ∧ σ 42 1 ≤ 1900) : qm_T (qe L xs vb) (d + 3) 151 [.ref 42, .int (qz 0), .int (qz 0), .int (qz x3), .int (qz x4), .int (qz x5)] (qw σ α κ ρ) (fun r w' => ∃ σ' α', w' = qw σ' α' κ ρ ∧ qI σ' α' κ ρ ∧ qFr [(42, 1)] [43] σ α σ' α' ∧ ∃ v : Int, r = some (.int (qz v)) ∧ ((-2147483648) ≤ v ∧ v ≤ 2147483647) ∧ σ' 42 1 = σ 42 1 + 1) := by
  refine qr_start (d := d + 2) qv_e151 (Nat.le_of_ble_eq_true rfl) ?_
  show qr_W (qe L xs vb) (d + 2) qx_e151 _ (0, [(0, .ref 42), (1, .int (qz 0)), (2, .int (qz 0)), (3, .int (qz x3)), (4, .int (qz x4)), (5, .int (qz x5))], [], _, 0, 0)
  have hF0 := qFr_rf [(42, 1)] [43] σ α
  have hz42_1 : (-2147483648) ≤ σ 42 1 ∧ σ 42 1 ≤ 2147483647 := hI.1 42 1
  refine qr_aload_n 1 rfl rfl rfl ?_
  refine qr_iload_n 2 rfl rfl rfl ?_
  refine qr_iload_n 3 rfl rfl rfl ?_
  refine qr_iload_n 4 rfl rfl rfl ?_
  refine qr_iload_n 5 rfl rfl rfl ?_
  refine qr_iload 7 rfl rfl rfl ?_
  refine qr_iload 9 rfl rfl rfl ?_
  have hs1 : (-2147483648) ≤ σ 42 1 ∧ σ 42 1 ≤ 2147483647 := hI.1 42 1
  refine qr_callN 12 rfl rfl rfl (sf_152_42f0_0_0 (d := d + 0) hI r3 r4 r5 (by omega)) ?_
  have hs4 : (-2147483648) ≤ σ 42 1 ∧ σ 42 1 ≤ 2147483647 := hI.1 42 1
  rintro _ _ ⟨σ5, α6, rfl, hI7, hG8, v2, rfl, hv2, hp3⟩
  have hF9 : qFr [(42, 1)] [43] σ α σ5 α6 := qFr_t hF0 hG8 (by decide) (by decide)
  have hs10 : (-2147483648) ≤ σ5 42 1 ∧ σ5 42 1 ≤ 2147483647 := hI7.1 42 1
  show qr_W (qe L xs vb) (d + 2) qx_e151 _ (12, _, [.int (qz v2)], qw σ5 α6 κ ρ, 0, 0)
  refine qr_retI rfl rfl (by decide) (by decide) ?_
  have hw11 : σ5 42 1 = (σ5 42 1) := rfl
  exact ⟨_, _, rfl, hI7, hF9, v2, rfl, hv2, by omega⟩

set_option maxHeartbeats 4000000 in
set_option maxRecDepth 20000 in
/-- OneRoof$Acts.start -/
theorem sf_150_42s0_0 {L : Nat} {xs : Nat → Int} {vb : Bool} {d : Nat} {σ α : Nat → Nat → Int} {κ : Nat → Option Nat} {ρ : Nat} {x3 : Int} {x4 : Int} (hI : qI σ α κ ρ) (r3 : (-2147483648) ≤ x3 ∧ x3 ≤ 2147483647) (r4 : (-2147483648) ≤ x4 ∧ x4 ≤ 2147483647) (p0 : σ 42 1 = 0) : qm_T (qe L xs vb) (d + 4) 150 [.ref 42, .int (qz 0), .int (qz 0), .int (qz x3), .int (qz x4)] (qw σ α κ ρ) (fun r w' => ∃ σ' α', w' = qw σ' α' κ ρ ∧ qI σ' α' κ ρ ∧ qFr [(42, 1)] [43] σ α σ' α' ∧ ∃ v : Int, r = some (.int (qz v)) ∧ ((-2147483648) ≤ v ∧ v ≤ 2147483647)) := by
  refine qr_start (d := d + 3) qv_e150 (Nat.le_of_ble_eq_true rfl) ?_
  show qr_W (qe L xs vb) (d + 3) qx_e150 _ (0, [(0, .ref 42), (1, .int (qz 0)), (2, .int (qz 0)), (3, .int (qz x3)), (4, .int (qz x4))], [], _, 0, 0)
  have hF0 := qFr_rf [(42, 1)] [43] σ α
  have hz42_1 : (-2147483648) ≤ σ 42 1 ∧ σ 42 1 ≤ 2147483647 := hI.1 42 1
  refine qr_aload_n 1 rfl rfl rfl ?_
  refine qr_iload_n 2 rfl rfl rfl ?_
  refine qr_iload_n 3 rfl rfl rfl ?_
  refine qr_iload_n 4 rfl rfl rfl ?_
  refine qr_iload 6 rfl rfl rfl ?_
  refine qr_iconst 7 rfl rfl ?_
  have hs1 : (-2147483648) ≤ σ 42 1 ∧ σ 42 1 ≤ 2147483647 := hI.1 42 1
  refine qr_callN 10 rfl rfl rfl (sf_151_42r0_0 (d := d + 0) hI r3 r4 (by decide) (by omega)) ?_
  have hs4 : (-2147483648) ≤ σ 42 1 ∧ σ 42 1 ≤ 2147483647 := hI.1 42 1
  rintro _ _ ⟨σ5, α6, rfl, hI7, hG8, v2, rfl, hv2, hp3⟩
  have hF9 : qFr [(42, 1)] [43] σ α σ5 α6 := qFr_t hF0 hG8 (by decide) (by decide)
  have hs10 : (-2147483648) ≤ σ5 42 1 ∧ σ5 42 1 ≤ 2147483647 := hI7.1 42 1
  show qr_W (qe L xs vb) (d + 3) qx_e150 _ (10, _, [.int (qz v2)], qw σ5 α6 κ ρ, 0, 0)
  refine qr_retI rfl rfl (by decide) (by decide) ?_
  exact ⟨_, _, rfl, hI7, hF9, v2, rfl, hv2⟩

set_option maxHeartbeats 4000000 in
set_option maxRecDepth 20000 in
/-- OneRoof$Acts.begin -/
theorem sf_153_42b1_0_1 {L : Nat} {xs : Nat → Int} {vb : Bool} {d : Nat} {σ α : Nat → Nat → Int} {κ : Nat → Option Nat} {ρ : Nat} {x4 : Int} {x5 : Int} {x6 : Int} (hI : qI σ α κ ρ) (r4 : (-2147483648) ≤ x4 ∧ x4 ≤ 2147483647) (r5 : (-2147483648) ≤ x5 ∧ x5 ≤ 2147483647) (r6 : 0 ≤ x6 ∧ x6 ≤ 40) (p0 : 0 ≤ σ 42 1 ∧ σ 42 1 ≤ 1900) : qm_T (qe L xs vb) (d + 1) 153 [.ref 42, .int (qz 1), .int (qz 0), .int (qz 1), .int (qz x4), .int (qz x5), .int (qz x6)] (qw σ α κ ρ) (fun r w' => ∃ σ' α', w' = qw σ' α' κ ρ ∧ qI σ' α' κ ρ ∧ qFr [(42, 1)] [43] σ α σ' α' ∧ ∃ v : Int, r = some (.int (qz v)) ∧ ((-2147483648) ≤ v ∧ v ≤ 2147483647) ∧ σ' 42 1 = σ 42 1 + 1) := by
  refine qr_start (d := d + 0) qv_e153 (Nat.le_of_ble_eq_true rfl) ?_
  show qr_W (qe L xs vb) (d + 0) qx_e153 _ (0, [(0, .ref 42), (1, .int (qz 1)), (2, .int (qz 0)), (3, .int (qz 1)), (4, .int (qz x4)), (5, .int (qz x5)), (6, .int (qz x6))], [], _, 0, 0)
  have hF0 := qFr_rf [(42, 1)] [43] σ α
  have hz42_1 : (-2147483648) ≤ σ 42 1 ∧ σ 42 1 ≤ 2147483647 := hI.1 42 1
  refine qr_aload_n 1 rfl rfl rfl ?_
  refine qr_get 4 rfl rfl rfl (by decide) rfl ?_
  refine qr_aload_n 5 rfl rfl rfl ?_
  refine qr_get 8 rfl rfl rfl (by decide) rfl ?_
  refine qr_alen 9 rfl rfl (by first | exact Or.inl (by decide) | exact Or.inr (Or.inl rfl) | exact Or.inr (Or.inr (Or.inl rfl)) | exact Or.inr (Or.inr (Or.inr (Or.inl rfl)))) rfl ?_
  refine qy_v 24 rfl ?_
  refine qr_icmp_ge 22 12 rfl rfl rfl hz42_1 (by decide) (fun h1 => ?_) (fun h1 => ?_)
  · skip
    refine qr_aload_n 23 rfl rfl rfl ?_
    refine qr_dup 24 rfl rfl rfl ?_
    refine qr_get 27 rfl rfl rfl (by decide) rfl ?_
    refine qr_iconst 28 rfl rfl ?_
    refine qr_iadd 29 rfl rfl ?_
    refine qr_put 32 rfl (by decide) rfl (Nat.le_of_ble_eq_true rfl) (Nat.le_of_ble_eq_true rfl) (Or.inl rfl) (qr_fitI rfl _) rfl ?_
    refine qy_wS (qw_s σ 42 1 ((σ 42 1) + 1)) rfl (fun σ2 e3 => ?_)
    have hI4 : qI σ2 α κ ρ := by rw [e3]; exact qI_s hI 42 1 rfl (show (-2147483648) ≤ ((σ 42 1) + 1) ∧ ((σ 42 1) + 1) ≤ 2147483647 by omega)
    have hF5 : qFr [(42, 1)] [43] σ α σ2 α := by rw [e3]; exact qFr_s hF0 42 1 _ (by decide)
    refine qr_getst 35 rfl rfl ?_
    refine qr_iload_n 36 rfl rfl rfl ?_
    refine qr_iaload 37 rfl rfl (by decide) (by decide) rfl ?_
    refine qy_v (-1) (by decide) ?_
    refine qr_istore _ 39 rfl (by decide) rfl rfl ?_
    refine qr_iload_n 40 rfl rfl rfl ?_
    refine qr_look (off := 108) 148 rfl (by omega) (by decide) (by decide) rfl ?_
    refine qr_iload 150 rfl rfl rfl ?_
    refine qr_iload 152 rfl rfl rfl ?_
    refine qr_iadd 153 rfl rfl ?_
    refine qy_can (fun v6 hv6 => ?_)
    refine qr_retI rfl rfl (by decide) (by decide) ?_
    have hw7 : σ2 42 1 = ((σ 42 1) + 1) := (congrFun (congrFun e3 42) 1).trans rfl
    exact ⟨_, _, rfl, hI4, hF5, v6, rfl, hv6, by omega⟩
  · skip
    refine qr_aload_n 13 rfl rfl rfl ?_
    refine qr_get 16 rfl rfl rfl (by decide) rfl ?_
    refine qr_aload_n 17 rfl rfl rfl ?_
    refine qr_get 20 rfl rfl rfl (by decide) rfl ?_
    refine qr_iload_n 21 rfl rfl rfl ?_
    refine qr_iastore 22 rfl (by decide) rfl (by omega) (by decide) rfl ?_
    refine qy_wA (qw_r α 43 (qzu (α 43) ((σ 42 1) : Int).toNat 1)) rfl (fun α8 e9 => ?_)
    have hI10 : qI σ α8 κ ρ := by rw [e9]; exact qI_r hI 43 _ rfl (show (-2147483648) ≤ 1 ∧ 1 ≤ 2147483647 by omega)
    have hF11 : qFr [(42, 1)] [43] σ α σ α8 := by rw [e9]; exact qFr_r hF0 43 _ (by decide)
    refine qr_aload_n 23 rfl rfl rfl ?_
    refine qr_dup 24 rfl rfl rfl ?_
    refine qr_get 27 rfl rfl rfl (by decide) rfl ?_
    refine qr_iconst 28 rfl rfl ?_
    refine qr_iadd 29 rfl rfl ?_
    refine qr_put 32 rfl (by decide) rfl (Nat.le_of_ble_eq_true rfl) (Nat.le_of_ble_eq_true rfl) (Or.inl rfl) (qr_fitI rfl _) rfl ?_
    refine qy_wS (qw_s σ 42 1 ((σ 42 1) + 1)) rfl (fun σ12 e13 => ?_)
    have hI14 : qI σ12 α8 κ ρ := by rw [e13]; exact qI_s hI10 42 1 rfl (show (-2147483648) ≤ ((σ 42 1) + 1) ∧ ((σ 42 1) + 1) ≤ 2147483647 by omega)
    have hF15 : qFr [(42, 1)] [43] σ α σ12 α8 := by rw [e13]; exact qFr_s hF11 42 1 _ (by decide)
    refine qr_getst 35 rfl rfl ?_
    refine qr_iload_n 36 rfl rfl rfl ?_
    refine qr_iaload 37 rfl rfl (by decide) (by decide) rfl ?_
    refine qy_v (-1) (by decide) ?_
    refine qr_istore _ 39 rfl (by decide) rfl rfl ?_
    refine qr_iload_n 40 rfl rfl rfl ?_
    refine qr_look (off := 108) 148 rfl (by omega) (by decide) (by decide) rfl ?_
    refine qr_iload 150 rfl rfl rfl ?_
    refine qr_iload 152 rfl rfl rfl ?_
    refine qr_iadd 153 rfl rfl ?_
    refine qy_can (fun v16 hv16 => ?_)
    refine qr_retI rfl rfl (by decide) (by decide) ?_
    have hw17 : σ12 42 1 = ((σ 42 1) + 1) := (congrFun (congrFun e13 42) 1).trans rfl
    exact ⟨_, _, rfl, hI14, hF15, v16, rfl, hv16, by omega⟩

set_option maxHeartbeats 4000000 in
set_option maxRecDepth 20000 in
/-- OneRoof$Acts.runFrom -/
theorem sf_152_42f0_1_0 {L : Nat} {xs : Nat → Int} {vb : Bool} {d : Nat} {σ α : Nat → Nat → Int} {κ : Nat → Option Nat} {ρ : Nat} {x4 : Int} {x5 : Int} {x6 : Int} (hI : qI σ α κ ρ) (r4 : (-2147483648) ≤ x4 ∧ x4 ≤ 2147483647) (r5 : (-2147483648) ≤ x5 ∧ x5 ≤ 2147483647) (r6 : 0 ≤ x6 ∧ x6 ≤ 39) (p0 : 0 ≤ σ 42 1 ∧ σ 42 1 ≤ 1900) : qm_T (qe L xs vb) (d + 2) 152 [.ref 42, .int (qz 0), .int (qz 1), .int (qz 0), .int (qz x4), .int (qz x5), .int (qz x6)] (qw σ α κ ρ) (fun r w' => ∃ σ' α', w' = qw σ' α' κ ρ ∧ qI σ' α' κ ρ ∧ qFr [(42, 1)] [43] σ α σ' α' ∧ ∃ v : Int, r = some (.int (qz v)) ∧ ((-2147483648) ≤ v ∧ v ≤ 2147483647) ∧ σ' 42 1 = σ 42 1 + 1) := by
  refine qr_start (d := d + 1) qv_e152 (Nat.le_of_ble_eq_true rfl) ?_
  show qr_W (qe L xs vb) (d + 1) qx_e152 _ (0, [(0, .ref 42), (1, .int (qz 0)), (2, .int (qz 1)), (3, .int (qz 0)), (4, .int (qz x4)), (5, .int (qz x5)), (6, .int (qz x6))], [], _, 0, 0)
  have hF0 := qFr_rf [(42, 1)] [43] σ α
  have hz42_1 : (-2147483648) ≤ σ 42 1 ∧ σ 42 1 ≤ 2147483647 := hI.1 42 1
  refine qr_iload_n 1 rfl rfl rfl ?_
  refine qr_istore _ 3 rfl (by decide) rfl rfl ?_
  refine qr_iconst 4 rfl rfl ?_
  refine qr_istore _ 6 rfl (by decide) rfl rfl ?_
  refine qr_iload 8 rfl rfl rfl ?_
  refine qr_getst 11 rfl rfl ?_
  refine qr_alen 12 rfl rfl (by first | exact Or.inl (by decide) | exact Or.inr (Or.inl rfl) | exact Or.inr (Or.inr (Or.inl rfl)) | exact Or.inr (Or.inr (Or.inr (Or.inl rfl)))) rfl ?_
  refine qy_v 7 rfl ?_
  refine qr_icmp_ge 89 15 rfl rfl rfl (by decide) (by decide) (fun h => False.elim (by omega)) (fun h1 => ?_)
  refine qr_iload 17 rfl rfl rfl ?_
  refine qr_if_lt 89 20 rfl rfl rfl (by decide) (fun h => False.elim (by omega)) (fun h2 => ?_)
  refine qr_iload 22 rfl rfl rfl ?_
  refine qr_getst 25 rfl rfl ?_
  refine qr_alen 26 rfl rfl (by first | exact Or.inl (by decide) | exact Or.inr (Or.inl rfl) | exact Or.inr (Or.inr (Or.inl rfl)) | exact Or.inr (Or.inr (Or.inr (Or.inl rfl)))) rfl ?_
  refine qy_v 7 rfl ?_
  refine qr_icmp_ge 89 29 rfl rfl rfl (by decide) (by decide) (fun h => False.elim (by omega)) (fun h3 => ?_)
  refine qr_getst 32 rfl rfl ?_
  refine qr_iload 34 rfl rfl rfl ?_
  refine qr_iconst 35 rfl rfl ?_
  refine qr_imul 36 rfl rfl ?_
  refine qy_v 0 rfl ?_
  refine qr_iload_n 37 rfl rfl rfl ?_
  refine qr_iadd 38 rfl rfl ?_
  refine qy_v 0 rfl ?_
  refine qr_iaload 39 rfl rfl (by decide) (by decide) rfl ?_
  refine qy_v 1 (by decide) ?_
  refine qr_istore _ 41 rfl (by decide) rfl rfl ?_
  refine qr_iload 43 rfl rfl rfl ?_
  refine qr_if_eq 75 46 rfl rfl rfl (by decide) (fun h => False.elim (by omega)) (fun h4 => ?_)
  refine qr_iload 48 rfl rfl rfl ?_
  refine qr_bipush 50 rfl (by decide) rfl ?_
  refine qr_icmp_le 57 53 rfl rfl rfl (qrg r6 (by decide) (by decide)) (by decide) (fun h5 => ?_) (fun h => False.elim (by omega))
  refine qr_aload_n 58 rfl rfl rfl ?_
  refine qr_iload 60 rfl rfl rfl ?_
  refine qr_iload 62 rfl rfl rfl ?_
  refine qr_iload_n 63 rfl rfl rfl ?_
  refine qr_iload 65 rfl rfl rfl ?_
  refine qr_iload 67 rfl rfl rfl ?_
  refine qr_iload 69 rfl rfl rfl ?_
  refine qr_iconst 70 rfl rfl ?_
  refine qr_iadd 71 rfl rfl ?_
  have hs6 : (-2147483648) ≤ σ 42 1 ∧ σ 42 1 ≤ 2147483647 := hI.1 42 1
  refine qr_callN 74 rfl rfl rfl (sf_153_42b1_0_1 (d := d + 0) hI r4 r5 (by omega) (by omega)) ?_
  have hs9 : (-2147483648) ≤ σ 42 1 ∧ σ 42 1 ≤ 2147483647 := hI.1 42 1
  rintro _ _ ⟨σ10, α11, rfl, hI12, hG13, v7, rfl, hv7, hp8⟩
  have hF14 : qFr [(42, 1)] [43] σ α σ10 α11 := qFr_t hF0 hG13 (by decide) (by decide)
  have hs15 : (-2147483648) ≤ σ10 42 1 ∧ σ10 42 1 ≤ 2147483647 := hI12.1 42 1
  show qr_W (qe L xs vb) (d + 1) qx_e152 _ (74, _, [.int (qz v7)], qw σ10 α11 κ ρ, 0, 0)
  refine qr_retI rfl rfl (by decide) (by decide) ?_
  have hw16 : σ10 42 1 = (σ10 42 1) := rfl
  exact ⟨_, _, rfl, hI12, hF14, v7, rfl, hv7, by omega⟩

set_option maxHeartbeats 4000000 in
set_option maxRecDepth 20000 in
/-- OneRoof$Acts.begin -/
theorem sf_153_42b20_1_1 {L : Nat} {xs : Nat → Int} {vb : Bool} {d : Nat} {σ α : Nat → Nat → Int} {κ : Nat → Option Nat} {ρ : Nat} {x4 : Int} {x5 : Int} {x6 : Int} (hI : qI σ α κ ρ) (r4 : (-2147483648) ≤ x4 ∧ x4 ≤ 2147483647) (r5 : (-2147483648) ≤ x5 ∧ x5 ≤ 2147483647) (r6 : 0 ≤ x6 ∧ x6 ≤ 39) (p0 : 0 ≤ σ 42 1 ∧ σ 42 1 ≤ 1800) : qm_T (qe L xs vb) (d + 3) 153 [.ref 42, .int (qz 20), .int (qz 1), .int (qz 1), .int (qz x4), .int (qz x5), .int (qz x6)] (qw σ α κ ρ) (fun r w' => ∃ σ' α', w' = qw σ' α' κ ρ ∧ qI σ' α' κ ρ ∧ qFr [(42, 1)] [43] σ α σ' α' ∧ ∃ v : Int, r = some (.int (qz v)) ∧ ((-2147483648) ≤ v ∧ v ≤ 2147483647) ∧ σ' 42 1 = σ 42 1 + 2) := by
  refine qr_start (d := d + 2) qv_e153 (Nat.le_of_ble_eq_true rfl) ?_
  show qr_W (qe L xs vb) (d + 2) qx_e153 _ (0, [(0, .ref 42), (1, .int (qz 20)), (2, .int (qz 1)), (3, .int (qz 1)), (4, .int (qz x4)), (5, .int (qz x5)), (6, .int (qz x6))], [], _, 0, 0)
  have hF0 := qFr_rf [(42, 1)] [43] σ α
  have hz42_1 : (-2147483648) ≤ σ 42 1 ∧ σ 42 1 ≤ 2147483647 := hI.1 42 1
  refine qr_aload_n 1 rfl rfl rfl ?_
  refine qr_get 4 rfl rfl rfl (by decide) rfl ?_
  refine qr_aload_n 5 rfl rfl rfl ?_
  refine qr_get 8 rfl rfl rfl (by decide) rfl ?_
  refine qr_alen 9 rfl rfl (by first | exact Or.inl (by decide) | exact Or.inr (Or.inl rfl) | exact Or.inr (Or.inr (Or.inl rfl)) | exact Or.inr (Or.inr (Or.inr (Or.inl rfl)))) rfl ?_
  refine qy_v 24 rfl ?_
  refine qr_icmp_ge 22 12 rfl rfl rfl hz42_1 (by decide) (fun h1 => ?_) (fun h1 => ?_)
  · skip
    refine qr_aload_n 23 rfl rfl rfl ?_
    refine qr_dup 24 rfl rfl rfl ?_
    refine qr_get 27 rfl rfl rfl (by decide) rfl ?_
    refine qr_iconst 28 rfl rfl ?_
    refine qr_iadd 29 rfl rfl ?_
    refine qr_put 32 rfl (by decide) rfl (Nat.le_of_ble_eq_true rfl) (Nat.le_of_ble_eq_true rfl) (Or.inl rfl) (qr_fitI rfl _) rfl ?_
    refine qy_wS (qw_s σ 42 1 ((σ 42 1) + 1)) rfl (fun σ2 e3 => ?_)
    have hI4 : qI σ2 α κ ρ := by rw [e3]; exact qI_s hI 42 1 rfl (show (-2147483648) ≤ ((σ 42 1) + 1) ∧ ((σ 42 1) + 1) ≤ 2147483647 by omega)
    have hF5 : qFr [(42, 1)] [43] σ α σ2 α := by rw [e3]; exact qFr_s hF0 42 1 _ (by decide)
    refine qr_getst 35 rfl rfl ?_
    refine qr_iload_n 36 rfl rfl rfl ?_
    refine qr_iaload 37 rfl rfl (by decide) (by decide) rfl ?_
    refine qy_v 0 (by decide) ?_
    refine qr_istore _ 39 rfl (by decide) rfl rfl ?_
    refine qr_iload_n 40 rfl rfl rfl ?_
    refine qr_look (off := 160) 200 rfl (by omega) (by decide) (by decide) rfl ?_
    refine qr_aload_n 201 rfl rfl rfl ?_
    refine qr_iload 203 rfl rfl rfl ?_
    refine qr_iload_n 204 rfl rfl rfl ?_
    refine qr_iconst 205 rfl rfl ?_
    refine qr_iload 207 rfl rfl rfl ?_
    refine qr_iload 209 rfl rfl rfl ?_
    refine qr_iload 211 rfl rfl rfl ?_
    have hs6 : (-2147483648) ≤ σ2 42 1 ∧ σ2 42 1 ≤ 2147483647 := hI4.1 42 1
    have hs7 : σ2 42 1 = ((σ 42 1) + 1) := (congrFun (congrFun e3 42) 1).trans rfl
    refine qr_callN 214 rfl rfl rfl (sf_152_42f0_1_0 (d := d + 0) hI4 r4 r5 r6 (by omega)) ?_
    have hs10 : (-2147483648) ≤ σ2 42 1 ∧ σ2 42 1 ≤ 2147483647 := hI4.1 42 1
    have hs11 : σ2 42 1 = ((σ 42 1) + 1) := (congrFun (congrFun e3 42) 1).trans rfl
    rintro _ _ ⟨σ12, α13, rfl, hI14, hG15, v8, rfl, hv8, hp9⟩
    have hF16 : qFr [(42, 1)] [43] σ α σ12 α13 := qFr_t hF5 hG15 (by decide) (by decide)
    have hs17 : (-2147483648) ≤ σ12 42 1 ∧ σ12 42 1 ≤ 2147483647 := hI14.1 42 1
    show qr_W (qe L xs vb) (d + 2) qx_e153 _ (214, _, [.int (qz v8)], qw σ12 α13 κ ρ, 0, 0)
    refine qr_iconst 215 rfl rfl ?_
    refine qr_iadd 216 rfl rfl ?_
    refine qy_can (fun v18 hv18 => ?_)
    refine qr_retI rfl rfl (by decide) (by decide) ?_
    have hw19 : σ12 42 1 = (σ12 42 1) := rfl
    exact ⟨_, _, rfl, hI14, hF16, v18, rfl, hv18, by omega⟩
  · skip
    refine qr_aload_n 13 rfl rfl rfl ?_
    refine qr_get 16 rfl rfl rfl (by decide) rfl ?_
    refine qr_aload_n 17 rfl rfl rfl ?_
    refine qr_get 20 rfl rfl rfl (by decide) rfl ?_
    refine qr_iload_n 21 rfl rfl rfl ?_
    refine qr_iastore 22 rfl (by decide) rfl (by omega) (by decide) rfl ?_
    refine qy_wA (qw_r α 43 (qzu (α 43) ((σ 42 1) : Int).toNat 20)) rfl (fun α20 e21 => ?_)
    have hI22 : qI σ α20 κ ρ := by rw [e21]; exact qI_r hI 43 _ rfl (show (-2147483648) ≤ 20 ∧ 20 ≤ 2147483647 by omega)
    have hF23 : qFr [(42, 1)] [43] σ α σ α20 := by rw [e21]; exact qFr_r hF0 43 _ (by decide)
    refine qr_aload_n 23 rfl rfl rfl ?_
    refine qr_dup 24 rfl rfl rfl ?_
    refine qr_get 27 rfl rfl rfl (by decide) rfl ?_
    refine qr_iconst 28 rfl rfl ?_
    refine qr_iadd 29 rfl rfl ?_
    refine qr_put 32 rfl (by decide) rfl (Nat.le_of_ble_eq_true rfl) (Nat.le_of_ble_eq_true rfl) (Or.inl rfl) (qr_fitI rfl _) rfl ?_
    refine qy_wS (qw_s σ 42 1 ((σ 42 1) + 1)) rfl (fun σ24 e25 => ?_)
    have hI26 : qI σ24 α20 κ ρ := by rw [e25]; exact qI_s hI22 42 1 rfl (show (-2147483648) ≤ ((σ 42 1) + 1) ∧ ((σ 42 1) + 1) ≤ 2147483647 by omega)
    have hF27 : qFr [(42, 1)] [43] σ α σ24 α20 := by rw [e25]; exact qFr_s hF23 42 1 _ (by decide)
    refine qr_getst 35 rfl rfl ?_
    refine qr_iload_n 36 rfl rfl rfl ?_
    refine qr_iaload 37 rfl rfl (by decide) (by decide) rfl ?_
    refine qy_v 0 (by decide) ?_
    refine qr_istore _ 39 rfl (by decide) rfl rfl ?_
    refine qr_iload_n 40 rfl rfl rfl ?_
    refine qr_look (off := 160) 200 rfl (by omega) (by decide) (by decide) rfl ?_
    refine qr_aload_n 201 rfl rfl rfl ?_
    refine qr_iload 203 rfl rfl rfl ?_
    refine qr_iload_n 204 rfl rfl rfl ?_
    refine qr_iconst 205 rfl rfl ?_
    refine qr_iload 207 rfl rfl rfl ?_
    refine qr_iload 209 rfl rfl rfl ?_
    refine qr_iload 211 rfl rfl rfl ?_
    have hs28 : (-2147483648) ≤ σ24 42 1 ∧ σ24 42 1 ≤ 2147483647 := hI26.1 42 1
    have hs29 : σ24 42 1 = ((σ 42 1) + 1) := (congrFun (congrFun e25 42) 1).trans rfl
    refine qr_callN 214 rfl rfl rfl (sf_152_42f0_1_0 (d := d + 0) hI26 r4 r5 r6 (by omega)) ?_
    have hs32 : (-2147483648) ≤ σ24 42 1 ∧ σ24 42 1 ≤ 2147483647 := hI26.1 42 1
    have hs33 : σ24 42 1 = ((σ 42 1) + 1) := (congrFun (congrFun e25 42) 1).trans rfl
    rintro _ _ ⟨σ34, α35, rfl, hI36, hG37, v30, rfl, hv30, hp31⟩
    have hF38 : qFr [(42, 1)] [43] σ α σ34 α35 := qFr_t hF27 hG37 (by decide) (by decide)
    have hs39 : (-2147483648) ≤ σ34 42 1 ∧ σ34 42 1 ≤ 2147483647 := hI36.1 42 1
    show qr_W (qe L xs vb) (d + 2) qx_e153 _ (214, _, [.int (qz v30)], qw σ34 α35 κ ρ, 0, 0)
    refine qr_iconst 215 rfl rfl ?_
    refine qr_iadd 216 rfl rfl ?_
    refine qy_can (fun v40 hv40 => ?_)
    refine qr_retI rfl rfl (by decide) (by decide) ?_
    have hw41 : σ34 42 1 = (σ34 42 1) := rfl
    exact ⟨_, _, rfl, hI36, hF38, v40, rfl, hv40, by omega⟩

set_option maxHeartbeats 4000000 in
set_option maxRecDepth 20000 in
/-- OneRoof$Acts.runFrom -/
theorem sf_152_42f1_1_0 {L : Nat} {xs : Nat → Int} {vb : Bool} {d : Nat} {σ α : Nat → Nat → Int} {κ : Nat → Option Nat} {ρ : Nat} {x4 : Int} {x5 : Int} {x6 : Int} (hI : qI σ α κ ρ) (r4 : (-2147483648) ≤ x4 ∧ x4 ≤ 2147483647) (r5 : (-2147483648) ≤ x5 ∧ x5 ≤ 2147483647) (r6 : 0 ≤ x6 ∧ x6 ≤ 38) (p0 : 0 ≤ σ 42 1 ∧ σ 42 1 ≤ 1800) : qm_T (qe L xs vb) (d + 4) 152 [.ref 42, .int (qz 1), .int (qz 1), .int (qz 0), .int (qz x4), .int (qz x5), .int (qz x6)] (qw σ α κ ρ) (fun r w' => ∃ σ' α', w' = qw σ' α' κ ρ ∧ qI σ' α' κ ρ ∧ qFr [(42, 1)] [43] σ α σ' α' ∧ ∃ v : Int, r = some (.int (qz v)) ∧ ((-2147483648) ≤ v ∧ v ≤ 2147483647) ∧ σ' 42 1 = σ 42 1 + 2) := by
  refine qr_start (d := d + 3) qv_e152 (Nat.le_of_ble_eq_true rfl) ?_
  show qr_W (qe L xs vb) (d + 3) qx_e152 _ (0, [(0, .ref 42), (1, .int (qz 1)), (2, .int (qz 1)), (3, .int (qz 0)), (4, .int (qz x4)), (5, .int (qz x5)), (6, .int (qz x6))], [], _, 0, 0)
  have hF0 := qFr_rf [(42, 1)] [43] σ α
  have hz42_1 : (-2147483648) ≤ σ 42 1 ∧ σ 42 1 ≤ 2147483647 := hI.1 42 1
  refine qr_iload_n 1 rfl rfl rfl ?_
  refine qr_istore _ 3 rfl (by decide) rfl rfl ?_
  refine qr_iconst 4 rfl rfl ?_
  refine qr_istore _ 6 rfl (by decide) rfl rfl ?_
  refine qr_iload 8 rfl rfl rfl ?_
  refine qr_getst 11 rfl rfl ?_
  refine qr_alen 12 rfl rfl (by first | exact Or.inl (by decide) | exact Or.inr (Or.inl rfl) | exact Or.inr (Or.inr (Or.inl rfl)) | exact Or.inr (Or.inr (Or.inr (Or.inl rfl)))) rfl ?_
  refine qy_v 7 rfl ?_
  refine qr_icmp_ge 89 15 rfl rfl rfl (by decide) (by decide) (fun h => False.elim (by omega)) (fun h1 => ?_)
  refine qr_iload 17 rfl rfl rfl ?_
  refine qr_if_lt 89 20 rfl rfl rfl (by decide) (fun h => False.elim (by omega)) (fun h2 => ?_)
  refine qr_iload 22 rfl rfl rfl ?_
  refine qr_getst 25 rfl rfl ?_
  refine qr_alen 26 rfl rfl (by first | exact Or.inl (by decide) | exact Or.inr (Or.inl rfl) | exact Or.inr (Or.inr (Or.inl rfl)) | exact Or.inr (Or.inr (Or.inr (Or.inl rfl)))) rfl ?_
  refine qy_v 7 rfl ?_
  refine qr_icmp_ge 89 29 rfl rfl rfl (by decide) (by decide) (fun h => False.elim (by omega)) (fun h3 => ?_)
  refine qr_getst 32 rfl rfl ?_
  refine qr_iload 34 rfl rfl rfl ?_
  refine qr_iconst 35 rfl rfl ?_
  refine qr_imul 36 rfl rfl ?_
  refine qy_v 4 rfl ?_
  refine qr_iload_n 37 rfl rfl rfl ?_
  refine qr_iadd 38 rfl rfl ?_
  refine qy_v 4 rfl ?_
  refine qr_iaload 39 rfl rfl (by decide) (by decide) rfl ?_
  refine qy_v 20 (by decide) ?_
  refine qr_istore _ 41 rfl (by decide) rfl rfl ?_
  refine qr_iload 43 rfl rfl rfl ?_
  refine qr_if_eq 75 46 rfl rfl rfl (by decide) (fun h => False.elim (by omega)) (fun h4 => ?_)
  refine qr_iload 48 rfl rfl rfl ?_
  refine qr_bipush 50 rfl (by decide) rfl ?_
  refine qr_icmp_le 57 53 rfl rfl rfl (qrg r6 (by decide) (by decide)) (by decide) (fun h5 => ?_) (fun h => False.elim (by omega))
  refine qr_aload_n 58 rfl rfl rfl ?_
  refine qr_iload 60 rfl rfl rfl ?_
  refine qr_iload 62 rfl rfl rfl ?_
  refine qr_iload_n 63 rfl rfl rfl ?_
  refine qr_iload 65 rfl rfl rfl ?_
  refine qr_iload 67 rfl rfl rfl ?_
  refine qr_iload 69 rfl rfl rfl ?_
  refine qr_iconst 70 rfl rfl ?_
  refine qr_iadd 71 rfl rfl ?_
  have hs6 : (-2147483648) ≤ σ 42 1 ∧ σ 42 1 ≤ 2147483647 := hI.1 42 1
  refine qr_callN 74 rfl rfl rfl (sf_153_42b20_1_1 (d := d + 0) hI r4 r5 (by omega) (by omega)) ?_
  have hs9 : (-2147483648) ≤ σ 42 1 ∧ σ 42 1 ≤ 2147483647 := hI.1 42 1
  rintro _ _ ⟨σ10, α11, rfl, hI12, hG13, v7, rfl, hv7, hp8⟩
  have hF14 : qFr [(42, 1)] [43] σ α σ10 α11 := qFr_t hF0 hG13 (by decide) (by decide)
  have hs15 : (-2147483648) ≤ σ10 42 1 ∧ σ10 42 1 ≤ 2147483647 := hI12.1 42 1
  show qr_W (qe L xs vb) (d + 3) qx_e152 _ (74, _, [.int (qz v7)], qw σ10 α11 κ ρ, 0, 0)
  refine qr_retI rfl rfl (by decide) (by decide) ?_
  have hw16 : σ10 42 1 = (σ10 42 1) := rfl
  exact ⟨_, _, rfl, hI12, hF14, v7, rfl, hv7, by omega⟩

set_option maxHeartbeats 4000000 in
set_option maxRecDepth 20000 in
/-- OneRoof$Acts.run -/
theorem sf_151_42r1_0 {L : Nat} {xs : Nat → Int} {vb : Bool} {d : Nat} {σ α : Nat → Nat → Int} {κ : Nat → Option Nat} {ρ : Nat} {x3 : Int} {x4 : Int} {x5 : Int} (hI : qI σ α κ ρ) (r3 : (-2147483648) ≤ x3 ∧ x3 ≤ 2147483647) (r4 : (-2147483648) ≤ x4 ∧ x4 ≤ 2147483647) (r5 : 0 ≤ x5 ∧ x5 ≤ 38) (p0 : 0 ≤ σ 42 1 ∧ σ 42 1 ≤ 1800) : qm_T (qe L xs vb) (d + 5) 151 [.ref 42, .int (qz 1), .int (qz 0), .int (qz x3), .int (qz x4), .int (qz x5)] (qw σ α κ ρ) (fun r w' => ∃ σ' α', w' = qw σ' α' κ ρ ∧ qI σ' α' κ ρ ∧ qFr [(42, 1)] [43] σ α σ' α' ∧ ∃ v : Int, r = some (.int (qz v)) ∧ ((-2147483648) ≤ v ∧ v ≤ 2147483647) ∧ σ' 42 1 = σ 42 1 + 2) := by
  refine qr_start (d := d + 4) qv_e151 (Nat.le_of_ble_eq_true rfl) ?_
  show qr_W (qe L xs vb) (d + 4) qx_e151 _ (0, [(0, .ref 42), (1, .int (qz 1)), (2, .int (qz 0)), (3, .int (qz x3)), (4, .int (qz x4)), (5, .int (qz x5))], [], _, 0, 0)
  have hF0 := qFr_rf [(42, 1)] [43] σ α
  have hz42_1 : (-2147483648) ≤ σ 42 1 ∧ σ 42 1 ≤ 2147483647 := hI.1 42 1
  refine qr_aload_n 1 rfl rfl rfl ?_
  refine qr_iload_n 2 rfl rfl rfl ?_
  refine qr_iload_n 3 rfl rfl rfl ?_
  refine qr_iload_n 4 rfl rfl rfl ?_
  refine qr_iload_n 5 rfl rfl rfl ?_
  refine qr_iload 7 rfl rfl rfl ?_
  refine qr_iload 9 rfl rfl rfl ?_
  have hs1 : (-2147483648) ≤ σ 42 1 ∧ σ 42 1 ≤ 2147483647 := hI.1 42 1
  refine qr_callN 12 rfl rfl rfl (sf_152_42f1_1_0 (d := d + 0) hI r3 r4 r5 (by omega)) ?_
  have hs4 : (-2147483648) ≤ σ 42 1 ∧ σ 42 1 ≤ 2147483647 := hI.1 42 1
  rintro _ _ ⟨σ5, α6, rfl, hI7, hG8, v2, rfl, hv2, hp3⟩
  have hF9 : qFr [(42, 1)] [43] σ α σ5 α6 := qFr_t hF0 hG8 (by decide) (by decide)
  have hs10 : (-2147483648) ≤ σ5 42 1 ∧ σ5 42 1 ≤ 2147483647 := hI7.1 42 1
  show qr_W (qe L xs vb) (d + 4) qx_e151 _ (12, _, [.int (qz v2)], qw σ5 α6 κ ρ, 0, 0)
  refine qr_retI rfl rfl (by decide) (by decide) ?_
  have hw11 : σ5 42 1 = (σ5 42 1) := rfl
  exact ⟨_, _, rfl, hI7, hF9, v2, rfl, hv2, by omega⟩

set_option maxHeartbeats 4000000 in
set_option maxRecDepth 20000 in
/-- OneRoof$Acts.start -/
theorem sf_150_42s1_0 {L : Nat} {xs : Nat → Int} {vb : Bool} {d : Nat} {σ α : Nat → Nat → Int} {κ : Nat → Option Nat} {ρ : Nat} {x3 : Int} {x4 : Int} (hI : qI σ α κ ρ) (r3 : (-2147483648) ≤ x3 ∧ x3 ≤ 2147483647) (r4 : (-2147483648) ≤ x4 ∧ x4 ≤ 2147483647) (p0 : σ 42 1 = 0) : qm_T (qe L xs vb) (d + 6) 150 [.ref 42, .int (qz 1), .int (qz 0), .int (qz x3), .int (qz x4)] (qw σ α κ ρ) (fun r w' => ∃ σ' α', w' = qw σ' α' κ ρ ∧ qI σ' α' κ ρ ∧ qFr [(42, 1)] [43] σ α σ' α' ∧ ∃ v : Int, r = some (.int (qz v)) ∧ ((-2147483648) ≤ v ∧ v ≤ 2147483647)) := by
  refine qr_start (d := d + 5) qv_e150 (Nat.le_of_ble_eq_true rfl) ?_
  show qr_W (qe L xs vb) (d + 5) qx_e150 _ (0, [(0, .ref 42), (1, .int (qz 1)), (2, .int (qz 0)), (3, .int (qz x3)), (4, .int (qz x4))], [], _, 0, 0)
  have hF0 := qFr_rf [(42, 1)] [43] σ α
  have hz42_1 : (-2147483648) ≤ σ 42 1 ∧ σ 42 1 ≤ 2147483647 := hI.1 42 1
  refine qr_aload_n 1 rfl rfl rfl ?_
  refine qr_iload_n 2 rfl rfl rfl ?_
  refine qr_iload_n 3 rfl rfl rfl ?_
  refine qr_iload_n 4 rfl rfl rfl ?_
  refine qr_iload 6 rfl rfl rfl ?_
  refine qr_iconst 7 rfl rfl ?_
  have hs1 : (-2147483648) ≤ σ 42 1 ∧ σ 42 1 ≤ 2147483647 := hI.1 42 1
  refine qr_callN 10 rfl rfl rfl (sf_151_42r1_0 (d := d + 0) hI r3 r4 (by decide) (by omega)) ?_
  have hs4 : (-2147483648) ≤ σ 42 1 ∧ σ 42 1 ≤ 2147483647 := hI.1 42 1
  rintro _ _ ⟨σ5, α6, rfl, hI7, hG8, v2, rfl, hv2, hp3⟩
  have hF9 : qFr [(42, 1)] [43] σ α σ5 α6 := qFr_t hF0 hG8 (by decide) (by decide)
  have hs10 : (-2147483648) ≤ σ5 42 1 ∧ σ5 42 1 ≤ 2147483647 := hI7.1 42 1
  show qr_W (qe L xs vb) (d + 5) qx_e150 _ (10, _, [.int (qz v2)], qw σ5 α6 κ ρ, 0, 0)
  refine qr_retI rfl rfl (by decide) (by decide) ?_
  exact ⟨_, _, rfl, hI7, hF9, v2, rfl, hv2⟩

set_option maxHeartbeats 4000000 in
set_option maxRecDepth 20000 in
/-- OneRoof$Acts.begin -/
theorem sf_153_42b1_0_2 {L : Nat} {xs : Nat → Int} {vb : Bool} {d : Nat} {σ α : Nat → Nat → Int} {κ : Nat → Option Nat} {ρ : Nat} {x4 : Int} {x5 : Int} {x6 : Int} (hI : qI σ α κ ρ) (r4 : (-2147483648) ≤ x4 ∧ x4 ≤ 2147483647) (r5 : (-2147483648) ≤ x5 ∧ x5 ≤ 2147483647) (r6 : 0 ≤ x6 ∧ x6 ≤ 40) (p0 : 0 ≤ σ 42 1 ∧ σ 42 1 ≤ 1900) : qm_T (qe L xs vb) (d + 1) 153 [.ref 42, .int (qz 1), .int (qz 0), .int (qz 2), .int (qz x4), .int (qz x5), .int (qz x6)] (qw σ α κ ρ) (fun r w' => ∃ σ' α', w' = qw σ' α' κ ρ ∧ qI σ' α' κ ρ ∧ qFr [(42, 1)] [43] σ α σ' α' ∧ ∃ v : Int, r = some (.int (qz v)) ∧ ((-2147483648) ≤ v ∧ v ≤ 2147483647) ∧ σ' 42 1 = σ 42 1 + 1) := by
  refine qr_start (d := d + 0) qv_e153 (Nat.le_of_ble_eq_true rfl) ?_
  show qr_W (qe L xs vb) (d + 0) qx_e153 _ (0, [(0, .ref 42), (1, .int (qz 1)), (2, .int (qz 0)), (3, .int (qz 2)), (4, .int (qz x4)), (5, .int (qz x5)), (6, .int (qz x6))], [], _, 0, 0)
  have hF0 := qFr_rf [(42, 1)] [43] σ α
  have hz42_1 : (-2147483648) ≤ σ 42 1 ∧ σ 42 1 ≤ 2147483647 := hI.1 42 1
  refine qr_aload_n 1 rfl rfl rfl ?_
  refine qr_get 4 rfl rfl rfl (by decide) rfl ?_
  refine qr_aload_n 5 rfl rfl rfl ?_
  refine qr_get 8 rfl rfl rfl (by decide) rfl ?_
  refine qr_alen 9 rfl rfl (by first | exact Or.inl (by decide) | exact Or.inr (Or.inl rfl) | exact Or.inr (Or.inr (Or.inl rfl)) | exact Or.inr (Or.inr (Or.inr (Or.inl rfl)))) rfl ?_
  refine qy_v 24 rfl ?_
  refine qr_icmp_ge 22 12 rfl rfl rfl hz42_1 (by decide) (fun h1 => ?_) (fun h1 => ?_)
  · skip
    refine qr_aload_n 23 rfl rfl rfl ?_
    refine qr_dup 24 rfl rfl rfl ?_
    refine qr_get 27 rfl rfl rfl (by decide) rfl ?_
    refine qr_iconst 28 rfl rfl ?_
    refine qr_iadd 29 rfl rfl ?_
    refine qr_put 32 rfl (by decide) rfl (Nat.le_of_ble_eq_true rfl) (Nat.le_of_ble_eq_true rfl) (Or.inl rfl) (qr_fitI rfl _) rfl ?_
    refine qy_wS (qw_s σ 42 1 ((σ 42 1) + 1)) rfl (fun σ2 e3 => ?_)
    have hI4 : qI σ2 α κ ρ := by rw [e3]; exact qI_s hI 42 1 rfl (show (-2147483648) ≤ ((σ 42 1) + 1) ∧ ((σ 42 1) + 1) ≤ 2147483647 by omega)
    have hF5 : qFr [(42, 1)] [43] σ α σ2 α := by rw [e3]; exact qFr_s hF0 42 1 _ (by decide)
    refine qr_getst 35 rfl rfl ?_
    refine qr_iload_n 36 rfl rfl rfl ?_
    refine qr_iaload 37 rfl rfl (by decide) (by decide) rfl ?_
    refine qy_v (-1) (by decide) ?_
    refine qr_istore _ 39 rfl (by decide) rfl rfl ?_
    refine qr_iload_n 40 rfl rfl rfl ?_
    refine qr_look (off := 108) 148 rfl (by omega) (by decide) (by decide) rfl ?_
    refine qr_iload 150 rfl rfl rfl ?_
    refine qr_iload 152 rfl rfl rfl ?_
    refine qr_iadd 153 rfl rfl ?_
    refine qy_can (fun v6 hv6 => ?_)
    refine qr_retI rfl rfl (by decide) (by decide) ?_
    have hw7 : σ2 42 1 = ((σ 42 1) + 1) := (congrFun (congrFun e3 42) 1).trans rfl
    exact ⟨_, _, rfl, hI4, hF5, v6, rfl, hv6, by omega⟩
  · skip
    refine qr_aload_n 13 rfl rfl rfl ?_
    refine qr_get 16 rfl rfl rfl (by decide) rfl ?_
    refine qr_aload_n 17 rfl rfl rfl ?_
    refine qr_get 20 rfl rfl rfl (by decide) rfl ?_
    refine qr_iload_n 21 rfl rfl rfl ?_
    refine qr_iastore 22 rfl (by decide) rfl (by omega) (by decide) rfl ?_
    refine qy_wA (qw_r α 43 (qzu (α 43) ((σ 42 1) : Int).toNat 1)) rfl (fun α8 e9 => ?_)
    have hI10 : qI σ α8 κ ρ := by rw [e9]; exact qI_r hI 43 _ rfl (show (-2147483648) ≤ 1 ∧ 1 ≤ 2147483647 by omega)
    have hF11 : qFr [(42, 1)] [43] σ α σ α8 := by rw [e9]; exact qFr_r hF0 43 _ (by decide)
    refine qr_aload_n 23 rfl rfl rfl ?_
    refine qr_dup 24 rfl rfl rfl ?_
    refine qr_get 27 rfl rfl rfl (by decide) rfl ?_
    refine qr_iconst 28 rfl rfl ?_
    refine qr_iadd 29 rfl rfl ?_
    refine qr_put 32 rfl (by decide) rfl (Nat.le_of_ble_eq_true rfl) (Nat.le_of_ble_eq_true rfl) (Or.inl rfl) (qr_fitI rfl _) rfl ?_
    refine qy_wS (qw_s σ 42 1 ((σ 42 1) + 1)) rfl (fun σ12 e13 => ?_)
    have hI14 : qI σ12 α8 κ ρ := by rw [e13]; exact qI_s hI10 42 1 rfl (show (-2147483648) ≤ ((σ 42 1) + 1) ∧ ((σ 42 1) + 1) ≤ 2147483647 by omega)
    have hF15 : qFr [(42, 1)] [43] σ α σ12 α8 := by rw [e13]; exact qFr_s hF11 42 1 _ (by decide)
    refine qr_getst 35 rfl rfl ?_
    refine qr_iload_n 36 rfl rfl rfl ?_
    refine qr_iaload 37 rfl rfl (by decide) (by decide) rfl ?_
    refine qy_v (-1) (by decide) ?_
    refine qr_istore _ 39 rfl (by decide) rfl rfl ?_
    refine qr_iload_n 40 rfl rfl rfl ?_
    refine qr_look (off := 108) 148 rfl (by omega) (by decide) (by decide) rfl ?_
    refine qr_iload 150 rfl rfl rfl ?_
    refine qr_iload 152 rfl rfl rfl ?_
    refine qr_iadd 153 rfl rfl ?_
    refine qy_can (fun v16 hv16 => ?_)
    refine qr_retI rfl rfl (by decide) (by decide) ?_
    have hw17 : σ12 42 1 = ((σ 42 1) + 1) := (congrFun (congrFun e13 42) 1).trans rfl
    exact ⟨_, _, rfl, hI14, hF15, v16, rfl, hv16, by omega⟩

set_option maxHeartbeats 4000000 in
set_option maxRecDepth 20000 in
/-- OneRoof$Acts.runFrom -/
theorem sf_152_42f0_2_0 {L : Nat} {xs : Nat → Int} {vb : Bool} {d : Nat} {σ α : Nat → Nat → Int} {κ : Nat → Option Nat} {ρ : Nat} {x4 : Int} {x5 : Int} {x6 : Int} (hI : qI σ α κ ρ) (r4 : (-2147483648) ≤ x4 ∧ x4 ≤ 2147483647) (r5 : (-2147483648) ≤ x5 ∧ x5 ≤ 2147483647) (r6 : 0 ≤ x6 ∧ x6 ≤ 39) (p0 : 0 ≤ σ 42 1 ∧ σ 42 1 ≤ 1900) : qm_T (qe L xs vb) (d + 2) 152 [.ref 42, .int (qz 0), .int (qz 2), .int (qz 0), .int (qz x4), .int (qz x5), .int (qz x6)] (qw σ α κ ρ) (fun r w' => ∃ σ' α', w' = qw σ' α' κ ρ ∧ qI σ' α' κ ρ ∧ qFr [(42, 1)] [43] σ α σ' α' ∧ ∃ v : Int, r = some (.int (qz v)) ∧ ((-2147483648) ≤ v ∧ v ≤ 2147483647) ∧ σ' 42 1 = σ 42 1 + 1) := by
  refine qr_start (d := d + 1) qv_e152 (Nat.le_of_ble_eq_true rfl) ?_
  show qr_W (qe L xs vb) (d + 1) qx_e152 _ (0, [(0, .ref 42), (1, .int (qz 0)), (2, .int (qz 2)), (3, .int (qz 0)), (4, .int (qz x4)), (5, .int (qz x5)), (6, .int (qz x6))], [], _, 0, 0)
  have hF0 := qFr_rf [(42, 1)] [43] σ α
  have hz42_1 : (-2147483648) ≤ σ 42 1 ∧ σ 42 1 ≤ 2147483647 := hI.1 42 1
  refine qr_iload_n 1 rfl rfl rfl ?_
  refine qr_istore _ 3 rfl (by decide) rfl rfl ?_
  refine qr_iconst 4 rfl rfl ?_
  refine qr_istore _ 6 rfl (by decide) rfl rfl ?_
  refine qr_iload 8 rfl rfl rfl ?_
  refine qr_getst 11 rfl rfl ?_
  refine qr_alen 12 rfl rfl (by first | exact Or.inl (by decide) | exact Or.inr (Or.inl rfl) | exact Or.inr (Or.inr (Or.inl rfl)) | exact Or.inr (Or.inr (Or.inr (Or.inl rfl)))) rfl ?_
  refine qy_v 7 rfl ?_
  refine qr_icmp_ge 89 15 rfl rfl rfl (by decide) (by decide) (fun h => False.elim (by omega)) (fun h1 => ?_)
  refine qr_iload 17 rfl rfl rfl ?_
  refine qr_if_lt 89 20 rfl rfl rfl (by decide) (fun h => False.elim (by omega)) (fun h2 => ?_)
  refine qr_iload 22 rfl rfl rfl ?_
  refine qr_getst 25 rfl rfl ?_
  refine qr_alen 26 rfl rfl (by first | exact Or.inl (by decide) | exact Or.inr (Or.inl rfl) | exact Or.inr (Or.inr (Or.inl rfl)) | exact Or.inr (Or.inr (Or.inr (Or.inl rfl)))) rfl ?_
  refine qy_v 7 rfl ?_
  refine qr_icmp_ge 89 29 rfl rfl rfl (by decide) (by decide) (fun h => False.elim (by omega)) (fun h3 => ?_)
  refine qr_getst 32 rfl rfl ?_
  refine qr_iload 34 rfl rfl rfl ?_
  refine qr_iconst 35 rfl rfl ?_
  refine qr_imul 36 rfl rfl ?_
  refine qy_v 0 rfl ?_
  refine qr_iload_n 37 rfl rfl rfl ?_
  refine qr_iadd 38 rfl rfl ?_
  refine qy_v 0 rfl ?_
  refine qr_iaload 39 rfl rfl (by decide) (by decide) rfl ?_
  refine qy_v 1 (by decide) ?_
  refine qr_istore _ 41 rfl (by decide) rfl rfl ?_
  refine qr_iload 43 rfl rfl rfl ?_
  refine qr_if_eq 75 46 rfl rfl rfl (by decide) (fun h => False.elim (by omega)) (fun h4 => ?_)
  refine qr_iload 48 rfl rfl rfl ?_
  refine qr_bipush 50 rfl (by decide) rfl ?_
  refine qr_icmp_le 57 53 rfl rfl rfl (qrg r6 (by decide) (by decide)) (by decide) (fun h5 => ?_) (fun h => False.elim (by omega))
  refine qr_aload_n 58 rfl rfl rfl ?_
  refine qr_iload 60 rfl rfl rfl ?_
  refine qr_iload 62 rfl rfl rfl ?_
  refine qr_iload_n 63 rfl rfl rfl ?_
  refine qr_iload 65 rfl rfl rfl ?_
  refine qr_iload 67 rfl rfl rfl ?_
  refine qr_iload 69 rfl rfl rfl ?_
  refine qr_iconst 70 rfl rfl ?_
  refine qr_iadd 71 rfl rfl ?_
  have hs6 : (-2147483648) ≤ σ 42 1 ∧ σ 42 1 ≤ 2147483647 := hI.1 42 1
  refine qr_callN 74 rfl rfl rfl (sf_153_42b1_0_2 (d := d + 0) hI r4 r5 (by omega) (by omega)) ?_
  have hs9 : (-2147483648) ≤ σ 42 1 ∧ σ 42 1 ≤ 2147483647 := hI.1 42 1
  rintro _ _ ⟨σ10, α11, rfl, hI12, hG13, v7, rfl, hv7, hp8⟩
  have hF14 : qFr [(42, 1)] [43] σ α σ10 α11 := qFr_t hF0 hG13 (by decide) (by decide)
  have hs15 : (-2147483648) ≤ σ10 42 1 ∧ σ10 42 1 ≤ 2147483647 := hI12.1 42 1
  show qr_W (qe L xs vb) (d + 1) qx_e152 _ (74, _, [.int (qz v7)], qw σ10 α11 κ ρ, 0, 0)
  refine qr_retI rfl rfl (by decide) (by decide) ?_
  have hw16 : σ10 42 1 = (σ10 42 1) := rfl
  exact ⟨_, _, rfl, hI12, hF14, v7, rfl, hv7, by omega⟩

set_option maxHeartbeats 4000000 in
set_option maxRecDepth 20000 in
/-- OneRoof$Acts.begin -/
theorem sf_153_42b20_1_2 {L : Nat} {xs : Nat → Int} {vb : Bool} {d : Nat} {σ α : Nat → Nat → Int} {κ : Nat → Option Nat} {ρ : Nat} {x4 : Int} {x5 : Int} {x6 : Int} (hI : qI σ α κ ρ) (r4 : (-2147483648) ≤ x4 ∧ x4 ≤ 2147483647) (r5 : (-2147483648) ≤ x5 ∧ x5 ≤ 2147483647) (r6 : 0 ≤ x6 ∧ x6 ≤ 39) (p0 : 0 ≤ σ 42 1 ∧ σ 42 1 ≤ 1800) : qm_T (qe L xs vb) (d + 3) 153 [.ref 42, .int (qz 20), .int (qz 1), .int (qz 2), .int (qz x4), .int (qz x5), .int (qz x6)] (qw σ α κ ρ) (fun r w' => ∃ σ' α', w' = qw σ' α' κ ρ ∧ qI σ' α' κ ρ ∧ qFr [(42, 1)] [43] σ α σ' α' ∧ ∃ v : Int, r = some (.int (qz v)) ∧ ((-2147483648) ≤ v ∧ v ≤ 2147483647) ∧ σ' 42 1 = σ 42 1 + 2) := by
  refine qr_start (d := d + 2) qv_e153 (Nat.le_of_ble_eq_true rfl) ?_
  show qr_W (qe L xs vb) (d + 2) qx_e153 _ (0, [(0, .ref 42), (1, .int (qz 20)), (2, .int (qz 1)), (3, .int (qz 2)), (4, .int (qz x4)), (5, .int (qz x5)), (6, .int (qz x6))], [], _, 0, 0)
  have hF0 := qFr_rf [(42, 1)] [43] σ α
  have hz42_1 : (-2147483648) ≤ σ 42 1 ∧ σ 42 1 ≤ 2147483647 := hI.1 42 1
  refine qr_aload_n 1 rfl rfl rfl ?_
  refine qr_get 4 rfl rfl rfl (by decide) rfl ?_
  refine qr_aload_n 5 rfl rfl rfl ?_
  refine qr_get 8 rfl rfl rfl (by decide) rfl ?_
  refine qr_alen 9 rfl rfl (by first | exact Or.inl (by decide) | exact Or.inr (Or.inl rfl) | exact Or.inr (Or.inr (Or.inl rfl)) | exact Or.inr (Or.inr (Or.inr (Or.inl rfl)))) rfl ?_
  refine qy_v 24 rfl ?_
  refine qr_icmp_ge 22 12 rfl rfl rfl hz42_1 (by decide) (fun h1 => ?_) (fun h1 => ?_)
  · skip
    refine qr_aload_n 23 rfl rfl rfl ?_
    refine qr_dup 24 rfl rfl rfl ?_
    refine qr_get 27 rfl rfl rfl (by decide) rfl ?_
    refine qr_iconst 28 rfl rfl ?_
    refine qr_iadd 29 rfl rfl ?_
    refine qr_put 32 rfl (by decide) rfl (Nat.le_of_ble_eq_true rfl) (Nat.le_of_ble_eq_true rfl) (Or.inl rfl) (qr_fitI rfl _) rfl ?_
    refine qy_wS (qw_s σ 42 1 ((σ 42 1) + 1)) rfl (fun σ2 e3 => ?_)
    have hI4 : qI σ2 α κ ρ := by rw [e3]; exact qI_s hI 42 1 rfl (show (-2147483648) ≤ ((σ 42 1) + 1) ∧ ((σ 42 1) + 1) ≤ 2147483647 by omega)
    have hF5 : qFr [(42, 1)] [43] σ α σ2 α := by rw [e3]; exact qFr_s hF0 42 1 _ (by decide)
    refine qr_getst 35 rfl rfl ?_
    refine qr_iload_n 36 rfl rfl rfl ?_
    refine qr_iaload 37 rfl rfl (by decide) (by decide) rfl ?_
    refine qy_v 0 (by decide) ?_
    refine qr_istore _ 39 rfl (by decide) rfl rfl ?_
    refine qr_iload_n 40 rfl rfl rfl ?_
    refine qr_look (off := 160) 200 rfl (by omega) (by decide) (by decide) rfl ?_
    refine qr_aload_n 201 rfl rfl rfl ?_
    refine qr_iload 203 rfl rfl rfl ?_
    refine qr_iload_n 204 rfl rfl rfl ?_
    refine qr_iconst 205 rfl rfl ?_
    refine qr_iload 207 rfl rfl rfl ?_
    refine qr_iload 209 rfl rfl rfl ?_
    refine qr_iload 211 rfl rfl rfl ?_
    have hs6 : (-2147483648) ≤ σ2 42 1 ∧ σ2 42 1 ≤ 2147483647 := hI4.1 42 1
    have hs7 : σ2 42 1 = ((σ 42 1) + 1) := (congrFun (congrFun e3 42) 1).trans rfl
    refine qr_callN 214 rfl rfl rfl (sf_152_42f0_2_0 (d := d + 0) hI4 r4 r5 r6 (by omega)) ?_
    have hs10 : (-2147483648) ≤ σ2 42 1 ∧ σ2 42 1 ≤ 2147483647 := hI4.1 42 1
    have hs11 : σ2 42 1 = ((σ 42 1) + 1) := (congrFun (congrFun e3 42) 1).trans rfl
    rintro _ _ ⟨σ12, α13, rfl, hI14, hG15, v8, rfl, hv8, hp9⟩
    have hF16 : qFr [(42, 1)] [43] σ α σ12 α13 := qFr_t hF5 hG15 (by decide) (by decide)
    have hs17 : (-2147483648) ≤ σ12 42 1 ∧ σ12 42 1 ≤ 2147483647 := hI14.1 42 1
    show qr_W (qe L xs vb) (d + 2) qx_e153 _ (214, _, [.int (qz v8)], qw σ12 α13 κ ρ, 0, 0)
    refine qr_iconst 215 rfl rfl ?_
    refine qr_iadd 216 rfl rfl ?_
    refine qy_can (fun v18 hv18 => ?_)
    refine qr_retI rfl rfl (by decide) (by decide) ?_
    have hw19 : σ12 42 1 = (σ12 42 1) := rfl
    exact ⟨_, _, rfl, hI14, hF16, v18, rfl, hv18, by omega⟩
  · skip
    refine qr_aload_n 13 rfl rfl rfl ?_
    refine qr_get 16 rfl rfl rfl (by decide) rfl ?_
    refine qr_aload_n 17 rfl rfl rfl ?_
    refine qr_get 20 rfl rfl rfl (by decide) rfl ?_
    refine qr_iload_n 21 rfl rfl rfl ?_
    refine qr_iastore 22 rfl (by decide) rfl (by omega) (by decide) rfl ?_
    refine qy_wA (qw_r α 43 (qzu (α 43) ((σ 42 1) : Int).toNat 20)) rfl (fun α20 e21 => ?_)
    have hI22 : qI σ α20 κ ρ := by rw [e21]; exact qI_r hI 43 _ rfl (show (-2147483648) ≤ 20 ∧ 20 ≤ 2147483647 by omega)
    have hF23 : qFr [(42, 1)] [43] σ α σ α20 := by rw [e21]; exact qFr_r hF0 43 _ (by decide)
    refine qr_aload_n 23 rfl rfl rfl ?_
    refine qr_dup 24 rfl rfl rfl ?_
    refine qr_get 27 rfl rfl rfl (by decide) rfl ?_
    refine qr_iconst 28 rfl rfl ?_
    refine qr_iadd 29 rfl rfl ?_
    refine qr_put 32 rfl (by decide) rfl (Nat.le_of_ble_eq_true rfl) (Nat.le_of_ble_eq_true rfl) (Or.inl rfl) (qr_fitI rfl _) rfl ?_
    refine qy_wS (qw_s σ 42 1 ((σ 42 1) + 1)) rfl (fun σ24 e25 => ?_)
    have hI26 : qI σ24 α20 κ ρ := by rw [e25]; exact qI_s hI22 42 1 rfl (show (-2147483648) ≤ ((σ 42 1) + 1) ∧ ((σ 42 1) + 1) ≤ 2147483647 by omega)
    have hF27 : qFr [(42, 1)] [43] σ α σ24 α20 := by rw [e25]; exact qFr_s hF23 42 1 _ (by decide)
    refine qr_getst 35 rfl rfl ?_
    refine qr_iload_n 36 rfl rfl rfl ?_
    refine qr_iaload 37 rfl rfl (by decide) (by decide) rfl ?_
    refine qy_v 0 (by decide) ?_
    refine qr_istore _ 39 rfl (by decide) rfl rfl ?_
    refine qr_iload_n 40 rfl rfl rfl ?_
    refine qr_look (off := 160) 200 rfl (by omega) (by decide) (by decide) rfl ?_
    refine qr_aload_n 201 rfl rfl rfl ?_
    refine qr_iload 203 rfl rfl rfl ?_
    refine qr_iload_n 204 rfl rfl rfl ?_
    refine qr_iconst 205 rfl rfl ?_
    refine qr_iload 207 rfl rfl rfl ?_
    refine qr_iload 209 rfl rfl rfl ?_
    refine qr_iload 211 rfl rfl rfl ?_
    have hs28 : (-2147483648) ≤ σ24 42 1 ∧ σ24 42 1 ≤ 2147483647 := hI26.1 42 1
    have hs29 : σ24 42 1 = ((σ 42 1) + 1) := (congrFun (congrFun e25 42) 1).trans rfl
    refine qr_callN 214 rfl rfl rfl (sf_152_42f0_2_0 (d := d + 0) hI26 r4 r5 r6 (by omega)) ?_
    have hs32 : (-2147483648) ≤ σ24 42 1 ∧ σ24 42 1 ≤ 2147483647 := hI26.1 42 1
    have hs33 : σ24 42 1 = ((σ 42 1) + 1) := (congrFun (congrFun e25 42) 1).trans rfl
    rintro _ _ ⟨σ34, α35, rfl, hI36, hG37, v30, rfl, hv30, hp31⟩
    have hF38 : qFr [(42, 1)] [43] σ α σ34 α35 := qFr_t hF27 hG37 (by decide) (by decide)
    have hs39 : (-2147483648) ≤ σ34 42 1 ∧ σ34 42 1 ≤ 2147483647 := hI36.1 42 1
    show qr_W (qe L xs vb) (d + 2) qx_e153 _ (214, _, [.int (qz v30)], qw σ34 α35 κ ρ, 0, 0)
    refine qr_iconst 215 rfl rfl ?_
    refine qr_iadd 216 rfl rfl ?_
    refine qy_can (fun v40 hv40 => ?_)
    refine qr_retI rfl rfl (by decide) (by decide) ?_
    have hw41 : σ34 42 1 = (σ34 42 1) := rfl
    exact ⟨_, _, rfl, hI36, hF38, v40, rfl, hv40, by omega⟩

set_option maxHeartbeats 4000000 in
set_option maxRecDepth 20000 in
/-- OneRoof$Acts.runFrom -/
theorem sf_152_42f1_2_0 {L : Nat} {xs : Nat → Int} {vb : Bool} {d : Nat} {σ α : Nat → Nat → Int} {κ : Nat → Option Nat} {ρ : Nat} {x4 : Int} {x5 : Int} {x6 : Int} (hI : qI σ α κ ρ) (r4 : (-2147483648) ≤ x4 ∧ x4 ≤ 2147483647) (r5 : (-2147483648) ≤ x5 ∧ x5 ≤ 2147483647) (r6 : 0 ≤ x6 ∧ x6 ≤ 38) (p0 : 0 ≤ σ 42 1 ∧ σ 42 1 ≤ 1800) : qm_T (qe L xs vb) (d + 4) 152 [.ref 42, .int (qz 1), .int (qz 2), .int (qz 0), .int (qz x4), .int (qz x5), .int (qz x6)] (qw σ α κ ρ) (fun r w' => ∃ σ' α', w' = qw σ' α' κ ρ ∧ qI σ' α' κ ρ ∧ qFr [(42, 1)] [43] σ α σ' α' ∧ ∃ v : Int, r = some (.int (qz v)) ∧ ((-2147483648) ≤ v ∧ v ≤ 2147483647) ∧ σ' 42 1 = σ 42 1 + 2) := by
  refine qr_start (d := d + 3) qv_e152 (Nat.le_of_ble_eq_true rfl) ?_
  show qr_W (qe L xs vb) (d + 3) qx_e152 _ (0, [(0, .ref 42), (1, .int (qz 1)), (2, .int (qz 2)), (3, .int (qz 0)), (4, .int (qz x4)), (5, .int (qz x5)), (6, .int (qz x6))], [], _, 0, 0)
  have hF0 := qFr_rf [(42, 1)] [43] σ α
  have hz42_1 : (-2147483648) ≤ σ 42 1 ∧ σ 42 1 ≤ 2147483647 := hI.1 42 1
  refine qr_iload_n 1 rfl rfl rfl ?_
  refine qr_istore _ 3 rfl (by decide) rfl rfl ?_
  refine qr_iconst 4 rfl rfl ?_
  refine qr_istore _ 6 rfl (by decide) rfl rfl ?_
  refine qr_iload 8 rfl rfl rfl ?_
  refine qr_getst 11 rfl rfl ?_
  refine qr_alen 12 rfl rfl (by first | exact Or.inl (by decide) | exact Or.inr (Or.inl rfl) | exact Or.inr (Or.inr (Or.inl rfl)) | exact Or.inr (Or.inr (Or.inr (Or.inl rfl)))) rfl ?_
  refine qy_v 7 rfl ?_
  refine qr_icmp_ge 89 15 rfl rfl rfl (by decide) (by decide) (fun h => False.elim (by omega)) (fun h1 => ?_)
  refine qr_iload 17 rfl rfl rfl ?_
  refine qr_if_lt 89 20 rfl rfl rfl (by decide) (fun h => False.elim (by omega)) (fun h2 => ?_)
  refine qr_iload 22 rfl rfl rfl ?_
  refine qr_getst 25 rfl rfl ?_
  refine qr_alen 26 rfl rfl (by first | exact Or.inl (by decide) | exact Or.inr (Or.inl rfl) | exact Or.inr (Or.inr (Or.inl rfl)) | exact Or.inr (Or.inr (Or.inr (Or.inl rfl)))) rfl ?_
  refine qy_v 7 rfl ?_
  refine qr_icmp_ge 89 29 rfl rfl rfl (by decide) (by decide) (fun h => False.elim (by omega)) (fun h3 => ?_)
  refine qr_getst 32 rfl rfl ?_
  refine qr_iload 34 rfl rfl rfl ?_
  refine qr_iconst 35 rfl rfl ?_
  refine qr_imul 36 rfl rfl ?_
  refine qy_v 4 rfl ?_
  refine qr_iload_n 37 rfl rfl rfl ?_
  refine qr_iadd 38 rfl rfl ?_
  refine qy_v 4 rfl ?_
  refine qr_iaload 39 rfl rfl (by decide) (by decide) rfl ?_
  refine qy_v 20 (by decide) ?_
  refine qr_istore _ 41 rfl (by decide) rfl rfl ?_
  refine qr_iload 43 rfl rfl rfl ?_
  refine qr_if_eq 75 46 rfl rfl rfl (by decide) (fun h => False.elim (by omega)) (fun h4 => ?_)
  refine qr_iload 48 rfl rfl rfl ?_
  refine qr_bipush 50 rfl (by decide) rfl ?_
  refine qr_icmp_le 57 53 rfl rfl rfl (qrg r6 (by decide) (by decide)) (by decide) (fun h5 => ?_) (fun h => False.elim (by omega))
  refine qr_aload_n 58 rfl rfl rfl ?_
  refine qr_iload 60 rfl rfl rfl ?_
  refine qr_iload 62 rfl rfl rfl ?_
  refine qr_iload_n 63 rfl rfl rfl ?_
  refine qr_iload 65 rfl rfl rfl ?_
  refine qr_iload 67 rfl rfl rfl ?_
  refine qr_iload 69 rfl rfl rfl ?_
  refine qr_iconst 70 rfl rfl ?_
  refine qr_iadd 71 rfl rfl ?_
  have hs6 : (-2147483648) ≤ σ 42 1 ∧ σ 42 1 ≤ 2147483647 := hI.1 42 1
  refine qr_callN 74 rfl rfl rfl (sf_153_42b20_1_2 (d := d + 0) hI r4 r5 (by omega) (by omega)) ?_
  have hs9 : (-2147483648) ≤ σ 42 1 ∧ σ 42 1 ≤ 2147483647 := hI.1 42 1
  rintro _ _ ⟨σ10, α11, rfl, hI12, hG13, v7, rfl, hv7, hp8⟩
  have hF14 : qFr [(42, 1)] [43] σ α σ10 α11 := qFr_t hF0 hG13 (by decide) (by decide)
  have hs15 : (-2147483648) ≤ σ10 42 1 ∧ σ10 42 1 ≤ 2147483647 := hI12.1 42 1
  show qr_W (qe L xs vb) (d + 3) qx_e152 _ (74, _, [.int (qz v7)], qw σ10 α11 κ ρ, 0, 0)
  refine qr_retI rfl rfl (by decide) (by decide) ?_
  have hw16 : σ10 42 1 = (σ10 42 1) := rfl
  exact ⟨_, _, rfl, hI12, hF14, v7, rfl, hv7, by omega⟩

set_option maxHeartbeats 4000000 in
set_option maxRecDepth 20000 in
/-- OneRoof$Acts.begin -/
theorem sf_153_42b31_2_2 {L : Nat} {xs : Nat → Int} {vb : Bool} {d : Nat} {σ α : Nat → Nat → Int} {κ : Nat → Option Nat} {ρ : Nat} {x4 : Int} {x5 : Int} {x6 : Int} (hI : qI σ α κ ρ) (r4 : (-2147483648) ≤ x4 ∧ x4 ≤ 2147483647) (r5 : (-2147483648) ≤ x5 ∧ x5 ≤ 2147483647) (r6 : 0 ≤ x6 ∧ x6 ≤ 38) (p0 : 0 ≤ σ 42 1 ∧ σ 42 1 ≤ 1700) : qm_T (qe L xs vb) (d + 5) 153 [.ref 42, .int (qz 31), .int (qz 2), .int (qz 2), .int (qz x4), .int (qz x5), .int (qz x6)] (qw σ α κ ρ) (fun r w' => ∃ σ' α', w' = qw σ' α' κ ρ ∧ qI σ' α' κ ρ ∧ qFr [(42, 1)] [43] σ α σ' α' ∧ ∃ v : Int, r = some (.int (qz v)) ∧ ((-2147483648) ≤ v ∧ v ≤ 2147483647) ∧ σ' 42 1 = σ 42 1 + 3) := by
  refine qr_start (d := d + 4) qv_e153 (Nat.le_of_ble_eq_true rfl) ?_
  show qr_W (qe L xs vb) (d + 4) qx_e153 _ (0, [(0, .ref 42), (1, .int (qz 31)), (2, .int (qz 2)), (3, .int (qz 2)), (4, .int (qz x4)), (5, .int (qz x5)), (6, .int (qz x6))], [], _, 0, 0)
  have hF0 := qFr_rf [(42, 1)] [43] σ α
  have hz42_1 : (-2147483648) ≤ σ 42 1 ∧ σ 42 1 ≤ 2147483647 := hI.1 42 1
  refine qr_aload_n 1 rfl rfl rfl ?_
  refine qr_get 4 rfl rfl rfl (by decide) rfl ?_
  refine qr_aload_n 5 rfl rfl rfl ?_
  refine qr_get 8 rfl rfl rfl (by decide) rfl ?_
  refine qr_alen 9 rfl rfl (by first | exact Or.inl (by decide) | exact Or.inr (Or.inl rfl) | exact Or.inr (Or.inr (Or.inl rfl)) | exact Or.inr (Or.inr (Or.inr (Or.inl rfl)))) rfl ?_
  refine qy_v 24 rfl ?_
  refine qr_icmp_ge 22 12 rfl rfl rfl hz42_1 (by decide) (fun h1 => ?_) (fun h1 => ?_)
  · skip
    refine qr_aload_n 23 rfl rfl rfl ?_
    refine qr_dup 24 rfl rfl rfl ?_
    refine qr_get 27 rfl rfl rfl (by decide) rfl ?_
    refine qr_iconst 28 rfl rfl ?_
    refine qr_iadd 29 rfl rfl ?_
    refine qr_put 32 rfl (by decide) rfl (Nat.le_of_ble_eq_true rfl) (Nat.le_of_ble_eq_true rfl) (Or.inl rfl) (qr_fitI rfl _) rfl ?_
    refine qy_wS (qw_s σ 42 1 ((σ 42 1) + 1)) rfl (fun σ2 e3 => ?_)
    have hI4 : qI σ2 α κ ρ := by rw [e3]; exact qI_s hI 42 1 rfl (show (-2147483648) ≤ ((σ 42 1) + 1) ∧ ((σ 42 1) + 1) ≤ 2147483647 by omega)
    have hF5 : qFr [(42, 1)] [43] σ α σ2 α := by rw [e3]; exact qFr_s hF0 42 1 _ (by decide)
    refine qr_getst 35 rfl rfl ?_
    refine qr_iload_n 36 rfl rfl rfl ?_
    refine qr_iaload 37 rfl rfl (by decide) (by decide) rfl ?_
    refine qy_v 1 (by decide) ?_
    refine qr_istore _ 39 rfl (by decide) rfl rfl ?_
    refine qr_iload_n 40 rfl rfl rfl ?_
    refine qr_look (off := 194) 234 rfl (by omega) (by decide) (by decide) rfl ?_
    refine qr_aload_n 235 rfl rfl rfl ?_
    refine qr_iload 237 rfl rfl rfl ?_
    refine qr_iload_n 238 rfl rfl rfl ?_
    refine qr_iconst 239 rfl rfl ?_
    refine qr_iload 241 rfl rfl rfl ?_
    refine qr_iconst 242 rfl rfl ?_
    refine qr_iadd 243 rfl rfl ?_
    refine qy_can (fun v6 hv6 => ?_)
    refine qr_iload 245 rfl rfl rfl ?_
    refine qr_iload 247 rfl rfl rfl ?_
    have hs7 : (-2147483648) ≤ σ2 42 1 ∧ σ2 42 1 ≤ 2147483647 := hI4.1 42 1
    have hs8 : σ2 42 1 = ((σ 42 1) + 1) := (congrFun (congrFun e3 42) 1).trans rfl
    refine qr_callN 250 rfl rfl rfl (sf_152_42f1_2_0 (d := d + 0) hI4 hv6 r5 r6 (by omega)) ?_
    have hs11 : (-2147483648) ≤ σ2 42 1 ∧ σ2 42 1 ≤ 2147483647 := hI4.1 42 1
    have hs12 : σ2 42 1 = ((σ 42 1) + 1) := (congrFun (congrFun e3 42) 1).trans rfl
    rintro _ _ ⟨σ13, α14, rfl, hI15, hG16, v9, rfl, hv9, hp10⟩
    have hF17 : qFr [(42, 1)] [43] σ α σ13 α14 := qFr_t hF5 hG16 (by decide) (by decide)
    have hs18 : (-2147483648) ≤ σ13 42 1 ∧ σ13 42 1 ≤ 2147483647 := hI15.1 42 1
    show qr_W (qe L xs vb) (d + 4) qx_e153 _ (250, _, [.int (qz v9)], qw σ13 α14 κ ρ, 0, 0)
    refine qr_retI rfl rfl (by decide) (by decide) ?_
    have hw19 : σ13 42 1 = (σ13 42 1) := rfl
    exact ⟨_, _, rfl, hI15, hF17, v9, rfl, hv9, by omega⟩
  · skip
    refine qr_aload_n 13 rfl rfl rfl ?_
    refine qr_get 16 rfl rfl rfl (by decide) rfl ?_
    refine qr_aload_n 17 rfl rfl rfl ?_
    refine qr_get 20 rfl rfl rfl (by decide) rfl ?_
    refine qr_iload_n 21 rfl rfl rfl ?_
    refine qr_iastore 22 rfl (by decide) rfl (by omega) (by decide) rfl ?_
    refine qy_wA (qw_r α 43 (qzu (α 43) ((σ 42 1) : Int).toNat 31)) rfl (fun α20 e21 => ?_)
    have hI22 : qI σ α20 κ ρ := by rw [e21]; exact qI_r hI 43 _ rfl (show (-2147483648) ≤ 31 ∧ 31 ≤ 2147483647 by omega)
    have hF23 : qFr [(42, 1)] [43] σ α σ α20 := by rw [e21]; exact qFr_r hF0 43 _ (by decide)
    refine qr_aload_n 23 rfl rfl rfl ?_
    refine qr_dup 24 rfl rfl rfl ?_
    refine qr_get 27 rfl rfl rfl (by decide) rfl ?_
    refine qr_iconst 28 rfl rfl ?_
    refine qr_iadd 29 rfl rfl ?_
    refine qr_put 32 rfl (by decide) rfl (Nat.le_of_ble_eq_true rfl) (Nat.le_of_ble_eq_true rfl) (Or.inl rfl) (qr_fitI rfl _) rfl ?_
    refine qy_wS (qw_s σ 42 1 ((σ 42 1) + 1)) rfl (fun σ24 e25 => ?_)
    have hI26 : qI σ24 α20 κ ρ := by rw [e25]; exact qI_s hI22 42 1 rfl (show (-2147483648) ≤ ((σ 42 1) + 1) ∧ ((σ 42 1) + 1) ≤ 2147483647 by omega)
    have hF27 : qFr [(42, 1)] [43] σ α σ24 α20 := by rw [e25]; exact qFr_s hF23 42 1 _ (by decide)
    refine qr_getst 35 rfl rfl ?_
    refine qr_iload_n 36 rfl rfl rfl ?_
    refine qr_iaload 37 rfl rfl (by decide) (by decide) rfl ?_
    refine qy_v 1 (by decide) ?_
    refine qr_istore _ 39 rfl (by decide) rfl rfl ?_
    refine qr_iload_n 40 rfl rfl rfl ?_
    refine qr_look (off := 194) 234 rfl (by omega) (by decide) (by decide) rfl ?_
    refine qr_aload_n 235 rfl rfl rfl ?_
    refine qr_iload 237 rfl rfl rfl ?_
    refine qr_iload_n 238 rfl rfl rfl ?_
    refine qr_iconst 239 rfl rfl ?_
    refine qr_iload 241 rfl rfl rfl ?_
    refine qr_iconst 242 rfl rfl ?_
    refine qr_iadd 243 rfl rfl ?_
    refine qy_can (fun v28 hv28 => ?_)
    refine qr_iload 245 rfl rfl rfl ?_
    refine qr_iload 247 rfl rfl rfl ?_
    have hs29 : (-2147483648) ≤ σ24 42 1 ∧ σ24 42 1 ≤ 2147483647 := hI26.1 42 1
    have hs30 : σ24 42 1 = ((σ 42 1) + 1) := (congrFun (congrFun e25 42) 1).trans rfl
    refine qr_callN 250 rfl rfl rfl (sf_152_42f1_2_0 (d := d + 0) hI26 hv28 r5 r6 (by omega)) ?_
    have hs33 : (-2147483648) ≤ σ24 42 1 ∧ σ24 42 1 ≤ 2147483647 := hI26.1 42 1
    have hs34 : σ24 42 1 = ((σ 42 1) + 1) := (congrFun (congrFun e25 42) 1).trans rfl
    rintro _ _ ⟨σ35, α36, rfl, hI37, hG38, v31, rfl, hv31, hp32⟩
    have hF39 : qFr [(42, 1)] [43] σ α σ35 α36 := qFr_t hF27 hG38 (by decide) (by decide)
    have hs40 : (-2147483648) ≤ σ35 42 1 ∧ σ35 42 1 ≤ 2147483647 := hI37.1 42 1
    show qr_W (qe L xs vb) (d + 4) qx_e153 _ (250, _, [.int (qz v31)], qw σ35 α36 κ ρ, 0, 0)
    refine qr_retI rfl rfl (by decide) (by decide) ?_
    have hw41 : σ35 42 1 = (σ35 42 1) := rfl
    exact ⟨_, _, rfl, hI37, hF39, v31, rfl, hv31, by omega⟩

set_option maxHeartbeats 4000000 in
set_option maxRecDepth 20000 in
/-- OneRoof$Acts.runFrom -/
theorem sf_152_42f2_2_0 {L : Nat} {xs : Nat → Int} {vb : Bool} {d : Nat} {σ α : Nat → Nat → Int} {κ : Nat → Option Nat} {ρ : Nat} {x4 : Int} {x5 : Int} {x6 : Int} (hI : qI σ α κ ρ) (r4 : (-2147483648) ≤ x4 ∧ x4 ≤ 2147483647) (r5 : (-2147483648) ≤ x5 ∧ x5 ≤ 2147483647) (r6 : 0 ≤ x6 ∧ x6 ≤ 37) (p0 : 0 ≤ σ 42 1 ∧ σ 42 1 ≤ 1700) : qm_T (qe L xs vb) (d + 6) 152 [.ref 42, .int (qz 2), .int (qz 2), .int (qz 0), .int (qz x4), .int (qz x5), .int (qz x6)] (qw σ α κ ρ) (fun r w' => ∃ σ' α', w' = qw σ' α' κ ρ ∧ qI σ' α' κ ρ ∧ qFr [(42, 1)] [43] σ α σ' α' ∧ ∃ v : Int, r = some (.int (qz v)) ∧ ((-2147483648) ≤ v ∧ v ≤ 2147483647) ∧ σ' 42 1 = σ 42 1 + 3) := by
  refine qr_start (d := d + 5) qv_e152 (Nat.le_of_ble_eq_true rfl) ?_
  show qr_W (qe L xs vb) (d + 5) qx_e152 _ (0, [(0, .ref 42), (1, .int (qz 2)), (2, .int (qz 2)), (3, .int (qz 0)), (4, .int (qz x4)), (5, .int (qz x5)), (6, .int (qz x6))], [], _, 0, 0)
  have hF0 := qFr_rf [(42, 1)] [43] σ α
  have hz42_1 : (-2147483648) ≤ σ 42 1 ∧ σ 42 1 ≤ 2147483647 := hI.1 42 1
  refine qr_iload_n 1 rfl rfl rfl ?_
  refine qr_istore _ 3 rfl (by decide) rfl rfl ?_
  refine qr_iconst 4 rfl rfl ?_
  refine qr_istore _ 6 rfl (by decide) rfl rfl ?_
  refine qr_iload 8 rfl rfl rfl ?_
  refine qr_getst 11 rfl rfl ?_
  refine qr_alen 12 rfl rfl (by first | exact Or.inl (by decide) | exact Or.inr (Or.inl rfl) | exact Or.inr (Or.inr (Or.inl rfl)) | exact Or.inr (Or.inr (Or.inr (Or.inl rfl)))) rfl ?_
  refine qy_v 7 rfl ?_
  refine qr_icmp_ge 89 15 rfl rfl rfl (by decide) (by decide) (fun h => False.elim (by omega)) (fun h1 => ?_)
  refine qr_iload 17 rfl rfl rfl ?_
  refine qr_if_lt 89 20 rfl rfl rfl (by decide) (fun h => False.elim (by omega)) (fun h2 => ?_)
  refine qr_iload 22 rfl rfl rfl ?_
  refine qr_getst 25 rfl rfl ?_
  refine qr_alen 26 rfl rfl (by first | exact Or.inl (by decide) | exact Or.inr (Or.inl rfl) | exact Or.inr (Or.inr (Or.inl rfl)) | exact Or.inr (Or.inr (Or.inr (Or.inl rfl)))) rfl ?_
  refine qy_v 7 rfl ?_
  refine qr_icmp_ge 89 29 rfl rfl rfl (by decide) (by decide) (fun h => False.elim (by omega)) (fun h3 => ?_)
  refine qr_getst 32 rfl rfl ?_
  refine qr_iload 34 rfl rfl rfl ?_
  refine qr_iconst 35 rfl rfl ?_
  refine qr_imul 36 rfl rfl ?_
  refine qy_v 8 rfl ?_
  refine qr_iload_n 37 rfl rfl rfl ?_
  refine qr_iadd 38 rfl rfl ?_
  refine qy_v 8 rfl ?_
  refine qr_iaload 39 rfl rfl (by decide) (by decide) rfl ?_
  refine qy_v 31 (by decide) ?_
  refine qr_istore _ 41 rfl (by decide) rfl rfl ?_
  refine qr_iload 43 rfl rfl rfl ?_
  refine qr_if_eq 75 46 rfl rfl rfl (by decide) (fun h => False.elim (by omega)) (fun h4 => ?_)
  refine qr_iload 48 rfl rfl rfl ?_
  refine qr_bipush 50 rfl (by decide) rfl ?_
  refine qr_icmp_le 57 53 rfl rfl rfl (qrg r6 (by decide) (by decide)) (by decide) (fun h5 => ?_) (fun h => False.elim (by omega))
  refine qr_aload_n 58 rfl rfl rfl ?_
  refine qr_iload 60 rfl rfl rfl ?_
  refine qr_iload 62 rfl rfl rfl ?_
  refine qr_iload_n 63 rfl rfl rfl ?_
  refine qr_iload 65 rfl rfl rfl ?_
  refine qr_iload 67 rfl rfl rfl ?_
  refine qr_iload 69 rfl rfl rfl ?_
  refine qr_iconst 70 rfl rfl ?_
  refine qr_iadd 71 rfl rfl ?_
  have hs6 : (-2147483648) ≤ σ 42 1 ∧ σ 42 1 ≤ 2147483647 := hI.1 42 1
  refine qr_callN 74 rfl rfl rfl (sf_153_42b31_2_2 (d := d + 0) hI r4 r5 (by omega) (by omega)) ?_
  have hs9 : (-2147483648) ≤ σ 42 1 ∧ σ 42 1 ≤ 2147483647 := hI.1 42 1
  rintro _ _ ⟨σ10, α11, rfl, hI12, hG13, v7, rfl, hv7, hp8⟩
  have hF14 : qFr [(42, 1)] [43] σ α σ10 α11 := qFr_t hF0 hG13 (by decide) (by decide)
  have hs15 : (-2147483648) ≤ σ10 42 1 ∧ σ10 42 1 ≤ 2147483647 := hI12.1 42 1
  show qr_W (qe L xs vb) (d + 5) qx_e152 _ (74, _, [.int (qz v7)], qw σ10 α11 κ ρ, 0, 0)
  refine qr_retI rfl rfl (by decide) (by decide) ?_
  have hw16 : σ10 42 1 = (σ10 42 1) := rfl
  exact ⟨_, _, rfl, hI12, hF14, v7, rfl, hv7, by omega⟩

set_option maxHeartbeats 4000000 in
set_option maxRecDepth 20000 in
/-- OneRoof$Acts.run -/
theorem sf_151_42r2_0 {L : Nat} {xs : Nat → Int} {vb : Bool} {d : Nat} {σ α : Nat → Nat → Int} {κ : Nat → Option Nat} {ρ : Nat} {x3 : Int} {x4 : Int} {x5 : Int} (hI : qI σ α κ ρ) (r3 : (-2147483648) ≤ x3 ∧ x3 ≤ 2147483647) (r4 : (-2147483648) ≤ x4 ∧ x4 ≤ 2147483647) (r5 : 0 ≤ x5 ∧ x5 ≤ 37) (p0 : 0 ≤ σ 42 1 ∧ σ 42 1 ≤ 1700) : qm_T (qe L xs vb) (d + 7) 151 [.ref 42, .int (qz 2), .int (qz 0), .int (qz x3), .int (qz x4), .int (qz x5)] (qw σ α κ ρ) (fun r w' => ∃ σ' α', w' = qw σ' α' κ ρ ∧ qI σ' α' κ ρ ∧ qFr [(42, 1)] [43] σ α σ' α' ∧ ∃ v : Int, r = some (.int (qz v)) ∧ ((-2147483648) ≤ v ∧ v ≤ 2147483647) ∧ σ' 42 1 = σ 42 1 + 3) := by
  refine qr_start (d := d + 6) qv_e151 (Nat.le_of_ble_eq_true rfl) ?_
  show qr_W (qe L xs vb) (d + 6) qx_e151 _ (0, [(0, .ref 42), (1, .int (qz 2)), (2, .int (qz 0)), (3, .int (qz x3)), (4, .int (qz x4)), (5, .int (qz x5))], [], _, 0, 0)
  have hF0 := qFr_rf [(42, 1)] [43] σ α
  have hz42_1 : (-2147483648) ≤ σ 42 1 ∧ σ 42 1 ≤ 2147483647 := hI.1 42 1
  refine qr_aload_n 1 rfl rfl rfl ?_
  refine qr_iload_n 2 rfl rfl rfl ?_
  refine qr_iload_n 3 rfl rfl rfl ?_
  refine qr_iload_n 4 rfl rfl rfl ?_
  refine qr_iload_n 5 rfl rfl rfl ?_
  refine qr_iload 7 rfl rfl rfl ?_
  refine qr_iload 9 rfl rfl rfl ?_
  have hs1 : (-2147483648) ≤ σ 42 1 ∧ σ 42 1 ≤ 2147483647 := hI.1 42 1
  refine qr_callN 12 rfl rfl rfl (sf_152_42f2_2_0 (d := d + 0) hI r3 r4 r5 (by omega)) ?_
  have hs4 : (-2147483648) ≤ σ 42 1 ∧ σ 42 1 ≤ 2147483647 := hI.1 42 1
  rintro _ _ ⟨σ5, α6, rfl, hI7, hG8, v2, rfl, hv2, hp3⟩
  have hF9 : qFr [(42, 1)] [43] σ α σ5 α6 := qFr_t hF0 hG8 (by decide) (by decide)
  have hs10 : (-2147483648) ≤ σ5 42 1 ∧ σ5 42 1 ≤ 2147483647 := hI7.1 42 1
  show qr_W (qe L xs vb) (d + 6) qx_e151 _ (12, _, [.int (qz v2)], qw σ5 α6 κ ρ, 0, 0)
  refine qr_retI rfl rfl (by decide) (by decide) ?_
  have hw11 : σ5 42 1 = (σ5 42 1) := rfl
  exact ⟨_, _, rfl, hI7, hF9, v2, rfl, hv2, by omega⟩

set_option maxHeartbeats 4000000 in
set_option maxRecDepth 20000 in
/-- OneRoof$Acts.start -/
theorem sf_150_42s2_0 {L : Nat} {xs : Nat → Int} {vb : Bool} {d : Nat} {σ α : Nat → Nat → Int} {κ : Nat → Option Nat} {ρ : Nat} {x3 : Int} {x4 : Int} (hI : qI σ α κ ρ) (r3 : (-2147483648) ≤ x3 ∧ x3 ≤ 2147483647) (r4 : (-2147483648) ≤ x4 ∧ x4 ≤ 2147483647) (p0 : σ 42 1 = 0) : qm_T (qe L xs vb) (d + 8) 150 [.ref 42, .int (qz 2), .int (qz 0), .int (qz x3), .int (qz x4)] (qw σ α κ ρ) (fun r w' => ∃ σ' α', w' = qw σ' α' κ ρ ∧ qI σ' α' κ ρ ∧ qFr [(42, 1)] [43] σ α σ' α' ∧ ∃ v : Int, r = some (.int (qz v)) ∧ ((-2147483648) ≤ v ∧ v ≤ 2147483647)) := by
  refine qr_start (d := d + 7) qv_e150 (Nat.le_of_ble_eq_true rfl) ?_
  show qr_W (qe L xs vb) (d + 7) qx_e150 _ (0, [(0, .ref 42), (1, .int (qz 2)), (2, .int (qz 0)), (3, .int (qz x3)), (4, .int (qz x4))], [], _, 0, 0)
  have hF0 := qFr_rf [(42, 1)] [43] σ α
  have hz42_1 : (-2147483648) ≤ σ 42 1 ∧ σ 42 1 ≤ 2147483647 := hI.1 42 1
  refine qr_aload_n 1 rfl rfl rfl ?_
  refine qr_iload_n 2 rfl rfl rfl ?_
  refine qr_iload_n 3 rfl rfl rfl ?_
  refine qr_iload_n 4 rfl rfl rfl ?_
  refine qr_iload 6 rfl rfl rfl ?_
  refine qr_iconst 7 rfl rfl ?_
  have hs1 : (-2147483648) ≤ σ 42 1 ∧ σ 42 1 ≤ 2147483647 := hI.1 42 1
  refine qr_callN 10 rfl rfl rfl (sf_151_42r2_0 (d := d + 0) hI r3 r4 (by decide) (by omega)) ?_
  have hs4 : (-2147483648) ≤ σ 42 1 ∧ σ 42 1 ≤ 2147483647 := hI.1 42 1
  rintro _ _ ⟨σ5, α6, rfl, hI7, hG8, v2, rfl, hv2, hp3⟩
  have hF9 : qFr [(42, 1)] [43] σ α σ5 α6 := qFr_t hF0 hG8 (by decide) (by decide)
  have hs10 : (-2147483648) ≤ σ5 42 1 ∧ σ5 42 1 ≤ 2147483647 := hI7.1 42 1
  show qr_W (qe L xs vb) (d + 7) qx_e150 _ (10, _, [.int (qz v2)], qw σ5 α6 κ ρ, 0, 0)
  refine qr_retI rfl rfl (by decide) (by decide) ?_
  exact ⟨_, _, rfl, hI7, hF9, v2, rfl, hv2⟩

set_option maxHeartbeats 4000000 in
set_option maxRecDepth 20000 in
/-- OneRoof$Acts.begin -/
theorem sf_153_42b1_0_3 {L : Nat} {xs : Nat → Int} {vb : Bool} {d : Nat} {σ α : Nat → Nat → Int} {κ : Nat → Option Nat} {ρ : Nat} {x4 : Int} {x5 : Int} {x6 : Int} (hI : qI σ α κ ρ) (r4 : (-2147483648) ≤ x4 ∧ x4 ≤ 2147483647) (r5 : (-2147483648) ≤ x5 ∧ x5 ≤ 2147483647) (r6 : 0 ≤ x6 ∧ x6 ≤ 40) (p0 : 0 ≤ σ 42 1 ∧ σ 42 1 ≤ 1900) : qm_T (qe L xs vb) (d + 1) 153 [.ref 42, .int (qz 1), .int (qz 0), .int (qz 3), .int (qz x4), .int (qz x5), .int (qz x6)] (qw σ α κ ρ) (fun r w' => ∃ σ' α', w' = qw σ' α' κ ρ ∧ qI σ' α' κ ρ ∧ qFr [(42, 1)] [43] σ α σ' α' ∧ ∃ v : Int, r = some (.int (qz v)) ∧ ((-2147483648) ≤ v ∧ v ≤ 2147483647) ∧ σ' 42 1 = σ 42 1 + 1) := by
  refine qr_start (d := d + 0) qv_e153 (Nat.le_of_ble_eq_true rfl) ?_
  show qr_W (qe L xs vb) (d + 0) qx_e153 _ (0, [(0, .ref 42), (1, .int (qz 1)), (2, .int (qz 0)), (3, .int (qz 3)), (4, .int (qz x4)), (5, .int (qz x5)), (6, .int (qz x6))], [], _, 0, 0)
  have hF0 := qFr_rf [(42, 1)] [43] σ α
  have hz42_1 : (-2147483648) ≤ σ 42 1 ∧ σ 42 1 ≤ 2147483647 := hI.1 42 1
  refine qr_aload_n 1 rfl rfl rfl ?_
  refine qr_get 4 rfl rfl rfl (by decide) rfl ?_
  refine qr_aload_n 5 rfl rfl rfl ?_
  refine qr_get 8 rfl rfl rfl (by decide) rfl ?_
  refine qr_alen 9 rfl rfl (by first | exact Or.inl (by decide) | exact Or.inr (Or.inl rfl) | exact Or.inr (Or.inr (Or.inl rfl)) | exact Or.inr (Or.inr (Or.inr (Or.inl rfl)))) rfl ?_
  refine qy_v 24 rfl ?_
  refine qr_icmp_ge 22 12 rfl rfl rfl hz42_1 (by decide) (fun h1 => ?_) (fun h1 => ?_)
  · skip
    refine qr_aload_n 23 rfl rfl rfl ?_
    refine qr_dup 24 rfl rfl rfl ?_
    refine qr_get 27 rfl rfl rfl (by decide) rfl ?_
    refine qr_iconst 28 rfl rfl ?_
    refine qr_iadd 29 rfl rfl ?_
    refine qr_put 32 rfl (by decide) rfl (Nat.le_of_ble_eq_true rfl) (Nat.le_of_ble_eq_true rfl) (Or.inl rfl) (qr_fitI rfl _) rfl ?_
    refine qy_wS (qw_s σ 42 1 ((σ 42 1) + 1)) rfl (fun σ2 e3 => ?_)
    have hI4 : qI σ2 α κ ρ := by rw [e3]; exact qI_s hI 42 1 rfl (show (-2147483648) ≤ ((σ 42 1) + 1) ∧ ((σ 42 1) + 1) ≤ 2147483647 by omega)
    have hF5 : qFr [(42, 1)] [43] σ α σ2 α := by rw [e3]; exact qFr_s hF0 42 1 _ (by decide)
    refine qr_getst 35 rfl rfl ?_
    refine qr_iload_n 36 rfl rfl rfl ?_
    refine qr_iaload 37 rfl rfl (by decide) (by decide) rfl ?_
    refine qy_v (-1) (by decide) ?_
    refine qr_istore _ 39 rfl (by decide) rfl rfl ?_
    refine qr_iload_n 40 rfl rfl rfl ?_
    refine qr_look (off := 108) 148 rfl (by omega) (by decide) (by decide) rfl ?_
    refine qr_iload 150 rfl rfl rfl ?_
    refine qr_iload 152 rfl rfl rfl ?_
    refine qr_iadd 153 rfl rfl ?_
    refine qy_can (fun v6 hv6 => ?_)
    refine qr_retI rfl rfl (by decide) (by decide) ?_
    have hw7 : σ2 42 1 = ((σ 42 1) + 1) := (congrFun (congrFun e3 42) 1).trans rfl
    exact ⟨_, _, rfl, hI4, hF5, v6, rfl, hv6, by omega⟩
  · skip
    refine qr_aload_n 13 rfl rfl rfl ?_
    refine qr_get 16 rfl rfl rfl (by decide) rfl ?_
    refine qr_aload_n 17 rfl rfl rfl ?_
    refine qr_get 20 rfl rfl rfl (by decide) rfl ?_
    refine qr_iload_n 21 rfl rfl rfl ?_
    refine qr_iastore 22 rfl (by decide) rfl (by omega) (by decide) rfl ?_
    refine qy_wA (qw_r α 43 (qzu (α 43) ((σ 42 1) : Int).toNat 1)) rfl (fun α8 e9 => ?_)
    have hI10 : qI σ α8 κ ρ := by rw [e9]; exact qI_r hI 43 _ rfl (show (-2147483648) ≤ 1 ∧ 1 ≤ 2147483647 by omega)
    have hF11 : qFr [(42, 1)] [43] σ α σ α8 := by rw [e9]; exact qFr_r hF0 43 _ (by decide)
    refine qr_aload_n 23 rfl rfl rfl ?_
    refine qr_dup 24 rfl rfl rfl ?_
    refine qr_get 27 rfl rfl rfl (by decide) rfl ?_
    refine qr_iconst 28 rfl rfl ?_
    refine qr_iadd 29 rfl rfl ?_
    refine qr_put 32 rfl (by decide) rfl (Nat.le_of_ble_eq_true rfl) (Nat.le_of_ble_eq_true rfl) (Or.inl rfl) (qr_fitI rfl _) rfl ?_
    refine qy_wS (qw_s σ 42 1 ((σ 42 1) + 1)) rfl (fun σ12 e13 => ?_)
    have hI14 : qI σ12 α8 κ ρ := by rw [e13]; exact qI_s hI10 42 1 rfl (show (-2147483648) ≤ ((σ 42 1) + 1) ∧ ((σ 42 1) + 1) ≤ 2147483647 by omega)
    have hF15 : qFr [(42, 1)] [43] σ α σ12 α8 := by rw [e13]; exact qFr_s hF11 42 1 _ (by decide)
    refine qr_getst 35 rfl rfl ?_
    refine qr_iload_n 36 rfl rfl rfl ?_
    refine qr_iaload 37 rfl rfl (by decide) (by decide) rfl ?_
    refine qy_v (-1) (by decide) ?_
    refine qr_istore _ 39 rfl (by decide) rfl rfl ?_
    refine qr_iload_n 40 rfl rfl rfl ?_
    refine qr_look (off := 108) 148 rfl (by omega) (by decide) (by decide) rfl ?_
    refine qr_iload 150 rfl rfl rfl ?_
    refine qr_iload 152 rfl rfl rfl ?_
    refine qr_iadd 153 rfl rfl ?_
    refine qy_can (fun v16 hv16 => ?_)
    refine qr_retI rfl rfl (by decide) (by decide) ?_
    have hw17 : σ12 42 1 = ((σ 42 1) + 1) := (congrFun (congrFun e13 42) 1).trans rfl
    exact ⟨_, _, rfl, hI14, hF15, v16, rfl, hv16, by omega⟩
