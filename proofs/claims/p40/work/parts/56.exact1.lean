/-! what the makers of state do, exactly -/
def qnar (s x : Int) : Int := if s = 0 then qz_i2b x else if s = 1 then qz_i2s x else if s = 2 then (qz x).toInt else if s = 3 then x else if x = 0 then 0 else 1
theorem qna_b {x v1 v2 : Int} (h1 : qz v1 = qz x) (h2 : qz v2 = qz (qz_i2b v1)) (r : -2147483648 ≤ v2 ∧ v2 ≤ 2147483647) : v2 = qz_i2b x := by
  have e : qz_i2b v1 = qz_i2b x := by unfold qz_i2b; rw [h1]
  have h3 := congrArg Int32.toInt h2
  rw [e, qz_ti r, qz_ti (show -2147483648 ≤ qz_i2b x ∧ qz_i2b x ≤ 2147483647 from qz_rng _)] at h3
  exact h3
theorem qna_s {x v1 v2 : Int} (h1 : qz v1 = qz x) (h2 : qz v2 = qz (qz_i2s v1)) (r : -2147483648 ≤ v2 ∧ v2 ≤ 2147483647) : v2 = qz_i2s x := by
  have e : qz_i2s v1 = qz_i2s x := by unfold qz_i2s; rw [h1]
  have h3 := congrArg Int32.toInt h2
  rw [e, qz_ti r, qz_ti (show -2147483648 ≤ qz_i2s x ∧ qz_i2s x ≤ 2147483647 from qz_rng _)] at h3
  exact h3
theorem qna_i {x v1 : Int} (h1 : qz v1 = qz x) (r : -2147483648 ≤ v1 ∧ v1 ≤ 2147483647) : v1 = (qz x).toInt := by
  have h3 := congrArg Int32.toInt h1
  rw [qz_ti r] at h3
  exact h3
theorem ql_ushr32 {a : Int} (h : 0 ≤ a ∧ a ≤ 9223372036854775807) : ql_ushr a 32 = a / 4294967296 := by
  have h1 : ql (ql_ushr a 32) = ql (ql_ushr a 32) := rfl
  have g1 : qlu (ql_ushr a 32) = qlu a / 4294967296 := qlu_ushrN 32 (by decide) (by decide) h1
  have g2 := qlu_nn h
  have g3 := qlu_sm (v := ql_ushr a 32) (ql_rng _) (by omega)
  omega
/-- nothing but 0 on b places from a on -/
def qzfl (f : Nat → Int) (a b : Nat) : Nat → Int := fun j => if a ≤ j ∧ j < a + b then 0 else f j
theorem qzfl_0 (f : Nat → Int) (a : Nat) : f = qzfl f a 0 := by
  funext j
  unfold qzfl
  rw [if_neg (by omega)]
theorem qzfl_s {f : Nat → Int} {a b i c : Nat} (hi : i = a + b) (hc : c = b + 1) : qzu (qzfl f a b) i 0 = qzfl f a c := by
  funext j
  show (if j = i then 0 else (if a ≤ j ∧ j < a + b then 0 else f j)) = if a ≤ j ∧ j < a + c then 0 else f j
  by_cases h : j = i
  · rw [if_pos h, if_pos (by omega)]
  · rw [if_neg h]
    by_cases h2 : a ≤ j ∧ j < a + b
    · rw [if_pos h2, if_pos (by omega)]
    · rw [if_neg h2, if_neg (by omega)]
theorem qcpy_0 (f g : Nat → Int) (a b : Nat) : g = va_cpy f g a b 0 := by
  funext j
  unfold va_cpy
  rw [if_neg (by omega)]
theorem qcpy_s {f g : Nat → Int} {a b n i c : Nat} {x : Int} (hi : i = b + n) (hc : c = n + 1) (hx : x = f (a + n)) : qzu (va_cpy f g a b n) i x = va_cpy f g a b c := by
  funext j
  show (if j = i then x else (if b ≤ j ∧ j < b + n then f (a + (j - b)) else g j)) = if b ≤ j ∧ j < b + c then f (a + (j - b)) else g j
  by_cases h : j = i
  · rw [if_pos h, if_pos (by omega), hx]
    congr 1
    omega
  · rw [if_neg h]
    by_cases h2 : b ≤ j ∧ j < b + n
    · rw [if_pos h2, if_pos (by omega)]
    · rw [if_neg h2, if_neg (by omega)]
theorem qcpy_2 (f h : Nat → Int) (a b n : Nat) : va_cpy (va_cpy f h a 0 n) f 0 b n = va_cpy f f a b n := by
  funext j
  unfold va_cpy
  by_cases h2 : b ≤ j ∧ j < b + n
  · rw [if_pos h2, if_pos h2, if_pos (by omega)]
    congr 1
    omega
  · rw [if_neg h2, if_neg h2]
/-- people from a row: f what stands at a place, c how many came, s how many there are, their lords, their weights -/
def qfit (s a b c : Int) : Prop := (a = -1 ∨ (0 ≤ a ∧ a < s)) ∧ (1 ≤ b ∧ b ≤ 99) ∧ (c = 0 ∨ c = 1)

set_option maxHeartbeats 4000000 in
set_option maxRecDepth 20000 in
/-- OneRoof$Folk.fits -/
theorem sf_39_17x {L : Nat} {xs : Nat → Int} {vb : Bool} {d : Nat} {σ α : Nat → Nat → Int} {κ : Nat → Option Nat} {ρ : Nat} {x1 : Int} {x2 : Int} {x3 : Int} (hI : qI σ α κ ρ) (r1 : (-2147483648) ≤ x1 ∧ x1 ≤ 2147483647) (r2 : (-2147483648) ≤ x2 ∧ x2 ≤ 2147483647) (r3 : (-2147483648) ≤ x3 ∧ x3 ≤ 2147483647) : qm_T (qe L xs vb) (d + 2) 39 [.ref 17, .int (qz x1), .int (qz x2), .int (qz x3)] (qw σ α κ ρ) (fun r w' => w' = qw σ α κ ρ ∧ ∃ v : Int, r = some (.int (qz v)) ∧ (0 ≤ v ∧ v ≤ 1) ∧ ((v = 1 ∧ ((x1 = -1 ∨ (0 ≤ x1 ∧ x1 < σ 17 6)) ∧ 1 ≤ x2 ∧ x2 ≤ 99 ∧ (x3 = 0 ∨ x3 = 1))) ∨ (v = 0 ∧ ¬ (((x1 = -1 ∨ (0 ≤ x1 ∧ x1 < σ 17 6)) ∧ 1 ≤ x2 ∧ x2 ≤ 99 ∧ (x3 = 0 ∨ x3 = 1)))))) := by
  refine qr_start (d := d + 1) qv_e39 (Nat.le_of_ble_eq_true rfl) ?_
  show qr_W (qe L xs vb) (d + 1) qx_e39 _ (0, [(0, .ref 17), (1, .int (qz x1)), (2, .int (qz x2)), (3, .int (qz x3))], [], _, 0, 0)
  have hz17_6 : 0 ≤ σ 17 6 ∧ σ 17 6 ≤ 32 := hI.1 17 6
  refine qr_iload_n 1 rfl rfl rfl ?_
  refine qr_iconst 2 rfl rfl ?_
  refine qr_icmp_eq 13 5 rfl rfl rfl r1 (by decide) (fun h1 => ?_) (fun h1 => ?_)
  · skip
    refine qr_iload_n 14 rfl rfl rfl ?_
    refine qr_iconst 15 rfl rfl ?_
    refine qr_icmp_lt 35 18 rfl rfl rfl r2 (by decide) (fun h2 => ?_) (fun h2 => ?_)
    · skip
      refine qr_iconst 36 rfl rfl ?_
      refine qr_retZ rfl rfl (Or.inl rfl) (by decide) (by decide) ?_
      exact ⟨rfl, 0, rfl, (by decide), by omega⟩
    · skip
      refine qr_iload_n 19 rfl rfl rfl ?_
      refine qr_bipush 21 rfl (by decide) rfl ?_
      refine qr_icmp_gt 35 24 rfl rfl rfl r2 (by decide) (fun h3 => ?_) (fun h3 => ?_)
      · skip
        refine qr_iconst 36 rfl rfl ?_
        refine qr_retZ rfl rfl (Or.inl rfl) (by decide) (by decide) ?_
        exact ⟨rfl, 0, rfl, (by decide), by omega⟩
      · skip
        refine qr_iload_n 25 rfl rfl rfl ?_
        refine qr_callN 28 rfl rfl rfl (sf_41 (d := d + 0) hI r3) ?_
        rintro _ _ ⟨rfl, v4, rfl, hv4, hp5⟩
        show qr_W (qe L xs vb) (d + 1) qx_e39 _ (28, _, [.int (qz v4)], qw σ α κ ρ, 0, 0)
        refine qr_if_eq 35 31 rfl rfl rfl (qrg hv4 (by decide) (by decide)) (fun h6 => ?_) (fun h6 => ?_)
        · skip
          refine qr_iconst 36 rfl rfl ?_
          refine qr_retZ rfl rfl (Or.inl rfl) (by decide) (by decide) ?_
          exact ⟨rfl, 0, rfl, (by decide), by omega⟩
        · skip
          refine qr_iconst 32 rfl rfl ?_
          refine qr_goto 36 rfl rfl ?_
          refine qr_retZ rfl rfl (Or.inr rfl) (by decide) (by decide) ?_
          exact ⟨rfl, 1, rfl, (by decide), by omega⟩
  · skip
    refine qr_aload_n 6 rfl rfl rfl ?_
    refine qr_iload_n 7 rfl rfl rfl ?_
    refine qr_callN 10 rfl rfl rfl (sf_40_17 (d := d + 0) hI r1) ?_
    have hs9 : 0 ≤ σ 17 6 ∧ σ 17 6 ≤ 32 := hI.1 17 6
    rintro _ _ ⟨rfl, v7, rfl, hv7, hp8⟩
    show qr_W (qe L xs vb) (d + 1) qx_e39 _ (10, _, [.int (qz v7)], qw σ α κ ρ, 0, 0)
    refine qr_if_eq 35 13 rfl rfl rfl (qrg hv7 (by decide) (by decide)) (fun h10 => ?_) (fun h10 => ?_)
    · skip
      refine qr_iconst 36 rfl rfl ?_
      refine qr_retZ rfl rfl (Or.inl rfl) (by decide) (by decide) ?_
      exact ⟨rfl, 0, rfl, (by decide), by omega⟩
    · skip
      refine qr_iload_n 14 rfl rfl rfl ?_
      refine qr_iconst 15 rfl rfl ?_
      refine qr_icmp_lt 35 18 rfl rfl rfl r2 (by decide) (fun h11 => ?_) (fun h11 => ?_)
      · skip
        refine qr_iconst 36 rfl rfl ?_
        refine qr_retZ rfl rfl (Or.inl rfl) (by decide) (by decide) ?_
        exact ⟨rfl, 0, rfl, (by decide), by omega⟩
      · skip
        refine qr_iload_n 19 rfl rfl rfl ?_
        refine qr_bipush 21 rfl (by decide) rfl ?_
        refine qr_icmp_gt 35 24 rfl rfl rfl r2 (by decide) (fun h12 => ?_) (fun h12 => ?_)
        · skip
          refine qr_iconst 36 rfl rfl ?_
          refine qr_retZ rfl rfl (Or.inl rfl) (by decide) (by decide) ?_
          exact ⟨rfl, 0, rfl, (by decide), by omega⟩
        · skip
          refine qr_iload_n 25 rfl rfl rfl ?_
          refine qr_callN 28 rfl rfl rfl (sf_41 (d := d + 0) hI r3) ?_
          rintro _ _ ⟨rfl, v13, rfl, hv13, hp14⟩
          show qr_W (qe L xs vb) (d + 1) qx_e39 _ (28, _, [.int (qz v13)], qw σ α κ ρ, 0, 0)
          refine qr_if_eq 35 31 rfl rfl rfl (qrg hv13 (by decide) (by decide)) (fun h15 => ?_) (fun h15 => ?_)
          · skip
            refine qr_iconst 36 rfl rfl ?_
            refine qr_retZ rfl rfl (Or.inl rfl) (by decide) (by decide) ?_
            exact ⟨rfl, 0, rfl, (by decide), by omega⟩
          · skip
            refine qr_iconst 32 rfl rfl ?_
            refine qr_goto 36 rfl rfl ?_
            refine qr_retZ rfl rfl (Or.inr rfl) (by decide) (by decide) ?_
            exact ⟨rfl, 1, rfl, (by decide), by omega⟩

set_option maxHeartbeats 4000000 in
set_option maxRecDepth 20000 in
/-- OneRoof$Folk.come -/
theorem sf_42_17x {L : Nat} {xs : Nat → Int} {vb : Bool} {d : Nat} {σ α : Nat → Nat → Int} {κ : Nat → Option Nat} {ρ : Nat} {x1 : Int} {x2 : Int} {x3 : Int} (hI : qI σ α κ ρ) (r1 : (-1) ≤ x1 ∧ x1 ≤ 31) (r2 : 0 ≤ x2 ∧ x2 ≤ 99) (r3 : 0 ≤ x3 ∧ x3 ≤ 1) (p0 : σ 17 6 ≤ 31) : qm_T (qe L xs vb) (d + 1) 42 [.ref 17, .int (qz x1), .int (qz x2), .int (qz x3)] (qw σ α κ ρ) (fun r w' => ∃ σ' α', w' = qw σ' α' κ ρ ∧ qI σ' α' κ ρ ∧ qFr [(17, 6)] [18, 19, 20, 22] σ α σ' α' ∧ σ' 17 6 = σ 17 6 + 1 ∧ ∃ v : Int, r = some (.int (qz v)) ∧ (0 ≤ v ∧ v ≤ 31) ∧ v = σ 17 6 ∧ α' 18 = qzu (α 18) (v : Int).toNat (x1) ∧ α' 19 = qzu (α 19) (v : Int).toNat (x2)) := by
  refine qr_start (d := d + 0) qv_e42 (Nat.le_of_ble_eq_true rfl) ?_
  show qr_W (qe L xs vb) (d + 0) qx_e42 _ (0, [(0, .ref 17), (1, .int (qz x1)), (2, .int (qz x2)), (3, .int (qz x3))], [], _, 0, 0)
  have hF0 := qFr_rf [(17, 6)] [18, 19, 20, 22] σ α
  have hz17_6 : 0 ≤ σ 17 6 ∧ σ 17 6 ≤ 32 := hI.1 17 6
  refine qr_aload_n 1 rfl rfl rfl ?_
  refine qr_get 4 rfl rfl rfl (by decide) rfl ?_
  refine qr_aload_n 5 rfl rfl rfl ?_
  refine qr_get 8 rfl rfl rfl (by decide) rfl ?_
  refine qr_iload_n 9 rfl rfl rfl ?_
  refine qr_iastore 10 rfl (by decide) rfl (by omega) (by decide) rfl ?_
  refine qy_wA (qw_r α 18 (qzu (α 18) ((σ 17 6) : Int).toNat x1)) rfl (fun α1 e2 => ?_)
  have hI3 : qI σ α1 κ ρ := by rw [e2]; exact qI_r hI 18 _ rfl (show (-1) ≤ x1 ∧ x1 ≤ 31 by omega)
  have hF4 : qFr [(17, 6)] [18, 19, 20, 22] σ α σ α1 := by rw [e2]; exact qFr_r hF0 18 _ (by decide)
  refine qr_aload_n 11 rfl rfl rfl ?_
  refine qr_get 14 rfl rfl rfl (by decide) rfl ?_
  refine qr_aload_n 15 rfl rfl rfl ?_
  refine qr_get 18 rfl rfl rfl (by decide) rfl ?_
  refine qr_iload_n 19 rfl rfl rfl ?_
  refine qr_iastore 20 rfl (by decide) rfl (by omega) (by decide) rfl ?_
  refine qy_wA (qw_r α1 19 (qzu (α1 19) ((σ 17 6) : Int).toNat x2)) rfl (fun α5 e6 => ?_)
  have hI7 : qI σ α5 κ ρ := by rw [e6]; exact qI_r hI3 19 _ rfl (show 0 ≤ x2 ∧ x2 ≤ 99 by omega)
  have hF8 : qFr [(17, 6)] [18, 19, 20, 22] σ α σ α5 := by rw [e6]; exact qFr_r hF4 19 _ (by decide)
  refine qr_aload_n 21 rfl rfl rfl ?_
  refine qr_get 24 rfl rfl rfl (by decide) rfl ?_
  refine qr_aload_n 25 rfl rfl rfl ?_
  refine qr_get 28 rfl rfl rfl (by decide) rfl ?_
  refine qr_iload_n 29 rfl rfl rfl ?_
  refine qr_iastore 30 rfl (by decide) rfl (by omega) (by decide) rfl ?_
  refine qy_wA (qw_r α5 20 (qzu (α5 20) ((σ 17 6) : Int).toNat x3)) rfl (fun α9 e10 => ?_)
  have hI11 : qI σ α9 κ ρ := by rw [e10]; exact qI_r hI7 20 _ rfl (show (-2147483648) ≤ x3 ∧ x3 ≤ 2147483647 by omega)
  have hF12 : qFr [(17, 6)] [18, 19, 20, 22] σ α σ α9 := by rw [e10]; exact qFr_r hF8 20 _ (by decide)
  refine qr_aload_n 31 rfl rfl rfl ?_
  refine qr_get 34 rfl rfl rfl (by decide) rfl ?_
  refine qr_aload_n 35 rfl rfl rfl ?_
  refine qr_get 38 rfl rfl rfl (by decide) rfl ?_
  refine qr_lconst 39 rfl rfl ?_
  refine qy_vl 1 rfl ?_
  refine qr_aload_n 40 rfl rfl rfl ?_
  refine qr_get 43 rfl rfl rfl (by decide) rfl ?_
  refine qr_lshl 44 rfl rfl ?_
  refine qy_canl (fun v13 hv13 => ?_)
  refine qr_iload_n 45 rfl rfl rfl ?_
  refine qr_if_ge 52 48 rfl rfl rfl (qrg r1 (by decide) (by decide)) (fun h14 => ?_) (fun h14 => ?_)
  · skip
    refine qr_aload_n 53 rfl rfl rfl ?_
    refine qr_get 56 rfl rfl rfl (by decide) rfl ?_
    refine qr_iload_n 57 rfl rfl rfl ?_
    refine qr_laload 58 rfl (by decide) rfl (by omega) (by decide) rfl ?_
    refine qr_topL (fun v15 hv15 => ?_)
    have hs16 : (-9223372036854775808) ≤ v15 ∧ v15 ≤ 9223372036854775807 := by rw [hv15]; exact hI11.2.1 22 _ (show _ < 32 from qrgt r1 (by decide) (by decide))
    refine qr_lor 59 rfl rfl ?_
    refine qy_canl (fun v17 hv17 => ?_)
    refine qr_lastore 60 rfl (by decide) rfl (by omega) (by decide) rfl ?_
    refine qy_wA (qw_r α9 22 (qzu (α9 22) ((σ 17 6) : Int).toNat v17)) rfl (fun α18 e19 => ?_)
    have hI20 : qI σ α18 κ ρ := by rw [e19]; exact qI_r hI11 22 _ rfl (show (-9223372036854775808) ≤ v17 ∧ v17 ≤ 9223372036854775807 by omega)
    have hF21 : qFr [(17, 6)] [18, 19, 20, 22] σ α σ α18 := by rw [e19]; exact qFr_r hF12 22 _ (by decide)
    refine qr_aload_n 61 rfl rfl rfl ?_
    refine qr_dup 62 rfl rfl rfl ?_
    refine qr_get 65 rfl rfl rfl (by decide) rfl ?_
    refine qr_dup_x1 66 rfl rfl rfl rfl ?_
    refine qr_iconst 67 rfl rfl ?_
    refine qr_iadd 68 rfl rfl ?_
    refine qr_put 71 rfl (by decide) rfl (Nat.le_of_ble_eq_true rfl) (Nat.le_of_ble_eq_true rfl) (Or.inl rfl) (qr_fitI rfl _) rfl ?_
    refine qy_wS (qw_s σ 17 6 ((σ 17 6) + 1)) rfl (fun σ22 e23 => ?_)
    have hI24 : qI σ22 α18 κ ρ := by rw [e23]; exact qI_s hI20 17 6 rfl (show 0 ≤ ((σ 17 6) + 1) ∧ ((σ 17 6) + 1) ≤ 32 by omega)
    have hF25 : qFr [(17, 6)] [18, 19, 20, 22] σ α σ22 α18 := by rw [e23]; exact qFr_s hF21 17 6 _ (by decide)
    refine qr_retI rfl rfl (by decide) (by decide) ?_
    exact ⟨_, _, rfl, hI24, hF25, (by have hw : σ22 17 6 = ((σ 17 6) + 1) := (congrFun (congrFun e23 17) 6).trans rfl; omega), (σ 17 6), rfl, (by omega), by omega, ((congrFun e19 18).trans ((qw_r_ne (by decide)).trans ((congrFun e10 18).trans ((qw_r_ne (by decide)).trans ((congrFun e6 18).trans ((qw_r_ne (by decide)).trans ((congrFun e2 18).trans (qw_r_eq.trans (congrArg (fun f => qzu f ((σ 17 6) : Int).toNat x1) rfl))))))))), ((congrFun e19 19).trans ((qw_r_ne (by decide)).trans ((congrFun e10 19).trans ((qw_r_ne (by decide)).trans ((congrFun e6 19).trans (qw_r_eq.trans (congrArg (fun f => qzu f ((σ 17 6) : Int).toNat x2) ((congrFun e2 19).trans ((qw_r_ne (by decide)).trans rfl)))))))))⟩
  · skip
    refine qr_lconst 49 rfl rfl ?_
    refine qy_vl 0 rfl ?_
    refine qr_goto 58 rfl rfl ?_
    refine qr_lor 59 rfl rfl ?_
    refine qy_canl (fun v26 hv26 => ?_)
    refine qr_lastore 60 rfl (by decide) rfl (by omega) (by decide) rfl ?_
    refine qy_wA (qw_r α9 22 (qzu (α9 22) ((σ 17 6) : Int).toNat v26)) rfl (fun α27 e28 => ?_)
    have hI29 : qI σ α27 κ ρ := by rw [e28]; exact qI_r hI11 22 _ rfl (show (-9223372036854775808) ≤ v26 ∧ v26 ≤ 9223372036854775807 by omega)
    have hF30 : qFr [(17, 6)] [18, 19, 20, 22] σ α σ α27 := by rw [e28]; exact qFr_r hF12 22 _ (by decide)
    refine qr_aload_n 61 rfl rfl rfl ?_
    refine qr_dup 62 rfl rfl rfl ?_
    refine qr_get 65 rfl rfl rfl (by decide) rfl ?_
    refine qr_dup_x1 66 rfl rfl rfl rfl ?_
    refine qr_iconst 67 rfl rfl ?_
    refine qr_iadd 68 rfl rfl ?_
    refine qr_put 71 rfl (by decide) rfl (Nat.le_of_ble_eq_true rfl) (Nat.le_of_ble_eq_true rfl) (Or.inl rfl) (qr_fitI rfl _) rfl ?_
    refine qy_wS (qw_s σ 17 6 ((σ 17 6) + 1)) rfl (fun σ31 e32 => ?_)
    have hI33 : qI σ31 α27 κ ρ := by rw [e32]; exact qI_s hI29 17 6 rfl (show 0 ≤ ((σ 17 6) + 1) ∧ ((σ 17 6) + 1) ≤ 32 by omega)
    have hF34 : qFr [(17, 6)] [18, 19, 20, 22] σ α σ31 α27 := by rw [e32]; exact qFr_s hF30 17 6 _ (by decide)
    refine qr_retI rfl rfl (by decide) (by decide) ?_
    exact ⟨_, _, rfl, hI33, hF34, (by have hw : σ31 17 6 = ((σ 17 6) + 1) := (congrFun (congrFun e32 17) 6).trans rfl; omega), (σ 17 6), rfl, (by omega), by omega, ((congrFun e28 18).trans ((qw_r_ne (by decide)).trans ((congrFun e10 18).trans ((qw_r_ne (by decide)).trans ((congrFun e6 18).trans ((qw_r_ne (by decide)).trans ((congrFun e2 18).trans (qw_r_eq.trans (congrArg (fun f => qzu f ((σ 17 6) : Int).toNat x1) rfl))))))))), ((congrFun e28 19).trans ((qw_r_ne (by decide)).trans ((congrFun e10 19).trans ((qw_r_ne (by decide)).trans ((congrFun e6 19).trans (qw_r_eq.trans (congrArg (fun f => qzu f ((σ 17 6) : Int).toNat x2) ((congrFun e2 19).trans ((qw_r_ne (by decide)).trans rfl)))))))))⟩

set_option maxHeartbeats 4000000 in
set_option maxRecDepth 20000 in
/-- OneRoof.person -/
theorem sf_38_16x {L : Nat} {xs : Nat → Int} {vb : Bool} {d : Nat} {σ α : Nat → Nat → Int} {κ : Nat → Option Nat} {ρ : Nat} {x1 : Int} {x2 : Int} {x3 : Int} (hI : qI σ α κ ρ) (r1 : (-2147483648) ≤ x1 ∧ x1 ≤ 2147483647) (r2 : (-2147483648) ≤ x2 ∧ x2 ≤ 2147483647) (r3 : (-2147483648) ≤ x3 ∧ x3 ≤ 2147483647) : qm_T (qe L xs vb) (d + 3) 38 [.ref 16, .int (qz x1), .int (qz x2), .int (qz x3)] (qw σ α κ ρ) (fun r w' => ∃ σ' α', w' = qw σ' α' κ ρ ∧ qI σ' α' κ ρ ∧ qFr [(17, 6)] [18, 19, 20, 22] σ α σ' α' ∧ ∃ v : Int, r = some (.int (qz v)) ∧ ((-3) ≤ v ∧ v ≤ 31) ∧ (((v = -1 ∧ ¬ ((x1 = -1 ∨ (0 ≤ x1 ∧ x1 < σ 17 6)) ∧ 1 ≤ x2 ∧ x2 ≤ 99 ∧ (x3 = 0 ∨ x3 = 1)) ∧ σ' 17 6 = σ 17 6) ∧ α' 18 = α 18 ∧ α' 19 = α 19) ∨ ((v = -3 ∧ ((x1 = -1 ∨ (0 ≤ x1 ∧ x1 < σ 17 6)) ∧ 1 ≤ x2 ∧ x2 ≤ 99 ∧ (x3 = 0 ∨ x3 = 1)) ∧ 32 ≤ σ 17 6 ∧ σ' 17 6 = σ 17 6) ∧ α' 18 = α 18 ∧ α' 19 = α 19) ∨ ((v = σ 17 6 ∧ ((x1 = -1 ∨ (0 ≤ x1 ∧ x1 < σ 17 6)) ∧ 1 ≤ x2 ∧ x2 ≤ 99 ∧ (x3 = 0 ∨ x3 = 1)) ∧ σ 17 6 < 32 ∧ σ' 17 6 = σ 17 6 + 1) ∧ α' 18 = qzu (α 18) (v : Int).toNat (x1) ∧ α' 19 = qzu (α 19) (v : Int).toNat (x2)))) := by
  refine qr_start (d := d + 2) qv_e38 (Nat.le_of_ble_eq_true rfl) ?_
  show qr_W (qe L xs vb) (d + 2) qx_e38 _ (0, [(0, .ref 16), (1, .int (qz x1)), (2, .int (qz x2)), (3, .int (qz x3))], [], _, 0, 0)
  have hF0 := qFr_rf [(17, 6)] [18, 19, 20, 22] σ α
  have hz17_6 : 0 ≤ σ 17 6 ∧ σ 17 6 ≤ 32 := hI.1 17 6
  refine qr_aload_n 1 rfl rfl rfl ?_
  refine qr_get 4 rfl rfl rfl (by decide) rfl ?_
  refine qr_iload_n 5 rfl rfl rfl ?_
  refine qr_iload_n 6 rfl rfl rfl ?_
  refine qr_iload_n 7 rfl rfl rfl ?_
  refine qr_callN 10 rfl rfl rfl (sf_39_17x (d := d + 0) hI r1 r2 r3) ?_
  have hs3 : 0 ≤ σ 17 6 ∧ σ 17 6 ≤ 32 := hI.1 17 6
  rintro _ _ ⟨rfl, v1, rfl, hv1, hp2⟩
  show qr_W (qe L xs vb) (d + 2) qx_e38 _ (10, _, [.int (qz v1)], qw σ α κ ρ, 0, 0)
  refine qr_if_ne 15 13 rfl rfl rfl (qrg hv1 (by decide) (by decide)) (fun h4 => ?_) (fun h4 => ?_)
  · skip
    refine qr_aload_n 16 rfl rfl rfl ?_
    refine qr_get 19 rfl rfl rfl (by decide) rfl ?_
    refine qr_get 22 rfl rfl rfl (by decide) rfl ?_
    refine qr_bipush 24 rfl (by decide) rfl ?_
    refine qr_icmp_lt 30 27 rfl rfl rfl (qrg hz17_6 (by decide) (by decide)) (by decide) (fun h5 => ?_) (fun h5 => ?_)
    · skip
      refine qr_aload_n 31 rfl rfl rfl ?_
      refine qr_get 34 rfl rfl rfl (by decide) rfl ?_
      refine qr_iload_n 35 rfl rfl rfl ?_
      refine qr_iload_n 36 rfl rfl rfl ?_
      refine qr_iload_n 37 rfl rfl rfl ?_
      have hs6 : 0 ≤ σ 17 6 ∧ σ 17 6 ≤ 32 := hI.1 17 6
      refine qr_callN 40 rfl rfl rfl (sf_42_17x (d := d + 1) hI (by omega) (by omega) (by omega) (by omega)) ?_
      have hs12 : 0 ≤ σ 17 6 ∧ σ 17 6 ≤ 32 := hI.1 17 6
      rintro _ _ ⟨σ13, α14, rfl, hI15, hG16, hw11, v7, rfl, hv7, hp8, hx9, hx10⟩
      have hF17 : qFr [(17, 6)] [18, 19, 20, 22] σ α σ13 α14 := qFr_t hF0 hG16 (by decide) (by decide)
      have hs18 : 0 ≤ σ13 17 6 ∧ σ13 17 6 ≤ 32 := hI15.1 17 6
      show qr_W (qe L xs vb) (d + 2) qx_e38 _ (40, _, [.int (qz v7)], qw σ13 α14 κ ρ, 0, 0)
      refine qr_retI rfl rfl (by decide) (by decide) ?_
      have hw19 : σ13 17 6 = (σ13 17 6) := rfl
      exact ⟨_, _, rfl, hI15, hF17, v7, rfl, (qrg hv7 (by decide) (by decide)), (Or.inr (Or.inr (⟨by omega, (hx9.trans (congrArg (fun f => qzu (f) (v7 : Int).toNat (x1)) rfl)), (hx10.trans (congrArg (fun f => qzu (f) (v7 : Int).toNat (x2)) rfl))⟩)))⟩
    · skip
      refine qr_bipush 29 rfl (by decide) rfl ?_
      refine qr_retI rfl rfl (by decide) (by decide) ?_
      have hw20 : σ 17 6 = (σ 17 6) := rfl
      exact ⟨_, _, rfl, hI, hF0, (-3), rfl, (by decide), (Or.inr (Or.inl ⟨by omega, rfl, rfl⟩))⟩
  · skip
    refine qr_iconst 14 rfl rfl ?_
    refine qr_retI rfl rfl (by decide) (by decide) ?_
    have hw21 : σ 17 6 = (σ 17 6) := rfl
    exact ⟨_, _, rfl, hI, hF0, (-1), rfl, (by decide), (Or.inl ⟨by omega, rfl, rfl⟩)⟩

set_option maxHeartbeats 4000000 in
set_option maxRecDepth 20000 in
/-- OneRoof$Feuds.begin -/
theorem sf_63_27x {L : Nat} {xs : Nat → Int} {vb : Bool} {d : Nat} {σ α : Nat → Nat → Int} {κ : Nat → Option Nat} {ρ : Nat} {x1 : Int} {x2 : Int} {x3 : Int} {x4 : Int} {x5 : Int} (hI : qI σ α κ ρ) (r1 : 0 ≤ x1 ∧ x1 ≤ 31) (r2 : 0 ≤ x2 ∧ x2 ≤ 31) (r3 : (-2147483648) ≤ x3 ∧ x3 ≤ 2147483647) (r4 : 0 ≤ x4 ∧ x4 ≤ 3) (r5 : (-2147483648) ≤ x5 ∧ x5 ≤ 2147483647) (p0 : σ 27 7 ≤ 39) : qm_T (qe L xs vb) (d + 1) 63 [.ref 27, .int (qz x1), .int (qz x2), .int (qz x3), .int (qz x4), .int (qz x5)] (qw σ α κ ρ) (fun r w' => ∃ σ' α', w' = qw σ' α' κ ρ ∧ qI σ' α' κ ρ ∧ qFr [(27, 7)] [28, 29, 30, 31, 32, 33] σ α σ' α' ∧ σ' 27 7 = σ 27 7 + 1 ∧ ∃ v : Int, r = some (.int (qz v)) ∧ (0 ≤ v ∧ v ≤ 39) ∧ v = σ 27 7) := by
  refine qr_start (d := d + 0) qv_e63 (Nat.le_of_ble_eq_true rfl) ?_
  show qr_W (qe L xs vb) (d + 0) qx_e63 _ (0, [(0, .ref 27), (1, .int (qz x1)), (2, .int (qz x2)), (3, .int (qz x3)), (4, .int (qz x4)), (5, .int (qz x5))], [], _, 0, 0)
  have hF0 := qFr_rf [(27, 7)] [28, 29, 30, 31, 32, 33] σ α
  have hz27_7 : 0 ≤ σ 27 7 ∧ σ 27 7 ≤ 40 := hI.1 27 7
  refine qr_aload_n 1 rfl rfl rfl ?_
  refine qr_get 4 rfl rfl rfl (by decide) rfl ?_
  refine qr_aload_n 5 rfl rfl rfl ?_
  refine qr_get 8 rfl rfl rfl (by decide) rfl ?_
  refine qr_iload_n 9 rfl rfl rfl ?_
  refine qr_iastore 10 rfl (by decide) rfl (by omega) (by decide) rfl ?_
  refine qy_wA (qw_r α 28 (qzu (α 28) ((σ 27 7) : Int).toNat x1)) rfl (fun α1 e2 => ?_)
  have hI3 : qI σ α1 κ ρ := by rw [e2]; exact qI_r hI 28 _ rfl (show 0 ≤ x1 ∧ x1 ≤ 31 by omega)
  have hF4 : qFr [(27, 7)] [28, 29, 30, 31, 32, 33] σ α σ α1 := by rw [e2]; exact qFr_r hF0 28 _ (by decide)
  refine qr_aload_n 11 rfl rfl rfl ?_
  refine qr_get 14 rfl rfl rfl (by decide) rfl ?_
  refine qr_aload_n 15 rfl rfl rfl ?_
  refine qr_get 18 rfl rfl rfl (by decide) rfl ?_
  refine qr_iload_n 19 rfl rfl rfl ?_
  refine qr_iastore 20 rfl (by decide) rfl (by omega) (by decide) rfl ?_
  refine qy_wA (qw_r α1 29 (qzu (α1 29) ((σ 27 7) : Int).toNat x2)) rfl (fun α5 e6 => ?_)
  have hI7 : qI σ α5 κ ρ := by rw [e6]; exact qI_r hI3 29 _ rfl (show 0 ≤ x2 ∧ x2 ≤ 31 by omega)
  have hF8 : qFr [(27, 7)] [28, 29, 30, 31, 32, 33] σ α σ α5 := by rw [e6]; exact qFr_r hF4 29 _ (by decide)
  refine qr_aload_n 21 rfl rfl rfl ?_
  refine qr_get 24 rfl rfl rfl (by decide) rfl ?_
  refine qr_aload_n 25 rfl rfl rfl ?_
  refine qr_get 28 rfl rfl rfl (by decide) rfl ?_
  refine qr_iload_n 29 rfl rfl rfl ?_
  refine qr_iastore 30 rfl (by decide) rfl (by omega) (by decide) rfl ?_
  refine qy_wA (qw_r α5 30 (qzu (α5 30) ((σ 27 7) : Int).toNat x3)) rfl (fun α9 e10 => ?_)
  have hI11 : qI σ α9 κ ρ := by rw [e10]; exact qI_r hI7 30 _ rfl (show (-2147483648) ≤ x3 ∧ x3 ≤ 2147483647 by omega)
  have hF12 : qFr [(27, 7)] [28, 29, 30, 31, 32, 33] σ α σ α9 := by rw [e10]; exact qFr_r hF8 30 _ (by decide)
  refine qr_aload_n 31 rfl rfl rfl ?_
  refine qr_get 34 rfl rfl rfl (by decide) rfl ?_
  refine qr_aload_n 35 rfl rfl rfl ?_
  refine qr_get 38 rfl rfl rfl (by decide) rfl ?_
  refine qr_iload 40 rfl rfl rfl ?_
  refine qr_iastore 41 rfl (by decide) rfl (by omega) (by decide) rfl ?_
  refine qy_wA (qw_r α9 31 (qzu (α9 31) ((σ 27 7) : Int).toNat x4)) rfl (fun α13 e14 => ?_)
  have hI15 : qI σ α13 κ ρ := by rw [e14]; exact qI_r hI11 31 _ rfl (show 0 ≤ x4 ∧ x4 ≤ 3 by omega)
  have hF16 : qFr [(27, 7)] [28, 29, 30, 31, 32, 33] σ α σ α13 := by rw [e14]; exact qFr_r hF12 31 _ (by decide)
  refine qr_aload_n 42 rfl rfl rfl ?_
  refine qr_get 45 rfl rfl rfl (by decide) rfl ?_
  refine qr_aload_n 46 rfl rfl rfl ?_
  refine qr_get 49 rfl rfl rfl (by decide) rfl ?_
  refine qr_iload 51 rfl rfl rfl ?_
  refine qr_iastore 52 rfl (by decide) rfl (by omega) (by decide) rfl ?_
  refine qy_wA (qw_r α13 32 (qzu (α13 32) ((σ 27 7) : Int).toNat x5)) rfl (fun α17 e18 => ?_)
  have hI19 : qI σ α17 κ ρ := by rw [e18]; exact qI_r hI15 32 _ rfl (show (-2147483648) ≤ x5 ∧ x5 ≤ 2147483647 by omega)
  have hF20 : qFr [(27, 7)] [28, 29, 30, 31, 32, 33] σ α σ α17 := by rw [e18]; exact qFr_r hF16 32 _ (by decide)
  refine qr_aload_n 53 rfl rfl rfl ?_
  refine qr_get 56 rfl rfl rfl (by decide) rfl ?_
  refine qr_aload_n 57 rfl rfl rfl ?_
  refine qr_get 60 rfl rfl rfl (by decide) rfl ?_
  refine qr_sipush 63 rfl (by decide) rfl ?_
  refine qr_iastore 64 rfl (by decide) rfl (by omega) (by decide) rfl ?_
  refine qy_wA (qw_r α17 33 (qzu (α17 33) ((σ 27 7) : Int).toNat 2400)) rfl (fun α21 e22 => ?_)
  have hI23 : qI σ α21 κ ρ := by rw [e22]; exact qI_r hI19 33 _ rfl (show (-2147483648) ≤ 2400 ∧ 2400 ≤ 2147483647 by omega)
  have hF24 : qFr [(27, 7)] [28, 29, 30, 31, 32, 33] σ α σ α21 := by rw [e22]; exact qFr_r hF20 33 _ (by decide)
  refine qr_aload_n 65 rfl rfl rfl ?_
  refine qr_dup 66 rfl rfl rfl ?_
  refine qr_get 69 rfl rfl rfl (by decide) rfl ?_
  refine qr_dup_x1 70 rfl rfl rfl rfl ?_
  refine qr_iconst 71 rfl rfl ?_
  refine qr_iadd 72 rfl rfl ?_
  refine qr_put 75 rfl (by decide) rfl (Nat.le_of_ble_eq_true rfl) (Nat.le_of_ble_eq_true rfl) (Or.inl rfl) (qr_fitI rfl _) rfl ?_
  refine qy_wS (qw_s σ 27 7 ((σ 27 7) + 1)) rfl (fun σ25 e26 => ?_)
  have hI27 : qI σ25 α21 κ ρ := by rw [e26]; exact qI_s hI23 27 7 rfl (show 0 ≤ ((σ 27 7) + 1) ∧ ((σ 27 7) + 1) ≤ 40 by omega)
  have hF28 : qFr [(27, 7)] [28, 29, 30, 31, 32, 33] σ α σ25 α21 := by rw [e26]; exact qFr_s hF24 27 7 _ (by decide)
  refine qr_retI rfl rfl (by decide) (by decide) ?_
  exact ⟨_, _, rfl, hI27, hF28, (by have hw : σ25 27 7 = ((σ 27 7) + 1) := (congrFun (congrFun e26 27) 7).trans rfl; omega), (σ 27 7), rfl, (by omega), by omega⟩

set_option maxHeartbeats 4000000 in
set_option maxRecDepth 20000 in
/-- OneRoof.feud -/
theorem sf_60_16x {L : Nat} {xs : Nat → Int} {vb : Bool} {d : Nat} {σ α : Nat → Nat → Int} {κ : Nat → Option Nat} {ρ : Nat} {x1 : Int} {x2 : Int} {x3 : Int} (hI : qI σ α κ ρ) (r1 : (-2147483648) ≤ x1 ∧ x1 ≤ 2147483647) (r2 : (-2147483648) ≤ x2 ∧ x2 ≤ 2147483647) (r3 : (-2147483648) ≤ x3 ∧ x3 ≤ 2147483647) : qm_T (qe L xs vb) (d + 3) 60 [.ref 16, .int (qz x1), .int (qz x2), .int (qz x3)] (qw σ α κ ρ) (fun r w' => ∃ σ' α', w' = qw σ' α' κ ρ ∧ qI σ' α' κ ρ ∧ qFr [(27, 7)] [28, 29, 30, 31, 32, 33] σ α σ' α' ∧ ∃ v : Int, r = some (.int (qz v)) ∧ ((-2147483648) ≤ v ∧ v ≤ 2147483647) ∧ (((v = -1 ∧ ¬ (0 ≤ x1 ∧ x1 / 100 < σ 17 6 ∧ x1 % 100 < σ 17 6 ∧ ¬ x1 / 100 = x1 % 100 ∧ 0 ≤ x2 ∧ x2 ≤ 2399 ∧ 0 ≤ x3 ∧ x3 ≤ 3999) ∧ σ' 27 7 = σ 27 7)) ∨ ((v = -3 ∧ (0 ≤ x1 ∧ x1 / 100 < σ 17 6 ∧ x1 % 100 < σ 17 6 ∧ ¬ x1 / 100 = x1 % 100 ∧ 0 ≤ x2 ∧ x2 ≤ 2399 ∧ 0 ≤ x3 ∧ x3 ≤ 3999) ∧ 40 ≤ σ 27 7 ∧ σ' 27 7 = σ 27 7)) ∨ ((v = σ 27 7 ∧ (0 ≤ x1 ∧ x1 / 100 < σ 17 6 ∧ x1 % 100 < σ 17 6 ∧ ¬ x1 / 100 = x1 % 100 ∧ 0 ≤ x2 ∧ x2 ≤ 2399 ∧ 0 ≤ x3 ∧ x3 ≤ 3999) ∧ σ 27 7 < 40 ∧ σ' 27 7 = σ 27 7 + 1)))) := by
  refine qr_start (d := d + 2) qv_e60 (Nat.le_of_ble_eq_true rfl) ?_
  show qr_W (qe L xs vb) (d + 2) qx_e60 _ (0, [(0, .ref 16), (1, .int (qz x1)), (2, .int (qz x2)), (3, .int (qz x3))], [], _, 0, 0)
  have hF0 := qFr_rf [(27, 7)] [28, 29, 30, 31, 32, 33] σ α
  have hz17_6 : 0 ≤ σ 17 6 ∧ σ 17 6 ≤ 32 := hI.1 17 6
  have hz27_7 : 0 ≤ σ 27 7 ∧ σ 27 7 ≤ 40 := hI.1 27 7
  refine qr_aload_n 1 rfl rfl rfl ?_
  refine qr_get 4 rfl rfl rfl (by decide) rfl ?_
  refine qr_iload_n 5 rfl rfl rfl ?_
  refine qr_callN 8 rfl rfl rfl (sf_61_17 (d := d + 0) hI r1) ?_
  have hs3 : 0 ≤ σ 17 6 ∧ σ 17 6 ≤ 32 := hI.1 17 6
  rintro _ _ ⟨rfl, v1, rfl, hv1, hp2⟩
  show qr_W (qe L xs vb) (d + 2) qx_e60 _ (8, _, [.int (qz v1)], qw σ α κ ρ, 0, 0)
  refine qr_if_eq 29 11 rfl rfl rfl (qrg hv1 (by decide) (by decide)) (fun h4 => ?_) (fun h4 => ?_)
  · skip
    refine qr_iconst 30 rfl rfl ?_
    refine qr_retI rfl rfl (by decide) (by decide) ?_
    have hw5 : σ 27 7 = (σ 27 7) := rfl
    exact ⟨_, _, rfl, hI, hF0, (-1), rfl, (by decide), (Or.inl (by omega))⟩
  · skip
    refine qr_iload_n 12 rfl rfl rfl ?_
    refine qr_callN 15 rfl rfl rfl (sf_62 (d := d + 1) hI r2) ?_
    rintro _ _ ⟨rfl, v6, rfl, hv6, hp7⟩
    show qr_W (qe L xs vb) (d + 2) qx_e60 _ (15, _, [.int (qz v6)], qw σ α κ ρ, 0, 0)
    refine qr_if_eq 29 18 rfl rfl rfl (qrg hv6 (by decide) (by decide)) (fun h8 => ?_) (fun h8 => ?_)
    · skip
      refine qr_iconst 30 rfl rfl ?_
      refine qr_retI rfl rfl (by decide) (by decide) ?_
      have hw9 : σ 27 7 = (σ 27 7) := rfl
      exact ⟨_, _, rfl, hI, hF0, (-1), rfl, (by decide), (Or.inl (by omega))⟩
    · skip
      refine qr_iload_n 19 rfl rfl rfl ?_
      refine qr_if_lt 29 22 rfl rfl rfl r3 (fun h10 => ?_) (fun h10 => ?_)
      · skip
        refine qr_iconst 30 rfl rfl ?_
        refine qr_retI rfl rfl (by decide) (by decide) ?_
        have hw11 : σ 27 7 = (σ 27 7) := rfl
        exact ⟨_, _, rfl, hI, hF0, (-1), rfl, (by decide), (Or.inl (by omega))⟩
      · skip
        refine qr_iload_n 23 rfl rfl rfl ?_
        refine qr_sipush 26 rfl (by decide) rfl ?_
        refine qr_icmp_le 31 29 rfl rfl rfl r3 (by decide) (fun h12 => ?_) (fun h12 => ?_)
        · skip
          refine qr_aload_n 32 rfl rfl rfl ?_
          refine qr_get 35 rfl rfl rfl (by decide) rfl ?_
          refine qr_get 38 rfl rfl rfl (by decide) rfl ?_
          refine qr_bipush 40 rfl (by decide) rfl ?_
          refine qr_icmp_lt 46 43 rfl rfl rfl (qrg hz27_7 (by decide) (by decide)) (by decide) (fun h13 => ?_) (fun h13 => ?_)
          · skip
            refine qr_aload_n 47 rfl rfl rfl ?_
            refine qr_get 50 rfl rfl rfl (by decide) rfl ?_
            refine qr_iload_n 51 rfl rfl rfl ?_
            refine qr_bipush 53 rfl (by decide) rfl ?_
            refine qr_idiv 54 rfl (by omega) (by decide) rfl ?_
            refine qr_iload_n 55 rfl rfl rfl ?_
            refine qr_bipush 57 rfl (by decide) rfl ?_
            refine qr_irem 58 rfl (by omega) (by decide) rfl ?_
            refine qr_iload_n 59 rfl rfl rfl ?_
            refine qr_iload_n 60 rfl rfl rfl ?_
            refine qr_sipush 63 rfl (by decide) rfl ?_
            refine qr_idiv 64 rfl (by omega) (by decide) rfl ?_
            refine qr_iload_n 65 rfl rfl rfl ?_
            refine qr_sipush 68 rfl (by decide) rfl ?_
            refine qr_irem 69 rfl (by omega) (by decide) rfl ?_
            have hs14 : 0 ≤ σ 27 7 ∧ σ 27 7 ≤ 40 := hI.1 27 7
            refine qr_callN 72 rfl rfl rfl (sf_63_27x (d := d + 1) hI (by omega) (by omega) r2 (by omega) (by omega) (by omega)) ?_
            have hs18 : 0 ≤ σ 27 7 ∧ σ 27 7 ≤ 40 := hI.1 27 7
            rintro _ _ ⟨σ19, α20, rfl, hI21, hG22, hw17, v15, rfl, hv15, hp16⟩
            have hF23 : qFr [(27, 7)] [28, 29, 30, 31, 32, 33] σ α σ19 α20 := qFr_t hF0 hG22 (by decide) (by decide)
            have hs24 : 0 ≤ σ19 27 7 ∧ σ19 27 7 ≤ 40 := hI21.1 27 7
            show qr_W (qe L xs vb) (d + 2) qx_e60 _ (72, _, [.int (qz v15)], qw σ19 α20 κ ρ, 0, 0)
            refine qr_retI rfl rfl (by decide) (by decide) ?_
            have hw25 : σ19 27 7 = (σ19 27 7) := rfl
            exact ⟨_, _, rfl, hI21, hF23, v15, rfl, (qrg hv15 (by decide) (by decide)), (Or.inr (Or.inr ((by omega))))⟩
          · skip
            refine qr_bipush 45 rfl (by decide) rfl ?_
            refine qr_retI rfl rfl (by decide) (by decide) ?_
            have hw26 : σ 27 7 = (σ 27 7) := rfl
            exact ⟨_, _, rfl, hI, hF0, (-3), rfl, (by decide), (Or.inr (Or.inl (by omega)))⟩
        · skip
          refine qr_iconst 30 rfl rfl ?_
          refine qr_retI rfl rfl (by decide) (by decide) ?_
          have hw27 : σ 27 7 = (σ 27 7) := rfl
          exact ⟨_, _, rfl, hI, hF0, (-1), rfl, (by decide), (Or.inl (by omega))⟩

set_option maxHeartbeats 4000000 in
set_option maxRecDepth 20000 in
/-- OneRoof$Peaces.begin -/
theorem sf_71_34x {L : Nat} {xs : Nat → Int} {vb : Bool} {d : Nat} {σ α : Nat → Nat → Int} {κ : Nat → Option Nat} {ρ : Nat} {x1 : Int} {x2 : Int} {x3 : Int} {x4 : Int} {x5 : Int} (hI : qI σ α κ ρ) (r1 : 0 ≤ x1 ∧ x1 ≤ 31) (r2 : (-2147483648) ≤ x2 ∧ x2 ≤ 2147483647) (r3 : (-9223372036854775808) ≤ x3 ∧ x3 ≤ 9223372036854775807) (r4 : 0 ≤ x4 ∧ x4 ≤ 2147483647) (r5 : (-2147483648) ≤ x5 ∧ x5 ≤ 2147483647) (p0 : σ 34 7 ≤ 59) : qm_T (qe L xs vb) (d + 1) 71 [.ref 34, .int (qz x1), .int (qz x2), .long (ql x3), .int (qz x4), .int (qz x5)] (qw σ α κ ρ) (fun r w' => ∃ σ' α', w' = qw σ' α' κ ρ ∧ qI σ' α' κ ρ ∧ qFr [(34, 7)] [35, 36, 37, 38, 39, 40, 41] σ α σ' α' ∧ σ' 34 7 = σ 34 7 + 1 ∧ ∃ v : Int, r = some (.int (qz v)) ∧ (0 ≤ v ∧ v ≤ 59) ∧ v = σ 34 7) := by
  refine qr_start (d := d + 0) qv_e71 (Nat.le_of_ble_eq_true rfl) ?_
  show qr_W (qe L xs vb) (d + 0) qx_e71 _ (0, [(0, .ref 34), (1, .int (qz x1)), (2, .int (qz x2)), (3, .long (ql x3)), (5, .int (qz x4)), (6, .int (qz x5))], [], _, 0, 0)
  have hF0 := qFr_rf [(34, 7)] [35, 36, 37, 38, 39, 40, 41] σ α
  have hz34_7 : 0 ≤ σ 34 7 ∧ σ 34 7 ≤ 60 := hI.1 34 7
  refine qr_aload_n 1 rfl rfl rfl ?_
  refine qr_get 4 rfl rfl rfl (by decide) rfl ?_
  refine qr_aload_n 5 rfl rfl rfl ?_
  refine qr_get 8 rfl rfl rfl (by decide) rfl ?_
  refine qr_iload_n 9 rfl rfl rfl ?_
  refine qr_iastore 10 rfl (by decide) rfl (by omega) (by decide) rfl ?_
  refine qy_wA (qw_r α 35 (qzu (α 35) ((σ 34 7) : Int).toNat x2)) rfl (fun α1 e2 => ?_)
  have hI3 : qI σ α1 κ ρ := by rw [e2]; exact qI_r hI 35 _ rfl (show (-2147483648) ≤ x2 ∧ x2 ≤ 2147483647 by omega)
  have hF4 : qFr [(34, 7)] [35, 36, 37, 38, 39, 40, 41] σ α σ α1 := by rw [e2]; exact qFr_r hF0 35 _ (by decide)
  refine qr_aload_n 11 rfl rfl rfl ?_
  refine qr_get 14 rfl rfl rfl (by decide) rfl ?_
  refine qr_aload_n 15 rfl rfl rfl ?_
  refine qr_get 18 rfl rfl rfl (by decide) rfl ?_
  refine qr_iload_n 19 rfl rfl rfl ?_
  refine qr_iastore 20 rfl (by decide) rfl (by omega) (by decide) rfl ?_
  refine qy_wA (qw_r α1 36 (qzu (α1 36) ((σ 34 7) : Int).toNat x1)) rfl (fun α5 e6 => ?_)
  have hI7 : qI σ α5 κ ρ := by rw [e6]; exact qI_r hI3 36 _ rfl (show (-2147483648) ≤ x1 ∧ x1 ≤ 2147483647 by omega)
  have hF8 : qFr [(34, 7)] [35, 36, 37, 38, 39, 40, 41] σ α σ α5 := by rw [e6]; exact qFr_r hF4 36 _ (by decide)
  refine qr_aload_n 21 rfl rfl rfl ?_
  refine qr_get 24 rfl rfl rfl (by decide) rfl ?_
  refine qr_aload_n 25 rfl rfl rfl ?_
  refine qr_get 28 rfl rfl rfl (by decide) rfl ?_
  refine qr_iload 30 rfl rfl rfl ?_
  refine qr_sipush 33 rfl (by decide) rfl ?_
  refine qr_idiv 34 rfl r4 (by decide) rfl ?_
  refine qr_iastore 35 rfl (by decide) rfl (by omega) (by decide) rfl ?_
  refine qy_wA (qw_r α5 37 (qzu (α5 37) ((σ 34 7) : Int).toNat (x4 / 10000))) rfl (fun α9 e10 => ?_)
  have hI11 : qI σ α9 κ ρ := by rw [e10]; exact qI_r hI7 37 _ rfl (show (-2147483648) ≤ (x4 / 10000) ∧ (x4 / 10000) ≤ 2147483647 by omega)
  have hF12 : qFr [(34, 7)] [35, 36, 37, 38, 39, 40, 41] σ α σ α9 := by rw [e10]; exact qFr_r hF8 37 _ (by decide)
  refine qr_aload_n 36 rfl rfl rfl ?_
  refine qr_get 39 rfl rfl rfl (by decide) rfl ?_
  refine qr_aload_n 40 rfl rfl rfl ?_
  refine qr_get 43 rfl rfl rfl (by decide) rfl ?_
  refine qr_iload 45 rfl rfl rfl ?_
  refine qr_sipush 48 rfl (by decide) rfl ?_
  refine qr_irem 49 rfl r4 (by decide) rfl ?_
  refine qr_iastore 50 rfl (by decide) rfl (by omega) (by decide) rfl ?_
  refine qy_wA (qw_r α9 38 (qzu (α9 38) ((σ 34 7) : Int).toNat (x4 % 10000))) rfl (fun α13 e14 => ?_)
  have hI15 : qI σ α13 κ ρ := by rw [e14]; exact qI_r hI11 38 _ rfl (show (-2147483648) ≤ (x4 % 10000) ∧ (x4 % 10000) ≤ 2147483647 by omega)
  have hF16 : qFr [(34, 7)] [35, 36, 37, 38, 39, 40, 41] σ α σ α13 := by rw [e14]; exact qFr_r hF12 38 _ (by decide)
  refine qr_aload_n 51 rfl rfl rfl ?_
  refine qr_get 54 rfl rfl rfl (by decide) rfl ?_
  refine qr_aload_n 55 rfl rfl rfl ?_
  refine qr_get 58 rfl rfl rfl (by decide) rfl ?_
  refine qr_iload 60 rfl rfl rfl ?_
  refine qr_iastore 61 rfl (by decide) rfl (by omega) (by decide) rfl ?_
  refine qy_wA (qw_r α13 39 (qzu (α13 39) ((σ 34 7) : Int).toNat x5)) rfl (fun α17 e18 => ?_)
  have hI19 : qI σ α17 κ ρ := by rw [e18]; exact qI_r hI15 39 _ rfl (show (-2147483648) ≤ x5 ∧ x5 ≤ 2147483647 by omega)
  have hF20 : qFr [(34, 7)] [35, 36, 37, 38, 39, 40, 41] σ α σ α17 := by rw [e18]; exact qFr_r hF16 39 _ (by decide)
  refine qr_aload_n 62 rfl rfl rfl ?_
  refine qr_get 65 rfl rfl rfl (by decide) rfl ?_
  refine qr_aload_n 66 rfl rfl rfl ?_
  refine qr_get 69 rfl rfl rfl (by decide) rfl ?_
  refine qr_aload_n 70 rfl rfl rfl ?_
  refine qr_get 73 rfl rfl rfl (by decide) rfl ?_
  refine qr_aload_n 74 rfl rfl rfl ?_
  refine qr_get 77 rfl rfl rfl (by decide) rfl ?_
  refine qr_iaload 78 rfl rfl (by omega) (by decide) rfl ?_
  refine qr_topI (fun v21 hv21 => ?_)
  have hs22 : (-2147483648) ≤ v21 ∧ v21 ≤ 2147483647 := by rw [hv21]; exact hI19.2.1 38 _ (show _ < 60 by omega)
  refine qr_iload_n 79 rfl rfl rfl ?_
  refine qr_iconst 80 rfl rfl ?_
  refine qr_icmp_ne 88 83 rfl rfl rfl r2 (by decide) (fun h23 => ?_) (fun h23 => ?_)
  · skip
    refine qr_iconst 89 rfl rfl ?_
    refine qr_iadd 90 rfl rfl ?_
    refine qr_iastore 91 rfl (by decide) rfl (by omega) (by decide) rfl ?_
    refine qy_wA (qw_r α17 40 (qzu (α17 40) ((σ 34 7) : Int).toNat (v21 + 0))) rfl (fun α24 e25 => ?_)
    have hI26 : qI σ α24 κ ρ := by rw [e25]; exact qI_r hI19 40 _ rfl (show (-2147483648) ≤ (v21 + 0) ∧ (v21 + 0) ≤ 2147483647 by omega)
    have hF27 : qFr [(34, 7)] [35, 36, 37, 38, 39, 40, 41] σ α σ α24 := by rw [e25]; exact qFr_r hF20 40 _ (by decide)
    refine qr_aload_n 92 rfl rfl rfl ?_
    as_aux_lemma =>
      refine qr_get 95 rfl rfl rfl (by decide) rfl ?_
      refine qr_aload_n 96 rfl rfl rfl ?_
      refine qr_get 99 rfl rfl rfl (by decide) rfl ?_
      refine qr_lload_n 100 rfl rfl rfl ?_
      refine qr_lastore 101 rfl (by decide) rfl (by omega) (by decide) rfl ?_
      refine qy_wA (qw_r α24 41 (qzu (α24 41) ((σ 34 7) : Int).toNat x3)) rfl (fun α28 e29 => ?_)
      have hI30 : qI σ α28 κ ρ := by rw [e29]; exact qI_r hI26 41 _ rfl (show (-9223372036854775808) ≤ x3 ∧ x3 ≤ 9223372036854775807 by omega)
      have hF31 : qFr [(34, 7)] [35, 36, 37, 38, 39, 40, 41] σ α σ α28 := by rw [e29]; exact qFr_r hF27 41 _ (by decide)
      refine qr_aload_n 102 rfl rfl rfl ?_
      refine qr_dup 103 rfl rfl rfl ?_
      refine qr_get 106 rfl rfl rfl (by decide) rfl ?_
      refine qr_dup_x1 107 rfl rfl rfl rfl ?_
      refine qr_iconst 108 rfl rfl ?_
      refine qr_iadd 109 rfl rfl ?_
      refine qr_put 112 rfl (by decide) rfl (Nat.le_of_ble_eq_true rfl) (Nat.le_of_ble_eq_true rfl) (Or.inl rfl) (qr_fitI rfl _) rfl ?_
      refine qy_wS (qw_s σ 34 7 ((σ 34 7) + 1)) rfl (fun σ32 e33 => ?_)
      have hI34 : qI σ32 α28 κ ρ := by rw [e33]; exact qI_s hI30 34 7 rfl (show 0 ≤ ((σ 34 7) + 1) ∧ ((σ 34 7) + 1) ≤ 60 by omega)
      have hF35 : qFr [(34, 7)] [35, 36, 37, 38, 39, 40, 41] σ α σ32 α28 := by rw [e33]; exact qFr_s hF31 34 7 _ (by decide)
      refine qr_retI rfl rfl (by decide) (by decide) ?_
      exact ⟨_, _, rfl, hI34, hF35, (by have hw : σ32 34 7 = ((σ 34 7) + 1) := (congrFun (congrFun e33 34) 7).trans rfl; omega), (σ 34 7), rfl, (by omega), by omega⟩
  · skip
    refine qr_iload 85 rfl rfl rfl ?_
    refine qr_goto 89 rfl rfl ?_
    refine qr_iadd 90 rfl rfl ?_
    refine qy_can (fun v36 hv36 => ?_)
    refine qr_iastore 91 rfl (by decide) rfl (by omega) (by decide) rfl ?_
    refine qy_wA (qw_r α17 40 (qzu (α17 40) ((σ 34 7) : Int).toNat v36)) rfl (fun α37 e38 => ?_)
    have hI39 : qI σ α37 κ ρ := by rw [e38]; exact qI_r hI19 40 _ rfl (show (-2147483648) ≤ v36 ∧ v36 ≤ 2147483647 by omega)
    have hF40 : qFr [(34, 7)] [35, 36, 37, 38, 39, 40, 41] σ α σ α37 := by rw [e38]; exact qFr_r hF20 40 _ (by decide)
    as_aux_lemma =>
      refine qr_aload_n 92 rfl rfl rfl ?_
      refine qr_get 95 rfl rfl rfl (by decide) rfl ?_
      refine qr_aload_n 96 rfl rfl rfl ?_
      refine qr_get 99 rfl rfl rfl (by decide) rfl ?_
      refine qr_lload_n 100 rfl rfl rfl ?_
      refine qr_lastore 101 rfl (by decide) rfl (by omega) (by decide) rfl ?_
      refine qy_wA (qw_r α37 41 (qzu (α37 41) ((σ 34 7) : Int).toNat x3)) rfl (fun α41 e42 => ?_)
      have hI43 : qI σ α41 κ ρ := by rw [e42]; exact qI_r hI39 41 _ rfl (show (-9223372036854775808) ≤ x3 ∧ x3 ≤ 9223372036854775807 by omega)
      have hF44 : qFr [(34, 7)] [35, 36, 37, 38, 39, 40, 41] σ α σ α41 := by rw [e42]; exact qFr_r hF40 41 _ (by decide)
      refine qr_aload_n 102 rfl rfl rfl ?_
      refine qr_dup 103 rfl rfl rfl ?_
      refine qr_get 106 rfl rfl rfl (by decide) rfl ?_
      refine qr_dup_x1 107 rfl rfl rfl rfl ?_
      refine qr_iconst 108 rfl rfl ?_
      refine qr_iadd 109 rfl rfl ?_
      refine qr_put 112 rfl (by decide) rfl (Nat.le_of_ble_eq_true rfl) (Nat.le_of_ble_eq_true rfl) (Or.inl rfl) (qr_fitI rfl _) rfl ?_
      refine qy_wS (qw_s σ 34 7 ((σ 34 7) + 1)) rfl (fun σ45 e46 => ?_)
      have hI47 : qI σ45 α41 κ ρ := by rw [e46]; exact qI_s hI43 34 7 rfl (show 0 ≤ ((σ 34 7) + 1) ∧ ((σ 34 7) + 1) ≤ 60 by omega)
      have hF48 : qFr [(34, 7)] [35, 36, 37, 38, 39, 40, 41] σ α σ45 α41 := by rw [e46]; exact qFr_s hF44 34 7 _ (by decide)
      refine qr_retI rfl rfl (by decide) (by decide) ?_
      exact ⟨_, _, rfl, hI47, hF48, (by have hw : σ45 34 7 = ((σ 34 7) + 1) := (congrFun (congrFun e46 34) 7).trans rfl; omega), (σ 34 7), rfl, (by omega), by omega⟩

set_option maxHeartbeats 4000000 in
set_option maxRecDepth 20000 in
/-- OneRoof.peace -/
theorem sf_69_16x {L : Nat} {xs : Nat → Int} {vb : Bool} {d : Nat} {σ α : Nat → Nat → Int} {κ : Nat → Option Nat} {ρ : Nat} {x1 : Int} {x2 : Int} {x3 : Int} {x4 : Int} (hI : qI σ α κ ρ) (r1 : (-2147483648) ≤ x1 ∧ x1 ≤ 2147483647) (r2 : (-9223372036854775808) ≤ x2 ∧ x2 ≤ 9223372036854775807) (r3 : (-2147483648) ≤ x3 ∧ x3 ≤ 2147483647) (r4 : (-2147483648) ≤ x4 ∧ x4 ≤ 2147483647) : qm_T (qe L xs vb) (d + 3) 69 [.ref 16, .int (qz x1), .long (ql x2), .int (qz x3), .int (qz x4)] (qw σ α κ ρ) (fun r w' => ∃ σ' α', w' = qw σ' α' κ ρ ∧ qI σ' α' κ ρ ∧ qFr [(34, 7)] [35, 36, 37, 38, 39, 40, 41] σ α σ' α' ∧ ∃ v : Int, r = some (.int (qz v)) ∧ ((-2147483648) ≤ v ∧ v ≤ 2147483647) ∧ (((v = -1 ∧ ¬ (0 ≤ x1 ∧ x1 % 10 ≤ 5 ∧ x1 / 10 < σ 17 6 ∧ 0 ≤ x2 ∧ x2 ≤ 4294967295 ∧ 0 ≤ x3 ∧ x3 / 10000 ≤ x3 % 10000 ∧ x3 % 10000 ≤ 2399 ∧ 0 ≤ x4 ∧ x4 ≤ 240) ∧ σ' 34 7 = σ 34 7)) ∨ ((v = -3 ∧ (0 ≤ x1 ∧ x1 % 10 ≤ 5 ∧ x1 / 10 < σ 17 6 ∧ 0 ≤ x2 ∧ x2 ≤ 4294967295 ∧ 0 ≤ x3 ∧ x3 / 10000 ≤ x3 % 10000 ∧ x3 % 10000 ≤ 2399 ∧ 0 ≤ x4 ∧ x4 ≤ 240) ∧ 60 ≤ σ 34 7 ∧ σ' 34 7 = σ 34 7)) ∨ ((v = σ 34 7 ∧ (0 ≤ x1 ∧ x1 % 10 ≤ 5 ∧ x1 / 10 < σ 17 6 ∧ 0 ≤ x2 ∧ x2 ≤ 4294967295 ∧ 0 ≤ x3 ∧ x3 / 10000 ≤ x3 % 10000 ∧ x3 % 10000 ≤ 2399 ∧ 0 ≤ x4 ∧ x4 ≤ 240) ∧ σ 34 7 < 60 ∧ σ' 34 7 = σ 34 7 + 1)))) := by
  refine qr_start (d := d + 2) qv_e69 (Nat.le_of_ble_eq_true rfl) ?_
  show qr_W (qe L xs vb) (d + 2) qx_e69 _ (0, [(0, .ref 16), (1, .int (qz x1)), (2, .long (ql x2)), (4, .int (qz x3)), (5, .int (qz x4))], [], _, 0, 0)
  have hF0 := qFr_rf [(34, 7)] [35, 36, 37, 38, 39, 40, 41] σ α
  have hz17_6 : 0 ≤ σ 17 6 ∧ σ 17 6 ≤ 32 := hI.1 17 6
  have hz34_7 : 0 ≤ σ 34 7 ∧ σ 34 7 ≤ 60 := hI.1 34 7
  refine qr_iload_n 1 rfl rfl rfl ?_
  refine qr_if_lt 26 4 rfl rfl rfl r1 (fun h1 => ?_) (fun h1 => ?_)
  · skip
    refine qr_iconst 27 rfl rfl ?_
    refine qr_retI rfl rfl (by decide) (by decide) ?_
    have hw2 : σ 34 7 = (σ 34 7) := rfl
    exact ⟨_, _, rfl, hI, hF0, (-1), rfl, (by decide), (Or.inl (by omega))⟩
  · skip
    refine qr_iload_n 5 rfl rfl rfl ?_
    refine qr_bipush 7 rfl (by decide) rfl ?_
    refine qr_irem 8 rfl (by omega) (by decide) rfl ?_
    refine qr_iconst 9 rfl rfl ?_
    refine qr_icmp_gt 26 12 rfl rfl rfl (by omega) (by decide) (fun h3 => ?_) (fun h3 => ?_)
    · skip
      refine qr_iconst 27 rfl rfl ?_
      refine qr_retI rfl rfl (by decide) (by decide) ?_
      have hw4 : σ 34 7 = (σ 34 7) := rfl
      exact ⟨_, _, rfl, hI, hF0, (-1), rfl, (by decide), (Or.inl (by omega))⟩
    · skip
      refine qr_aload_n 13 rfl rfl rfl ?_
      refine qr_get 16 rfl rfl rfl (by decide) rfl ?_
      refine qr_iload_n 17 rfl rfl rfl ?_
      refine qr_bipush 19 rfl (by decide) rfl ?_
      refine qr_idiv 20 rfl (by omega) (by decide) rfl ?_
      refine qr_callN 23 rfl rfl rfl (sf_40_17 (d := d + 1) hI (by omega)) ?_
      have hs7 : 0 ≤ σ 17 6 ∧ σ 17 6 ≤ 32 := hI.1 17 6
      rintro _ _ ⟨rfl, v5, rfl, hv5, hp6⟩
      show qr_W (qe L xs vb) (d + 2) qx_e69 _ (23, _, [.int (qz v5)], qw σ α κ ρ, 0, 0)
      refine qr_if_ne 28 26 rfl rfl rfl (qrg hv5 (by decide) (by decide)) (fun h8 => ?_) (fun h8 => ?_)
      · skip
        refine qr_lload_n 29 rfl rfl rfl ?_
        refine qr_lconst 30 rfl rfl ?_
        refine qy_vl 0 rfl ?_
        refine qr_lc_lt 43 34 rfl rfl rfl rfl r2 (by decide) (fun h9 => ?_) (fun h9 => ?_)
        · skip
          refine qr_iconst 44 rfl rfl ?_
          refine qr_retI rfl rfl (by decide) (by decide) ?_
          have hw10 : σ 34 7 = (σ 34 7) := rfl
          exact ⟨_, _, rfl, hI, hF0, (-1), rfl, (by decide), (Or.inl (by omega))⟩
        · skip
          refine qr_lload_n 35 rfl rfl rfl ?_
          refine qr_bipush 37 rfl (by decide) rfl ?_
          refine qr_lushr 38 rfl rfl ?_
          refine qy_vl (x2 / 4294967296) (ql_ushr32 (by omega)) ?_
          refine qr_lconst 39 rfl rfl ?_
          refine qy_vl 0 rfl ?_
          refine qr_lc_eq 45 43 rfl rfl rfl rfl (by omega) (by decide) (fun h11 => ?_) (fun h11 => ?_)
          · skip
            refine qr_iload 47 rfl rfl rfl ?_
            refine qr_callN 50 rfl rfl rfl (sf_70 (d := d + 0) hI r3) ?_
            rintro _ _ ⟨rfl, v12, rfl, hv12, hp13⟩
            show qr_W (qe L xs vb) (d + 2) qx_e69 _ (50, _, [.int (qz v12)], qw σ α κ ρ, 0, 0)
            refine qr_if_eq 66 53 rfl rfl rfl (qrg hv12 (by decide) (by decide)) (fun h14 => ?_) (fun h14 => ?_)
            · skip
              refine qr_iconst 67 rfl rfl ?_
              refine qr_retI rfl rfl (by decide) (by decide) ?_
              have hw15 : σ 34 7 = (σ 34 7) := rfl
              exact ⟨_, _, rfl, hI, hF0, (-1), rfl, (by decide), (Or.inl (by omega))⟩
            · skip
              refine qr_iload 55 rfl rfl rfl ?_
              refine qr_if_lt 66 58 rfl rfl rfl r4 (fun h16 => ?_) (fun h16 => ?_)
              · skip
                refine qr_iconst 67 rfl rfl ?_
                refine qr_retI rfl rfl (by decide) (by decide) ?_
                have hw17 : σ 34 7 = (σ 34 7) := rfl
                exact ⟨_, _, rfl, hI, hF0, (-1), rfl, (by decide), (Or.inl (by omega))⟩
              · skip
                refine qr_iload 60 rfl rfl rfl ?_
                refine qr_sipush 63 rfl (by decide) rfl ?_
                refine qr_icmp_le 68 66 rfl rfl rfl r4 (by decide) (fun h18 => ?_) (fun h18 => ?_)
                · skip
                  refine qr_aload_n 69 rfl rfl rfl ?_
                  refine qr_get 72 rfl rfl rfl (by decide) rfl ?_
                  refine qr_get 75 rfl rfl rfl (by decide) rfl ?_
                  refine qr_bipush 77 rfl (by decide) rfl ?_
                  refine qr_icmp_lt 83 80 rfl rfl rfl (qrg hz34_7 (by decide) (by decide)) (by decide) (fun h19 => ?_) (fun h19 => ?_)
                  · skip
                    refine qr_aload_n 84 rfl rfl rfl ?_
                    refine qr_get 87 rfl rfl rfl (by decide) rfl ?_
                    refine qr_iload_n 88 rfl rfl rfl ?_
                    refine qr_bipush 90 rfl (by decide) rfl ?_
                    refine qr_idiv 91 rfl (by omega) (by decide) rfl ?_
                    refine qr_iload_n 92 rfl rfl rfl ?_
                    refine qr_bipush 94 rfl (by decide) rfl ?_
                    refine qr_irem 95 rfl (by omega) (by decide) rfl ?_
                    refine qr_lload_n 96 rfl rfl rfl ?_
                    refine qr_iload 98 rfl rfl rfl ?_
                    refine qr_iload 100 rfl rfl rfl ?_
                    have hs20 : 0 ≤ σ 34 7 ∧ σ 34 7 ≤ 60 := hI.1 34 7
                    refine qr_callN 103 rfl rfl rfl (sf_71_34x (d := d + 1) hI (by omega) (by omega) r2 (by omega) r4 (by omega)) ?_
                    have hs24 : 0 ≤ σ 34 7 ∧ σ 34 7 ≤ 60 := hI.1 34 7
                    rintro _ _ ⟨σ25, α26, rfl, hI27, hG28, hw23, v21, rfl, hv21, hp22⟩
                    have hF29 : qFr [(34, 7)] [35, 36, 37, 38, 39, 40, 41] σ α σ25 α26 := qFr_t hF0 hG28 (by decide) (by decide)
                    have hs30 : 0 ≤ σ25 34 7 ∧ σ25 34 7 ≤ 60 := hI27.1 34 7
                    show qr_W (qe L xs vb) (d + 2) qx_e69 _ (103, _, [.int (qz v21)], qw σ25 α26 κ ρ, 0, 0)
                    refine qr_retI rfl rfl (by decide) (by decide) ?_
                    have hw31 : σ25 34 7 = (σ25 34 7) := rfl
                    exact ⟨_, _, rfl, hI27, hF29, v21, rfl, (qrg hv21 (by decide) (by decide)), (Or.inr (Or.inr ((by omega))))⟩
                  · skip
                    refine qr_bipush 82 rfl (by decide) rfl ?_
                    refine qr_retI rfl rfl (by decide) (by decide) ?_
                    have hw32 : σ 34 7 = (σ 34 7) := rfl
                    exact ⟨_, _, rfl, hI, hF0, (-3), rfl, (by decide), (Or.inr (Or.inl (by omega)))⟩
                · skip
                  refine qr_iconst 67 rfl rfl ?_
                  refine qr_retI rfl rfl (by decide) (by decide) ?_
                  have hw33 : σ 34 7 = (σ 34 7) := rfl
                  exact ⟨_, _, rfl, hI, hF0, (-1), rfl, (by decide), (Or.inl (by omega))⟩
          · skip
            refine qr_iconst 44 rfl rfl ?_
            refine qr_retI rfl rfl (by decide) (by decide) ?_
            have hw34 : σ 34 7 = (σ 34 7) := rfl
            exact ⟨_, _, rfl, hI, hF0, (-1), rfl, (by decide), (Or.inl (by omega))⟩
      · skip
        refine qr_iconst 27 rfl rfl ?_
        refine qr_retI rfl rfl (by decide) (by decide) ?_
        have hw35 : σ 34 7 = (σ 34 7) := rfl
        exact ⟨_, _, rfl, hI, hF0, (-1), rfl, (by decide), (Or.inl (by omega))⟩

set_option maxHeartbeats 4000000 in
set_option maxRecDepth 20000 in
/-- OneRoof.road -/
theorem sf_126_16x {L : Nat} {xs : Nat → Int} {vb : Bool} {d : Nat} {σ α : Nat → Nat → Int} {κ : Nat → Option Nat} {ρ : Nat} {x1 : Int} {x2 : Int} (hI : qI σ α κ ρ) (r1 : (-2147483648) ≤ x1 ∧ x1 ≤ 2147483647) (r2 : (-2147483648) ≤ x2 ∧ x2 ≤ 2147483647) : qm_T (qe L xs vb) (d + 2) 126 [.ref 16, .int (qz x1), .int (qz x2)] (qw σ α κ ρ) (fun r w' => ∃ α', w' = qw σ α' κ ρ ∧ qI σ α' κ ρ ∧ qFr [] [21] σ α σ α' ∧ ∃ v : Int, r = some (.int (qz v)) ∧ ((-2147483648) ≤ v ∧ v ≤ 2147483647) ∧ (((v = -1 ∧ ¬ (0 ≤ x1 ∧ x1 < σ 17 6 ∧ 0 ≤ x2 ∧ x2 ≤ 3)) ∧ α' 21 = α 21) ∨ (((0 ≤ x1 ∧ x1 < σ 17 6 ∧ 0 ≤ x2 ∧ x2 ≤ 3) ∧ v = α 21 (x1 : Int).toNat) ∧ α' 21 = qzu (α 21) (x1 : Int).toNat (x2)))) := by
  refine qr_start (d := d + 1) qv_e126 (Nat.le_of_ble_eq_true rfl) ?_
  show qr_W (qe L xs vb) (d + 1) qx_e126 _ (0, [(0, .ref 16), (1, .int (qz x1)), (2, .int (qz x2))], [], _, 0, 0)
  have hF0 := qFr_rf [] [21] σ α
  have hz17_6 : 0 ≤ σ 17 6 ∧ σ 17 6 ≤ 32 := hI.1 17 6
  refine qr_aload_n 1 rfl rfl rfl ?_
  refine qr_get 4 rfl rfl rfl (by decide) rfl ?_
  refine qr_iload_n 5 rfl rfl rfl ?_
  refine qr_callN 8 rfl rfl rfl (sf_40_17 (d := d + 0) hI r1) ?_
  have hs3 : 0 ≤ σ 17 6 ∧ σ 17 6 ≤ 32 := hI.1 17 6
  rintro _ _ ⟨rfl, v1, rfl, hv1, hp2⟩
  show qr_W (qe L xs vb) (d + 1) qx_e126 _ (8, _, [.int (qz v1)], qw σ α κ ρ, 0, 0)
  refine qr_if_eq 20 11 rfl rfl rfl (qrg hv1 (by decide) (by decide)) (fun h4 => ?_) (fun h4 => ?_)
  · skip
    refine qr_iconst 21 rfl rfl ?_
    refine qr_retI rfl rfl (by decide) (by decide) ?_
    exact ⟨_, rfl, hI, hF0, (-1), rfl, (by decide), (Or.inl ⟨by omega, rfl⟩)⟩
  · skip
    refine qr_iload_n 12 rfl rfl rfl ?_
    refine qr_if_lt 20 15 rfl rfl rfl r2 (fun h5 => ?_) (fun h5 => ?_)
    · skip
      refine qr_iconst 21 rfl rfl ?_
      refine qr_retI rfl rfl (by decide) (by decide) ?_
      exact ⟨_, rfl, hI, hF0, (-1), rfl, (by decide), (Or.inl ⟨by omega, rfl⟩)⟩
    · skip
      refine qr_iload_n 16 rfl rfl rfl ?_
      refine qr_iconst 17 rfl rfl ?_
      refine qr_icmp_le 22 20 rfl rfl rfl r2 (by decide) (fun h6 => ?_) (fun h6 => ?_)
      · skip
        refine qr_aload_n 23 rfl rfl rfl ?_
        refine qr_get 26 rfl rfl rfl (by decide) rfl ?_
        refine qr_get 29 rfl rfl rfl (by decide) rfl ?_
        refine qr_iload_n 30 rfl rfl rfl ?_
        refine qr_iaload 31 rfl rfl (by omega) (by decide) rfl ?_
        refine qr_topI (fun v7 hv7 => ?_)
        have hs8 : (-2147483648) ≤ v7 ∧ v7 ≤ 2147483647 := by rw [hv7]; exact hI.2.1 21 _ (show _ < 32 by omega)
        refine qr_istore_n _ 32 rfl (by decide) rfl rfl ?_
        refine qr_aload_n 33 rfl rfl rfl ?_
        refine qr_get 36 rfl rfl rfl (by decide) rfl ?_
        refine qr_get 39 rfl rfl rfl (by decide) rfl ?_
        refine qr_iload_n 40 rfl rfl rfl ?_
        refine qr_iload_n 41 rfl rfl rfl ?_
        refine qr_iastore 42 rfl (by decide) rfl (by omega) (by decide) rfl ?_
        refine qy_wA (qw_r α 21 (qzu (α 21) (x1 : Int).toNat x2)) rfl (fun α9 e10 => ?_)
        have hI11 : qI σ α9 κ ρ := by rw [e10]; exact qI_r hI 21 _ rfl (show (-2147483648) ≤ x2 ∧ x2 ≤ 2147483647 by omega)
        have hF12 : qFr [] [21] σ α σ α9 := by rw [e10]; exact qFr_r hF0 21 _ (by decide)
        refine qr_iload_n 43 rfl rfl rfl ?_
        refine qr_retI rfl rfl (by decide) (by decide) ?_
        exact ⟨_, rfl, hI11, hF12, v7, rfl, hs8, (Or.inr (⟨by omega, ((congrFun e10 21).trans (qw_r_eq.trans (congrArg (fun f => qzu f (x1 : Int).toNat x2) rfl)))⟩))⟩
      · skip
        refine qr_iconst 21 rfl rfl ?_
        refine qr_retI rfl rfl (by decide) (by decide) ?_
        exact ⟨_, rfl, hI, hF0, (-1), rfl, (by decide), (Or.inl ⟨by omega, rfl⟩)⟩

set_option maxHeartbeats 4000000 in
set_option maxRecDepth 20000 in
/-- OneRoof$Pegs.isEmpty -/
theorem sf_45_44x {L : Nat} {xs : Nat → Int} {vb : Bool} {d : Nat} {σ α : Nat → Nat → Int} {κ : Nat → Option Nat} {ρ : Nat} {x1 : Int} (hI : qI σ α κ ρ) (r1 : 0 ≤ x1 ∧ x1 ≤ 5) : qm_T (qe L xs vb) (d + 1) 45 [.ref 44, .int (qz x1)] (qw σ α κ ρ) (fun r w' => w' = qw σ α κ ρ ∧ ∃ v : Int, r = some (.int (qz v)) ∧ (0 ≤ v ∧ v ≤ 1) ∧ ((v = 1 ∧ α 45 (x1 : Int).toNat = 6) ∨ (v = 0 ∧ ¬ (α 45 (x1 : Int).toNat = 6)))) := by
  refine qr_start (d := d + 0) qv_e45 (Nat.le_of_ble_eq_true rfl) ?_
  show qr_W (qe L xs vb) (d + 0) qx_e45 _ (0, [(0, .ref 44), (1, .int (qz x1))], [], _, 0, 0)
  refine qr_aload_n 1 rfl rfl rfl ?_
  refine qr_get 4 rfl rfl rfl (by decide) rfl ?_
  refine qr_iload_n 5 rfl rfl rfl ?_
  refine qr_iaload 6 rfl rfl (qrgi r1 (by decide) (by decide)) (by decide) rfl ?_
  refine qr_topI (fun v1 hv1 => ?_)
  have hs2 : 0 ≤ v1 ∧ v1 ≤ 6 := by rw [hv1]; exact hI.2.1 45 _ (show _ < 6 from qrgt r1 (by decide) (by decide))
  refine qr_bipush 8 rfl (by decide) rfl ?_
  refine qr_icmp_ne 15 11 rfl rfl rfl (qrg hs2 (by decide) (by decide)) (by decide) (fun h3 => ?_) (fun h3 => ?_)
  · skip
    refine qr_iconst 16 rfl rfl ?_
    refine qr_retZ rfl rfl (Or.inl rfl) (by decide) (by decide) ?_
    exact ⟨rfl, 0, rfl, (by decide), by omega⟩
  · skip
    refine qr_iconst 12 rfl rfl ?_
    refine qr_goto 16 rfl rfl ?_
    refine qr_retZ rfl rfl (Or.inr rfl) (by decide) (by decide) ?_
    exact ⟨rfl, 1, rfl, (by decide), by omega⟩

set_option maxHeartbeats 4000000 in
set_option maxRecDepth 20000 in
/-- OneRoof$Pegs.isRow -/
theorem sf_47_44x {L : Nat} {xs : Nat → Int} {vb : Bool} {d : Nat} {σ α : Nat → Nat → Int} {κ : Nat → Option Nat} {ρ : Nat} {x1 : Int} (hI : qI σ α κ ρ) (r1 : 0 ≤ x1 ∧ x1 ≤ 5) : qm_T (qe L xs vb) (d + 1) 47 [.ref 44, .int (qz x1)] (qw σ α κ ρ) (fun r w' => w' = qw σ α κ ρ ∧ ∃ v : Int, r = some (.int (qz v)) ∧ (0 ≤ v ∧ v ≤ 1) ∧ ((v = 1 ∧ α 45 (x1 : Int).toNat < 5) ∨ (v = 0 ∧ ¬ (α 45 (x1 : Int).toNat < 5)))) := by
  refine qr_start (d := d + 0) qv_e47 (Nat.le_of_ble_eq_true rfl) ?_
  show qr_W (qe L xs vb) (d + 0) qx_e47 _ (0, [(0, .ref 44), (1, .int (qz x1))], [], _, 0, 0)
  refine qr_aload_n 1 rfl rfl rfl ?_
  refine qr_get 4 rfl rfl rfl (by decide) rfl ?_
  refine qr_iload_n 5 rfl rfl rfl ?_
  refine qr_iaload 6 rfl rfl (qrgi r1 (by decide) (by decide)) (by decide) rfl ?_
  refine qr_topI (fun v1 hv1 => ?_)
  have hs2 : 0 ≤ v1 ∧ v1 ≤ 6 := by rw [hv1]; exact hI.2.1 45 _ (show _ < 6 from qrgt r1 (by decide) (by decide))
  refine qr_iconst 7 rfl rfl ?_
  refine qr_icmp_ge 14 10 rfl rfl rfl (qrg hs2 (by decide) (by decide)) (by decide) (fun h3 => ?_) (fun h3 => ?_)
  · skip
    refine qr_iconst 15 rfl rfl ?_
    refine qr_retZ rfl rfl (Or.inl rfl) (by decide) (by decide) ?_
    exact ⟨rfl, 0, rfl, (by decide), by omega⟩
  · skip
    refine qr_iconst 11 rfl rfl ?_
    refine qr_goto 15 rfl rfl ?_
    refine qr_retZ rfl rfl (Or.inr rfl) (by decide) (by decide) ?_
    exact ⟨rfl, 1, rfl, (by decide), by omega⟩

set_option maxHeartbeats 4000000 in
set_option maxRecDepth 20000 in
/-- OneRoof$Pegs.isRowOf -/
theorem sf_46_44x {L : Nat} {xs : Nat → Int} {vb : Bool} {d : Nat} {σ α : Nat → Nat → Int} {κ : Nat → Option Nat} {ρ : Nat} {x1 : Int} {x2 : Int} (hI : qI σ α κ ρ) (r1 : 0 ≤ x1 ∧ x1 ≤ 5) (r2 : (-2147483648) ≤ x2 ∧ x2 ≤ 2147483647) : qm_T (qe L xs vb) (d + 2) 46 [.ref 44, .int (qz x1), .int (qz x2)] (qw σ α κ ρ) (fun r w' => w' = qw σ α κ ρ ∧ ∃ v : Int, r = some (.int (qz v)) ∧ (0 ≤ v ∧ v ≤ 1) ∧ ((v = 1 ∧ (α 45 (x1 : Int).toNat < 5 ∧ α 45 (x1 : Int).toNat = x2)) ∨ (v = 0 ∧ ¬ ((α 45 (x1 : Int).toNat < 5 ∧ α 45 (x1 : Int).toNat = x2))))) := by
  refine qr_start (d := d + 1) qv_e46 (Nat.le_of_ble_eq_true rfl) ?_
  show qr_W (qe L xs vb) (d + 1) qx_e46 _ (0, [(0, .ref 44), (1, .int (qz x1)), (2, .int (qz x2))], [], _, 0, 0)
  refine qr_aload_n 1 rfl rfl rfl ?_
  refine qr_iload_n 2 rfl rfl rfl ?_
  refine qr_callN 5 rfl rfl rfl (sf_47_44x (d := d + 0) hI r1) ?_
  rintro _ _ ⟨rfl, v1, rfl, hv1, hp2⟩
  show qr_W (qe L xs vb) (d + 1) qx_e46 _ (5, _, [.int (qz v1)], qw σ α κ ρ, 0, 0)
  refine qr_if_eq 22 8 rfl rfl rfl (qrg hv1 (by decide) (by decide)) (fun h3 => ?_) (fun h3 => ?_)
  · skip
    refine qr_iconst 23 rfl rfl ?_
    refine qr_retZ rfl rfl (Or.inl rfl) (by decide) (by decide) ?_
    exact ⟨rfl, 0, rfl, (by decide), by omega⟩
  · skip
    refine qr_aload_n 9 rfl rfl rfl ?_
    refine qr_get 12 rfl rfl rfl (by decide) rfl ?_
    refine qr_iload_n 13 rfl rfl rfl ?_
    refine qr_iaload 14 rfl rfl (qrgi r1 (by decide) (by decide)) (by decide) rfl ?_
    refine qr_topI (fun v4 hv4 => ?_)
    have hs5 : 0 ≤ v4 ∧ v4 ≤ 6 := by rw [hv4]; exact hI.2.1 45 _ (show _ < 6 from qrgt r1 (by decide) (by decide))
    refine qr_iload_n 15 rfl rfl rfl ?_
    refine qr_icmp_ne 22 18 rfl rfl rfl (qrg hs5 (by decide) (by decide)) r2 (fun h6 => ?_) (fun h6 => ?_)
    · skip
      refine qr_iconst 23 rfl rfl ?_
      refine qr_retZ rfl rfl (Or.inl rfl) (by decide) (by decide) ?_
      exact ⟨rfl, 0, rfl, (by decide), by omega⟩
    · skip
      refine qr_iconst 19 rfl rfl ?_
      refine qr_goto 23 rfl rfl ?_
      refine qr_retZ rfl rfl (Or.inr rfl) (by decide) (by decide) ?_
      exact ⟨rfl, 1, rfl, (by decide), by omega⟩

set_option maxHeartbeats 4000000 in
set_option maxRecDepth 20000 in
/-- OneRoof$Pegs.hang -/
theorem sf_156_44x {L : Nat} {xs : Nat → Int} {vb : Bool} {d : Nat} {σ α : Nat → Nat → Int} {κ : Nat → Option Nat} {ρ : Nat} {x1 : Int} {x2 : Int} (hI : qI σ α κ ρ) (r1 : 0 ≤ x1 ∧ x1 ≤ 5) (r2 : (-1) ≤ x2 ∧ x2 ≤ 59) : qm_T (qe L xs vb) (d + 1) 156 [.ref 44, .int (qz x1), .int (qz x2)] (qw σ α κ ρ) (fun r w' => ∃ α', w' = qw σ α' κ ρ ∧ qI σ α' κ ρ ∧ qFr [] [45, 46, 47] σ α σ α' ∧ r = none ∧ α' 45 = qzu (α 45) (x1 : Int).toNat (if x2 < 0 then 6 else 5) ∧ α' 46 = qzu (α 46) (x1 : Int).toNat (0) ∧ α' 47 = qzu (α 47) (x1 : Int).toNat (x2)) := by
  refine qr_start (d := d + 0) qv_e156 (Nat.le_of_ble_eq_true rfl) ?_
  show qr_W (qe L xs vb) (d + 0) qx_e156 _ (0, [(0, .ref 44), (1, .int (qz x1)), (2, .int (qz x2))], [], _, 0, 0)
  have hF0 := qFr_rf [] [45, 46, 47] σ α
  refine qr_aload_n 1 rfl rfl rfl ?_
  refine qr_get 4 rfl rfl rfl (by decide) rfl ?_
  refine qr_iload_n 5 rfl rfl rfl ?_
  refine qr_iload_n 6 rfl rfl rfl ?_
  refine qr_if_ge 14 9 rfl rfl rfl (qrg r2 (by decide) (by decide)) (fun h1 => ?_) (fun h1 => ?_)
  · skip
    refine qr_iconst 15 rfl rfl ?_
    refine qr_iastore 16 rfl (by decide) rfl (qrgi r1 (by decide) (by decide)) (by decide) rfl ?_
    refine qy_wA (qw_r α 45 (qzu (α 45) (x1 : Int).toNat 5)) rfl (fun α2 e3 => ?_)
    have hI4 : qI σ α2 κ ρ := by rw [e3]; exact qI_r hI 45 _ rfl (show 0 ≤ 5 ∧ 5 ≤ 6 by omega)
    have hF5 : qFr [] [45, 46, 47] σ α σ α2 := by rw [e3]; exact qFr_r hF0 45 _ (by decide)
    refine qr_aload_n 17 rfl rfl rfl ?_
    refine qr_get 20 rfl rfl rfl (by decide) rfl ?_
    refine qr_iload_n 21 rfl rfl rfl ?_
    refine qr_iload_n 22 rfl rfl rfl ?_
    refine qr_iastore 23 rfl (by decide) rfl (qrgi r1 (by decide) (by decide)) (by decide) rfl ?_
    refine qy_wA (qw_r α2 47 (qzu (α2 47) (x1 : Int).toNat x2)) rfl (fun α6 e7 => ?_)
    have hI8 : qI σ α6 κ ρ := by rw [e7]; exact qI_r hI4 47 _ rfl (show (-1) ≤ x2 ∧ x2 ≤ 59 by omega)
    have hF9 : qFr [] [45, 46, 47] σ α σ α6 := by rw [e7]; exact qFr_r hF5 47 _ (by decide)
    refine qr_aload_n 24 rfl rfl rfl ?_
    refine qr_get 27 rfl rfl rfl (by decide) rfl ?_
    refine qr_iload_n 28 rfl rfl rfl ?_
    refine qr_iconst 29 rfl rfl ?_
    refine qr_iastore 30 rfl (by decide) rfl (qrgi r1 (by decide) (by decide)) (by decide) rfl ?_
    refine qy_wA (qw_r α6 46 (qzu (α6 46) (x1 : Int).toNat 0)) rfl (fun α10 e11 => ?_)
    have hI12 : qI σ α10 κ ρ := by rw [e11]; exact qI_r hI8 46 _ rfl (show 0 ≤ 0 ∧ 0 ≤ 60 by omega)
    have hF13 : qFr [] [45, 46, 47] σ α σ α10 := by rw [e11]; exact qFr_r hF9 46 _ (by decide)
    refine qr_retV rfl rfl (by decide) (by decide) ?_
    exact ⟨_, rfl, hI12, hF13, rfl, (((congrFun e11 45).trans ((qw_r_ne (by decide)).trans ((congrFun e7 45).trans ((qw_r_ne (by decide)).trans ((congrFun e3 45).trans (qw_r_eq.trans (congrArg (fun f => qzu f (x1 : Int).toNat 5) rfl))))))).trans (by rw [if_neg (by omega)])), ((congrFun e11 46).trans (qw_r_eq.trans (congrArg (fun f => qzu f (x1 : Int).toNat 0) ((congrFun e7 46).trans ((qw_r_ne (by decide)).trans ((congrFun e3 46).trans ((qw_r_ne (by decide)).trans rfl))))))), ((congrFun e11 47).trans ((qw_r_ne (by decide)).trans ((congrFun e7 47).trans (qw_r_eq.trans (congrArg (fun f => qzu f (x1 : Int).toNat x2) ((congrFun e3 47).trans ((qw_r_ne (by decide)).trans rfl)))))))⟩
  · skip
    refine qr_bipush 11 rfl (by decide) rfl ?_
    refine qr_goto 15 rfl rfl ?_
    refine qr_iastore 16 rfl (by decide) rfl (qrgi r1 (by decide) (by decide)) (by decide) rfl ?_
    refine qy_wA (qw_r α 45 (qzu (α 45) (x1 : Int).toNat 6)) rfl (fun α14 e15 => ?_)
    have hI16 : qI σ α14 κ ρ := by rw [e15]; exact qI_r hI 45 _ rfl (show 0 ≤ 6 ∧ 6 ≤ 6 by omega)
    have hF17 : qFr [] [45, 46, 47] σ α σ α14 := by rw [e15]; exact qFr_r hF0 45 _ (by decide)
    refine qr_aload_n 17 rfl rfl rfl ?_
    refine qr_get 20 rfl rfl rfl (by decide) rfl ?_
    refine qr_iload_n 21 rfl rfl rfl ?_
    refine qr_iload_n 22 rfl rfl rfl ?_
    refine qr_iastore 23 rfl (by decide) rfl (qrgi r1 (by decide) (by decide)) (by decide) rfl ?_
    refine qy_wA (qw_r α14 47 (qzu (α14 47) (x1 : Int).toNat x2)) rfl (fun α18 e19 => ?_)
    have hI20 : qI σ α18 κ ρ := by rw [e19]; exact qI_r hI16 47 _ rfl (show (-1) ≤ x2 ∧ x2 ≤ 59 by omega)
    have hF21 : qFr [] [45, 46, 47] σ α σ α18 := by rw [e19]; exact qFr_r hF17 47 _ (by decide)
    refine qr_aload_n 24 rfl rfl rfl ?_
    refine qr_get 27 rfl rfl rfl (by decide) rfl ?_
    refine qr_iload_n 28 rfl rfl rfl ?_
    refine qr_iconst 29 rfl rfl ?_
    refine qr_iastore 30 rfl (by decide) rfl (qrgi r1 (by decide) (by decide)) (by decide) rfl ?_
    refine qy_wA (qw_r α18 46 (qzu (α18 46) (x1 : Int).toNat 0)) rfl (fun α22 e23 => ?_)
    have hI24 : qI σ α22 κ ρ := by rw [e23]; exact qI_r hI20 46 _ rfl (show 0 ≤ 0 ∧ 0 ≤ 60 by omega)
    have hF25 : qFr [] [45, 46, 47] σ α σ α22 := by rw [e23]; exact qFr_r hF21 46 _ (by decide)
    refine qr_retV rfl rfl (by decide) (by decide) ?_
    exact ⟨_, rfl, hI24, hF25, rfl, (((congrFun e23 45).trans ((qw_r_ne (by decide)).trans ((congrFun e19 45).trans ((qw_r_ne (by decide)).trans ((congrFun e15 45).trans (qw_r_eq.trans (congrArg (fun f => qzu f (x1 : Int).toNat 6) rfl))))))).trans (by rw [if_pos (by omega)])), ((congrFun e23 46).trans (qw_r_eq.trans (congrArg (fun f => qzu f (x1 : Int).toNat 0) ((congrFun e19 46).trans ((qw_r_ne (by decide)).trans ((congrFun e15 46).trans ((qw_r_ne (by decide)).trans rfl))))))), ((congrFun e23 47).trans ((qw_r_ne (by decide)).trans ((congrFun e19 47).trans (qw_r_eq.trans (congrArg (fun f => qzu f (x1 : Int).toNat x2) ((congrFun e15 47).trans ((qw_r_ne (by decide)).trans rfl)))))))⟩

set_option maxHeartbeats 4000000 in
set_option maxRecDepth 20000 in
/-- OneRoof.keep -/
theorem sf_155_16x {L : Nat} {xs : Nat → Int} {vb : Bool} {d : Nat} {σ α : Nat → Nat → Int} {κ : Nat → Option Nat} {ρ : Nat} {x1 : Int} {x2 : Int} (hI : qI σ α κ ρ) (r1 : (-2147483648) ≤ x1 ∧ x1 ≤ 2147483647) (r2 : (-2147483648) ≤ x2 ∧ x2 ≤ 2147483647) : qm_T (qe L xs vb) (d + 2) 155 [.ref 16, .int (qz x1), .int (qz x2)] (qw σ α κ ρ) (fun r w' => ∃ α', w' = qw σ α' κ ρ ∧ qI σ α' κ ρ ∧ qFr [] [45, 46, 47] σ α σ α' ∧ ∃ v : Int, r = some (.int (qz v)) ∧ ((-2147483648) ≤ v ∧ v ≤ 2147483647) ∧ (((v = -1 ∧ ¬ (0 ≤ x1 ∧ x1 ≤ 5 ∧ (x2 = -1 ∨ (0 ≤ x2 ∧ x2 < σ 34 7)))) ∧ α' 45 = α 45 ∧ α' 46 = α 46 ∧ α' 47 = α 47) ∨ ((v = 1 ∧ (0 ≤ x1 ∧ x1 ≤ 5 ∧ (x2 = -1 ∨ (0 ≤ x2 ∧ x2 < σ 34 7)))) ∧ α' 45 = qzu (α 45) (x1 : Int).toNat (if x2 < 0 then 6 else 5) ∧ α' 46 = qzu (α 46) (x1 : Int).toNat (0) ∧ α' 47 = qzu (α 47) (x1 : Int).toNat (x2)))) := by
  refine qr_start (d := d + 1) qv_e155 (Nat.le_of_ble_eq_true rfl) ?_
  show qr_W (qe L xs vb) (d + 1) qx_e155 _ (0, [(0, .ref 16), (1, .int (qz x1)), (2, .int (qz x2))], [], _, 0, 0)
  have hF0 := qFr_rf [] [45, 46, 47] σ α
  have hz34_7 : 0 ≤ σ 34 7 ∧ σ 34 7 ≤ 60 := hI.1 34 7
  refine qr_aload_n 1 rfl rfl rfl ?_
  refine qr_get 4 rfl rfl rfl (by decide) rfl ?_
  refine qr_iload_n 5 rfl rfl rfl ?_
  refine qr_callN 8 rfl rfl rfl (sf_44_44 (d := d + 0) hI r1) ?_
  rintro _ _ ⟨rfl, v1, rfl, hv1, hp2⟩
  show qr_W (qe L xs vb) (d + 1) qx_e155 _ (8, _, [.int (qz v1)], qw σ α κ ρ, 0, 0)
  refine qr_if_eq 27 11 rfl rfl rfl (qrg hv1 (by decide) (by decide)) (fun h3 => ?_) (fun h3 => ?_)
  · skip
    refine qr_iconst 28 rfl rfl ?_
    refine qr_retI rfl rfl (by decide) (by decide) ?_
    exact ⟨_, rfl, hI, hF0, (-1), rfl, (by decide), (Or.inl ⟨by omega, rfl, rfl, rfl⟩)⟩
  · skip
    refine qr_iload_n 12 rfl rfl rfl ?_
    refine qr_iconst 13 rfl rfl ?_
    refine qr_icmp_eq 29 16 rfl rfl rfl r2 (by decide) (fun h4 => ?_) (fun h4 => ?_)
    · skip
      refine qr_aload_n 30 rfl rfl rfl ?_
      refine qr_get 33 rfl rfl rfl (by decide) rfl ?_
      refine qr_iload_n 34 rfl rfl rfl ?_
      refine qr_iload_n 35 rfl rfl rfl ?_
      refine qr_callN 38 rfl rfl rfl (sf_156_44x (d := d + 0) hI (by omega) (by omega)) ?_
      rintro _ _ ⟨α8, rfl, hI9, hG10, rfl, hx5, hx6, hx7⟩
      have hF11 : qFr [] [45, 46, 47] σ α σ α8 := qFr_t hF0 hG10 (by decide) (by decide)
      show qr_W (qe L xs vb) (d + 1) qx_e155 _ (38, _, [], qw σ α8 κ ρ, 0, 0)
      refine qr_iconst 39 rfl rfl ?_
      refine qr_retI rfl rfl (by decide) (by decide) ?_
      exact ⟨_, rfl, hI9, hF11, 1, rfl, (by decide), (Or.inr (⟨by omega, (hx5.trans (congrArg (fun f => qzu (f) (x1 : Int).toNat (if x2 < 0 then 6 else 5)) rfl)), (hx6.trans (congrArg (fun f => qzu (f) (x1 : Int).toNat (0)) rfl)), (hx7.trans (congrArg (fun f => qzu (f) (x1 : Int).toNat (x2)) rfl))⟩))⟩
    · skip
      refine qr_aload_n 17 rfl rfl rfl ?_
      refine qr_get 20 rfl rfl rfl (by decide) rfl ?_
      refine qr_iload_n 21 rfl rfl rfl ?_
      refine qr_callN 24 rfl rfl rfl (sf_73_34 (d := d + 0) hI r2) ?_
      have hs14 : 0 ≤ σ 34 7 ∧ σ 34 7 ≤ 60 := hI.1 34 7
      rintro _ _ ⟨rfl, v12, rfl, hv12, hp13⟩
      show qr_W (qe L xs vb) (d + 1) qx_e155 _ (24, _, [.int (qz v12)], qw σ α κ ρ, 0, 0)
      refine qr_if_ne 29 27 rfl rfl rfl (qrg hv12 (by decide) (by decide)) (fun h15 => ?_) (fun h15 => ?_)
      · skip
        refine qr_aload_n 30 rfl rfl rfl ?_
        refine qr_get 33 rfl rfl rfl (by decide) rfl ?_
        refine qr_iload_n 34 rfl rfl rfl ?_
        refine qr_iload_n 35 rfl rfl rfl ?_
        refine qr_callN 38 rfl rfl rfl (sf_156_44x (d := d + 0) hI (by omega) (by omega)) ?_
        rintro _ _ ⟨α19, rfl, hI20, hG21, rfl, hx16, hx17, hx18⟩
        have hF22 : qFr [] [45, 46, 47] σ α σ α19 := qFr_t hF0 hG21 (by decide) (by decide)
        show qr_W (qe L xs vb) (d + 1) qx_e155 _ (38, _, [], qw σ α19 κ ρ, 0, 0)
        refine qr_iconst 39 rfl rfl ?_
        refine qr_retI rfl rfl (by decide) (by decide) ?_
        exact ⟨_, rfl, hI20, hF22, 1, rfl, (by decide), (Or.inr (⟨by omega, (hx16.trans (congrArg (fun f => qzu (f) (x1 : Int).toNat (if x2 < 0 then 6 else 5)) rfl)), (hx17.trans (congrArg (fun f => qzu (f) (x1 : Int).toNat (0)) rfl)), (hx18.trans (congrArg (fun f => qzu (f) (x1 : Int).toNat (x2)) rfl))⟩))⟩
      · skip
        refine qr_iconst 28 rfl rfl ?_
        refine qr_retI rfl rfl (by decide) (by decide) ?_
        exact ⟨_, rfl, hI, hF0, (-1), rfl, (by decide), (Or.inl ⟨by omega, rfl, rfl, rfl⟩)⟩

set_option maxHeartbeats 4000000 in
set_option maxRecDepth 20000 in
/-- OneRoof$Pegs.hangRow -/
theorem sf_158_44x {L : Nat} {xs : Nat → Int} {vb : Bool} {d : Nat} {σ α : Nat → Nat → Int} {κ : Nat → Option Nat} {ρ : Nat} {x1 : Int} {x2 : Int} {x3 : Int} (hI : qI σ α κ ρ) (r1 : 0 ≤ x1 ∧ x1 ≤ 5) (r2 : 0 ≤ x2 ∧ x2 ≤ 4) (r3 : 0 ≤ x3 ∧ x3 ≤ 60) : qm_T (qe L xs vb) (d + 1) 158 [.ref 44, .int (qz x1), .int (qz x2), .int (qz x3)] (qw σ α κ ρ) (fun r w' => ∃ α', w' = qw σ α' κ ρ ∧ qI σ α' κ ρ ∧ qFr [] [45, 46, 48] σ α σ α' ∧ r = none ∧ α' 45 = qzu (α 45) (x1 : Int).toNat (x2) ∧ α' 46 = qzu (α 46) (x1 : Int).toNat (x3) ∧ α' 48 = qzfl (α 48) (x1 * 60 : Int).toNat (x3 : Int).toNat) := by
  refine qr_start (d := d + 0) qv_e158 (Nat.le_of_ble_eq_true rfl) ?_
  show qr_W (qe L xs vb) (d + 0) qx_e158 _ (0, [(0, .ref 44), (1, .int (qz x1)), (2, .int (qz x2)), (3, .int (qz x3))], [], _, 0, 0)
  have hF0 := qFr_rf [] [45, 46, 48] σ α
  refine qr_aload_n 1 rfl rfl rfl ?_
  refine qr_get 4 rfl rfl rfl (by decide) rfl ?_
  refine qr_iload_n 5 rfl rfl rfl ?_
  refine qr_iload_n 6 rfl rfl rfl ?_
  refine qr_iastore 7 rfl (by decide) rfl (qrgi r1 (by decide) (by decide)) (by decide) rfl ?_
  refine qy_wA (qw_r α 45 (qzu (α 45) (x1 : Int).toNat x2)) rfl (fun α1 e2 => ?_)
  have hI3 : qI σ α1 κ ρ := by rw [e2]; exact qI_r hI 45 _ rfl (show 0 ≤ x2 ∧ x2 ≤ 6 by omega)
  have hF4 : qFr [] [45, 46, 48] σ α σ α1 := by rw [e2]; exact qFr_r hF0 45 _ (by decide)
  refine qr_aload_n 8 rfl rfl rfl ?_
  refine qr_get 11 rfl rfl rfl (by decide) rfl ?_
  refine qr_iload_n 12 rfl rfl rfl ?_
  refine qr_iload_n 13 rfl rfl rfl ?_
  refine qr_iastore 14 rfl (by decide) rfl (qrgi r1 (by decide) (by decide)) (by decide) rfl ?_
  refine qy_wA (qw_r α1 46 (qzu (α1 46) (x1 : Int).toNat x3)) rfl (fun α5 e6 => ?_)
  have hI7 : qI σ α5 κ ρ := by rw [e6]; exact qI_r hI3 46 _ rfl (show 0 ≤ x3 ∧ x3 ≤ 60 by omega)
  have hF8 : qFr [] [45, 46, 48] σ α σ α5 := by rw [e6]; exact qFr_r hF4 46 _ (by decide)
  refine qr_iconst 15 rfl rfl ?_
  refine qr_istore _ 17 rfl (by decide) rfl rfl ?_
  have hL215 : ∀ (n : Nat) (ls : qm_L) (u205 : Int) (α207 : Nat → Nat → Int), 60 - u205 < (n : Int) → qm_get ls 0 = some (.ref 44) → qm_get ls 1 = some (.int (qz x1)) → qm_get ls 3 = some (.int (qz x3)) → qm_get ls 4 = some (.int (qz u205)) → (0 ≤ u205 ∧ u205 ≤ 60) → qI σ α207 κ ρ → qFr [] [45, 46, 48] σ α σ α207 → α207 48 = (qzfl (α 48) (x1 * 60 : Int).toNat (u205 : Int).toNat) → α207 45 = (qzu (α 45) (x1 : Int).toNat x2) → α207 46 = (qzu (α 46) (x1 : Int).toNat x3) → u205 ≤ x3 → qr_W (qe L xs vb) (d + 0) qx_e158 (fun r w' => ∃ α', w' = qw σ α' κ ρ ∧ qI σ α' κ ρ ∧ qFr [] [45, 46, 48] σ α σ α' ∧ r = none ∧ α' 45 = qzu (α 45) (x1 : Int).toNat (x2) ∧ α' 46 = qzu (α 46) (x1 : Int).toNat (x3) ∧ α' 48 = qzfl (α 48) (x1 * 60 : Int).toNat (x3 : Int).toNat) (17, ls, [], qw σ α207 κ ρ, 0, 0) := by
    intro n
    induction n with
    | zero => intro ls u205 α207 hm g201 g202 g203 g204 hf210 hI208 hF209 hx211 hx212 hx213 hx214; exact False.elim (by omega)
    | succ n ih216 =>
      intro ls u205 α207 hm g201 g202 g203 g204 hf210 hI208 hF209 hx211 hx212 hx213 hx214
      refine qr_iload 19 rfl g204 rfl ?_
      refine qr_iload_n 20 rfl g203 rfl ?_
      refine qr_icmp_ge 42 23 rfl rfl rfl (qrg hf210 (by decide) (by decide)) (qrg r3 (by decide) (by decide)) (fun h217 => ?_) (fun h217 => ?_)
      · skip
        refine qr_retV rfl rfl (by decide) (by decide) ?_
        exact ⟨_, rfl, hI208, hF209, rfl, hx212, hx213, (hx211.trans (by congr 1; omega))⟩
      · skip
        refine qr_aload_n 24 rfl g201 rfl ?_
        refine qr_get 27 rfl rfl rfl (by decide) rfl ?_
        refine qr_iload_n 28 rfl g202 rfl ?_
        refine qr_bipush 30 rfl (by decide) rfl ?_
        refine qr_imul 31 rfl rfl ?_
        refine qr_iload 33 rfl g204 rfl ?_
        refine qr_iadd 34 rfl rfl ?_
        refine qr_lconst 35 rfl rfl ?_
        refine qy_vl 0 rfl ?_
        refine qr_lastore 36 rfl (by decide) rfl (by omega) (by decide) rfl ?_
        refine qy_wA (qw_r α207 48 (qzu (α207 48) (((x1 * 60) + u205) : Int).toNat 0)) rfl (fun α218 e219 => ?_)
        have hI220 : qI σ α218 κ ρ := by rw [e219]; exact qI_r hI208 48 _ rfl (show (-9223372036854775808) ≤ 0 ∧ 0 ≤ 9223372036854775807 by omega)
        have hF221 : qFr [] [45, 46, 48] σ α σ α218 := by rw [e219]; exact qFr_r hF209 48 _ (by decide)
        refine qr_iinc _ 39 rfl g204 (by decide) rfl rfl ?_
        refine qr_goto 17 rfl rfl ?_
        exact ih216 _ (u205 + 1) α218 (by omega) (qm_gk g201 (by decide) (Or.inl (by decide))) (qm_gk g202 (by decide) (Or.inl (by decide))) (qm_gk g203 (by decide) (Or.inr rfl)) (qm_ge _ _ _) (by omega) hI220 hF221 (((congrFun e219 48).trans (qw_r_eq.trans (congrArg (fun f => qzu f (((x1 * 60) + u205) : Int).toNat 0) hx211))).trans (qzfl_s (by omega) (by omega))) ((congrFun e219 45).trans ((qw_r_ne (by decide)).trans hx212)) ((congrFun e219 46).trans ((qw_r_ne (by decide)).trans hx213)) (by omega)
  exact hL215 ((60 - 0 + 1 : Int)).toNat _ 0 α5 (by omega) rfl rfl rfl rfl (by decide) hI7 hF8 (((congrFun e6 48).trans ((qw_r_ne (by decide)).trans ((congrFun e2 48).trans ((qw_r_ne (by decide)).trans rfl)))).trans (qzfl_0 _ _)) ((congrFun e6 45).trans ((qw_r_ne (by decide)).trans ((congrFun e2 45).trans (qw_r_eq.trans (congrArg (fun f => qzu f (x1 : Int).toNat x2) rfl))))) ((congrFun e6 46).trans (qw_r_eq.trans (congrArg (fun f => qzu f (x1 : Int).toNat x3) ((congrFun e2 46).trans ((qw_r_ne (by decide)).trans rfl))))) (by omega)

set_option maxHeartbeats 4000000 in
set_option maxRecDepth 20000 in
/-- OneRoof.row -/
theorem sf_157_16x {L : Nat} {xs : Nat → Int} {vb : Bool} {d : Nat} {σ α : Nat → Nat → Int} {κ : Nat → Option Nat} {ρ : Nat} {x1 : Int} {x2 : Int} {x3 : Int} (hI : qI σ α κ ρ) (r1 : (-2147483648) ≤ x1 ∧ x1 ≤ 2147483647) (r2 : (-2147483648) ≤ x2 ∧ x2 ≤ 2147483647) (r3 : (-2147483648) ≤ x3 ∧ x3 ≤ 2147483647) : qm_T (qe L xs vb) (d + 2) 157 [.ref 16, .int (qz x1), .int (qz x2), .int (qz x3)] (qw σ α κ ρ) (fun r w' => ∃ α', w' = qw σ α' κ ρ ∧ qI σ α' κ ρ ∧ qFr [] [45, 46, 48] σ α σ α' ∧ ∃ v : Int, r = some (.int (qz v)) ∧ ((-2147483648) ≤ v ∧ v ≤ 2147483647) ∧ (((v = -1 ∧ ¬ (0 ≤ x1 ∧ x1 ≤ 5 ∧ 0 ≤ x2 ∧ x2 ≤ 4 ∧ x3 ≤ 60)) ∧ α' 45 = α 45 ∧ α' 46 = α 46 ∧ α' 48 = α 48) ∨ ((v = -14 ∧ (0 ≤ x1 ∧ x1 ≤ 5 ∧ 0 ≤ x2 ∧ x2 ≤ 4 ∧ x3 ≤ 60) ∧ x3 < 0) ∧ α' 45 = α 45 ∧ α' 46 = α 46 ∧ α' 48 = α 48) ∨ ((v = 1 ∧ (0 ≤ x1 ∧ x1 ≤ 5 ∧ 0 ≤ x2 ∧ x2 ≤ 4 ∧ x3 ≤ 60) ∧ 0 ≤ x3) ∧ α' 45 = qzu (α 45) (x1 : Int).toNat (x2) ∧ α' 46 = qzu (α 46) (x1 : Int).toNat (x3) ∧ α' 48 = qzfl (α 48) (x1 * 60 : Int).toNat (x3 : Int).toNat))) := by
  refine qr_start (d := d + 1) qv_e157 (Nat.le_of_ble_eq_true rfl) ?_
  show qr_W (qe L xs vb) (d + 1) qx_e157 _ (0, [(0, .ref 16), (1, .int (qz x1)), (2, .int (qz x2)), (3, .int (qz x3))], [], _, 0, 0)
  have hF0 := qFr_rf [] [45, 46, 48] σ α
  refine qr_aload_n 1 rfl rfl rfl ?_
  refine qr_get 4 rfl rfl rfl (by decide) rfl ?_
  refine qr_iload_n 5 rfl rfl rfl ?_
  refine qr_callN 8 rfl rfl rfl (sf_44_44 (d := d + 0) hI r1) ?_
  rintro _ _ ⟨rfl, v1, rfl, hv1, hp2⟩
  show qr_W (qe L xs vb) (d + 1) qx_e157 _ (8, _, [.int (qz v1)], qw σ α κ ρ, 0, 0)
  refine qr_if_eq 26 11 rfl rfl rfl (qrg hv1 (by decide) (by decide)) (fun h3 => ?_) (fun h3 => ?_)
  · skip
    refine qr_iconst 27 rfl rfl ?_
    refine qr_retI rfl rfl (by decide) (by decide) ?_
    exact ⟨_, rfl, hI, hF0, (-1), rfl, (by decide), (Or.inl ⟨by omega, rfl, rfl, rfl⟩)⟩
  · skip
    refine qr_iload_n 12 rfl rfl rfl ?_
    refine qr_if_lt 26 15 rfl rfl rfl r2 (fun h4 => ?_) (fun h4 => ?_)
    · skip
      refine qr_iconst 27 rfl rfl ?_
      refine qr_retI rfl rfl (by decide) (by decide) ?_
      exact ⟨_, rfl, hI, hF0, (-1), rfl, (by decide), (Or.inl ⟨by omega, rfl, rfl, rfl⟩)⟩
    · skip
      refine qr_iload_n 16 rfl rfl rfl ?_
      refine qr_iconst 17 rfl rfl ?_
      refine qr_icmp_ge 26 20 rfl rfl rfl r2 (by decide) (fun h5 => ?_) (fun h5 => ?_)
      · skip
        refine qr_iconst 27 rfl rfl ?_
        refine qr_retI rfl rfl (by decide) (by decide) ?_
        exact ⟨_, rfl, hI, hF0, (-1), rfl, (by decide), (Or.inl ⟨by omega, rfl, rfl, rfl⟩)⟩
      · skip
        refine qr_iload_n 21 rfl rfl rfl ?_
        refine qr_bipush 23 rfl (by decide) rfl ?_
        refine qr_icmp_le 28 26 rfl rfl rfl r3 (by decide) (fun h6 => ?_) (fun h6 => ?_)
        · skip
          refine qr_iload_n 29 rfl rfl rfl ?_
          refine qr_if_ge 35 32 rfl rfl rfl r3 (fun h7 => ?_) (fun h7 => ?_)
          · skip
            refine qr_aload_n 36 rfl rfl rfl ?_
            refine qr_get 39 rfl rfl rfl (by decide) rfl ?_
            refine qr_iload_n 40 rfl rfl rfl ?_
            refine qr_iload_n 41 rfl rfl rfl ?_
            refine qr_iload_n 42 rfl rfl rfl ?_
            refine qr_callN 45 rfl rfl rfl (sf_158_44x (d := d + 0) hI (by omega) (by omega) (by omega)) ?_
            rintro _ _ ⟨α11, rfl, hI12, hG13, rfl, hx8, hx9, hx10⟩
            have hF14 : qFr [] [45, 46, 48] σ α σ α11 := qFr_t hF0 hG13 (by decide) (by decide)
            show qr_W (qe L xs vb) (d + 1) qx_e157 _ (45, _, [], qw σ α11 κ ρ, 0, 0)
            refine qr_iconst 46 rfl rfl ?_
            refine qr_retI rfl rfl (by decide) (by decide) ?_
            exact ⟨_, rfl, hI12, hF14, 1, rfl, (by decide), (Or.inr (Or.inr (⟨by omega, (hx8.trans (congrArg (fun f => qzu (f) (x1 : Int).toNat (x2)) rfl)), (hx9.trans (congrArg (fun f => qzu (f) (x1 : Int).toNat (x3)) rfl)), (hx10.trans (congrArg (fun f => qzfl (f) (x1 * 60 : Int).toNat (x3 : Int).toNat) rfl))⟩)))⟩
          · skip
            refine qr_bipush 34 rfl (by decide) rfl ?_
            refine qr_retI rfl rfl (by decide) (by decide) ?_
            exact ⟨_, rfl, hI, hF0, (-14), rfl, (by decide), (Or.inr (Or.inl ⟨by omega, rfl, rfl, rfl⟩))⟩
        · skip
          refine qr_iconst 27 rfl rfl ?_
          refine qr_retI rfl rfl (by decide) (by decide) ?_
          exact ⟨_, rfl, hI, hF0, (-1), rfl, (by decide), (Or.inl ⟨by omega, rfl, rfl, rfl⟩)⟩

set_option maxHeartbeats 4000000 in
set_option maxRecDepth 20000 in
/-- OneRoof$Pegs.refusalAt -/
theorem sf_160_44x {L : Nat} {xs : Nat → Int} {vb : Bool} {d : Nat} {σ α : Nat → Nat → Int} {κ : Nat → Option Nat} {ρ : Nat} {x1 : Int} {x2 : Int} (hI : qI σ α κ ρ) (r1 : 0 ≤ x1 ∧ x1 ≤ 5) (r2 : (-2147483648) ≤ x2 ∧ x2 ≤ 2147483647) : qm_T (qe L xs vb) (d + 2) 160 [.ref 44, .int (qz x1), .int (qz x2)] (qw σ α κ ρ) (fun r w' => w' = qw σ α κ ρ ∧ ∃ v : Int, r = some (.int (qz v)) ∧ ((-13) ≤ v ∧ v ≤ 0) ∧ ((v = -11 ∧ α 45 (x1 : Int).toNat = 6) ∨ (v = -12 ∧ α 45 (x1 : Int).toNat = 5) ∨ (v = -13 ∧ α 45 (x1 : Int).toNat ≤ 4 ∧ ¬ (0 ≤ x2 ∧ x2 < α 46 (x1 : Int).toNat)) ∨ (v = 0 ∧ α 45 (x1 : Int).toNat ≤ 4 ∧ 0 ≤ x2 ∧ x2 < α 46 (x1 : Int).toNat))) := by
  refine qr_start (d := d + 1) qv_e160 (Nat.le_of_ble_eq_true rfl) ?_
  show qr_W (qe L xs vb) (d + 1) qx_e160 _ (0, [(0, .ref 44), (1, .int (qz x1)), (2, .int (qz x2))], [], _, 0, 0)
  have qx1_45 : 0 ≤ x1 ∧ x1 ≤ 5 → 0 ≤ α 45 (x1 : Int).toNat ∧ α 45 (x1 : Int).toNat ≤ 6 := fun h => hI.2.1 45 _ (show (x1 : Int).toNat < 6 by omega)
  have qx1_46 : 0 ≤ x1 ∧ x1 ≤ 5 → 0 ≤ α 46 (x1 : Int).toNat ∧ α 46 (x1 : Int).toNat ≤ 60 := fun h => hI.2.1 46 _ (show (x1 : Int).toNat < 6 by omega)
  refine qr_aload_n 1 rfl rfl rfl ?_
  refine qr_iload_n 2 rfl rfl rfl ?_
  refine qr_callN 5 rfl rfl rfl (sf_45_44x (d := d + 0) hI r1) ?_
  rintro _ _ ⟨rfl, v1, rfl, hv1, hp2⟩
  show qr_W (qe L xs vb) (d + 1) qx_e160 _ (5, _, [.int (qz v1)], qw σ α κ ρ, 0, 0)
  refine qr_if_eq 11 8 rfl rfl rfl (qrg hv1 (by decide) (by decide)) (fun h3 => ?_) (fun h3 => ?_)
  · skip
    refine qr_aload_n 12 rfl rfl rfl ?_
    refine qr_iload_n 13 rfl rfl rfl ?_
    refine qr_callN 16 rfl rfl rfl (sf_47_44x (d := d + 0) hI r1) ?_
    rintro _ _ ⟨rfl, v4, rfl, hv4, hp5⟩
    show qr_W (qe L xs vb) (d + 1) qx_e160 _ (16, _, [.int (qz v4)], qw σ α κ ρ, 0, 0)
    refine qr_if_ne 22 19 rfl rfl rfl (qrg hv4 (by decide) (by decide)) (fun h6 => ?_) (fun h6 => ?_)
    · skip
      refine qr_iload_n 23 rfl rfl rfl ?_
      refine qr_if_lt 36 26 rfl rfl rfl r2 (fun h7 => ?_) (fun h7 => ?_)
      · skip
        refine qr_bipush 38 rfl (by decide) rfl ?_
        refine qr_goto 42 rfl rfl ?_
        refine qr_retI rfl rfl (by decide) (by decide) ?_
        exact ⟨rfl, (-13), rfl, (by decide), by omega⟩
      · skip
        refine qr_iload_n 27 rfl rfl rfl ?_
        refine qr_aload_n 28 rfl rfl rfl ?_
        refine qr_get 31 rfl rfl rfl (by decide) rfl ?_
        refine qr_iload_n 32 rfl rfl rfl ?_
        refine qr_iaload 33 rfl rfl (qrgi r1 (by decide) (by decide)) (by decide) rfl ?_
        refine qr_topI (fun v8 hv8 => ?_)
        have hs9 : 0 ≤ v8 ∧ v8 ≤ 60 := by rw [hv8]; exact hI.2.1 46 _ (show _ < 6 from qrgt r1 (by decide) (by decide))
        refine qr_icmp_lt 41 36 rfl rfl rfl r2 (qrg hs9 (by decide) (by decide)) (fun h10 => ?_) (fun h10 => ?_)
        · skip
          refine qr_iconst 42 rfl rfl ?_
          refine qr_retI rfl rfl (by decide) (by decide) ?_
          exact ⟨rfl, 0, rfl, (by decide), by omega⟩
        · skip
          refine qr_bipush 38 rfl (by decide) rfl ?_
          refine qr_goto 42 rfl rfl ?_
          refine qr_retI rfl rfl (by decide) (by decide) ?_
          exact ⟨rfl, (-13), rfl, (by decide), by omega⟩
    · skip
      refine qr_bipush 21 rfl (by decide) rfl ?_
      refine qr_retI rfl rfl (by decide) (by decide) ?_
      exact ⟨rfl, (-12), rfl, (by decide), by omega⟩
  · skip
    refine qr_bipush 10 rfl (by decide) rfl ?_
    refine qr_retI rfl rfl (by decide) (by decide) ?_
    exact ⟨rfl, (-11), rfl, (by decide), by omega⟩

set_option maxHeartbeats 4000000 in
set_option maxRecDepth 20000 in
/-- OneRoof$Pegs.narrowed -/
theorem sf_162x {L : Nat} {xs : Nat → Int} {vb : Bool} {d : Nat} {σ α : Nat → Nat → Int} {κ : Nat → Option Nat} {ρ : Nat} {x0 : Int} {x1 : Int} (hI : qI σ α κ ρ) (r0 : 0 ≤ x0 ∧ x0 ≤ 4) (r1 : (-9223372036854775808) ≤ x1 ∧ x1 ≤ 9223372036854775807) : qm_T (qe L xs vb) (d + 1) 162 [.int (qz x0), .long (ql x1)] (qw σ α κ ρ) (fun r w' => w' = qw σ α κ ρ ∧ ∃ v : Int, r = some (.long (ql v)) ∧ ((-9223372036854775808) ≤ v ∧ v ≤ 9223372036854775807) ∧ v = qnar x0 x1) := by
  refine qr_start (d := d + 0) qv_e162 (Nat.le_of_ble_eq_true rfl) ?_
  show qr_W (qe L xs vb) (d + 0) qx_e162 _ (0, [(0, .int (qz x0)), (1, .long (ql x1))], [], _, 0, 0)
  refine qr_iload_n 1 rfl rfl rfl ?_
  have h1 : x0 = 0 ∨ x0 = 1 ∨ x0 = 2 ∨ x0 = 3 ∨ (x0 < 0 ∨ 3 < x0) := by omega
  rcases h1 with h1 | h1 | h1 | h1 | h1
  · skip
    refine qr_tabIn 32 rfl (qrg r0 (by decide) (by decide)) (by rw [h1]; decide) (by rw [h1]; rfl) rfl ?_
    refine qr_lload_n 33 rfl rfl rfl ?_
    refine qr_l2i 34 rfl rfl ?_
    refine qy_canE (fun v3 hv3 hev3 => ?_)
    refine qr_i2b 35 rfl rfl ?_
    refine qy_canE (fun v4 hv4 hev4 => ?_)
    refine qr_i2l 36 rfl hv4 rfl ?_
    refine qr_retL rfl rfl (by decide) (by decide) ?_
    exact ⟨rfl, v4, rfl, (qrg hv4 (by decide) (by decide)), (by unfold qnar; rw [if_pos (by omega)]; exact qna_b hev3 hev4 (by omega))⟩
  · skip
    refine qr_tabIn 37 rfl (qrg r0 (by decide) (by decide)) (by rw [h1]; decide) (by rw [h1]; rfl) rfl ?_
    refine qr_lload_n 38 rfl rfl rfl ?_
    refine qr_l2i 39 rfl rfl ?_
    refine qy_canE (fun v5 hv5 hev5 => ?_)
    refine qr_i2s 40 rfl rfl ?_
    refine qy_canE (fun v6 hv6 hev6 => ?_)
    refine qr_i2l 41 rfl hv6 rfl ?_
    refine qr_retL rfl rfl (by decide) (by decide) ?_
    exact ⟨rfl, v6, rfl, (qrg hv6 (by decide) (by decide)), (by unfold qnar; rw [if_neg (by omega), if_pos (by omega)]; exact qna_s hev5 hev6 (by omega))⟩
  · skip
    refine qr_tabIn 42 rfl (qrg r0 (by decide) (by decide)) (by rw [h1]; decide) (by rw [h1]; rfl) rfl ?_
    refine qr_lload_n 43 rfl rfl rfl ?_
    refine qr_l2i 44 rfl rfl ?_
    refine qy_canE (fun v7 hv7 hev7 => ?_)
    refine qr_i2l 45 rfl hv7 rfl ?_
    refine qr_retL rfl rfl (by decide) (by decide) ?_
    exact ⟨rfl, v7, rfl, (qrg hv7 (by decide) (by decide)), (by unfold qnar; rw [if_neg (by omega), if_neg (by omega), if_pos (by omega)]; exact qna_i hev7 (by omega))⟩
  · skip
    refine qr_tabIn 46 rfl (qrg r0 (by decide) (by decide)) (by rw [h1]; decide) (by rw [h1]; rfl) rfl ?_
    refine qr_lload_n 47 rfl rfl rfl ?_
    refine qr_retL rfl rfl (by decide) (by decide) ?_
    exact ⟨rfl, x1, rfl, r1, (by unfold qnar; rw [if_neg (by omega), if_neg (by omega), if_neg (by omega), if_pos (by omega)])⟩
  · skip
    refine qr_tabOut 48 rfl (qrg r0 (by decide) (by decide)) (by omega) rfl ?_
    refine qr_lload_n 49 rfl rfl rfl ?_
    refine qr_lconst 50 rfl rfl ?_
    refine qy_vl 0 rfl ?_
    refine qr_lc_eq 58 54 rfl rfl rfl rfl r1 (by decide) (fun h8 => ?_) (fun h8 => ?_)
    · skip
      refine qr_lconst 59 rfl rfl ?_
      refine qy_vl 0 rfl ?_
      refine qr_retL rfl rfl (by decide) (by decide) ?_
      exact ⟨rfl, 0, rfl, (by decide), (by unfold qnar; rw [if_neg (by omega), if_neg (by omega), if_neg (by omega), if_neg (by omega)]; first | (rw [if_pos (by omega)]) | (rw [if_neg (by omega)]))⟩
    · skip
      refine qr_lconst 55 rfl rfl ?_
      refine qy_vl 1 rfl ?_
      refine qr_goto 59 rfl rfl ?_
      refine qr_retL rfl rfl (by decide) (by decide) ?_
      exact ⟨rfl, 1, rfl, (by decide), (by unfold qnar; rw [if_neg (by omega), if_neg (by omega), if_neg (by omega), if_neg (by omega)]; first | (rw [if_pos (by omega)]) | (rw [if_neg (by omega)]))⟩

set_option maxHeartbeats 4000000 in
set_option maxRecDepth 20000 in
/-- OneRoof$Pegs.store -/
theorem sf_161_44x {L : Nat} {xs : Nat → Int} {vb : Bool} {d : Nat} {σ α : Nat → Nat → Int} {κ : Nat → Option Nat} {ρ : Nat} {x1 : Int} {x2 : Int} {x3 : Int} (hI : qI σ α κ ρ) (r1 : 0 ≤ x1 ∧ x1 ≤ 5) (r2 : 0 ≤ x2 ∧ x2 ≤ 59) (r3 : (-9223372036854775808) ≤ x3 ∧ x3 ≤ 9223372036854775807) (p0 : α 45 (x1 : Int).toNat ≤ 4) : qm_T (qe L xs vb) (d + 2) 161 [.ref 44, .int (qz x1), .int (qz x2), .long (ql x3)] (qw σ α κ ρ) (fun r w' => ∃ α', w' = qw σ α' κ ρ ∧ qI σ α' κ ρ ∧ qFr [] [48] σ α σ α' ∧ r = none ∧ α' 48 = qzu (α 48) (x1 * 60 + x2 : Int).toNat (qnar (α 45 (x1 : Int).toNat) x3)) := by
  refine qr_start (d := d + 1) qv_e161 (Nat.le_of_ble_eq_true rfl) ?_
  show qr_W (qe L xs vb) (d + 1) qx_e161 _ (0, [(0, .ref 44), (1, .int (qz x1)), (2, .int (qz x2)), (3, .long (ql x3))], [], _, 0, 0)
  have hF0 := qFr_rf [] [48] σ α
  refine qr_aload_n 1 rfl rfl rfl ?_
  refine qr_get 4 rfl rfl rfl (by decide) rfl ?_
  refine qr_iload_n 5 rfl rfl rfl ?_
  refine qr_bipush 7 rfl (by decide) rfl ?_
  refine qr_imul 8 rfl rfl ?_
  refine qr_iload_n 9 rfl rfl rfl ?_
  refine qr_iadd 10 rfl rfl ?_
  refine qr_aload_n 11 rfl rfl rfl ?_
  refine qr_get 14 rfl rfl rfl (by decide) rfl ?_
  refine qr_iload_n 15 rfl rfl rfl ?_
  refine qr_iaload 16 rfl rfl (qrgi r1 (by decide) (by decide)) (by decide) rfl ?_
  refine qr_topI (fun v1 hv1 => ?_)
  have hs2 : 0 ≤ v1 ∧ v1 ≤ 6 := by rw [hv1]; exact hI.2.1 45 _ (show _ < 6 from qrgt r1 (by decide) (by decide))
  refine qr_lload_n 17 rfl rfl rfl ?_
  refine qr_callN 20 rfl rfl rfl (sf_162x (d := d + 0) hI (by omega) r3) ?_
  rintro _ _ ⟨rfl, v3, rfl, hv3, hp4⟩
  show qr_W (qe L xs vb) (d + 1) qx_e161 _ (20, _, [.long (ql v3), .int (qz ((x1 * 60) + x2)), .ref 48], qw σ α κ ρ, 0, 0)
  refine qr_lastore 21 rfl (by decide) rfl (by omega) (by decide) rfl ?_
  refine qy_wA (qw_r α 48 (qzu (α 48) (((x1 * 60) + x2) : Int).toNat v3)) rfl (fun α5 e6 => ?_)
  have hI7 : qI σ α5 κ ρ := by rw [e6]; exact qI_r hI 48 _ rfl (show (-9223372036854775808) ≤ v3 ∧ v3 ≤ 9223372036854775807 by omega)
  have hF8 : qFr [] [48] σ α σ α5 := by rw [e6]; exact qFr_r hF0 48 _ (by decide)
  refine qr_retV rfl rfl (by decide) (by decide) ?_
  exact ⟨_, rfl, hI7, hF8, rfl, (((congrFun e6 48).trans (qw_r_eq.trans (congrArg (fun f => qzu f (((x1 * 60) + x2) : Int).toNat v3) rfl))).trans (by rw [hp4, hv1]))⟩

set_option maxHeartbeats 4000000 in
set_option maxRecDepth 20000 in
/-- OneRoof.put -/
theorem sf_159_16x {L : Nat} {xs : Nat → Int} {vb : Bool} {d : Nat} {σ α : Nat → Nat → Int} {κ : Nat → Option Nat} {ρ : Nat} {x1 : Int} {x2 : Int} {x3 : Int} (hI : qI σ α κ ρ) (r1 : (-2147483648) ≤ x1 ∧ x1 ≤ 2147483647) (r2 : (-2147483648) ≤ x2 ∧ x2 ≤ 2147483647) (r3 : (-9223372036854775808) ≤ x3 ∧ x3 ≤ 9223372036854775807) : qm_T (qe L xs vb) (d + 3) 159 [.ref 16, .int (qz x1), .int (qz x2), .long (ql x3)] (qw σ α κ ρ) (fun r w' => ∃ α', w' = qw σ α' κ ρ ∧ qI σ α' κ ρ ∧ qFr [] [48] σ α σ α' ∧ ∃ v : Int, r = some (.int (qz v)) ∧ ((-2147483648) ≤ v ∧ v ≤ 2147483647) ∧ (((v = -1 ∧ ¬ (0 ≤ x1 ∧ x1 ≤ 5)) ∧ α' 48 = α 48) ∨ (((0 ≤ x1 ∧ x1 ≤ 5) ∧ ¬ v = 0 ∧ ((v = -11 ∧ α 45 (x1 : Int).toNat = 6) ∨ (v = -12 ∧ α 45 (x1 : Int).toNat = 5) ∨ (v = -13 ∧ α 45 (x1 : Int).toNat ≤ 4 ∧ ¬ (0 ≤ x2 ∧ x2 < α 46 (x1 : Int).toNat)) ∨ (v = 0 ∧ α 45 (x1 : Int).toNat ≤ 4 ∧ 0 ≤ x2 ∧ x2 < α 46 (x1 : Int).toNat))) ∧ α' 48 = α 48) ∨ ((v = 1 ∧ (0 ≤ x1 ∧ x1 ≤ 5) ∧ α 45 (x1 : Int).toNat ≤ 4 ∧ 0 ≤ x2 ∧ x2 < α 46 (x1 : Int).toNat) ∧ α' 48 = qzu (α 48) (x1 * 60 + x2 : Int).toNat (qnar (α 45 (x1 : Int).toNat) x3)))) := by
  refine qr_start (d := d + 2) qv_e159 (Nat.le_of_ble_eq_true rfl) ?_
  show qr_W (qe L xs vb) (d + 2) qx_e159 _ (0, [(0, .ref 16), (1, .int (qz x1)), (2, .int (qz x2)), (3, .long (ql x3))], [], _, 0, 0)
  have hF0 := qFr_rf [] [48] σ α
  have qx1_45 : 0 ≤ x1 ∧ x1 ≤ 5 → 0 ≤ α 45 (x1 : Int).toNat ∧ α 45 (x1 : Int).toNat ≤ 6 := fun h => hI.2.1 45 _ (show (x1 : Int).toNat < 6 by omega)
  have qx1_46 : 0 ≤ x1 ∧ x1 ≤ 5 → 0 ≤ α 46 (x1 : Int).toNat ∧ α 46 (x1 : Int).toNat ≤ 60 := fun h => hI.2.1 46 _ (show (x1 : Int).toNat < 6 by omega)
  refine qr_aload_n 1 rfl rfl rfl ?_
  refine qr_get 4 rfl rfl rfl (by decide) rfl ?_
  refine qr_iload_n 5 rfl rfl rfl ?_
  refine qr_callN 8 rfl rfl rfl (sf_44_44 (d := d + 1) hI r1) ?_
  rintro _ _ ⟨rfl, v1, rfl, hv1, hp2⟩
  show qr_W (qe L xs vb) (d + 2) qx_e159 _ (8, _, [.int (qz v1)], qw σ α κ ρ, 0, 0)
  refine qr_if_ne 13 11 rfl rfl rfl (qrg hv1 (by decide) (by decide)) (fun h3 => ?_) (fun h3 => ?_)
  · skip
    refine qr_aload_n 14 rfl rfl rfl ?_
    refine qr_get 17 rfl rfl rfl (by decide) rfl ?_
    refine qr_iload_n 18 rfl rfl rfl ?_
    refine qr_iload_n 19 rfl rfl rfl ?_
    refine qr_callN 22 rfl rfl rfl (sf_160_44x (d := d + 0) hI (by omega) r2) ?_
    rintro _ _ ⟨rfl, v4, rfl, hv4, hp5⟩
    show qr_W (qe L xs vb) (d + 2) qx_e159 _ (22, _, [.int (qz v4)], qw σ α κ ρ, 0, 0)
    refine qr_istore _ 24 rfl (by decide) rfl rfl ?_
    refine qr_iload 26 rfl rfl rfl ?_
    refine qr_if_eq 32 29 rfl rfl rfl (qrg hv4 (by decide) (by decide)) (fun h6 => ?_) (fun h6 => ?_)
    · skip
      refine qr_aload_n 33 rfl rfl rfl ?_
      refine qr_get 36 rfl rfl rfl (by decide) rfl ?_
      refine qr_iload_n 37 rfl rfl rfl ?_
      refine qr_iload_n 38 rfl rfl rfl ?_
      refine qr_lload_n 39 rfl rfl rfl ?_
      refine qr_callN 42 rfl rfl rfl (sf_161_44x (d := d + 0) hI (by omega) (by omega) r3 (by omega)) ?_
      rintro _ _ ⟨α8, rfl, hI9, hG10, rfl, hx7⟩
      have hF11 : qFr [] [48] σ α σ α8 := qFr_t hF0 hG10 (by decide) (by decide)
      show qr_W (qe L xs vb) (d + 2) qx_e159 _ (42, _, [], qw σ α8 κ ρ, 0, 0)
      refine qr_iconst 43 rfl rfl ?_
      refine qr_retI rfl rfl (by decide) (by decide) ?_
      exact ⟨_, rfl, hI9, hF11, 1, rfl, (by decide), (Or.inr (Or.inr (⟨by omega, (hx7.trans (congrArg (fun f => qzu (f) (x1 * 60 + x2 : Int).toNat (qnar (α 45 (x1 : Int).toNat) x3)) rfl))⟩)))⟩
    · skip
      refine qr_iload 31 rfl rfl rfl ?_
      refine qr_retI rfl rfl (by decide) (by decide) ?_
      exact ⟨_, rfl, hI, hF0, v4, rfl, (qrg hv4 (by decide) (by decide)), (Or.inr (Or.inl ⟨by omega, rfl⟩))⟩
  · skip
    refine qr_iconst 12 rfl rfl ?_
    refine qr_retI rfl rfl (by decide) (by decide) ?_
    exact ⟨_, rfl, hI, hF0, (-1), rfl, (by decide), (Or.inl ⟨by omega, rfl⟩)⟩

set_option maxHeartbeats 4000000 in
set_option maxRecDepth 20000 in
/-- OneRoof$Pegs.at -/
theorem sf_48_44x {L : Nat} {xs : Nat → Int} {vb : Bool} {d : Nat} {σ α : Nat → Nat → Int} {κ : Nat → Option Nat} {ρ : Nat} {x1 : Int} {x2 : Int} (hI : qI σ α κ ρ) (r1 : 0 ≤ x1 ∧ x1 ≤ 5) (r2 : 0 ≤ x2 ∧ x2 ≤ 59) : qm_T (qe L xs vb) (d + 1) 48 [.ref 44, .int (qz x1), .int (qz x2)] (qw σ α κ ρ) (fun r w' => w' = qw σ α κ ρ ∧ ∃ v : Int, r = some (.long (ql v)) ∧ ((-9223372036854775808) ≤ v ∧ v ≤ 9223372036854775807) ∧ v = α 48 (x1 * 60 + x2 : Int).toNat) := by
  refine qr_start (d := d + 0) qv_e48 (Nat.le_of_ble_eq_true rfl) ?_
  show qr_W (qe L xs vb) (d + 0) qx_e48 _ (0, [(0, .ref 44), (1, .int (qz x1)), (2, .int (qz x2))], [], _, 0, 0)
  refine qr_aload_n 1 rfl rfl rfl ?_
  refine qr_get 4 rfl rfl rfl (by decide) rfl ?_
  refine qr_iload_n 5 rfl rfl rfl ?_
  refine qr_bipush 7 rfl (by decide) rfl ?_
  refine qr_imul 8 rfl rfl ?_
  refine qr_iload_n 9 rfl rfl rfl ?_
  refine qr_iadd 10 rfl rfl ?_
  refine qr_laload 11 rfl (by decide) rfl (by omega) (by decide) rfl ?_
  refine qr_topL (fun v1 hv1 => ?_)
  have hs2 : (-9223372036854775808) ≤ v1 ∧ v1 ≤ 9223372036854775807 := by rw [hv1]; exact hI.2.1 48 _ (show _ < 360 by omega)
  refine qr_retL rfl rfl (by decide) (by decide) ?_
  exact ⟨rfl, v1, rfl, hs2, by omega⟩

set_option maxHeartbeats 4000000 in
set_option maxRecDepth 20000 in
/-- OneRoof.element -/
theorem sf_163_16x {L : Nat} {xs : Nat → Int} {vb : Bool} {d : Nat} {σ α : Nat → Nat → Int} {κ : Nat → Option Nat} {ρ : Nat} {x1 : Int} {x2 : Int} (hI : qI σ α κ ρ) (r1 : (-2147483648) ≤ x1 ∧ x1 ≤ 2147483647) (r2 : (-2147483648) ≤ x2 ∧ x2 ≤ 2147483647) : qm_T (qe L xs vb) (d + 3) 163 [.ref 16, .int (qz x1), .int (qz x2)] (qw σ α κ ρ) (fun r w' => w' = qw σ α κ ρ ∧ ∃ v : Int, r = some (.long (ql v)) ∧ ((-9223372036854775808) ≤ v ∧ v ≤ 9223372036854775807) ∧ ((v = -9223372036854775808 ∧ ¬ (0 ≤ x1 ∧ x1 ≤ 5 ∧ α 45 (x1 : Int).toNat ≤ 4 ∧ 0 ≤ x2 ∧ x2 < α 46 (x1 : Int).toNat)) ∨ ((0 ≤ x1 ∧ x1 ≤ 5 ∧ α 45 (x1 : Int).toNat ≤ 4 ∧ 0 ≤ x2 ∧ x2 < α 46 (x1 : Int).toNat) ∧ v = α 48 (x1 * 60 + x2 : Int).toNat))) := by
  refine qr_start (d := d + 2) qv_e163 (Nat.le_of_ble_eq_true rfl) ?_
  show qr_W (qe L xs vb) (d + 2) qx_e163 _ (0, [(0, .ref 16), (1, .int (qz x1)), (2, .int (qz x2))], [], _, 0, 0)
  have qx1_45 : 0 ≤ x1 ∧ x1 ≤ 5 → 0 ≤ α 45 (x1 : Int).toNat ∧ α 45 (x1 : Int).toNat ≤ 6 := fun h => hI.2.1 45 _ (show (x1 : Int).toNat < 6 by omega)
  have qx1_46 : 0 ≤ x1 ∧ x1 ≤ 5 → 0 ≤ α 46 (x1 : Int).toNat ∧ α 46 (x1 : Int).toNat ≤ 60 := fun h => hI.2.1 46 _ (show (x1 : Int).toNat < 6 by omega)
  refine qr_aload_n 1 rfl rfl rfl ?_
  refine qr_get 4 rfl rfl rfl (by decide) rfl ?_
  refine qr_iload_n 5 rfl rfl rfl ?_
  refine qr_callN 8 rfl rfl rfl (sf_44_44 (d := d + 1) hI r1) ?_
  rintro _ _ ⟨rfl, v1, rfl, hv1, hp2⟩
  show qr_W (qe L xs vb) (d + 2) qx_e163 _ (8, _, [.int (qz v1)], qw σ α κ ρ, 0, 0)
  refine qr_if_eq 23 11 rfl rfl rfl (qrg hv1 (by decide) (by decide)) (fun h3 => ?_) (fun h3 => ?_)
  · skip
    refine qr_ldc2 (-9223372036854775808) 26 rfl (by decide) rfl ?_
    refine qr_retL rfl rfl (by decide) (by decide) ?_
    exact ⟨rfl, (-9223372036854775808), rfl, (by decide), by omega⟩
  · skip
    refine qr_aload_n 12 rfl rfl rfl ?_
    refine qr_get 15 rfl rfl rfl (by decide) rfl ?_
    refine qr_iload_n 16 rfl rfl rfl ?_
    refine qr_iload_n 17 rfl rfl rfl ?_
    refine qr_callN 20 rfl rfl rfl (sf_160_44x (d := d + 0) hI (by omega) r2) ?_
    rintro _ _ ⟨rfl, v4, rfl, hv4, hp5⟩
    show qr_W (qe L xs vb) (d + 2) qx_e163 _ (20, _, [.int (qz v4)], qw σ α κ ρ, 0, 0)
    refine qr_if_eq 27 23 rfl rfl rfl (qrg hv4 (by decide) (by decide)) (fun h6 => ?_) (fun h6 => ?_)
    · skip
      refine qr_aload_n 28 rfl rfl rfl ?_
      refine qr_get 31 rfl rfl rfl (by decide) rfl ?_
      refine qr_iload_n 32 rfl rfl rfl ?_
      refine qr_iload_n 33 rfl rfl rfl ?_
      refine qr_callN 36 rfl rfl rfl (sf_48_44x (d := d + 1) hI (by omega) (by omega)) ?_
      rintro _ _ ⟨rfl, v7, rfl, hv7, hp8⟩
      show qr_W (qe L xs vb) (d + 2) qx_e163 _ (36, _, [.long (ql v7)], qw σ α κ ρ, 0, 0)
      refine qr_retL rfl rfl (by decide) (by decide) ?_
      exact ⟨rfl, v7, rfl, hv7, by omega⟩
    · skip
      refine qr_ldc2 (-9223372036854775808) 26 rfl (by decide) rfl ?_
      refine qr_retL rfl rfl (by decide) (by decide) ?_
      exact ⟨rfl, (-9223372036854775808), rfl, (by decide), by omega⟩

set_option maxHeartbeats 4000000 in
set_option maxRecDepth 20000 in
/-- OneRoof$Pegs.hasRun -/
theorem sf_165_44x {L : Nat} {xs : Nat → Int} {vb : Bool} {d : Nat} {σ α : Nat → Nat → Int} {κ : Nat → Option Nat} {ρ : Nat} {x1 : Int} {x2 : Int} {x3 : Int} (hI : qI σ α κ ρ) (r1 : 0 ≤ x1 ∧ x1 ≤ 5) (r2 : (-2147483648) ≤ x2 ∧ x2 ≤ 2147483647) (r3 : (-2147483648) ≤ x3 ∧ x3 ≤ 2147483647) : qm_T (qe L xs vb) (d + 1) 165 [.ref 44, .int (qz x1), .int (qz x2), .int (qz x3)] (qw σ α κ ρ) (fun r w' => w' = qw σ α κ ρ ∧ ∃ v : Int, r = some (.int (qz v)) ∧ (0 ≤ v ∧ v ≤ 1) ∧ ((v = 1 ∧ (0 ≤ x2 ∧ 0 ≤ x3 ∧ x3 ≤ α 46 (x1 : Int).toNat ∧ x2 ≤ α 46 (x1 : Int).toNat - x3)) ∨ (v = 0 ∧ ¬ ((0 ≤ x2 ∧ 0 ≤ x3 ∧ x3 ≤ α 46 (x1 : Int).toNat ∧ x2 ≤ α 46 (x1 : Int).toNat - x3))))) := by
  refine qr_start (d := d + 0) qv_e165 (Nat.le_of_ble_eq_true rfl) ?_
  show qr_W (qe L xs vb) (d + 0) qx_e165 _ (0, [(0, .ref 44), (1, .int (qz x1)), (2, .int (qz x2)), (3, .int (qz x3))], [], _, 0, 0)
  have qx1_45 : 0 ≤ x1 ∧ x1 ≤ 5 → 0 ≤ α 45 (x1 : Int).toNat ∧ α 45 (x1 : Int).toNat ≤ 6 := fun h => hI.2.1 45 _ (show (x1 : Int).toNat < 6 by omega)
  have qx1_46 : 0 ≤ x1 ∧ x1 ≤ 5 → 0 ≤ α 46 (x1 : Int).toNat ∧ α 46 (x1 : Int).toNat ≤ 60 := fun h => hI.2.1 46 _ (show (x1 : Int).toNat < 6 by omega)
  refine qr_iload_n 1 rfl rfl rfl ?_
  refine qr_if_lt 34 4 rfl rfl rfl r2 (fun h1 => ?_) (fun h1 => ?_)
  · skip
    refine qr_iconst 35 rfl rfl ?_
    refine qr_retZ rfl rfl (Or.inl rfl) (by decide) (by decide) ?_
    exact ⟨rfl, 0, rfl, (by decide), by omega⟩
  · skip
    refine qr_iload_n 5 rfl rfl rfl ?_
    refine qr_if_lt 34 8 rfl rfl rfl r3 (fun h2 => ?_) (fun h2 => ?_)
    · skip
      refine qr_iconst 35 rfl rfl ?_
      refine qr_retZ rfl rfl (Or.inl rfl) (by decide) (by decide) ?_
      exact ⟨rfl, 0, rfl, (by decide), by omega⟩
    · skip
      refine qr_iload_n 9 rfl rfl rfl ?_
      refine qr_aload_n 10 rfl rfl rfl ?_
      refine qr_get 13 rfl rfl rfl (by decide) rfl ?_
      refine qr_iload_n 14 rfl rfl rfl ?_
      refine qr_iaload 15 rfl rfl (qrgi r1 (by decide) (by decide)) (by decide) rfl ?_
      refine qr_topI (fun v3 hv3 => ?_)
      have hs4 : 0 ≤ v3 ∧ v3 ≤ 60 := by rw [hv3]; exact hI.2.1 46 _ (show _ < 6 from qrgt r1 (by decide) (by decide))
      refine qr_icmp_gt 34 18 rfl rfl rfl r3 (qrg hs4 (by decide) (by decide)) (fun h5 => ?_) (fun h5 => ?_)
      · skip
        refine qr_iconst 35 rfl rfl ?_
        refine qr_retZ rfl rfl (Or.inl rfl) (by decide) (by decide) ?_
        exact ⟨rfl, 0, rfl, (by decide), by omega⟩
      · skip
        refine qr_iload_n 19 rfl rfl rfl ?_
        refine qr_aload_n 20 rfl rfl rfl ?_
        refine qr_get 23 rfl rfl rfl (by decide) rfl ?_
        refine qr_iload_n 24 rfl rfl rfl ?_
        refine qr_iaload 25 rfl rfl (qrgi r1 (by decide) (by decide)) (by decide) rfl ?_
        refine qr_topI (fun v6 hv6 => ?_)
        have hs7 : 0 ≤ v6 ∧ v6 ≤ 60 := by rw [hv6]; exact hI.2.1 46 _ (show _ < 6 from qrgt r1 (by decide) (by decide))
        refine qr_iload_n 26 rfl rfl rfl ?_
        refine qr_isub 27 rfl rfl ?_
        refine qr_icmp_gt 34 30 rfl rfl rfl r2 (by omega) (fun h8 => ?_) (fun h8 => ?_)
        · skip
          refine qr_iconst 35 rfl rfl ?_
          refine qr_retZ rfl rfl (Or.inl rfl) (by decide) (by decide) ?_
          exact ⟨rfl, 0, rfl, (by decide), by omega⟩
        · skip
          refine qr_iconst 31 rfl rfl ?_
          refine qr_goto 35 rfl rfl ?_
          refine qr_retZ rfl rfl (Or.inr rfl) (by decide) (by decide) ?_
          exact ⟨rfl, 1, rfl, (by decide), by omega⟩

set_option maxHeartbeats 4000000 in
set_option maxRecDepth 20000 in
/-- OneRoof$Pegs.copyRun -/
theorem sf_166_44x {L : Nat} {xs : Nat → Int} {vb : Bool} {d : Nat} {σ α : Nat → Nat → Int} {κ : Nat → Option Nat} {ρ : Nat} {x1 : Int} {x2 : Int} {x3 : Int} {x4 : Int} {x5 : Int} (hI : qI σ α κ ρ) (r1 : 0 ≤ x1 ∧ x1 ≤ 5) (r2 : 0 ≤ x2 ∧ x2 ≤ 60) (r3 : 0 ≤ x3 ∧ x3 ≤ 5) (r4 : 0 ≤ x4 ∧ x4 ≤ 60) (r5 : 0 ≤ x5 ∧ x5 ≤ 60) (p0 : x2 + x5 ≤ 60) (p1 : x4 + x5 ≤ 60) : qm_T (qe L xs vb) (d + 1) 166 [.ref 44, .int (qz x1), .int (qz x2), .int (qz x3), .int (qz x4), .int (qz x5)] (qw σ α κ ρ) (fun r w' => ∃ α', w' = qw σ α' κ ρ ∧ qI σ α' κ ρ ∧ qFr [] [48] σ α σ α' ∧ r = none ∧ α' 48 = va_cpy (α 48) (α 48) (x1 * 60 + x2 : Int).toNat (x3 * 60 + x4 : Int).toNat (x5 : Int).toNat) := by
  refine qr_start (d := d + 0) qv_e166 (Nat.le_of_ble_eq_true rfl) ?_
  show qr_W (qe L xs vb) (d + 0) qx_e166 _ (0, [(0, .ref 44), (1, .int (qz x1)), (2, .int (qz x2)), (3, .int (qz x3)), (4, .int (qz x4)), (5, .int (qz x5))], [], _, 0, 0)
  have hF0 := qFr_rf [] [48] σ α
  refine qr_aload_n 1 rfl rfl rfl ?_
  refine qr_get 4 rfl rfl rfl (by decide) rfl ?_
  refine qr_iload_n 5 rfl rfl rfl ?_
  refine qr_bipush 7 rfl (by decide) rfl ?_
  refine qr_imul 8 rfl rfl ?_
  refine qr_iload_n 9 rfl rfl rfl ?_
  refine qr_iadd 10 rfl rfl ?_
  refine qr_aload_n 11 rfl rfl rfl ?_
  refine qr_get 14 rfl rfl rfl (by decide) rfl ?_
  refine qr_iload_n 15 rfl rfl rfl ?_
  refine qr_bipush 17 rfl (by decide) rfl ?_
  refine qr_imul 18 rfl rfl ?_
  refine qr_iload 20 rfl rfl rfl ?_
  refine qr_iadd 21 rfl rfl ?_
  refine qr_iload 23 rfl rfl rfl ?_
  refine qy_copyl 26 rfl (by decide) (by decide) rfl rfl (by omega) (by omega) (by omega) (by omega) (by omega) (by decide) (by decide) rfl ?_
  refine qy_wA (qw_r α 48 (va_cpy (α 48) (α 48) (((x1 * 60) + x2) : Int).toNat (((x3 * 60) + x4) : Int).toNat (x5 : Int).toNat)) rfl (fun α1 e2 => ?_)
  have hI3 : qI σ α1 κ ρ := by rw [e2]; exact qI_cpy hI 48 48 rfl rfl (show _ ≤ 360 by omega)
  have hF4 : qFr [] [48] σ α σ α1 := by rw [e2]; exact qFr_r hF0 48 _ (by decide)
  refine qr_retV rfl rfl (by decide) (by decide) ?_
  exact ⟨_, rfl, hI3, hF4, rfl, ((congrFun e2 48).trans qw_r_eq)⟩

set_option maxHeartbeats 4000000 in
set_option maxRecDepth 20000 in
/-- OneRoof.shift -/
theorem sf_164_16x {L : Nat} {xs : Nat → Int} {vb : Bool} {d : Nat} {σ α : Nat → Nat → Int} {κ : Nat → Option Nat} {ρ : Nat} {x1 : Int} {x2 : Int} {x3 : Int} {x4 : Int} {x5 : Int} (hI : qI σ α κ ρ) (r1 : (-2147483648) ≤ x1 ∧ x1 ≤ 2147483647) (r2 : (-2147483648) ≤ x2 ∧ x2 ≤ 2147483647) (r3 : (-2147483648) ≤ x3 ∧ x3 ≤ 2147483647) (r4 : (-2147483648) ≤ x4 ∧ x4 ≤ 2147483647) (r5 : (-2147483648) ≤ x5 ∧ x5 ≤ 2147483647) : qm_T (qe L xs vb) (d + 3) 164 [.ref 16, .int (qz x1), .int (qz x2), .int (qz x3), .int (qz x4), .int (qz x5)] (qw σ α κ ρ) (fun r w' => ∃ α', w' = qw σ α' κ ρ ∧ qI σ α' κ ρ ∧ qFr [] [48] σ α σ α' ∧ ∃ v : Int, r = some (.int (qz v)) ∧ ((-2147483648) ≤ v ∧ v ≤ 2147483647) ∧ (((v = -1 ∧ ¬ (0 ≤ x1 ∧ x1 ≤ 5 ∧ 0 ≤ x3 ∧ x3 ≤ 5)) ∧ α' 48 = α 48) ∨ ((v = -11 ∧ (0 ≤ x1 ∧ x1 ≤ 5 ∧ 0 ≤ x3 ∧ x3 ≤ 5) ∧ (α 45 (x1 : Int).toNat = 6 ∨ α 45 (x3 : Int).toNat = 6)) ∧ α' 48 = α 48) ∨ ((v = -12 ∧ (0 ≤ x1 ∧ x1 ≤ 5 ∧ 0 ≤ x3 ∧ x3 ≤ 5) ∧ ¬ (α 45 (x1 : Int).toNat = 6 ∨ α 45 (x3 : Int).toNat = 6) ∧ ¬ (α 45 (x1 : Int).toNat < 5 ∧ α 45 (x3 : Int).toNat = α 45 (x1 : Int).toNat)) ∧ α' 48 = α 48) ∨ ((v = -13 ∧ (0 ≤ x1 ∧ x1 ≤ 5 ∧ 0 ≤ x3 ∧ x3 ≤ 5) ∧ ¬ (α 45 (x1 : Int).toNat = 6 ∨ α 45 (x3 : Int).toNat = 6) ∧ (α 45 (x1 : Int).toNat < 5 ∧ α 45 (x3 : Int).toNat = α 45 (x1 : Int).toNat) ∧ ¬ (0 ≤ x2 ∧ 0 ≤ x5 ∧ x5 ≤ α 46 (x1 : Int).toNat ∧ x2 ≤ α 46 (x1 : Int).toNat - x5 ∧ 0 ≤ x4 ∧ x5 ≤ α 46 (x3 : Int).toNat ∧ x4 ≤ α 46 (x3 : Int).toNat - x5)) ∧ α' 48 = α 48) ∨ ((v = x5 ∧ (0 ≤ x1 ∧ x1 ≤ 5 ∧ 0 ≤ x3 ∧ x3 ≤ 5) ∧ ¬ (α 45 (x1 : Int).toNat = 6 ∨ α 45 (x3 : Int).toNat = 6) ∧ (α 45 (x1 : Int).toNat < 5 ∧ α 45 (x3 : Int).toNat = α 45 (x1 : Int).toNat) ∧ (0 ≤ x2 ∧ 0 ≤ x5 ∧ x5 ≤ α 46 (x1 : Int).toNat ∧ x2 ≤ α 46 (x1 : Int).toNat - x5 ∧ 0 ≤ x4 ∧ x5 ≤ α 46 (x3 : Int).toNat ∧ x4 ≤ α 46 (x3 : Int).toNat - x5)) ∧ α' 48 = va_cpy (α 48) (α 48) (x1 * 60 + x2 : Int).toNat (x3 * 60 + x4 : Int).toNat (x5 : Int).toNat))) := by
  refine qr_start (d := d + 2) qv_e164 (Nat.le_of_ble_eq_true rfl) ?_
  show qr_W (qe L xs vb) (d + 2) qx_e164 _ (0, [(0, .ref 16), (1, .int (qz x1)), (2, .int (qz x2)), (3, .int (qz x3)), (4, .int (qz x4)), (5, .int (qz x5))], [], _, 0, 0)
  have hF0 := qFr_rf [] [48] σ α
  have qx1_45 : 0 ≤ x1 ∧ x1 ≤ 5 → 0 ≤ α 45 (x1 : Int).toNat ∧ α 45 (x1 : Int).toNat ≤ 6 := fun h => hI.2.1 45 _ (show (x1 : Int).toNat < 6 by omega)
  have qx1_46 : 0 ≤ x1 ∧ x1 ≤ 5 → 0 ≤ α 46 (x1 : Int).toNat ∧ α 46 (x1 : Int).toNat ≤ 60 := fun h => hI.2.1 46 _ (show (x1 : Int).toNat < 6 by omega)
  have qx3_45 : 0 ≤ x3 ∧ x3 ≤ 5 → 0 ≤ α 45 (x3 : Int).toNat ∧ α 45 (x3 : Int).toNat ≤ 6 := fun h => hI.2.1 45 _ (show (x3 : Int).toNat < 6 by omega)
  have qx3_46 : 0 ≤ x3 ∧ x3 ≤ 5 → 0 ≤ α 46 (x3 : Int).toNat ∧ α 46 (x3 : Int).toNat ≤ 60 := fun h => hI.2.1 46 _ (show (x3 : Int).toNat < 6 by omega)
  refine qr_aload_n 1 rfl rfl rfl ?_
  refine qr_get 4 rfl rfl rfl (by decide) rfl ?_
  refine qr_iload_n 5 rfl rfl rfl ?_
  refine qr_callN 8 rfl rfl rfl (sf_44_44 (d := d + 1) hI r1) ?_
  rintro _ _ ⟨rfl, v1, rfl, hv1, hp2⟩
  show qr_W (qe L xs vb) (d + 2) qx_e164 _ (8, _, [.int (qz v1)], qw σ α κ ρ, 0, 0)
  refine qr_if_eq 22 11 rfl rfl rfl (qrg hv1 (by decide) (by decide)) (fun h3 => ?_) (fun h3 => ?_)
  · skip
    refine qr_iconst 23 rfl rfl ?_
    refine qr_retI rfl rfl (by decide) (by decide) ?_
    exact ⟨_, rfl, hI, hF0, (-1), rfl, (by decide), (Or.inl ⟨by omega, rfl⟩)⟩
  · skip
    refine qr_aload_n 12 rfl rfl rfl ?_
    refine qr_get 15 rfl rfl rfl (by decide) rfl ?_
    refine qr_iload_n 16 rfl rfl rfl ?_
    refine qr_callN 19 rfl rfl rfl (sf_44_44 (d := d + 1) hI r3) ?_
    rintro _ _ ⟨rfl, v4, rfl, hv4, hp5⟩
    show qr_W (qe L xs vb) (d + 2) qx_e164 _ (19, _, [.int (qz v4)], qw σ α κ ρ, 0, 0)
    refine qr_if_ne 24 22 rfl rfl rfl (qrg hv4 (by decide) (by decide)) (fun h6 => ?_) (fun h6 => ?_)
    · skip
      refine qr_aload_n 25 rfl rfl rfl ?_
      refine qr_get 28 rfl rfl rfl (by decide) rfl ?_
      refine qr_iload_n 29 rfl rfl rfl ?_
      refine qr_callN 32 rfl rfl rfl (sf_45_44x (d := d + 1) hI (by omega)) ?_
      rintro _ _ ⟨rfl, v7, rfl, hv7, hp8⟩
      show qr_W (qe L xs vb) (d + 2) qx_e164 _ (32, _, [.int (qz v7)], qw σ α κ ρ, 0, 0)
      refine qr_if_ne 46 35 rfl rfl rfl (qrg hv7 (by decide) (by decide)) (fun h9 => ?_) (fun h9 => ?_)
      · skip
        refine qr_bipush 48 rfl (by decide) rfl ?_
        refine qr_retI rfl rfl (by decide) (by decide) ?_
        exact ⟨_, rfl, hI, hF0, (-11), rfl, (by decide), (Or.inr (Or.inl ⟨by omega, rfl⟩))⟩
      · skip
        refine qr_aload_n 36 rfl rfl rfl ?_
        refine qr_get 39 rfl rfl rfl (by decide) rfl ?_
        refine qr_iload_n 40 rfl rfl rfl ?_
        refine qr_callN 43 rfl rfl rfl (sf_45_44x (d := d + 1) hI (by omega)) ?_
        rintro _ _ ⟨rfl, v10, rfl, hv10, hp11⟩
        show qr_W (qe L xs vb) (d + 2) qx_e164 _ (43, _, [.int (qz v10)], qw σ α κ ρ, 0, 0)
        refine qr_if_eq 49 46 rfl rfl rfl (qrg hv10 (by decide) (by decide)) (fun h12 => ?_) (fun h12 => ?_)
        · skip
          refine qr_aload_n 50 rfl rfl rfl ?_
          refine qr_get 53 rfl rfl rfl (by decide) rfl ?_
          refine qr_iload_n 54 rfl rfl rfl ?_
          refine qr_callN 57 rfl rfl rfl (sf_47_44x (d := d + 1) hI (by omega)) ?_
          rintro _ _ ⟨rfl, v13, rfl, hv13, hp14⟩
          show qr_W (qe L xs vb) (d + 2) qx_e164 _ (57, _, [.int (qz v13)], qw σ α κ ρ, 0, 0)
          refine qr_if_eq 80 60 rfl rfl rfl (qrg hv13 (by decide) (by decide)) (fun h15 => ?_) (fun h15 => ?_)
          · skip
            refine qr_bipush 82 rfl (by decide) rfl ?_
            refine qr_retI rfl rfl (by decide) (by decide) ?_
            exact ⟨_, rfl, hI, hF0, (-12), rfl, (by decide), (Or.inr (Or.inr (Or.inl ⟨by omega, rfl⟩)))⟩
          · skip
            refine qr_aload_n 61 rfl rfl rfl ?_
            refine qr_get 64 rfl rfl rfl (by decide) rfl ?_
            refine qr_iload_n 65 rfl rfl rfl ?_
            refine qr_aload_n 66 rfl rfl rfl ?_
            refine qr_get 69 rfl rfl rfl (by decide) rfl ?_
            refine qr_get 72 rfl rfl rfl (by decide) rfl ?_
            refine qr_iload_n 73 rfl rfl rfl ?_
            refine qr_iaload 74 rfl rfl (by omega) (by decide) rfl ?_
            refine qr_topI (fun v16 hv16 => ?_)
            have hs17 : 0 ≤ v16 ∧ v16 ≤ 6 := by rw [hv16]; exact hI.2.1 45 _ (show _ < 6 by omega)
            refine qr_callN 77 rfl rfl rfl (sf_46_44x (d := d + 0) hI (by omega) (qrg hs17 (by decide) (by decide))) ?_
            rintro _ _ ⟨rfl, v18, rfl, hv18, hp19⟩
            show qr_W (qe L xs vb) (d + 2) qx_e164 _ (77, _, [.int (qz v18)], qw σ α κ ρ, 0, 0)
            refine qr_if_ne 83 80 rfl rfl rfl (qrg hv18 (by decide) (by decide)) (fun h20 => ?_) (fun h20 => ?_)
            · skip
              refine qr_aload_n 84 rfl rfl rfl ?_
              refine qr_get 87 rfl rfl rfl (by decide) rfl ?_
              refine qr_iload_n 88 rfl rfl rfl ?_
              refine qr_iload_n 89 rfl rfl rfl ?_
              refine qr_iload 91 rfl rfl rfl ?_
              refine qr_callN 94 rfl rfl rfl (sf_165_44x (d := d + 1) hI (by omega) r2 r5) ?_
              rintro _ _ ⟨rfl, v21, rfl, hv21, hp22⟩
              show qr_W (qe L xs vb) (d + 2) qx_e164 _ (94, _, [.int (qz v21)], qw σ α κ ρ, 0, 0)
              refine qr_if_eq 112 97 rfl rfl rfl (qrg hv21 (by decide) (by decide)) (fun h23 => ?_) (fun h23 => ?_)
              · skip
                refine qr_bipush 114 rfl (by decide) rfl ?_
                refine qr_retI rfl rfl (by decide) (by decide) ?_
                exact ⟨_, rfl, hI, hF0, (-13), rfl, (by decide), (Or.inr (Or.inr (Or.inr (Or.inl ⟨by omega, rfl⟩))))⟩
              · skip
                refine qr_aload_n 98 rfl rfl rfl ?_
                refine qr_get 101 rfl rfl rfl (by decide) rfl ?_
                refine qr_iload_n 102 rfl rfl rfl ?_
                refine qr_iload 104 rfl rfl rfl ?_
                refine qr_iload 106 rfl rfl rfl ?_
                refine qr_callN 109 rfl rfl rfl (sf_165_44x (d := d + 1) hI (by omega) r4 r5) ?_
                rintro _ _ ⟨rfl, v24, rfl, hv24, hp25⟩
                show qr_W (qe L xs vb) (d + 2) qx_e164 _ (109, _, [.int (qz v24)], qw σ α κ ρ, 0, 0)
                refine qr_if_ne 115 112 rfl rfl rfl (qrg hv24 (by decide) (by decide)) (fun h26 => ?_) (fun h26 => ?_)
                · skip
                  refine qr_aload_n 116 rfl rfl rfl ?_
                  as_aux_lemma =>
                    refine qr_get 119 rfl rfl rfl (by decide) rfl ?_
                    refine qr_iload_n 120 rfl rfl rfl ?_
                    refine qr_iload_n 121 rfl rfl rfl ?_
                    refine qr_iload_n 122 rfl rfl rfl ?_
                    refine qr_iload 124 rfl rfl rfl ?_
                    refine qr_iload 126 rfl rfl rfl ?_
                    refine qr_callN 129 rfl rfl rfl (sf_166_44x (d := d + 1) hI (by omega) (by omega) (by omega) (by omega) (by omega) (by omega) (by omega)) ?_
                    rintro _ _ ⟨α28, rfl, hI29, hG30, rfl, hx27⟩
                    have hF31 : qFr [] [48] σ α σ α28 := qFr_t hF0 hG30 (by decide) (by decide)
                    show qr_W (qe L xs vb) (d + 2) qx_e164 _ (129, _, [], qw σ α28 κ ρ, 0, 0)
                    refine qr_iload 131 rfl rfl rfl ?_
                    refine qr_retI rfl rfl (by decide) (by decide) ?_
                    exact ⟨_, rfl, hI29, hF31, x5, rfl, r5, (Or.inr (Or.inr (Or.inr (Or.inr (⟨by omega, (hx27.trans (congrArg (fun f => va_cpy (f) (f) (x1 * 60 + x2 : Int).toNat (x3 * 60 + x4 : Int).toNat (x5 : Int).toNat) rfl))⟩)))))⟩
                · skip
                  refine qr_bipush 114 rfl (by decide) rfl ?_
                  as_aux_lemma =>
                    refine qr_retI rfl rfl (by decide) (by decide) ?_
                    exact ⟨_, rfl, hI, hF0, (-13), rfl, (by decide), (Or.inr (Or.inr (Or.inr (Or.inl ⟨by omega, rfl⟩))))⟩
            · skip
              refine qr_bipush 82 rfl (by decide) rfl ?_
              refine qr_retI rfl rfl (by decide) (by decide) ?_
              exact ⟨_, rfl, hI, hF0, (-12), rfl, (by decide), (Or.inr (Or.inr (Or.inl ⟨by omega, rfl⟩)))⟩
        · skip
          refine qr_bipush 48 rfl (by decide) rfl ?_
          refine qr_retI rfl rfl (by decide) (by decide) ?_
          exact ⟨_, rfl, hI, hF0, (-11), rfl, (by decide), (Or.inr (Or.inl ⟨by omega, rfl⟩))⟩
    · skip
      refine qr_iconst 23 rfl rfl ?_
      refine qr_retI rfl rfl (by decide) (by decide) ?_
      exact ⟨_, rfl, hI, hF0, (-1), rfl, (by decide), (Or.inl ⟨by omega, rfl⟩)⟩

set_option maxHeartbeats 4000000 in
set_option maxRecDepth 20000 in
/-- OneRoofModel.person -/
theorem sf_174_86x {L : Nat} {xs : Nat → Int} {vb : Bool} {d : Nat} {σ α : Nat → Nat → Int} {κ : Nat → Option Nat} {ρ : Nat} {x1 : Int} {x2 : Int} {x3 : Int} (hI : qI σ α κ ρ) (r1 : (-2147483648) ≤ x1 ∧ x1 ≤ 2147483647) (r2 : (-2147483648) ≤ x2 ∧ x2 ≤ 2147483647) (r3 : (-2147483648) ≤ x3 ∧ x3 ≤ 2147483647) : qm_T (qe L xs vb) (d + 3) 174 [.ref 86, .int (qz x1), .int (qz x2), .int (qz x3)] (qw σ α κ ρ) (fun r w' => ∃ σ' α', w' = qw σ' α' κ ρ ∧ qI σ' α' κ ρ ∧ qFr [(86, 6), (86, 15)] [87, 91, 92] σ α σ' α' ∧ ∃ v : Int, r = some (.int (qz v)) ∧ ((-3) ≤ v ∧ v ≤ 31) ∧ (((v = -1 ∧ ¬ ((x1 = -1 ∨ (0 ≤ x1 ∧ x1 < σ 86 6)) ∧ 1 ≤ x2 ∧ x2 ≤ 99 ∧ (x3 = 0 ∨ x3 = 1)) ∧ σ' 86 6 = σ 86 6) ∧ α' 91 = α 91 ∧ α' 92 = α 92) ∨ ((v = -3 ∧ ((x1 = -1 ∨ (0 ≤ x1 ∧ x1 < σ 86 6)) ∧ 1 ≤ x2 ∧ x2 ≤ 99 ∧ (x3 = 0 ∨ x3 = 1)) ∧ 32 ≤ σ 86 6 ∧ σ' 86 6 = σ 86 6) ∧ α' 91 = α 91 ∧ α' 92 = α 92) ∨ ((v = σ 86 6 ∧ ((x1 = -1 ∨ (0 ≤ x1 ∧ x1 < σ 86 6)) ∧ 1 ≤ x2 ∧ x2 ≤ 99 ∧ (x3 = 0 ∨ x3 = 1)) ∧ σ 86 6 < 32 ∧ σ' 86 6 = σ 86 6 + 1) ∧ α' 91 = qzu (α 91) (v : Int).toNat (x1) ∧ α' 92 = qzu (α 92) (v : Int).toNat (x2)))) := by
  refine qr_start (d := d + 2) qv_e174 (Nat.le_of_ble_eq_true rfl) ?_
  show qr_W (qe L xs vb) (d + 2) qx_e174 _ (0, [(0, .ref 86), (1, .int (qz x1)), (2, .int (qz x2)), (3, .int (qz x3))], [], _, 0, 0)
  have hF0 := qFr_rf [(86, 6), (86, 15)] [87, 91, 92] σ α
  have hz86_6 : 0 ≤ σ 86 6 ∧ σ 86 6 ≤ 32 := hI.1 86 6
  refine qr_aload_n 1 rfl rfl rfl ?_
  refine qr_iload_n 2 rfl rfl rfl ?_
  refine qr_iload_n 3 rfl rfl rfl ?_
  refine qr_iload_n 4 rfl rfl rfl ?_
  refine qr_callN 7 rfl rfl rfl (sf_175_86 (d := d + 0) hI r1 r2 r3) ?_
  have hs3 : 0 ≤ σ 86 6 ∧ σ 86 6 ≤ 32 := hI.1 86 6
  rintro _ _ ⟨rfl, v1, rfl, hv1, hp2⟩
  show qr_W (qe L xs vb) (d + 2) qx_e174 _ (7, _, [.int (qz v1)], qw σ α κ ρ, 0, 0)
  refine qr_if_ne 12 10 rfl rfl rfl (qrg hv1 (by decide) (by decide)) (fun h4 => ?_) (fun h4 => ?_)
  · skip
    refine qr_aload_n 13 rfl rfl rfl ?_
    refine qr_get 16 rfl rfl rfl (by decide) rfl ?_
    refine qr_bipush 18 rfl (by decide) rfl ?_
    refine qr_icmp_ne 24 21 rfl rfl rfl (qrg hz86_6 (by decide) (by decide)) (by decide) (fun h5 => ?_) (fun h5 => ?_)
    · skip
      refine qr_aload_n 25 rfl rfl rfl ?_
      refine qr_get 28 rfl rfl rfl (by decide) rfl ?_
      refine qr_aload_n 29 rfl rfl rfl ?_
      refine qr_get 32 rfl rfl rfl (by decide) rfl ?_
      refine qr_iload_n 33 rfl rfl rfl ?_
      refine qr_iastore 34 rfl (by decide) rfl (by omega) (by decide) rfl ?_
      refine qy_wA (qw_r α 91 (qzu (α 91) ((σ 86 6) : Int).toNat x1)) rfl (fun α6 e7 => ?_)
      have hI8 : qI σ α6 κ ρ := by rw [e7]; exact qI_r91 hI _ (show (-1) ≤ x1 ∧ x1 ≤ 31 by omega) (by omega)
      have hF9 : qFr [(86, 6), (86, 15)] [87, 91, 92] σ α σ α6 := by rw [e7]; exact qFr_r hF0 91 _ (by decide)
      refine qr_aload_n 35 rfl rfl rfl ?_
      refine qr_get 38 rfl rfl rfl (by decide) rfl ?_
      refine qr_aload_n 39 rfl rfl rfl ?_
      refine qr_get 42 rfl rfl rfl (by decide) rfl ?_
      refine qr_iload_n 43 rfl rfl rfl ?_
      refine qr_iastore 44 rfl (by decide) rfl (by omega) (by decide) rfl ?_
      refine qy_wA (qw_r α6 92 (qzu (α6 92) ((σ 86 6) : Int).toNat x2)) rfl (fun α10 e11 => ?_)
      have hI12 : qI σ α10 κ ρ := by rw [e11]; exact qI_r hI8 92 _ rfl (show (-2147483648) ≤ x2 ∧ x2 ≤ 2147483647 by omega)
      have hF13 : qFr [(86, 6), (86, 15)] [87, 91, 92] σ α σ α10 := by rw [e11]; exact qFr_r hF9 92 _ (by decide)
      refine qr_aload_n 45 rfl rfl rfl ?_
      refine qr_get 48 rfl rfl rfl (by decide) rfl ?_
      refine qr_iconst 49 rfl rfl ?_
      refine qr_aload_n 50 rfl rfl rfl ?_
      refine qr_get 53 rfl rfl rfl (by decide) rfl ?_
      refine qr_iadd 54 rfl rfl ?_
      refine qr_iload_n 55 rfl rfl rfl ?_
      refine qr_iastore 56 rfl (by decide) rfl (by omega) (by decide) rfl ?_
      refine qy_wA (qw_r α10 87 (qzu (α10 87) ((0 + (σ 86 6)) : Int).toNat x3)) rfl (fun α14 e15 => ?_)
      have hI16 : qI σ α14 κ ρ := by rw [e15]; exact qI_r hI12 87 _ rfl (show (-2147483648) ≤ x3 ∧ x3 ≤ 2147483647 by omega)
      have hF17 : qFr [(86, 6), (86, 15)] [87, 91, 92] σ α σ α14 := by rw [e15]; exact qFr_r hF13 87 _ (by decide)
      refine qr_aload_n 57 rfl rfl rfl ?_
      refine qr_iconst 58 rfl rfl ?_
      refine qr_put 61 rfl (by decide) rfl (Nat.le_of_ble_eq_true rfl) (Nat.le_of_ble_eq_true rfl) (Or.inl rfl) (qr_fitZ rfl (Or.inl rfl)) rfl ?_
      refine qy_wS (qw_s σ 86 15 0) rfl (fun σ18 e19 => ?_)
      have hI20 : qI σ18 α14 κ ρ := by rw [e19]; exact qI_s15z hI16
      have hF21 : qFr [(86, 6), (86, 15)] [87, 91, 92] σ α σ18 α14 := by rw [e19]; exact qFr_s hF17 86 15 _ (by decide)
      refine qr_aload_n 62 rfl rfl rfl ?_
      refine qr_dup 63 rfl rfl rfl ?_
      refine qr_get 66 rfl rfl rfl (by decide) rfl ?_
      refine qy_v (σ 86 6) ((congrFun (congrFun e19 86) 6).trans rfl) ?_
      refine qr_iconst 67 rfl rfl ?_
      refine qr_iadd 68 rfl rfl ?_
      refine qr_put 71 rfl (by decide) rfl (Nat.le_of_ble_eq_true rfl) (Nat.le_of_ble_eq_true rfl) (Or.inl rfl) (qr_fitI rfl _) rfl ?_
      refine qy_wS (qw_s σ18 86 6 ((σ 86 6) + 1)) rfl (fun σ22 e23 => ?_)
      have hI24 : qI σ22 α14 κ ρ := by rw [e23]; exact qI_s6 hI20 (by omega) (by rw [e15, qw_r_ne (by decide), e11, qw_r_ne (by decide), e7, qw_r_eq]; unfold qzu; have h0 := hI.2.2.2.2.2.2.1 0 (by decide); split; (omega); (omega)) (by have hw : σ18 86 15 = 0 := (congrFun (congrFun e19 86) 15).trans rfl; omega) (by have hw : σ18 86 6 = (σ 86 6) := (congrFun (congrFun e19 86) 6).trans rfl; omega)
      have hF25 : qFr [(86, 6), (86, 15)] [87, 91, 92] σ α σ22 α14 := by rw [e23]; exact qFr_s hF21 86 6 _ (by decide)
      refine qr_aload_n 72 rfl rfl rfl ?_
      refine qr_get 75 rfl rfl rfl (by decide) rfl ?_
      refine qy_v ((σ 86 6) + 1) ((congrFun (congrFun e23 86) 6).trans rfl) ?_
      refine qr_iconst 76 rfl rfl ?_
      refine qr_isub 77 rfl rfl ?_
      refine qr_retI rfl rfl (by decide) (by decide) ?_
      have hw26 : σ22 86 6 = ((σ 86 6) + 1) := (congrFun (congrFun e23 86) 6).trans rfl
      exact ⟨_, _, rfl, hI24, hF25, (((σ 86 6) + 1) - 1), rfl, (by omega), (Or.inr (Or.inr (⟨by omega, (((congrFun e15 91).trans ((qw_r_ne (by decide)).trans ((congrFun e11 91).trans ((qw_r_ne (by decide)).trans ((congrFun e7 91).trans (qw_r_eq.trans (congrArg (fun f => qzu f ((σ 86 6) : Int).toNat x1) rfl))))))).trans (by congr 1; omega)), (((congrFun e15 92).trans ((qw_r_ne (by decide)).trans ((congrFun e11 92).trans (qw_r_eq.trans (congrArg (fun f => qzu f ((σ 86 6) : Int).toNat x2) ((congrFun e7 92).trans ((qw_r_ne (by decide)).trans rfl))))))).trans (by congr 1; omega))⟩)))⟩
    · skip
      refine qr_bipush 23 rfl (by decide) rfl ?_
      refine qr_retI rfl rfl (by decide) (by decide) ?_
      have hw27 : σ 86 6 = (σ 86 6) := rfl
      exact ⟨_, _, rfl, hI, hF0, (-3), rfl, (by decide), (Or.inr (Or.inl ⟨by omega, rfl, rfl⟩))⟩
  · skip
    refine qr_iconst 11 rfl rfl ?_
    refine qr_retI rfl rfl (by decide) (by decide) ?_
    have hw28 : σ 86 6 = (σ 86 6) := rfl
    exact ⟨_, _, rfl, hI, hF0, (-1), rfl, (by decide), (Or.inl ⟨by omega, rfl, rfl⟩)⟩

set_option maxHeartbeats 4000000 in
set_option maxRecDepth 20000 in
/-- OneRoofModel.feud -/
theorem sf_190_86x {L : Nat} {xs : Nat → Int} {vb : Bool} {d : Nat} {σ α : Nat → Nat → Int} {κ : Nat → Option Nat} {ρ : Nat} {x1 : Int} {x2 : Int} {x3 : Int} (hI : qI σ α κ ρ) (r1 : (-2147483648) ≤ x1 ∧ x1 ≤ 2147483647) (r2 : (-2147483648) ≤ x2 ∧ x2 ≤ 2147483647) (r3 : (-2147483648) ≤ x3 ∧ x3 ≤ 2147483647) : qm_T (qe L xs vb) (d + 4) 190 [.ref 86, .int (qz x1), .int (qz x2), .int (qz x3)] (qw σ α κ ρ) (fun r w' => ∃ σ' α', w' = qw σ' α' κ ρ ∧ qI σ' α' κ ρ ∧ qFr [(86, 16)] [87, 97, 98, 99, 100, 101] σ α σ' α' ∧ ∃ v : Int, r = some (.int (qz v)) ∧ ((-2147483648) ≤ v ∧ v ≤ 2147483647) ∧ (((v = -1 ∧ ¬ (0 ≤ x1 ∧ x1 / 100 < σ 86 6 ∧ x1 % 100 < σ 86 6 ∧ ¬ x1 / 100 = x1 % 100 ∧ 0 ≤ x2 ∧ x2 ≤ 2399 ∧ 0 ≤ x3 ∧ x3 ≤ 3999) ∧ σ' 86 16 = σ 86 16)) ∨ ((v = -3 ∧ (0 ≤ x1 ∧ x1 / 100 < σ 86 6 ∧ x1 % 100 < σ 86 6 ∧ ¬ x1 / 100 = x1 % 100 ∧ 0 ≤ x2 ∧ x2 ≤ 2399 ∧ 0 ≤ x3 ∧ x3 ≤ 3999) ∧ 40 ≤ σ 86 16 ∧ σ' 86 16 = σ 86 16)) ∨ ((v = σ 86 16 ∧ (0 ≤ x1 ∧ x1 / 100 < σ 86 6 ∧ x1 % 100 < σ 86 6 ∧ ¬ x1 / 100 = x1 % 100 ∧ 0 ≤ x2 ∧ x2 ≤ 2399 ∧ 0 ≤ x3 ∧ x3 ≤ 3999) ∧ σ 86 16 < 40 ∧ σ' 86 16 = σ 86 16 + 1)))) := by
  refine qr_start (d := d + 3) qv_e190 (Nat.le_of_ble_eq_true rfl) ?_
  show qr_W (qe L xs vb) (d + 3) qx_e190 _ (0, [(0, .ref 86), (1, .int (qz x1)), (2, .int (qz x2)), (3, .int (qz x3))], [], _, 0, 0)
  have hF0 := qFr_rf [(86, 16)] [87, 97, 98, 99, 100, 101] σ α
  have hz86_6 : 0 ≤ σ 86 6 ∧ σ 86 6 ≤ 32 := hI.1 86 6
  have hz86_16 : 0 ≤ σ 86 16 ∧ σ 86 16 ≤ 40 := hI.1 86 16
  refine qr_aload_n 1 rfl rfl rfl ?_
  refine qr_iload_n 2 rfl rfl rfl ?_
  refine qr_callN 5 rfl rfl rfl (sf_191_86 (d := d + 0) hI r1) ?_
  have hs3 : 0 ≤ σ 86 6 ∧ σ 86 6 ≤ 32 := hI.1 86 6
  rintro _ _ ⟨rfl, v1, rfl, hv1, hp2⟩
  show qr_W (qe L xs vb) (d + 3) qx_e190 _ (5, _, [.int (qz v1)], qw σ α κ ρ, 0, 0)
  refine qr_if_eq 27 8 rfl rfl rfl (qrg hv1 (by decide) (by decide)) (fun h4 => ?_) (fun h4 => ?_)
  · skip
    refine qr_iconst 28 rfl rfl ?_
    refine qr_retI rfl rfl (by decide) (by decide) ?_
    have hw5 : σ 86 16 = (σ 86 16) := rfl
    exact ⟨_, _, rfl, hI, hF0, (-1), rfl, (by decide), (Or.inl (by omega))⟩
  · skip
    refine qr_iload_n 9 rfl rfl rfl ?_
    refine qr_callN 12 rfl rfl rfl (sf_192 (d := d + 1) hI r2) ?_
    rintro _ _ ⟨rfl, v6, rfl, hv6, hp7⟩
    show qr_W (qe L xs vb) (d + 3) qx_e190 _ (12, _, [.int (qz v6)], qw σ α κ ρ, 0, 0)
    refine qr_if_eq 27 15 rfl rfl rfl (qrg hv6 (by decide) (by decide)) (fun h8 => ?_) (fun h8 => ?_)
    · skip
      refine qr_iconst 28 rfl rfl ?_
      refine qr_retI rfl rfl (by decide) (by decide) ?_
      have hw9 : σ 86 16 = (σ 86 16) := rfl
      exact ⟨_, _, rfl, hI, hF0, (-1), rfl, (by decide), (Or.inl (by omega))⟩
    · skip
      refine qr_iload_n 16 rfl rfl rfl ?_
      refine qr_i2l 17 rfl r3 rfl ?_
      refine qr_lconst 18 rfl rfl ?_
      refine qy_vl 0 rfl ?_
      refine qr_ldc2 3999 21 rfl (by decide) rfl ?_
      refine qr_callN 24 rfl rfl rfl (sf_176 (d := d + 2) hI (qrg r3 (by decide) (by decide)) (by decide) (by decide)) ?_
      rintro _ _ ⟨rfl, v10, rfl, hv10, hp11⟩
      show qr_W (qe L xs vb) (d + 3) qx_e190 _ (24, _, [.int (qz v10)], qw σ α κ ρ, 0, 0)
      refine qr_if_ne 29 27 rfl rfl rfl (qrg hv10 (by decide) (by decide)) (fun h12 => ?_) (fun h12 => ?_)
      · skip
        refine qr_aload_n 30 rfl rfl rfl ?_
        refine qr_get 33 rfl rfl rfl (by decide) rfl ?_
        refine qr_bipush 35 rfl (by decide) rfl ?_
        refine qr_icmp_ne 41 38 rfl rfl rfl (qrg hz86_16 (by decide) (by decide)) (by decide) (fun h13 => ?_) (fun h13 => ?_)
        · skip
          refine qr_aload_n 42 rfl rfl rfl ?_
          refine qr_get 45 rfl rfl rfl (by decide) rfl ?_
          refine qr_aload_n 46 rfl rfl rfl ?_
          refine qr_get 49 rfl rfl rfl (by decide) rfl ?_
          refine qr_iload_n 50 rfl rfl rfl ?_
          refine qr_bipush 52 rfl (by decide) rfl ?_
          refine qr_idiv 53 rfl (by omega) (by decide) rfl ?_
          refine qr_iastore 54 rfl (by decide) rfl (by omega) (by decide) rfl ?_
          refine qy_wA (qw_r α 97 (qzu (α 97) ((σ 86 16) : Int).toNat (x1 / 100))) rfl (fun α14 e15 => ?_)
          have hI16 : qI σ α14 κ ρ := by rw [e15]; exact qI_r hI 97 _ rfl (show 0 ≤ (x1 / 100) ∧ (x1 / 100) ≤ 31 by omega)
          have hF17 : qFr [(86, 16)] [87, 97, 98, 99, 100, 101] σ α σ α14 := by rw [e15]; exact qFr_r hF0 97 _ (by decide)
          refine qr_aload_n 55 rfl rfl rfl ?_
          refine qr_get 58 rfl rfl rfl (by decide) rfl ?_
          refine qr_aload_n 59 rfl rfl rfl ?_
          refine qr_get 62 rfl rfl rfl (by decide) rfl ?_
          refine qr_iload_n 63 rfl rfl rfl ?_
          refine qr_bipush 65 rfl (by decide) rfl ?_
          refine qr_irem 66 rfl (by omega) (by decide) rfl ?_
          refine qr_iastore 67 rfl (by decide) rfl (by omega) (by decide) rfl ?_
          refine qy_wA (qw_r α14 98 (qzu (α14 98) ((σ 86 16) : Int).toNat (x1 % 100))) rfl (fun α18 e19 => ?_)
          have hI20 : qI σ α18 κ ρ := by rw [e19]; exact qI_r hI16 98 _ rfl (show 0 ≤ (x1 % 100) ∧ (x1 % 100) ≤ 31 by omega)
          have hF21 : qFr [(86, 16)] [87, 97, 98, 99, 100, 101] σ α σ α18 := by rw [e19]; exact qFr_r hF17 98 _ (by decide)
          refine qr_aload_n 68 rfl rfl rfl ?_
          refine qr_get 71 rfl rfl rfl (by decide) rfl ?_
          refine qr_aload_n 72 rfl rfl rfl ?_
          refine qr_get 75 rfl rfl rfl (by decide) rfl ?_
          refine qr_iload_n 76 rfl rfl rfl ?_
          refine qr_iastore 77 rfl (by decide) rfl (by omega) (by decide) rfl ?_
          refine qy_wA (qw_r α18 99 (qzu (α18 99) ((σ 86 16) : Int).toNat x2)) rfl (fun α22 e23 => ?_)
          have hI24 : qI σ α22 κ ρ := by rw [e23]; exact qI_r hI20 99 _ rfl (show (-2147483648) ≤ x2 ∧ x2 ≤ 2147483647 by omega)
          have hF25 : qFr [(86, 16)] [87, 97, 98, 99, 100, 101] σ α σ α22 := by rw [e23]; exact qFr_r hF21 99 _ (by decide)
          refine qr_aload_n 78 rfl rfl rfl ?_
          refine qr_get 81 rfl rfl rfl (by decide) rfl ?_
          refine qr_aload_n 82 rfl rfl rfl ?_
          refine qr_get 85 rfl rfl rfl (by decide) rfl ?_
          refine qr_iload_n 86 rfl rfl rfl ?_
          refine qr_sipush 89 rfl (by decide) rfl ?_
          refine qr_idiv 90 rfl (by omega) (by decide) rfl ?_
          refine qr_iastore 91 rfl (by decide) rfl (by omega) (by decide) rfl ?_
          refine qy_wA (qw_r α22 100 (qzu (α22 100) ((σ 86 16) : Int).toNat (x3 / 1000))) rfl (fun α26 e27 => ?_)
          have hI28 : qI σ α26 κ ρ := by rw [e27]; exact qI_r hI24 100 _ rfl (show (-2147483648) ≤ (x3 / 1000) ∧ (x3 / 1000) ≤ 2147483647 by omega)
          have hF29 : qFr [(86, 16)] [87, 97, 98, 99, 100, 101] σ α σ α26 := by rw [e27]; exact qFr_r hF25 100 _ (by decide)
          refine qr_aload_n 92 rfl rfl rfl ?_
          refine qr_get 95 rfl rfl rfl (by decide) rfl ?_
          refine qr_aload_n 96 rfl rfl rfl ?_
          as_aux_lemma =>
            refine qr_get 99 rfl rfl rfl (by decide) rfl ?_
            refine qr_iload_n 100 rfl rfl rfl ?_
            refine qr_sipush 103 rfl (by decide) rfl ?_
            refine qr_irem 104 rfl (by omega) (by decide) rfl ?_
            refine qr_iastore 105 rfl (by decide) rfl (by omega) (by decide) rfl ?_
            refine qy_wA (qw_r α26 101 (qzu (α26 101) ((σ 86 16) : Int).toNat (x3 % 1000))) rfl (fun α30 e31 => ?_)
            have hI32 : qI σ α30 κ ρ := by rw [e31]; exact qI_r hI28 101 _ rfl (show (-2147483648) ≤ (x3 % 1000) ∧ (x3 % 1000) ≤ 2147483647 by omega)
            have hF33 : qFr [(86, 16)] [87, 97, 98, 99, 100, 101] σ α σ α30 := by rw [e31]; exact qFr_r hF29 101 _ (by decide)
            refine qr_aload_n 106 rfl rfl rfl ?_
            refine qr_get 109 rfl rfl rfl (by decide) rfl ?_
            refine qr_bipush 111 rfl (by decide) rfl ?_
            refine qr_aload_n 112 rfl rfl rfl ?_
            refine qr_get 115 rfl rfl rfl (by decide) rfl ?_
            refine qr_iadd 116 rfl rfl ?_
            refine qr_sipush 119 rfl (by decide) rfl ?_
            refine qr_iastore 120 rfl (by decide) rfl (by omega) (by decide) rfl ?_
            refine qy_wA (qw_r α30 87 (qzu (α30 87) ((32 + (σ 86 16)) : Int).toNat 2400)) rfl (fun α34 e35 => ?_)
            have hI36 : qI σ α34 κ ρ := by rw [e35]; exact qI_r hI32 87 _ rfl (show (-2147483648) ≤ 2400 ∧ 2400 ≤ 2147483647 by omega)
            have hF37 : qFr [(86, 16)] [87, 97, 98, 99, 100, 101] σ α σ α34 := by rw [e35]; exact qFr_r hF33 87 _ (by decide)
            refine qr_aload_n 121 rfl rfl rfl ?_
            refine qr_dup 122 rfl rfl rfl ?_
            refine qr_get 125 rfl rfl rfl (by decide) rfl ?_
            refine qr_iconst 126 rfl rfl ?_
            refine qr_iadd 127 rfl rfl ?_
            refine qr_put 130 rfl (by decide) rfl (Nat.le_of_ble_eq_true rfl) (Nat.le_of_ble_eq_true rfl) (Or.inl rfl) (qr_fitI rfl _) rfl ?_
            refine qy_wS (qw_s σ 86 16 ((σ 86 16) + 1)) rfl (fun σ38 e39 => ?_)
            have hI40 : qI σ38 α34 κ ρ := by rw [e39]; exact qI_s hI36 86 16 rfl (show 0 ≤ ((σ 86 16) + 1) ∧ ((σ 86 16) + 1) ≤ 40 by omega)
            have hF41 : qFr [(86, 16)] [87, 97, 98, 99, 100, 101] σ α σ38 α34 := by rw [e39]; exact qFr_s hF37 86 16 _ (by decide)
            refine qr_aload_n 131 rfl rfl rfl ?_
            refine qr_get 134 rfl rfl rfl (by decide) rfl ?_
            refine qy_v ((σ 86 16) + 1) ((congrFun (congrFun e39 86) 16).trans rfl) ?_
            refine qr_iconst 135 rfl rfl ?_
            refine qr_isub 136 rfl rfl ?_
            refine qr_retI rfl rfl (by decide) (by decide) ?_
            have hw42 : σ38 86 16 = ((σ 86 16) + 1) := (congrFun (congrFun e39 86) 16).trans rfl
            exact ⟨_, _, rfl, hI40, hF41, (((σ 86 16) + 1) - 1), rfl, (by omega), (Or.inr (Or.inr ((by omega))))⟩
        · skip
          refine qr_bipush 40 rfl (by decide) rfl ?_
          refine qr_retI rfl rfl (by decide) (by decide) ?_
          have hw43 : σ 86 16 = (σ 86 16) := rfl
          exact ⟨_, _, rfl, hI, hF0, (-3), rfl, (by decide), (Or.inr (Or.inl (by omega)))⟩
      · skip
        refine qr_iconst 28 rfl rfl ?_
        refine qr_retI rfl rfl (by decide) (by decide) ?_
        have hw44 : σ 86 16 = (σ 86 16) := rfl
        exact ⟨_, _, rfl, hI, hF0, (-1), rfl, (by decide), (Or.inl (by omega))⟩

set_option maxHeartbeats 4000000 in
set_option maxRecDepth 20000 in
/-- OneRoofModel.peace -/
theorem sf_198_86x {L : Nat} {xs : Nat → Int} {vb : Bool} {d : Nat} {σ α : Nat → Nat → Int} {κ : Nat → Option Nat} {ρ : Nat} {x1 : Int} {x2 : Int} {x3 : Int} {x4 : Int} (hI : qI σ α κ ρ) (r1 : (-2147483648) ≤ x1 ∧ x1 ≤ 2147483647) (r2 : (-9223372036854775808) ≤ x2 ∧ x2 ≤ 9223372036854775807) (r3 : (-2147483648) ≤ x3 ∧ x3 ≤ 2147483647) (r4 : (-2147483648) ≤ x4 ∧ x4 ≤ 2147483647) : qm_T (qe L xs vb) (d + 3) 198 [.ref 86, .int (qz x1), .long (ql x2), .int (qz x3), .int (qz x4)] (qw σ α κ ρ) (fun r w' => ∃ σ' α', w' = qw σ' α' κ ρ ∧ qI σ' α' κ ρ ∧ qFr [(86, 24)] [87, 102, 103, 104, 105] σ α σ' α' ∧ ∃ v : Int, r = some (.int (qz v)) ∧ ((-2147483648) ≤ v ∧ v ≤ 2147483647) ∧ (((v = -1 ∧ ¬ (0 ≤ x1 ∧ x1 % 10 ≤ 5 ∧ x1 / 10 < σ 86 6 ∧ 0 ≤ x2 ∧ x2 ≤ 4294967295 ∧ 0 ≤ x3 ∧ x3 / 10000 ≤ x3 % 10000 ∧ x3 % 10000 ≤ 2399 ∧ 0 ≤ x4 ∧ x4 ≤ 240) ∧ σ' 86 24 = σ 86 24)) ∨ ((v = -3 ∧ (0 ≤ x1 ∧ x1 % 10 ≤ 5 ∧ x1 / 10 < σ 86 6 ∧ 0 ≤ x2 ∧ x2 ≤ 4294967295 ∧ 0 ≤ x3 ∧ x3 / 10000 ≤ x3 % 10000 ∧ x3 % 10000 ≤ 2399 ∧ 0 ≤ x4 ∧ x4 ≤ 240) ∧ 60 ≤ σ 86 24 ∧ σ' 86 24 = σ 86 24)) ∨ ((v = σ 86 24 ∧ (0 ≤ x1 ∧ x1 % 10 ≤ 5 ∧ x1 / 10 < σ 86 6 ∧ 0 ≤ x2 ∧ x2 ≤ 4294967295 ∧ 0 ≤ x3 ∧ x3 / 10000 ≤ x3 % 10000 ∧ x3 % 10000 ≤ 2399 ∧ 0 ≤ x4 ∧ x4 ≤ 240) ∧ σ 86 24 < 60 ∧ σ' 86 24 = σ 86 24 + 1)))) := by
  refine qr_start (d := d + 2) qv_e198 (Nat.le_of_ble_eq_true rfl) ?_
  show qr_W (qe L xs vb) (d + 2) qx_e198 _ (0, [(0, .ref 86), (1, .int (qz x1)), (2, .long (ql x2)), (4, .int (qz x3)), (5, .int (qz x4))], [], _, 0, 0)
  have hF0 := qFr_rf [(86, 24)] [87, 102, 103, 104, 105] σ α
  have hz86_6 : 0 ≤ σ 86 6 ∧ σ 86 6 ≤ 32 := hI.1 86 6
  have hz86_24 : 0 ≤ σ 86 24 ∧ σ 86 24 ≤ 60 := hI.1 86 24
  refine qr_iload_n 1 rfl rfl rfl ?_
  refine qr_if_lt 95 4 rfl rfl rfl r1 (fun h1 => ?_) (fun h1 => ?_)
  · skip
    refine qr_iconst 96 rfl rfl ?_
    refine qr_istore _ 98 rfl (by decide) rfl rfl ?_
    refine qr_iload 100 rfl rfl rfl ?_
    refine qr_if_ne 105 103 rfl rfl rfl (by decide) (fun h => False.elim (by omega)) (fun h2 => ?_)
    refine qr_iconst 104 rfl rfl ?_
    refine qr_retI rfl rfl (by decide) (by decide) ?_
    have hw3 : σ 86 24 = (σ 86 24) := rfl
    exact ⟨_, _, rfl, hI, hF0, (-1), rfl, (by decide), (Or.inl (by omega))⟩
  · skip
    refine qr_aload_n 5 rfl rfl rfl ?_
    refine qr_iload_n 6 rfl rfl rfl ?_
    refine qr_bipush 8 rfl (by decide) rfl ?_
    refine qr_idiv 9 rfl (by omega) (by decide) rfl ?_
    refine qr_callN 12 rfl rfl rfl (sf_180_86 (d := d + 0) hI (by omega)) ?_
    have hs6 : 0 ≤ σ 86 6 ∧ σ 86 6 ≤ 32 := hI.1 86 6
    rintro _ _ ⟨rfl, v4, rfl, hv4, hp5⟩
    show qr_W (qe L xs vb) (d + 2) qx_e198 _ (12, _, [.int (qz v4)], qw σ α κ ρ, 0, 0)
    refine qr_if_eq 95 15 rfl rfl rfl (qrg hv4 (by decide) (by decide)) (fun h7 => ?_) (fun h7 => ?_)
    · skip
      refine qr_iconst 96 rfl rfl ?_
      refine qr_istore _ 98 rfl (by decide) rfl rfl ?_
      refine qr_iload 100 rfl rfl rfl ?_
      refine qr_if_ne 105 103 rfl rfl rfl (by decide) (fun h => False.elim (by omega)) (fun h8 => ?_)
      refine qr_iconst 104 rfl rfl ?_
      refine qr_retI rfl rfl (by decide) (by decide) ?_
      have hw9 : σ 86 24 = (σ 86 24) := rfl
      exact ⟨_, _, rfl, hI, hF0, (-1), rfl, (by decide), (Or.inl (by omega))⟩
    · skip
      refine qr_iload_n 16 rfl rfl rfl ?_
      refine qr_bipush 18 rfl (by decide) rfl ?_
      refine qr_irem 19 rfl (by omega) (by decide) rfl ?_
      refine qr_iconst 20 rfl rfl ?_
      refine qr_icmp_gt 95 23 rfl rfl rfl (by omega) (by decide) (fun h10 => ?_) (fun h10 => ?_)
      · skip
        refine qr_iconst 96 rfl rfl ?_
        refine qr_istore _ 98 rfl (by decide) rfl rfl ?_
        refine qr_iload 100 rfl rfl rfl ?_
        refine qr_if_ne 105 103 rfl rfl rfl (by decide) (fun h => False.elim (by omega)) (fun h11 => ?_)
        refine qr_iconst 104 rfl rfl ?_
        refine qr_retI rfl rfl (by decide) (by decide) ?_
        have hw12 : σ 86 24 = (σ 86 24) := rfl
        exact ⟨_, _, rfl, hI, hF0, (-1), rfl, (by decide), (Or.inl (by omega))⟩
      · skip
        refine qr_lload_n 24 rfl rfl rfl ?_
        refine qr_lconst 25 rfl rfl ?_
        refine qy_vl 0 rfl ?_
        refine qr_ldc2 4294967295 28 rfl (by decide) rfl ?_
        refine qr_callN 31 rfl rfl rfl (sf_176 (d := d + 1) hI r2 (by decide) (by decide)) ?_
        rintro _ _ ⟨rfl, v13, rfl, hv13, hp14⟩
        show qr_W (qe L xs vb) (d + 2) qx_e198 _ (31, _, [.int (qz v13)], qw σ α κ ρ, 0, 0)
        refine qr_if_eq 95 34 rfl rfl rfl (qrg hv13 (by decide) (by decide)) (fun h15 => ?_) (fun h15 => ?_)
        · skip
          refine qr_iconst 96 rfl rfl ?_
          refine qr_istore _ 98 rfl (by decide) rfl rfl ?_
          refine qr_iload 100 rfl rfl rfl ?_
          refine qr_if_ne 105 103 rfl rfl rfl (by decide) (fun h => False.elim (by omega)) (fun h16 => ?_)
          refine qr_iconst 104 rfl rfl ?_
          refine qr_retI rfl rfl (by decide) (by decide) ?_
          have hw17 : σ 86 24 = (σ 86 24) := rfl
          exact ⟨_, _, rfl, hI, hF0, (-1), rfl, (by decide), (Or.inl (by omega))⟩
        · skip
          refine qr_iload 36 rfl rfl rfl ?_
          refine qr_if_lt 95 39 rfl rfl rfl r3 (fun h18 => ?_) (fun h18 => ?_)
          · skip
            refine qr_iconst 96 rfl rfl ?_
            refine qr_istore _ 98 rfl (by decide) rfl rfl ?_
            refine qr_iload 100 rfl rfl rfl ?_
            refine qr_if_ne 105 103 rfl rfl rfl (by decide) (fun h => False.elim (by omega)) (fun h19 => ?_)
            refine qr_iconst 104 rfl rfl ?_
            refine qr_retI rfl rfl (by decide) (by decide) ?_
            have hw20 : σ 86 24 = (σ 86 24) := rfl
            exact ⟨_, _, rfl, hI, hF0, (-1), rfl, (by decide), (Or.inl (by omega))⟩
          · skip
            refine qr_iload 41 rfl rfl rfl ?_
            refine qr_sipush 44 rfl (by decide) rfl ?_
            refine qr_idiv 45 rfl (by omega) (by decide) rfl ?_
            refine qr_callN 48 rfl rfl rfl (sf_192 (d := d + 0) hI (by omega)) ?_
            rintro _ _ ⟨rfl, v21, rfl, hv21, hp22⟩
            show qr_W (qe L xs vb) (d + 2) qx_e198 _ (48, _, [.int (qz v21)], qw σ α κ ρ, 0, 0)
            refine qr_if_eq 95 51 rfl rfl rfl (qrg hv21 (by decide) (by decide)) (fun h23 => ?_) (fun h23 => ?_)
            · skip
              refine qr_iconst 96 rfl rfl ?_
              refine qr_istore _ 98 rfl (by decide) rfl rfl ?_
              refine qr_iload 100 rfl rfl rfl ?_
              refine qr_if_ne 105 103 rfl rfl rfl (by decide) (fun h => False.elim (by omega)) (fun h24 => ?_)
              refine qr_iconst 104 rfl rfl ?_
              refine qr_retI rfl rfl (by decide) (by decide) ?_
              have hw25 : σ 86 24 = (σ 86 24) := rfl
              exact ⟨_, _, rfl, hI, hF0, (-1), rfl, (by decide), (Or.inl (by omega))⟩
            · skip
              refine qr_iload 53 rfl rfl rfl ?_
              refine qr_sipush 56 rfl (by decide) rfl ?_
              refine qr_irem 57 rfl (by omega) (by decide) rfl ?_
              refine qr_callN 60 rfl rfl rfl (sf_192 (d := d + 0) hI (by omega)) ?_
              rintro _ _ ⟨rfl, v26, rfl, hv26, hp27⟩
              show qr_W (qe L xs vb) (d + 2) qx_e198 _ (60, _, [.int (qz v26)], qw σ α κ ρ, 0, 0)
              refine qr_if_eq 95 63 rfl rfl rfl (qrg hv26 (by decide) (by decide)) (fun h28 => ?_) (fun h28 => ?_)
              · skip
                refine qr_iconst 96 rfl rfl ?_
                refine qr_istore _ 98 rfl (by decide) rfl rfl ?_
                refine qr_iload 100 rfl rfl rfl ?_
                refine qr_if_ne 105 103 rfl rfl rfl (by decide) (fun h => False.elim (by omega)) (fun h29 => ?_)
                refine qr_iconst 104 rfl rfl ?_
                refine qr_retI rfl rfl (by decide) (by decide) ?_
                have hw30 : σ 86 24 = (σ 86 24) := rfl
                exact ⟨_, _, rfl, hI, hF0, (-1), rfl, (by decide), (Or.inl (by omega))⟩
              · skip
                refine qr_iload 65 rfl rfl rfl ?_
                refine qr_sipush 68 rfl (by decide) rfl ?_
                refine qr_idiv 69 rfl (by omega) (by decide) rfl ?_
                refine qr_iload 71 rfl rfl rfl ?_
                refine qr_sipush 74 rfl (by decide) rfl ?_
                refine qr_irem 75 rfl (by omega) (by decide) rfl ?_
                refine qr_icmp_gt 95 78 rfl rfl rfl (by omega) (by omega) (fun h31 => ?_) (fun h31 => ?_)
                · skip
                  refine qr_iconst 96 rfl rfl ?_
                  refine qr_istore _ 98 rfl (by decide) rfl rfl ?_
                  refine qr_iload 100 rfl rfl rfl ?_
                  refine qr_if_ne 105 103 rfl rfl rfl (by decide) (fun h => False.elim (by omega)) (fun h32 => ?_)
                  refine qr_iconst 104 rfl rfl ?_
                  refine qr_retI rfl rfl (by decide) (by decide) ?_
                  have hw33 : σ 86 24 = (σ 86 24) := rfl
                  exact ⟨_, _, rfl, hI, hF0, (-1), rfl, (by decide), (Or.inl (by omega))⟩
                · skip
                  refine qr_iload 80 rfl rfl rfl ?_
                  refine qr_i2l 81 rfl r4 rfl ?_
                  refine qr_lconst 82 rfl rfl ?_
                  refine qy_vl 0 rfl ?_
                  refine qr_ldc2 240 85 rfl (by decide) rfl ?_
                  refine qr_callN 88 rfl rfl rfl (sf_176 (d := d + 1) hI (qrg r4 (by decide) (by decide)) (by decide) (by decide)) ?_
                  rintro _ _ ⟨rfl, v34, rfl, hv34, hp35⟩
                  show qr_W (qe L xs vb) (d + 2) qx_e198 _ (88, _, [.int (qz v34)], qw σ α κ ρ, 0, 0)
                  refine qr_if_eq 95 91 rfl rfl rfl (qrg hv34 (by decide) (by decide)) (fun h36 => ?_) (fun h36 => ?_)
                  · skip
                    refine qr_iconst 96 rfl rfl ?_
                    refine qr_istore _ 98 rfl (by decide) rfl rfl ?_
                    refine qr_iload 100 rfl rfl rfl ?_
                    refine qr_if_ne 105 103 rfl rfl rfl (by decide) (fun h => False.elim (by omega)) (fun h37 => ?_)
                    refine qr_iconst 104 rfl rfl ?_
                    refine qr_retI rfl rfl (by decide) (by decide) ?_
                    have hw38 : σ 86 24 = (σ 86 24) := rfl
                    exact ⟨_, _, rfl, hI, hF0, (-1), rfl, (by decide), (Or.inl (by omega))⟩
                  · skip
                    refine qr_iconst 92 rfl rfl ?_
                    refine qr_goto 96 rfl rfl ?_
                    refine qr_istore _ 98 rfl (by decide) rfl rfl ?_
                    refine qr_iload 100 rfl rfl rfl ?_
                    refine qr_if_ne 105 103 rfl rfl rfl (by decide) (fun h39 => ?_) (fun h => False.elim (by omega))
                    refine qr_aload_n 106 rfl rfl rfl ?_
                    refine qr_get 109 rfl rfl rfl (by decide) rfl ?_
                    as_aux_lemma =>
                      refine qr_bipush 111 rfl (by decide) rfl ?_
                      refine qr_icmp_ne 117 114 rfl rfl rfl (qrg hz86_24 (by decide) (by decide)) (by decide) (fun h40 => ?_) (fun h40 => ?_)
                      · skip
                        refine qr_aload_n 118 rfl rfl rfl ?_
                        refine qr_get 121 rfl rfl rfl (by decide) rfl ?_
                        refine qr_aload_n 122 rfl rfl rfl ?_
                        refine qr_get 125 rfl rfl rfl (by decide) rfl ?_
                        refine qr_iload_n 126 rfl rfl rfl ?_
                        refine qr_bipush 128 rfl (by decide) rfl ?_
                        refine qr_idiv 129 rfl (by omega) (by decide) rfl ?_
                        refine qr_iastore 130 rfl (by decide) rfl (by omega) (by decide) rfl ?_
                        refine qy_wA (qw_r α 102 (qzu (α 102) ((σ 86 24) : Int).toNat (x1 / 10))) rfl (fun α41 e42 => ?_)
                        have hI43 : qI σ α41 κ ρ := by rw [e42]; exact qI_r hI 102 _ rfl (show 0 ≤ (x1 / 10) ∧ (x1 / 10) ≤ 31 by omega)
                        have hF44 : qFr [(86, 24)] [87, 102, 103, 104, 105] σ α σ α41 := by rw [e42]; exact qFr_r hF0 102 _ (by decide)
                        refine qr_aload_n 131 rfl rfl rfl ?_
                        refine qr_get 134 rfl rfl rfl (by decide) rfl ?_
                        refine qr_sipush 137 rfl (by decide) rfl ?_
                        refine qr_aload_n 138 rfl rfl rfl ?_
                        refine qr_get 141 rfl rfl rfl (by decide) rfl ?_
                        refine qr_iadd 142 rfl rfl ?_
                        refine qr_iload_n 143 rfl rfl rfl ?_
                        refine qr_bipush 145 rfl (by decide) rfl ?_
                        refine qr_irem 146 rfl (by omega) (by decide) rfl ?_
                        refine qr_iastore 147 rfl (by decide) rfl (by omega) (by decide) rfl ?_
                        refine qy_wA (qw_r α41 87 (qzu (α41 87) ((192 + (σ 86 24)) : Int).toNat (x1 % 10))) rfl (fun α45 e46 => ?_)
                        have hI47 : qI σ α45 κ ρ := by rw [e46]; exact qI_r hI43 87 _ rfl (show (-2147483648) ≤ (x1 % 10) ∧ (x1 % 10) ≤ 2147483647 by omega)
                        have hF48 : qFr [(86, 24)] [87, 102, 103, 104, 105] σ α σ α45 := by rw [e46]; exact qFr_r hF44 87 _ (by decide)
                        refine qr_aload_n 148 rfl rfl rfl ?_
                        refine qr_get 151 rfl rfl rfl (by decide) rfl ?_
                        refine qr_bipush 153 rfl (by decide) rfl ?_
                        refine qr_iconst 154 rfl rfl ?_
                        refine qr_aload_n 155 rfl rfl rfl ?_
                        refine qr_get 158 rfl rfl rfl (by decide) rfl ?_
                        refine qr_imul 159 rfl rfl ?_
                        refine qr_iadd 160 rfl rfl ?_
                        refine qr_lload_n 161 rfl rfl rfl ?_
                        refine qr_ldc2 65535 164 rfl (by decide) rfl ?_
                        refine qr_land 165 rfl rfl ?_
                        refine qy_canl (fun v49 hv49 => ?_)
                        refine qr_l2i 166 rfl rfl ?_
                        refine qy_can (fun v50 hv50 => ?_)
                        refine qr_iastore 167 rfl (by decide) rfl (by omega) (by decide) rfl ?_
                        refine qy_wA (qw_r α45 87 (qzu (α45 87) ((72 + (2 * (σ 86 24))) : Int).toNat v50)) rfl (fun α51 e52 => ?_)
                        have hI53 : qI σ α51 κ ρ := by rw [e52]; exact qI_r hI47 87 _ rfl (show (-2147483648) ≤ v50 ∧ v50 ≤ 2147483647 by omega)
                        have hF54 : qFr [(86, 24)] [87, 102, 103, 104, 105] σ α σ α51 := by rw [e52]; exact qFr_r hF48 87 _ (by decide)
                        refine qr_aload_n 168 rfl rfl rfl ?_
                        refine qr_get 171 rfl rfl rfl (by decide) rfl ?_
                        refine qr_bipush 173 rfl (by decide) rfl ?_
                        refine qr_iconst 174 rfl rfl ?_
                        refine qr_aload_n 175 rfl rfl rfl ?_
                        refine qr_get 178 rfl rfl rfl (by decide) rfl ?_
                        refine qr_imul 179 rfl rfl ?_
                        refine qr_iadd 180 rfl rfl ?_
                        refine qr_iconst 181 rfl rfl ?_
                        refine qr_iadd 182 rfl rfl ?_
                        refine qr_lload_n 183 rfl rfl rfl ?_
                        refine qr_bipush 185 rfl (by decide) rfl ?_
                        refine qr_lshr 186 rfl rfl ?_
                        refine qy_canl (fun v55 hv55 => ?_)
                        refine qr_l2i 187 rfl rfl ?_
                        refine qy_can (fun v56 hv56 => ?_)
                        refine qr_iastore 188 rfl (by decide) rfl (by omega) (by decide) rfl ?_
                        refine qy_wA (qw_r α51 87 (qzu (α51 87) (((72 + (2 * (σ 86 24))) + 1) : Int).toNat v56)) rfl (fun α57 e58 => ?_)
                        have hI59 : qI σ α57 κ ρ := by rw [e58]; exact qI_r hI53 87 _ rfl (show (-2147483648) ≤ v56 ∧ v56 ≤ 2147483647 by omega)
                        have hF60 : qFr [(86, 24)] [87, 102, 103, 104, 105] σ α σ α57 := by rw [e58]; exact qFr_r hF54 87 _ (by decide)
                        refine qr_aload_n 189 rfl rfl rfl ?_
                        refine qr_get 192 rfl rfl rfl (by decide) rfl ?_
                        refine qr_aload_n 193 rfl rfl rfl ?_
                        as_aux_lemma =>
                          refine qr_get 196 rfl rfl rfl (by decide) rfl ?_
                          refine qr_iload 198 rfl rfl rfl ?_
                          refine qr_sipush 201 rfl (by decide) rfl ?_
                          refine qr_idiv 202 rfl (by omega) (by decide) rfl ?_
                          refine qr_iastore 203 rfl (by decide) rfl (by omega) (by decide) rfl ?_
                          refine qy_wA (qw_r α57 103 (qzu (α57 103) ((σ 86 24) : Int).toNat (x3 / 10000))) rfl (fun α61 e62 => ?_)
                          have hI63 : qI σ α61 κ ρ := by rw [e62]; exact qI_r hI59 103 _ rfl (show (-2147483648) ≤ (x3 / 10000) ∧ (x3 / 10000) ≤ 2147483647 by omega)
                          have hF64 : qFr [(86, 24)] [87, 102, 103, 104, 105] σ α σ α61 := by rw [e62]; exact qFr_r hF60 103 _ (by decide)
                          refine qr_aload_n 204 rfl rfl rfl ?_
                          refine qr_get 207 rfl rfl rfl (by decide) rfl ?_
                          refine qr_aload_n 208 rfl rfl rfl ?_
                          refine qr_get 211 rfl rfl rfl (by decide) rfl ?_
                          refine qr_iload 213 rfl rfl rfl ?_
                          refine qr_sipush 216 rfl (by decide) rfl ?_
                          refine qr_irem 217 rfl (by omega) (by decide) rfl ?_
                          refine qr_iastore 218 rfl (by decide) rfl (by omega) (by decide) rfl ?_
                          refine qy_wA (qw_r α61 104 (qzu (α61 104) ((σ 86 24) : Int).toNat (x3 % 10000))) rfl (fun α65 e66 => ?_)
                          have hI67 : qI σ α65 κ ρ := by rw [e66]; exact qI_r hI63 104 _ rfl (show (-2147483648) ≤ (x3 % 10000) ∧ (x3 % 10000) ≤ 2147483647 by omega)
                          have hF68 : qFr [(86, 24)] [87, 102, 103, 104, 105] σ α σ α65 := by rw [e66]; exact qFr_r hF64 104 _ (by decide)
                          refine qr_aload_n 219 rfl rfl rfl ?_
                          refine qr_get 222 rfl rfl rfl (by decide) rfl ?_
                          refine qr_aload_n 223 rfl rfl rfl ?_
                          refine qr_get 226 rfl rfl rfl (by decide) rfl ?_
                          refine qr_iload 228 rfl rfl rfl ?_
                          refine qr_iastore 229 rfl (by decide) rfl (by omega) (by decide) rfl ?_
                          refine qy_wA (qw_r α65 105 (qzu (α65 105) ((σ 86 24) : Int).toNat x4)) rfl (fun α69 e70 => ?_)
                          have hI71 : qI σ α69 κ ρ := by rw [e70]; exact qI_r hI67 105 _ rfl (show (-2147483648) ≤ x4 ∧ x4 ≤ 2147483647 by omega)
                          have hF72 : qFr [(86, 24)] [87, 102, 103, 104, 105] σ α σ α69 := by rw [e70]; exact qFr_r hF68 105 _ (by decide)
                          refine qr_aload_n 230 rfl rfl rfl ?_
                          refine qr_dup 231 rfl rfl rfl ?_
                          refine qr_get 234 rfl rfl rfl (by decide) rfl ?_
                          refine qr_iconst 235 rfl rfl ?_
                          refine qr_iadd 236 rfl rfl ?_
                          refine qr_put 239 rfl (by decide) rfl (Nat.le_of_ble_eq_true rfl) (Nat.le_of_ble_eq_true rfl) (Or.inl rfl) (qr_fitI rfl _) rfl ?_
                          refine qy_wS (qw_s σ 86 24 ((σ 86 24) + 1)) rfl (fun σ73 e74 => ?_)
                          have hI75 : qI σ73 α69 κ ρ := by rw [e74]; exact qI_s hI71 86 24 rfl (show 0 ≤ ((σ 86 24) + 1) ∧ ((σ 86 24) + 1) ≤ 60 by omega)
                          have hF76 : qFr [(86, 24)] [87, 102, 103, 104, 105] σ α σ73 α69 := by rw [e74]; exact qFr_s hF72 86 24 _ (by decide)
                          refine qr_aload_n 240 rfl rfl rfl ?_
                          refine qr_get 243 rfl rfl rfl (by decide) rfl ?_
                          refine qy_v ((σ 86 24) + 1) ((congrFun (congrFun e74 86) 24).trans rfl) ?_
                          refine qr_iconst 244 rfl rfl ?_
                          refine qr_isub 245 rfl rfl ?_
                          refine qr_retI rfl rfl (by decide) (by decide) ?_
                          have hw77 : σ73 86 24 = ((σ 86 24) + 1) := (congrFun (congrFun e74 86) 24).trans rfl
                          exact ⟨_, _, rfl, hI75, hF76, (((σ 86 24) + 1) - 1), rfl, (by omega), (Or.inr (Or.inr ((by omega))))⟩
                      · skip
                        refine qr_bipush 116 rfl (by decide) rfl ?_
                        refine qr_retI rfl rfl (by decide) (by decide) ?_
                        have hw78 : σ 86 24 = (σ 86 24) := rfl
                        exact ⟨_, _, rfl, hI, hF0, (-3), rfl, (by decide), (Or.inr (Or.inl (by omega)))⟩

set_option maxHeartbeats 4000000 in
set_option maxRecDepth 20000 in
/-- OneRoofModel.road -/
theorem sf_241_86x {L : Nat} {xs : Nat → Int} {vb : Bool} {d : Nat} {σ α : Nat → Nat → Int} {κ : Nat → Option Nat} {ρ : Nat} {x1 : Int} {x2 : Int} (hI : qI σ α κ ρ) (r1 : (-2147483648) ≤ x1 ∧ x1 ≤ 2147483647) (r2 : (-2147483648) ≤ x2 ∧ x2 ≤ 2147483647) : qm_T (qe L xs vb) (d + 3) 241 [.ref 86, .int (qz x1), .int (qz x2)] (qw σ α κ ρ) (fun r w' => ∃ α', w' = qw σ α' κ ρ ∧ qI σ α' κ ρ ∧ qFr [] [93] σ α σ α' ∧ ∃ v : Int, r = some (.int (qz v)) ∧ ((-2147483648) ≤ v ∧ v ≤ 2147483647) ∧ (((v = -1 ∧ ¬ (0 ≤ x1 ∧ x1 < σ 86 6 ∧ 0 ≤ x2 ∧ x2 ≤ 3)) ∧ α' 93 = α 93) ∨ (((0 ≤ x1 ∧ x1 < σ 86 6 ∧ 0 ≤ x2 ∧ x2 ≤ 3) ∧ v = α 93 (x1 : Int).toNat) ∧ α' 93 = qzu (α 93) (x1 : Int).toNat (x2)))) := by
  refine qr_start (d := d + 2) qv_e241 (Nat.le_of_ble_eq_true rfl) ?_
  show qr_W (qe L xs vb) (d + 2) qx_e241 _ (0, [(0, .ref 86), (1, .int (qz x1)), (2, .int (qz x2))], [], _, 0, 0)
  have hF0 := qFr_rf [] [93] σ α
  have hz86_6 : 0 ≤ σ 86 6 ∧ σ 86 6 ≤ 32 := hI.1 86 6
  refine qr_aload_n 1 rfl rfl rfl ?_
  refine qr_iload_n 2 rfl rfl rfl ?_
  refine qr_callN 5 rfl rfl rfl (sf_180_86 (d := d + 0) hI r1) ?_
  have hs3 : 0 ≤ σ 86 6 ∧ σ 86 6 ≤ 32 := hI.1 86 6
  rintro _ _ ⟨rfl, v1, rfl, hv1, hp2⟩
  show qr_W (qe L xs vb) (d + 2) qx_e241 _ (5, _, [.int (qz v1)], qw σ α κ ρ, 0, 0)
  refine qr_if_eq 20 8 rfl rfl rfl (qrg hv1 (by decide) (by decide)) (fun h4 => ?_) (fun h4 => ?_)
  · skip
    refine qr_iconst 21 rfl rfl ?_
    refine qr_retI rfl rfl (by decide) (by decide) ?_
    exact ⟨_, rfl, hI, hF0, (-1), rfl, (by decide), (Or.inl ⟨by omega, rfl⟩)⟩
  · skip
    refine qr_iload_n 9 rfl rfl rfl ?_
    refine qr_i2l 10 rfl r2 rfl ?_
    refine qr_lconst 11 rfl rfl ?_
    refine qy_vl 0 rfl ?_
    refine qr_ldc2 3 14 rfl (by decide) rfl ?_
    refine qr_callN 17 rfl rfl rfl (sf_176 (d := d + 1) hI (qrg r2 (by decide) (by decide)) (by decide) (by decide)) ?_
    rintro _ _ ⟨rfl, v5, rfl, hv5, hp6⟩
    show qr_W (qe L xs vb) (d + 2) qx_e241 _ (17, _, [.int (qz v5)], qw σ α κ ρ, 0, 0)
    refine qr_if_ne 22 20 rfl rfl rfl (qrg hv5 (by decide) (by decide)) (fun h7 => ?_) (fun h7 => ?_)
    · skip
      refine qr_aload_n 23 rfl rfl rfl ?_
      refine qr_get 26 rfl rfl rfl (by decide) rfl ?_
      refine qr_iload_n 27 rfl rfl rfl ?_
      refine qr_iaload 28 rfl rfl (by omega) (by decide) rfl ?_
      refine qr_topI (fun v8 hv8 => ?_)
      have hs9 : (-2147483648) ≤ v8 ∧ v8 ≤ 2147483647 := by rw [hv8]; exact hI.2.1 93 _ (show _ < 32 by omega)
      refine qr_istore_n _ 29 rfl (by decide) rfl rfl ?_
      refine qr_aload_n 30 rfl rfl rfl ?_
      refine qr_get 33 rfl rfl rfl (by decide) rfl ?_
      refine qr_iload_n 34 rfl rfl rfl ?_
      refine qr_iload_n 35 rfl rfl rfl ?_
      refine qr_iastore 36 rfl (by decide) rfl (by omega) (by decide) rfl ?_
      refine qy_wA (qw_r α 93 (qzu (α 93) (x1 : Int).toNat x2)) rfl (fun α10 e11 => ?_)
      have hI12 : qI σ α10 κ ρ := by rw [e11]; exact qI_r hI 93 _ rfl (show (-2147483648) ≤ x2 ∧ x2 ≤ 2147483647 by omega)
      have hF13 : qFr [] [93] σ α σ α10 := by rw [e11]; exact qFr_r hF0 93 _ (by decide)
      refine qr_iload_n 37 rfl rfl rfl ?_
      refine qr_retI rfl rfl (by decide) (by decide) ?_
      exact ⟨_, rfl, hI12, hF13, v8, rfl, hs9, (Or.inr (⟨by omega, ((congrFun e11 93).trans (qw_r_eq.trans (congrArg (fun f => qzu f (x1 : Int).toNat x2) rfl)))⟩))⟩
    · skip
      refine qr_iconst 21 rfl rfl ?_
      refine qr_retI rfl rfl (by decide) (by decide) ?_
      exact ⟨_, rfl, hI, hF0, (-1), rfl, (by decide), (Or.inl ⟨by omega, rfl⟩)⟩

set_option maxHeartbeats 4000000 in
set_option maxRecDepth 20000 in
/-- OneRoofModel.keep -/
theorem sf_262_86x {L : Nat} {xs : Nat → Int} {vb : Bool} {d : Nat} {σ α : Nat → Nat → Int} {κ : Nat → Option Nat} {ρ : Nat} {x1 : Int} {x2 : Int} (hI : qI σ α κ ρ) (r1 : (-2147483648) ≤ x1 ∧ x1 ≤ 2147483647) (r2 : (-2147483648) ≤ x2 ∧ x2 ≤ 2147483647) : qm_T (qe L xs vb) (d + 3) 262 [.ref 86, .int (qz x1), .int (qz x2)] (qw σ α κ ρ) (fun r w' => ∃ α', w' = qw σ α' κ ρ ∧ qI σ α' κ ρ ∧ qFr [] [121, 122] σ α σ α' ∧ ∃ v : Int, r = some (.int (qz v)) ∧ ((-2147483648) ≤ v ∧ v ≤ 2147483647) ∧ (((v = -1 ∧ ¬ (0 ≤ x1 ∧ x1 ≤ 5 ∧ (x2 = -1 ∨ (0 ≤ x2 ∧ x2 < σ 86 24)))) ∧ α' 121 = α 121 ∧ α' 122 = α 122) ∨ ((v = 1 ∧ (0 ≤ x1 ∧ x1 ≤ 5 ∧ (x2 = -1 ∨ (0 ≤ x2 ∧ x2 < σ 86 24)))) ∧ α' 121 = qzu (α 121) (x1 : Int).toNat (x2) ∧ α' 122 = qzu (α 122) (x1 : Int).toNat (0)))) := by
  refine qr_start (d := d + 2) qv_e262 (Nat.le_of_ble_eq_true rfl) ?_
  show qr_W (qe L xs vb) (d + 2) qx_e262 _ (0, [(0, .ref 86), (1, .int (qz x1)), (2, .int (qz x2))], [], _, 0, 0)
  have hF0 := qFr_rf [] [121, 122] σ α
  have hz86_24 : 0 ≤ σ 86 24 ∧ σ 86 24 ≤ 60 := hI.1 86 24
  refine qr_iload_n 1 rfl rfl rfl ?_
  refine qr_callN 4 rfl rfl rfl (sf_178 (d := d + 0) hI r1) ?_
  rintro _ _ ⟨rfl, v1, rfl, hv1, hp2⟩
  show qr_W (qe L xs vb) (d + 2) qx_e262 _ (4, _, [.int (qz v1)], qw σ α κ ρ, 0, 0)
  refine qr_if_eq 20 7 rfl rfl rfl (qrg hv1 (by decide) (by decide)) (fun h3 => ?_) (fun h3 => ?_)
  · skip
    refine qr_iconst 21 rfl rfl ?_
    refine qr_retI rfl rfl (by decide) (by decide) ?_
    exact ⟨_, rfl, hI, hF0, (-1), rfl, (by decide), (Or.inl ⟨by omega, rfl, rfl⟩)⟩
  · skip
    refine qr_iload_n 8 rfl rfl rfl ?_
    refine qr_iconst 9 rfl rfl ?_
    refine qr_icmp_eq 22 12 rfl rfl rfl r2 (by decide) (fun h4 => ?_) (fun h4 => ?_)
    · skip
      refine qr_aload_n 23 rfl rfl rfl ?_
      refine qr_get 26 rfl rfl rfl (by decide) rfl ?_
      refine qr_iload_n 27 rfl rfl rfl ?_
      refine qr_iload_n 28 rfl rfl rfl ?_
      refine qr_iastore 29 rfl (by decide) rfl (by omega) (by decide) rfl ?_
      refine qy_wA (qw_r α 121 (qzu (α 121) (x1 : Int).toNat x2)) rfl (fun α5 e6 => ?_)
      have hI7 : qI σ α5 κ ρ := by rw [e6]; exact qI_r hI 121 _ rfl (show (-1) ≤ x2 ∧ x2 ≤ 64 by omega)
      have hF8 : qFr [] [121, 122] σ α σ α5 := by rw [e6]; exact qFr_r hF0 121 _ (by decide)
      refine qr_aload_n 30 rfl rfl rfl ?_
      refine qr_get 33 rfl rfl rfl (by decide) rfl ?_
      refine qr_iload_n 34 rfl rfl rfl ?_
      refine qr_iconst 35 rfl rfl ?_
      refine qr_iastore 36 rfl (by decide) rfl (by omega) (by decide) rfl ?_
      refine qy_wA (qw_r α5 122 (qzu (α5 122) (x1 : Int).toNat 0)) rfl (fun α9 e10 => ?_)
      have hI11 : qI σ α9 κ ρ := by rw [e10]; exact qI_r hI7 122 _ rfl (show 0 ≤ 0 ∧ 0 ≤ 60 by omega)
      have hF12 : qFr [] [121, 122] σ α σ α9 := by rw [e10]; exact qFr_r hF8 122 _ (by decide)
      refine qr_iconst 37 rfl rfl ?_
      refine qr_retI rfl rfl (by decide) (by decide) ?_
      exact ⟨_, rfl, hI11, hF12, 1, rfl, (by decide), (Or.inr (⟨by omega, ((congrFun e10 121).trans ((qw_r_ne (by decide)).trans ((congrFun e6 121).trans (qw_r_eq.trans (congrArg (fun f => qzu f (x1 : Int).toNat x2) rfl))))), ((congrFun e10 122).trans (qw_r_eq.trans (congrArg (fun f => qzu f (x1 : Int).toNat 0) ((congrFun e6 122).trans ((qw_r_ne (by decide)).trans rfl)))))⟩))⟩
    · skip
      refine qr_aload_n 13 rfl rfl rfl ?_
      refine qr_iload_n 14 rfl rfl rfl ?_
      refine qr_callN 17 rfl rfl rfl (sf_200_86 (d := d + 0) hI r2) ?_
      have hs15 : 0 ≤ σ 86 24 ∧ σ 86 24 ≤ 60 := hI.1 86 24
      rintro _ _ ⟨rfl, v13, rfl, hv13, hp14⟩
      show qr_W (qe L xs vb) (d + 2) qx_e262 _ (17, _, [.int (qz v13)], qw σ α κ ρ, 0, 0)
      refine qr_if_ne 22 20 rfl rfl rfl (qrg hv13 (by decide) (by decide)) (fun h16 => ?_) (fun h16 => ?_)
      · skip
        refine qr_aload_n 23 rfl rfl rfl ?_
        refine qr_get 26 rfl rfl rfl (by decide) rfl ?_
        refine qr_iload_n 27 rfl rfl rfl ?_
        refine qr_iload_n 28 rfl rfl rfl ?_
        refine qr_iastore 29 rfl (by decide) rfl (by omega) (by decide) rfl ?_
        refine qy_wA (qw_r α 121 (qzu (α 121) (x1 : Int).toNat x2)) rfl (fun α17 e18 => ?_)
        have hI19 : qI σ α17 κ ρ := by rw [e18]; exact qI_r hI 121 _ rfl (show (-1) ≤ x2 ∧ x2 ≤ 64 by omega)
        have hF20 : qFr [] [121, 122] σ α σ α17 := by rw [e18]; exact qFr_r hF0 121 _ (by decide)
        refine qr_aload_n 30 rfl rfl rfl ?_
        refine qr_get 33 rfl rfl rfl (by decide) rfl ?_
        refine qr_iload_n 34 rfl rfl rfl ?_
        refine qr_iconst 35 rfl rfl ?_
        refine qr_iastore 36 rfl (by decide) rfl (by omega) (by decide) rfl ?_
        refine qy_wA (qw_r α17 122 (qzu (α17 122) (x1 : Int).toNat 0)) rfl (fun α21 e22 => ?_)
        have hI23 : qI σ α21 κ ρ := by rw [e22]; exact qI_r hI19 122 _ rfl (show 0 ≤ 0 ∧ 0 ≤ 60 by omega)
        have hF24 : qFr [] [121, 122] σ α σ α21 := by rw [e22]; exact qFr_r hF20 122 _ (by decide)
        refine qr_iconst 37 rfl rfl ?_
        refine qr_retI rfl rfl (by decide) (by decide) ?_
        exact ⟨_, rfl, hI23, hF24, 1, rfl, (by decide), (Or.inr (⟨by omega, ((congrFun e22 121).trans ((qw_r_ne (by decide)).trans ((congrFun e18 121).trans (qw_r_eq.trans (congrArg (fun f => qzu f (x1 : Int).toNat x2) rfl))))), ((congrFun e22 122).trans (qw_r_eq.trans (congrArg (fun f => qzu f (x1 : Int).toNat 0) ((congrFun e18 122).trans ((qw_r_ne (by decide)).trans rfl)))))⟩))⟩
      · skip
        refine qr_iconst 21 rfl rfl ?_
        refine qr_retI rfl rfl (by decide) (by decide) ?_
        exact ⟨_, rfl, hI, hF0, (-1), rfl, (by decide), (Or.inl ⟨by omega, rfl, rfl⟩)⟩

set_option maxHeartbeats 4000000 in
set_option maxRecDepth 20000 in
/-- OneRoofModel.row -/
theorem sf_263_86x {L : Nat} {xs : Nat → Int} {vb : Bool} {d : Nat} {σ α : Nat → Nat → Int} {κ : Nat → Option Nat} {ρ : Nat} {x1 : Int} {x2 : Int} {x3 : Int} (hI : qI σ α κ ρ) (r1 : (-2147483648) ≤ x1 ∧ x1 ≤ 2147483647) (r2 : (-2147483648) ≤ x2 ∧ x2 ≤ 2147483647) (r3 : (-2147483648) ≤ x3 ∧ x3 ≤ 2147483647) : qm_T (qe L xs vb) (d + 3) 263 [.ref 86, .int (qz x1), .int (qz x2), .int (qz x3)] (qw σ α κ ρ) (fun r w' => ∃ α', w' = qw σ α' κ ρ ∧ qI σ α' κ ρ ∧ qFr [] [121, 122, 123] σ α σ α' ∧ ∃ v : Int, r = some (.int (qz v)) ∧ ((-2147483648) ≤ v ∧ v ≤ 2147483647) ∧ (((v = -1 ∧ ¬ (0 ≤ x1 ∧ x1 ≤ 5 ∧ 0 ≤ x2 ∧ x2 ≤ 4 ∧ x3 ≤ 60)) ∧ α' 121 = α 121 ∧ α' 122 = α 122 ∧ α' 123 = α 123) ∨ ((v = -14 ∧ (0 ≤ x1 ∧ x1 ≤ 5 ∧ 0 ≤ x2 ∧ x2 ≤ 4 ∧ x3 ≤ 60) ∧ x3 < 0) ∧ α' 121 = α 121 ∧ α' 122 = α 122 ∧ α' 123 = α 123) ∨ ((v = 1 ∧ (0 ≤ x1 ∧ x1 ≤ 5 ∧ 0 ≤ x2 ∧ x2 ≤ 4 ∧ x3 ≤ 60) ∧ 0 ≤ x3) ∧ α' 121 = qzu (α 121) (x1 : Int).toNat (60 + x2) ∧ α' 122 = qzu (α 122) (x1 : Int).toNat (x3) ∧ α' 123 = qzfl (α 123) (60 * x1 : Int).toNat 60))) := by
  refine qr_start (d := d + 2) qv_e263 (Nat.le_of_ble_eq_true rfl) ?_
  show qr_W (qe L xs vb) (d + 2) qx_e263 _ (0, [(0, .ref 86), (1, .int (qz x1)), (2, .int (qz x2)), (3, .int (qz x3))], [], _, 0, 0)
  have hF0 := qFr_rf [] [121, 122, 123] σ α
  refine qr_iload_n 1 rfl rfl rfl ?_
  refine qr_callN 4 rfl rfl rfl (sf_178 (d := d + 0) hI r1) ?_
  rintro _ _ ⟨rfl, v1, rfl, hv1, hp2⟩
  show qr_W (qe L xs vb) (d + 2) qx_e263 _ (4, _, [.int (qz v1)], qw σ α κ ρ, 0, 0)
  refine qr_if_eq 25 7 rfl rfl rfl (qrg hv1 (by decide) (by decide)) (fun h3 => ?_) (fun h3 => ?_)
  · skip
    refine qr_iconst 26 rfl rfl ?_
    refine qr_retI rfl rfl (by decide) (by decide) ?_
    exact ⟨_, rfl, hI, hF0, (-1), rfl, (by decide), (Or.inl ⟨by omega, rfl, rfl, rfl⟩)⟩
  · skip
    refine qr_iload_n 8 rfl rfl rfl ?_
    refine qr_i2l 9 rfl r2 rfl ?_
    refine qr_lconst 10 rfl rfl ?_
    refine qy_vl 0 rfl ?_
    refine qr_ldc2 4 13 rfl (by decide) rfl ?_
    refine qr_callN 16 rfl rfl rfl (sf_176 (d := d + 1) hI (qrg r2 (by decide) (by decide)) (by decide) (by decide)) ?_
    rintro _ _ ⟨rfl, v4, rfl, hv4, hp5⟩
    show qr_W (qe L xs vb) (d + 2) qx_e263 _ (16, _, [.int (qz v4)], qw σ α κ ρ, 0, 0)
    refine qr_if_eq 25 19 rfl rfl rfl (qrg hv4 (by decide) (by decide)) (fun h6 => ?_) (fun h6 => ?_)
    · skip
      refine qr_iconst 26 rfl rfl ?_
      refine qr_retI rfl rfl (by decide) (by decide) ?_
      exact ⟨_, rfl, hI, hF0, (-1), rfl, (by decide), (Or.inl ⟨by omega, rfl, rfl, rfl⟩)⟩
    · skip
      refine qr_iload_n 20 rfl rfl rfl ?_
      refine qr_bipush 22 rfl (by decide) rfl ?_
      refine qr_icmp_le 27 25 rfl rfl rfl r3 (by decide) (fun h7 => ?_) (fun h7 => ?_)
      · skip
        refine qr_iload_n 28 rfl rfl rfl ?_
        refine qr_if_ge 34 31 rfl rfl rfl r3 (fun h8 => ?_) (fun h8 => ?_)
        · skip
          refine qr_aload_n 35 rfl rfl rfl ?_
          refine qr_get 38 rfl rfl rfl (by decide) rfl ?_
          refine qr_iload_n 39 rfl rfl rfl ?_
          refine qr_bipush 41 rfl (by decide) rfl ?_
          refine qr_iload_n 42 rfl rfl rfl ?_
          refine qr_iadd 43 rfl rfl ?_
          refine qr_iastore 44 rfl (by decide) rfl (by omega) (by decide) rfl ?_
          refine qy_wA (qw_r α 121 (qzu (α 121) (x1 : Int).toNat (60 + x2))) rfl (fun α9 e10 => ?_)
          have hI11 : qI σ α9 κ ρ := by rw [e10]; exact qI_r hI 121 _ rfl (show (-1) ≤ (60 + x2) ∧ (60 + x2) ≤ 64 by omega)
          have hF12 : qFr [] [121, 122, 123] σ α σ α9 := by rw [e10]; exact qFr_r hF0 121 _ (by decide)
          refine qr_aload_n 45 rfl rfl rfl ?_
          refine qr_get 48 rfl rfl rfl (by decide) rfl ?_
          refine qr_iload_n 49 rfl rfl rfl ?_
          refine qr_iload_n 50 rfl rfl rfl ?_
          refine qr_iastore 51 rfl (by decide) rfl (by omega) (by decide) rfl ?_
          refine qy_wA (qw_r α9 122 (qzu (α9 122) (x1 : Int).toNat x3)) rfl (fun α13 e14 => ?_)
          have hI15 : qI σ α13 κ ρ := by rw [e14]; exact qI_r hI11 122 _ rfl (show 0 ≤ x3 ∧ x3 ≤ 60 by omega)
          have hF16 : qFr [] [121, 122, 123] σ α σ α13 := by rw [e14]; exact qFr_r hF12 122 _ (by decide)
          refine qr_bipush 53 rfl (by decide) rfl ?_
          refine qr_iload_n 54 rfl rfl rfl ?_
          refine qr_imul 55 rfl rfl ?_
          refine qr_istore _ 57 rfl (by decide) rfl rfl ?_
          have hL87 : ∀ (n : Nat) (ls : qm_L) (u76 : Int) (α78 : Nat → Nat → Int), 360 - u76 < (n : Int) → qm_get ls 0 = some (.ref 86) → qm_get ls 1 = some (.int (qz x1)) → qm_get ls 4 = some (.int (qz u76)) → (0 ≤ u76 ∧ u76 ≤ 360) → qI σ α78 κ ρ → qFr [] [121, 122, 123] σ α σ α78 → α78 123 = (qzfl (α 123) (60 * x1 : Int).toNat (u76 - 60 * x1 : Int).toNat) → α78 121 = (qzu (α 121) (x1 : Int).toNat (60 + x2)) → α78 122 = (qzu (α 122) (x1 : Int).toNat x3) → 60 * x1 ≤ u76 ∧ u76 ≤ 60 * x1 + 60 → (60 * x1) ≤ u76 → qr_W (qe L xs vb) (d + 2) qx_e263 (fun r w' => ∃ α', w' = qw σ α' κ ρ ∧ qI σ α' κ ρ ∧ qFr [] [121, 122, 123] σ α σ α' ∧ ∃ v : Int, r = some (.int (qz v)) ∧ ((-2147483648) ≤ v ∧ v ≤ 2147483647) ∧ (((v = -1 ∧ ¬ (0 ≤ x1 ∧ x1 ≤ 5 ∧ 0 ≤ x2 ∧ x2 ≤ 4 ∧ x3 ≤ 60)) ∧ α' 121 = α 121 ∧ α' 122 = α 122 ∧ α' 123 = α 123) ∨ ((v = -14 ∧ (0 ≤ x1 ∧ x1 ≤ 5 ∧ 0 ≤ x2 ∧ x2 ≤ 4 ∧ x3 ≤ 60) ∧ x3 < 0) ∧ α' 121 = α 121 ∧ α' 122 = α 122 ∧ α' 123 = α 123) ∨ ((v = 1 ∧ (0 ≤ x1 ∧ x1 ≤ 5 ∧ 0 ≤ x2 ∧ x2 ≤ 4 ∧ x3 ≤ 60) ∧ 0 ≤ x3) ∧ α' 121 = qzu (α 121) (x1 : Int).toNat (60 + x2) ∧ α' 122 = qzu (α 122) (x1 : Int).toNat (x3) ∧ α' 123 = qzfl (α 123) (60 * x1 : Int).toNat 60))) (57, ls, [], qw σ α78 κ ρ, 0, 0) := by
            intro n
            induction n with
            | zero => intro ls u76 α78 hm g73 g74 g75 hf81 hI79 hF80 hx82 hx83 hx84 hx85 hx86; exact False.elim (by omega)
            | succ n ih88 =>
              intro ls u76 α78 hm g73 g74 g75 hf81 hI79 hF80 hx82 hx83 hx84 hx85 hx86
              refine qr_iload 59 rfl g75 rfl ?_
              refine qr_bipush 61 rfl (by decide) rfl ?_
              refine qr_iload_n 62 rfl g74 rfl ?_
              refine qr_imul 63 rfl rfl ?_
              refine qr_bipush 65 rfl (by decide) rfl ?_
              refine qr_iadd 66 rfl rfl ?_
              refine qr_icmp_ge 83 69 rfl rfl rfl (qrg hf81 (by decide) (by decide)) (by omega) (fun h89 => ?_) (fun h89 => ?_)
              · skip
                refine qr_iconst 84 rfl rfl ?_
                refine qr_retI rfl rfl (by decide) (by decide) ?_
                exact ⟨_, rfl, hI79, hF80, 1, rfl, (by decide), (Or.inr (Or.inr (⟨by omega, hx83, hx84, (hx82.trans (by congr 1; omega))⟩)))⟩
              · skip
                refine qr_aload_n 70 rfl g73 rfl ?_
                refine qr_get 73 rfl rfl rfl (by decide) rfl ?_
                refine qr_iload 75 rfl g75 rfl ?_
                refine qr_lconst 76 rfl rfl ?_
                refine qy_vl 0 rfl ?_
                refine qr_lastore 77 rfl (by decide) rfl (by omega) (by decide) rfl ?_
                refine qy_wA (qw_r α78 123 (qzu (α78 123) (u76 : Int).toNat 0)) rfl (fun α90 e91 => ?_)
                have hI92 : qI σ α90 κ ρ := by rw [e91]; exact qI_r hI79 123 _ rfl (show (-9223372036854775808) ≤ 0 ∧ 0 ≤ 9223372036854775807 by omega)
                have hF93 : qFr [] [121, 122, 123] σ α σ α90 := by rw [e91]; exact qFr_r hF80 123 _ (by decide)
                refine qr_iinc _ 80 rfl g75 (by decide) rfl rfl ?_
                refine qr_goto 57 rfl rfl ?_
                exact ih88 _ (u76 + 1) α90 (by omega) (qm_gk g73 (by decide) (Or.inl (by decide))) (qm_gk g74 (by decide) (Or.inl (by decide))) (qm_ge _ _ _) (by omega) hI92 hF93 (((congrFun e91 123).trans (qw_r_eq.trans (congrArg (fun f => qzu f (u76 : Int).toNat 0) hx82))).trans (qzfl_s (by omega) (by omega))) ((congrFun e91 121).trans ((qw_r_ne (by decide)).trans hx83)) ((congrFun e91 122).trans ((qw_r_ne (by decide)).trans hx84)) (by omega) (by omega)
          exact hL87 ((360 - (60 * x1) + 1 : Int)).toNat _ (60 * x1) α13 (by omega) rfl rfl rfl (by omega) hI15 hF16 (((congrFun e14 123).trans ((qw_r_ne (by decide)).trans ((congrFun e10 123).trans ((qw_r_ne (by decide)).trans rfl)))).trans ((qzfl_0 _ _).trans (by congr 1; omega))) ((congrFun e14 121).trans ((qw_r_ne (by decide)).trans ((congrFun e10 121).trans (qw_r_eq.trans (congrArg (fun f => qzu f (x1 : Int).toNat (60 + x2)) rfl))))) ((congrFun e14 122).trans (qw_r_eq.trans (congrArg (fun f => qzu f (x1 : Int).toNat x3) ((congrFun e10 122).trans ((qw_r_ne (by decide)).trans rfl))))) (by omega) (by omega)
        · skip
          refine qr_bipush 33 rfl (by decide) rfl ?_
          refine qr_retI rfl rfl (by decide) (by decide) ?_
          exact ⟨_, rfl, hI, hF0, (-14), rfl, (by decide), (Or.inr (Or.inl ⟨by omega, rfl, rfl, rfl⟩))⟩
      · skip
        refine qr_iconst 26 rfl rfl ?_
        refine qr_retI rfl rfl (by decide) (by decide) ?_
        exact ⟨_, rfl, hI, hF0, (-1), rfl, (by decide), (Or.inl ⟨by omega, rfl, rfl, rfl⟩)⟩

set_option maxHeartbeats 4000000 in
set_option maxRecDepth 20000 in
/-- OneRoofModel.refusal -/
theorem sf_265_86x {L : Nat} {xs : Nat → Int} {vb : Bool} {d : Nat} {σ α : Nat → Nat → Int} {κ : Nat → Option Nat} {ρ : Nat} {x1 : Int} {x2 : Int} (hI : qI σ α κ ρ) (r1 : (-2147483648) ≤ x1 ∧ x1 ≤ 2147483647) (r2 : (-2147483648) ≤ x2 ∧ x2 ≤ 2147483647) : qm_T (qe L xs vb) (d + 3) 265 [.ref 86, .int (qz x1), .int (qz x2)] (qw σ α κ ρ) (fun r w' => w' = qw σ α κ ρ ∧ ∃ v : Int, r = some (.int (qz v)) ∧ ((-13) ≤ v ∧ v ≤ 0) ∧ ((v = -1 ∧ ¬ (0 ≤ x1 ∧ x1 ≤ 5)) ∨ (v = -11 ∧ 0 ≤ x1 ∧ x1 ≤ 5 ∧ α 121 (x1 : Int).toNat < 0) ∨ (v = -12 ∧ 0 ≤ x1 ∧ x1 ≤ 5 ∧ 0 ≤ α 121 (x1 : Int).toNat ∧ α 121 (x1 : Int).toNat < 60) ∨ (v = -13 ∧ 0 ≤ x1 ∧ x1 ≤ 5 ∧ 60 ≤ α 121 (x1 : Int).toNat ∧ ¬ (0 ≤ x2 ∧ x2 < α 122 (x1 : Int).toNat)) ∨ (v = 0 ∧ 0 ≤ x1 ∧ x1 ≤ 5 ∧ 60 ≤ α 121 (x1 : Int).toNat ∧ 0 ≤ x2 ∧ x2 < α 122 (x1 : Int).toNat))) := by
  refine qr_start (d := d + 2) qv_e265 (Nat.le_of_ble_eq_true rfl) ?_
  show qr_W (qe L xs vb) (d + 2) qx_e265 _ (0, [(0, .ref 86), (1, .int (qz x1)), (2, .int (qz x2))], [], _, 0, 0)
  have qx1_121 : 0 ≤ x1 ∧ x1 ≤ 5 → -1 ≤ α 121 (x1 : Int).toNat ∧ α 121 (x1 : Int).toNat ≤ 64 := fun h => hI.2.1 121 _ (show (x1 : Int).toNat < 6 by omega)
  have qx1_122 : 0 ≤ x1 ∧ x1 ≤ 5 → 0 ≤ α 122 (x1 : Int).toNat ∧ α 122 (x1 : Int).toNat ≤ 60 := fun h => hI.2.1 122 _ (show (x1 : Int).toNat < 6 by omega)
  refine qr_iload_n 1 rfl rfl rfl ?_
  refine qr_callN 4 rfl rfl rfl (sf_178 (d := d + 0) hI r1) ?_
  rintro _ _ ⟨rfl, v1, rfl, hv1, hp2⟩
  show qr_W (qe L xs vb) (d + 2) qx_e265 _ (4, _, [.int (qz v1)], qw σ α κ ρ, 0, 0)
  refine qr_if_ne 9 7 rfl rfl rfl (qrg hv1 (by decide) (by decide)) (fun h3 => ?_) (fun h3 => ?_)
  · skip
    refine qr_aload_n 10 rfl rfl rfl ?_
    refine qr_get 13 rfl rfl rfl (by decide) rfl ?_
    refine qr_iload_n 14 rfl rfl rfl ?_
    refine qr_iaload 15 rfl rfl (by omega) (by decide) rfl ?_
    refine qr_topI (fun v4 hv4 => ?_)
    have hs5 : (-1) ≤ v4 ∧ v4 ≤ 64 := by rw [hv4]; exact hI.2.1 121 _ (show _ < 6 by omega)
    refine qr_if_ge 21 18 rfl rfl rfl (qrg hs5 (by decide) (by decide)) (fun h6 => ?_) (fun h6 => ?_)
    · skip
      refine qr_aload_n 22 rfl rfl rfl ?_
      refine qr_get 25 rfl rfl rfl (by decide) rfl ?_
      refine qr_iload_n 26 rfl rfl rfl ?_
      refine qr_iaload 27 rfl rfl (by omega) (by decide) rfl ?_
      refine qr_topI (fun v7 hv7 => ?_)
      have hs8 : (-1) ≤ v7 ∧ v7 ≤ 64 := by rw [hv7]; exact hI.2.1 121 _ (show _ < 6 by omega)
      refine qr_bipush 29 rfl (by decide) rfl ?_
      refine qr_icmp_ge 35 32 rfl rfl rfl (qrg hs8 (by decide) (by decide)) (by decide) (fun h9 => ?_) (fun h9 => ?_)
      · skip
        refine qr_iload_n 36 rfl rfl rfl ?_
        refine qr_if_lt 53 39 rfl rfl rfl r2 (fun h10 => ?_) (fun h10 => ?_)
        · skip
          refine qr_bipush 55 rfl (by decide) rfl ?_
          refine qr_retI rfl rfl (by decide) (by decide) ?_
          exact ⟨rfl, (-13), rfl, (by decide), by omega⟩
        · skip
          refine qr_iload_n 40 rfl rfl rfl ?_
          refine qr_aload_n 41 rfl rfl rfl ?_
          refine qr_get 44 rfl rfl rfl (by decide) rfl ?_
          refine qr_iload_n 45 rfl rfl rfl ?_
          refine qr_iaload 46 rfl rfl (by omega) (by decide) rfl ?_
          refine qr_topI (fun v11 hv11 => ?_)
          have hs12 : 0 ≤ v11 ∧ v11 ≤ 60 := by rw [hv11]; exact hI.2.1 122 _ (show _ < 6 by omega)
          refine qr_icmp_ge 53 49 rfl rfl rfl r2 (qrg hs12 (by decide) (by decide)) (fun h13 => ?_) (fun h13 => ?_)
          · skip
            refine qr_bipush 55 rfl (by decide) rfl ?_
            refine qr_retI rfl rfl (by decide) (by decide) ?_
            exact ⟨rfl, (-13), rfl, (by decide), by omega⟩
          · skip
            refine qr_iconst 50 rfl rfl ?_
            refine qr_goto 55 rfl rfl ?_
            refine qr_retI rfl rfl (by decide) (by decide) ?_
            exact ⟨rfl, 0, rfl, (by decide), by omega⟩
      · skip
        refine qr_bipush 34 rfl (by decide) rfl ?_
        refine qr_retI rfl rfl (by decide) (by decide) ?_
        exact ⟨rfl, (-12), rfl, (by decide), by omega⟩
    · skip
      refine qr_bipush 20 rfl (by decide) rfl ?_
      refine qr_retI rfl rfl (by decide) (by decide) ?_
      exact ⟨rfl, (-11), rfl, (by decide), by omega⟩
  · skip
    refine qr_iconst 8 rfl rfl ?_
    refine qr_retI rfl rfl (by decide) (by decide) ?_
    exact ⟨rfl, (-1), rfl, (by decide), by omega⟩

set_option maxHeartbeats 4000000 in
set_option maxRecDepth 20000 in
/-- OneRoofModel.asSort -/
theorem sf_266x {L : Nat} {xs : Nat → Int} {vb : Bool} {d : Nat} {σ α : Nat → Nat → Int} {κ : Nat → Option Nat} {ρ : Nat} {x0 : Int} {x1 : Int} (hI : qI σ α κ ρ) (r0 : 0 ≤ x0 ∧ x0 ≤ 4) (r1 : (-9223372036854775808) ≤ x1 ∧ x1 ≤ 9223372036854775807) : qm_T (qe L xs vb) (d + 1) 266 [.int (qz x0), .long (ql x1)] (qw σ α κ ρ) (fun r w' => w' = qw σ α κ ρ ∧ ∃ v : Int, r = some (.long (ql v)) ∧ ((-9223372036854775808) ≤ v ∧ v ≤ 9223372036854775807) ∧ v = qnar x0 x1) := by
  refine qr_start (d := d + 0) qv_e266 (Nat.le_of_ble_eq_true rfl) ?_
  show qr_W (qe L xs vb) (d + 0) qx_e266 _ (0, [(0, .int (qz x0)), (1, .long (ql x1))], [], _, 0, 0)
  refine qr_iload_n 1 rfl rfl rfl ?_
  refine qr_if_ne 11 4 rfl rfl rfl (qrg r0 (by decide) (by decide)) (fun h1 => ?_) (fun h1 => ?_)
  · skip
    refine qr_iload_n 12 rfl rfl rfl ?_
    refine qr_iconst 13 rfl rfl ?_
    refine qr_icmp_ne 23 16 rfl rfl rfl (qrg r0 (by decide) (by decide)) (by decide) (fun h2 => ?_) (fun h2 => ?_)
    · skip
      refine qr_iload_n 24 rfl rfl rfl ?_
      refine qr_iconst 25 rfl rfl ?_
      refine qr_icmp_ne 34 28 rfl rfl rfl (qrg r0 (by decide) (by decide)) (by decide) (fun h3 => ?_) (fun h3 => ?_)
      · skip
        refine qr_iload_n 35 rfl rfl rfl ?_
        refine qr_iconst 36 rfl rfl ?_
        refine qr_icmp_ne 53 39 rfl rfl rfl (qrg r0 (by decide) (by decide)) (by decide) (fun h4 => ?_) (fun h4 => ?_)
        · skip
          refine qr_lload_n 54 rfl rfl rfl ?_
          refine qr_retL rfl rfl (by decide) (by decide) ?_
          exact ⟨rfl, x1, rfl, r1, (by unfold qnar; rw [if_neg (by omega), if_neg (by omega), if_neg (by omega), if_pos (by omega)])⟩
        · skip
          refine qr_lload_n 40 rfl rfl rfl ?_
          refine qr_lconst 41 rfl rfl ?_
          refine qy_vl 0 rfl ?_
          refine qr_lc_eq 49 45 rfl rfl rfl rfl r1 (by decide) (fun h5 => ?_) (fun h5 => ?_)
          · skip
            refine qr_lconst 50 rfl rfl ?_
            refine qy_vl 0 rfl ?_
            refine qr_goto 54 rfl rfl ?_
            refine qr_retL rfl rfl (by decide) (by decide) ?_
            exact ⟨rfl, 0, rfl, (by decide), (by unfold qnar; rw [if_neg (by omega), if_neg (by omega), if_neg (by omega), if_neg (by omega)]; first | (rw [if_pos (by omega)]) | (rw [if_neg (by omega)]))⟩
          · skip
            refine qr_lconst 46 rfl rfl ?_
            refine qy_vl 1 rfl ?_
            refine qr_goto 54 rfl rfl ?_
            refine qr_retL rfl rfl (by decide) (by decide) ?_
            exact ⟨rfl, 1, rfl, (by decide), (by unfold qnar; rw [if_neg (by omega), if_neg (by omega), if_neg (by omega), if_neg (by omega)]; first | (rw [if_pos (by omega)]) | (rw [if_neg (by omega)]))⟩
      · skip
        refine qr_lload_n 29 rfl rfl rfl ?_
        refine qr_l2i 30 rfl rfl ?_
        refine qy_canE (fun v6 hv6 hev6 => ?_)
        refine qr_i2l 31 rfl hv6 rfl ?_
        refine qr_goto 54 rfl rfl ?_
        refine qr_retL rfl rfl (by decide) (by decide) ?_
        exact ⟨rfl, v6, rfl, (qrg hv6 (by decide) (by decide)), (by unfold qnar; rw [if_neg (by omega), if_neg (by omega), if_pos (by omega)]; exact qna_i hev6 (by omega))⟩
    · skip
      refine qr_lload_n 17 rfl rfl rfl ?_
      refine qr_l2i 18 rfl rfl ?_
      refine qy_canE (fun v7 hv7 hev7 => ?_)
      refine qr_i2s 19 rfl rfl ?_
      refine qy_canE (fun v8 hv8 hev8 => ?_)
      refine qr_i2l 20 rfl hv8 rfl ?_
      refine qr_goto 54 rfl rfl ?_
      refine qr_retL rfl rfl (by decide) (by decide) ?_
      exact ⟨rfl, v8, rfl, (qrg hv8 (by decide) (by decide)), (by unfold qnar; rw [if_neg (by omega), if_pos (by omega)]; exact qna_s hev7 hev8 (by omega))⟩
  · skip
    refine qr_lload_n 5 rfl rfl rfl ?_
    refine qr_l2i 6 rfl rfl ?_
    refine qy_canE (fun v9 hv9 hev9 => ?_)
    refine qr_i2b 7 rfl rfl ?_
    refine qy_canE (fun v10 hv10 hev10 => ?_)
    refine qr_i2l 8 rfl hv10 rfl ?_
    refine qr_goto 54 rfl rfl ?_
    refine qr_retL rfl rfl (by decide) (by decide) ?_
    exact ⟨rfl, v10, rfl, (qrg hv10 (by decide) (by decide)), (by unfold qnar; rw [if_pos (by omega)]; exact qna_b hev9 hev10 (by omega))⟩

set_option maxHeartbeats 4000000 in
set_option maxRecDepth 20000 in
/-- OneRoofModel.put -/
theorem sf_264_86x {L : Nat} {xs : Nat → Int} {vb : Bool} {d : Nat} {σ α : Nat → Nat → Int} {κ : Nat → Option Nat} {ρ : Nat} {x1 : Int} {x2 : Int} {x3 : Int} (hI : qI σ α κ ρ) (r1 : (-2147483648) ≤ x1 ∧ x1 ≤ 2147483647) (r2 : (-2147483648) ≤ x2 ∧ x2 ≤ 2147483647) (r3 : (-9223372036854775808) ≤ x3 ∧ x3 ≤ 9223372036854775807) : qm_T (qe L xs vb) (d + 4) 264 [.ref 86, .int (qz x1), .int (qz x2), .long (ql x3)] (qw σ α κ ρ) (fun r w' => ∃ α', w' = qw σ α' κ ρ ∧ qI σ α' κ ρ ∧ qFr [] [123] σ α σ α' ∧ ∃ v : Int, r = some (.int (qz v)) ∧ ((-2147483648) ≤ v ∧ v ≤ 2147483647) ∧ (((¬ v = 0 ∧ ((v = -1 ∧ ¬ (0 ≤ x1 ∧ x1 ≤ 5)) ∨ (v = -11 ∧ 0 ≤ x1 ∧ x1 ≤ 5 ∧ α 121 (x1 : Int).toNat < 0) ∨ (v = -12 ∧ 0 ≤ x1 ∧ x1 ≤ 5 ∧ 0 ≤ α 121 (x1 : Int).toNat ∧ α 121 (x1 : Int).toNat < 60) ∨ (v = -13 ∧ 0 ≤ x1 ∧ x1 ≤ 5 ∧ 60 ≤ α 121 (x1 : Int).toNat ∧ ¬ (0 ≤ x2 ∧ x2 < α 122 (x1 : Int).toNat)) ∨ (v = 0 ∧ 0 ≤ x1 ∧ x1 ≤ 5 ∧ 60 ≤ α 121 (x1 : Int).toNat ∧ 0 ≤ x2 ∧ x2 < α 122 (x1 : Int).toNat))) ∧ α' 123 = α 123) ∨ ((v = 1 ∧ (0 ≤ x1 ∧ x1 ≤ 5) ∧ 60 ≤ α 121 (x1 : Int).toNat ∧ 0 ≤ x2 ∧ x2 < α 122 (x1 : Int).toNat) ∧ α' 123 = qzu (α 123) (60 * x1 + x2 : Int).toNat (qnar (α 121 (x1 : Int).toNat - 60) x3)))) := by
  refine qr_start (d := d + 3) qv_e264 (Nat.le_of_ble_eq_true rfl) ?_
  show qr_W (qe L xs vb) (d + 3) qx_e264 _ (0, [(0, .ref 86), (1, .int (qz x1)), (2, .int (qz x2)), (3, .long (ql x3))], [], _, 0, 0)
  have hF0 := qFr_rf [] [123] σ α
  have qx1_121 : 0 ≤ x1 ∧ x1 ≤ 5 → -1 ≤ α 121 (x1 : Int).toNat ∧ α 121 (x1 : Int).toNat ≤ 64 := fun h => hI.2.1 121 _ (show (x1 : Int).toNat < 6 by omega)
  have qx1_122 : 0 ≤ x1 ∧ x1 ≤ 5 → 0 ≤ α 122 (x1 : Int).toNat ∧ α 122 (x1 : Int).toNat ≤ 60 := fun h => hI.2.1 122 _ (show (x1 : Int).toNat < 6 by omega)
  refine qr_aload_n 1 rfl rfl rfl ?_
  refine qr_iload_n 2 rfl rfl rfl ?_
  refine qr_iload_n 3 rfl rfl rfl ?_
  refine qr_callN 6 rfl rfl rfl (sf_265_86x (d := d + 0) hI r1 r2) ?_
  rintro _ _ ⟨rfl, v1, rfl, hv1, hp2⟩
  show qr_W (qe L xs vb) (d + 3) qx_e264 _ (6, _, [.int (qz v1)], qw σ α κ ρ, 0, 0)
  refine qr_istore _ 8 rfl (by decide) rfl rfl ?_
  refine qr_iload 10 rfl rfl rfl ?_
  refine qr_if_ne 37 13 rfl rfl rfl (qrg hv1 (by decide) (by decide)) (fun h3 => ?_) (fun h3 => ?_)
  · skip
    refine qr_iload 39 rfl rfl rfl ?_
    refine qr_if_ne 46 42 rfl rfl rfl (qrg hv1 (by decide) (by decide)) (fun h4 => ?_) (fun h => False.elim (by omega))
    refine qr_iload 48 rfl rfl rfl ?_
    refine qr_retI rfl rfl (by decide) (by decide) ?_
    exact ⟨_, rfl, hI, hF0, v1, rfl, (qrg hv1 (by decide) (by decide)), (Or.inl ⟨by omega, rfl⟩)⟩
  · skip
    refine qr_aload_n 14 rfl rfl rfl ?_
    refine qr_get 17 rfl rfl rfl (by decide) rfl ?_
    refine qr_bipush 19 rfl (by decide) rfl ?_
    refine qr_iload_n 20 rfl rfl rfl ?_
    refine qr_imul 21 rfl rfl ?_
    refine qr_iload_n 22 rfl rfl rfl ?_
    refine qr_iadd 23 rfl rfl ?_
    refine qr_aload_n 24 rfl rfl rfl ?_
    refine qr_get 27 rfl rfl rfl (by decide) rfl ?_
    refine qr_iload_n 28 rfl rfl rfl ?_
    refine qr_iaload 29 rfl rfl (by omega) (by decide) rfl ?_
    refine qr_topI (fun v5 hv5 => ?_)
    have hs6 : (-1) ≤ v5 ∧ v5 ≤ 64 := by rw [hv5]; exact hI.2.1 121 _ (show _ < 6 by omega)
    refine qr_bipush 31 rfl (by decide) rfl ?_
    refine qr_isub 32 rfl rfl ?_
    refine qr_lload_n 33 rfl rfl rfl ?_
    refine qr_callN 36 rfl rfl rfl (sf_266x (d := d + 2) hI (by omega) r3) ?_
    rintro _ _ ⟨rfl, v7, rfl, hv7, hp8⟩
    show qr_W (qe L xs vb) (d + 3) qx_e264 _ (36, _, [.long (ql v7), .int (qz ((60 * x1) + x2)), .ref 123], qw σ α κ ρ, 0, 0)
    refine qr_lastore 37 rfl (by decide) rfl (by omega) (by decide) rfl ?_
    refine qy_wA (qw_r α 123 (qzu (α 123) (((60 * x1) + x2) : Int).toNat v7)) rfl (fun α9 e10 => ?_)
    have hI11 : qI σ α9 κ ρ := by rw [e10]; exact qI_r hI 123 _ rfl (show (-9223372036854775808) ≤ v7 ∧ v7 ≤ 9223372036854775807 by omega)
    have hF12 : qFr [] [123] σ α σ α9 := by rw [e10]; exact qFr_r hF0 123 _ (by decide)
    refine qr_iload 39 rfl rfl rfl ?_
    refine qr_if_ne 46 42 rfl rfl rfl (qrg hv1 (by decide) (by decide)) (fun h => False.elim (by omega)) (fun h13 => ?_)
    refine qr_iconst 43 rfl rfl ?_
    refine qr_goto 48 rfl rfl ?_
    refine qr_retI rfl rfl (by decide) (by decide) ?_
    exact ⟨_, rfl, hI11, hF12, 1, rfl, (by decide), (Or.inr (⟨by omega, (((congrFun e10 123).trans (qw_r_eq.trans (congrArg (fun f => qzu f (((60 * x1) + x2) : Int).toNat v7) rfl))).trans (by rw [hp8, hv5]))⟩))⟩

set_option maxHeartbeats 4000000 in
set_option maxRecDepth 20000 in
/-- OneRoofModel.element -/
theorem sf_267_86x {L : Nat} {xs : Nat → Int} {vb : Bool} {d : Nat} {σ α : Nat → Nat → Int} {κ : Nat → Option Nat} {ρ : Nat} {x1 : Int} {x2 : Int} (hI : qI σ α κ ρ) (r1 : (-2147483648) ≤ x1 ∧ x1 ≤ 2147483647) (r2 : (-2147483648) ≤ x2 ∧ x2 ≤ 2147483647) : qm_T (qe L xs vb) (d + 4) 267 [.ref 86, .int (qz x1), .int (qz x2)] (qw σ α κ ρ) (fun r w' => w' = qw σ α κ ρ ∧ ∃ v : Int, r = some (.long (ql v)) ∧ ((-9223372036854775808) ≤ v ∧ v ≤ 9223372036854775807) ∧ ((v = -9223372036854775808 ∧ ¬ (0 ≤ x1 ∧ x1 ≤ 5 ∧ 60 ≤ α 121 (x1 : Int).toNat ∧ 0 ≤ x2 ∧ x2 < α 122 (x1 : Int).toNat)) ∨ ((0 ≤ x1 ∧ x1 ≤ 5 ∧ 60 ≤ α 121 (x1 : Int).toNat ∧ 0 ≤ x2 ∧ x2 < α 122 (x1 : Int).toNat) ∧ v = α 123 (60 * x1 + x2 : Int).toNat))) := by
  refine qr_start (d := d + 3) qv_e267 (Nat.le_of_ble_eq_true rfl) ?_
  show qr_W (qe L xs vb) (d + 3) qx_e267 _ (0, [(0, .ref 86), (1, .int (qz x1)), (2, .int (qz x2))], [], _, 0, 0)
  have qx1_121 : 0 ≤ x1 ∧ x1 ≤ 5 → -1 ≤ α 121 (x1 : Int).toNat ∧ α 121 (x1 : Int).toNat ≤ 64 := fun h => hI.2.1 121 _ (show (x1 : Int).toNat < 6 by omega)
  have qx1_122 : 0 ≤ x1 ∧ x1 ≤ 5 → 0 ≤ α 122 (x1 : Int).toNat ∧ α 122 (x1 : Int).toNat ≤ 60 := fun h => hI.2.1 122 _ (show (x1 : Int).toNat < 6 by omega)
  refine qr_aload_n 1 rfl rfl rfl ?_
  refine qr_iload_n 2 rfl rfl rfl ?_
  refine qr_iload_n 3 rfl rfl rfl ?_
  refine qr_callN 6 rfl rfl rfl (sf_265_86x (d := d + 0) hI r1 r2) ?_
  rintro _ _ ⟨rfl, v1, rfl, hv1, hp2⟩
  show qr_W (qe L xs vb) (d + 3) qx_e267 _ (6, _, [.int (qz v1)], qw σ α κ ρ, 0, 0)
  refine qr_if_eq 15 9 rfl rfl rfl (qrg hv1 (by decide) (by decide)) (fun h3 => ?_) (fun h3 => ?_)
  · skip
    refine qr_aload_n 16 rfl rfl rfl ?_
    refine qr_get 19 rfl rfl rfl (by decide) rfl ?_
    refine qr_bipush 21 rfl (by decide) rfl ?_
    refine qr_iload_n 22 rfl rfl rfl ?_
    refine qr_imul 23 rfl rfl ?_
    refine qr_iload_n 24 rfl rfl rfl ?_
    refine qr_iadd 25 rfl rfl ?_
    refine qr_laload 26 rfl (by decide) rfl (by omega) (by decide) rfl ?_
    refine qr_topL (fun v4 hv4 => ?_)
    have hs5 : (-9223372036854775808) ≤ v4 ∧ v4 ≤ 9223372036854775807 := by rw [hv4]; exact hI.2.1 123 _ (show _ < 360 by omega)
    refine qr_retL rfl rfl (by decide) (by decide) ?_
    exact ⟨rfl, v4, rfl, hs5, by omega⟩
  · skip
    refine qr_ldc2 (-9223372036854775808) 12 rfl (by decide) rfl ?_
    refine qr_goto 26 rfl rfl ?_
    refine qr_retL rfl rfl (by decide) (by decide) ?_
    exact ⟨rfl, (-9223372036854775808), rfl, (by decide), by omega⟩

set_option maxHeartbeats 4000000 in
set_option maxRecDepth 20000 in
/-- OneRoofModel.shift -/
theorem sf_268_86x {L : Nat} {xs : Nat → Int} {vb : Bool} {d : Nat} {σ α : Nat → Nat → Int} {κ : Nat → Option Nat} {ρ : Nat} {x1 : Int} {x2 : Int} {x3 : Int} {x4 : Int} {x5 : Int} (hI : qI σ α κ ρ) (r1 : (-2147483648) ≤ x1 ∧ x1 ≤ 2147483647) (r2 : (-2147483648) ≤ x2 ∧ x2 ≤ 2147483647) (r3 : (-2147483648) ≤ x3 ∧ x3 ≤ 2147483647) (r4 : (-2147483648) ≤ x4 ∧ x4 ≤ 2147483647) (r5 : (-2147483648) ≤ x5 ∧ x5 ≤ 2147483647) : qm_T (qe L xs vb) (d + 3) 268 [.ref 86, .int (qz x1), .int (qz x2), .int (qz x3), .int (qz x4), .int (qz x5)] (qw σ α κ ρ) (fun r w' => ∃ α', w' = qw σ α' κ ρ ∧ qI σ α' κ ρ ∧ qFr [] [123, 124] σ α σ α' ∧ ∃ v : Int, r = some (.int (qz v)) ∧ ((-2147483648) ≤ v ∧ v ≤ 2147483647) ∧ (((v = -1 ∧ ¬ (0 ≤ x1 ∧ x1 ≤ 5 ∧ 0 ≤ x3 ∧ x3 ≤ 5)) ∧ α' 123 = α 123) ∨ ((v = -11 ∧ (0 ≤ x1 ∧ x1 ≤ 5 ∧ 0 ≤ x3 ∧ x3 ≤ 5) ∧ (α 121 (x1 : Int).toNat < 0 ∨ α 121 (x3 : Int).toNat < 0)) ∧ α' 123 = α 123) ∨ ((v = -12 ∧ (0 ≤ x1 ∧ x1 ≤ 5 ∧ 0 ≤ x3 ∧ x3 ≤ 5) ∧ ¬ (α 121 (x1 : Int).toNat < 0 ∨ α 121 (x3 : Int).toNat < 0) ∧ ¬ (60 ≤ α 121 (x1 : Int).toNat ∧ α 121 (x1 : Int).toNat = α 121 (x3 : Int).toNat)) ∧ α' 123 = α 123) ∨ ((v = -13 ∧ (0 ≤ x1 ∧ x1 ≤ 5 ∧ 0 ≤ x3 ∧ x3 ≤ 5) ∧ ¬ (α 121 (x1 : Int).toNat < 0 ∨ α 121 (x3 : Int).toNat < 0) ∧ (60 ≤ α 121 (x1 : Int).toNat ∧ α 121 (x1 : Int).toNat = α 121 (x3 : Int).toNat) ∧ ¬ (0 ≤ x2 ∧ 0 ≤ x5 ∧ x5 ≤ α 122 (x1 : Int).toNat ∧ x2 ≤ α 122 (x1 : Int).toNat - x5 ∧ 0 ≤ x4 ∧ x5 ≤ α 122 (x3 : Int).toNat ∧ x4 ≤ α 122 (x3 : Int).toNat - x5)) ∧ α' 123 = α 123) ∨ ((v = x5 ∧ (0 ≤ x1 ∧ x1 ≤ 5 ∧ 0 ≤ x3 ∧ x3 ≤ 5) ∧ ¬ (α 121 (x1 : Int).toNat < 0 ∨ α 121 (x3 : Int).toNat < 0) ∧ (60 ≤ α 121 (x1 : Int).toNat ∧ α 121 (x1 : Int).toNat = α 121 (x3 : Int).toNat) ∧ (0 ≤ x2 ∧ 0 ≤ x5 ∧ x5 ≤ α 122 (x1 : Int).toNat ∧ x2 ≤ α 122 (x1 : Int).toNat - x5 ∧ 0 ≤ x4 ∧ x5 ≤ α 122 (x3 : Int).toNat ∧ x4 ≤ α 122 (x3 : Int).toNat - x5)) ∧ α' 123 = va_cpy (α 123) (α 123) (60 * x1 + x2 : Int).toNat (60 * x3 + x4 : Int).toNat (x5 : Int).toNat))) := by
  refine qr_start (d := d + 2) qv_e268 (Nat.le_of_ble_eq_true rfl) ?_
  show qr_W (qe L xs vb) (d + 2) qx_e268 _ (0, [(0, .ref 86), (1, .int (qz x1)), (2, .int (qz x2)), (3, .int (qz x3)), (4, .int (qz x4)), (5, .int (qz x5))], [], _, 0, 0)
  have hF0 := qFr_rf [] [123, 124] σ α
  have qx1_121 : 0 ≤ x1 ∧ x1 ≤ 5 → -1 ≤ α 121 (x1 : Int).toNat ∧ α 121 (x1 : Int).toNat ≤ 64 := fun h => hI.2.1 121 _ (show (x1 : Int).toNat < 6 by omega)
  have qx1_122 : 0 ≤ x1 ∧ x1 ≤ 5 → 0 ≤ α 122 (x1 : Int).toNat ∧ α 122 (x1 : Int).toNat ≤ 60 := fun h => hI.2.1 122 _ (show (x1 : Int).toNat < 6 by omega)
  have qx3_121 : 0 ≤ x3 ∧ x3 ≤ 5 → -1 ≤ α 121 (x3 : Int).toNat ∧ α 121 (x3 : Int).toNat ≤ 64 := fun h => hI.2.1 121 _ (show (x3 : Int).toNat < 6 by omega)
  have qx3_122 : 0 ≤ x3 ∧ x3 ≤ 5 → 0 ≤ α 122 (x3 : Int).toNat ∧ α 122 (x3 : Int).toNat ≤ 60 := fun h => hI.2.1 122 _ (show (x3 : Int).toNat < 6 by omega)
  refine qr_iload_n 1 rfl rfl rfl ?_
  refine qr_callN 4 rfl rfl rfl (sf_178 (d := d + 0) hI r1) ?_
  rintro _ _ ⟨rfl, v1, rfl, hv1, hp2⟩
  show qr_W (qe L xs vb) (d + 2) qx_e268 _ (4, _, [.int (qz v1)], qw σ α κ ρ, 0, 0)
  refine qr_if_eq 14 7 rfl rfl rfl (qrg hv1 (by decide) (by decide)) (fun h3 => ?_) (fun h3 => ?_)
  · skip
    refine qr_iconst 15 rfl rfl ?_
    refine qr_retI rfl rfl (by decide) (by decide) ?_
    exact ⟨_, rfl, hI, hF0, (-1), rfl, (by decide), (Or.inl ⟨by omega, rfl⟩)⟩
  · skip
    refine qr_iload_n 8 rfl rfl rfl ?_
    refine qr_callN 11 rfl rfl rfl (sf_178 (d := d + 0) hI r3) ?_
    rintro _ _ ⟨rfl, v4, rfl, hv4, hp5⟩
    show qr_W (qe L xs vb) (d + 2) qx_e268 _ (11, _, [.int (qz v4)], qw σ α κ ρ, 0, 0)
    refine qr_if_ne 16 14 rfl rfl rfl (qrg hv4 (by decide) (by decide)) (fun h6 => ?_) (fun h6 => ?_)
    · skip
      refine qr_aload_n 17 rfl rfl rfl ?_
      refine qr_get 20 rfl rfl rfl (by decide) rfl ?_
      refine qr_iload_n 21 rfl rfl rfl ?_
      refine qr_iaload 22 rfl rfl (by omega) (by decide) rfl ?_
      refine qr_topI (fun v7 hv7 => ?_)
      have hs8 : (-1) ≤ v7 ∧ v7 ≤ 64 := by rw [hv7]; exact hI.2.1 121 _ (show _ < 6 by omega)
      refine qr_if_lt 34 25 rfl rfl rfl (qrg hs8 (by decide) (by decide)) (fun h9 => ?_) (fun h9 => ?_)
      · skip
        refine qr_bipush 36 rfl (by decide) rfl ?_
        refine qr_retI rfl rfl (by decide) (by decide) ?_
        exact ⟨_, rfl, hI, hF0, (-11), rfl, (by decide), (Or.inr (Or.inl ⟨by omega, rfl⟩))⟩
      · skip
        refine qr_aload_n 26 rfl rfl rfl ?_
        refine qr_get 29 rfl rfl rfl (by decide) rfl ?_
        refine qr_iload_n 30 rfl rfl rfl ?_
        refine qr_iaload 31 rfl rfl (by omega) (by decide) rfl ?_
        refine qr_topI (fun v10 hv10 => ?_)
        have hs11 : (-1) ≤ v10 ∧ v10 ≤ 64 := by rw [hv10]; exact hI.2.1 121 _ (show _ < 6 by omega)
        refine qr_if_ge 37 34 rfl rfl rfl (qrg hs11 (by decide) (by decide)) (fun h12 => ?_) (fun h12 => ?_)
        · skip
          refine qr_aload_n 38 rfl rfl rfl ?_
          refine qr_get 41 rfl rfl rfl (by decide) rfl ?_
          refine qr_iload_n 42 rfl rfl rfl ?_
          refine qr_iaload 43 rfl rfl (by omega) (by decide) rfl ?_
          refine qr_topI (fun v13 hv13 => ?_)
          have hs14 : (-1) ≤ v13 ∧ v13 ≤ 64 := by rw [hv13]; exact hI.2.1 121 _ (show _ < 6 by omega)
          refine qr_bipush 45 rfl (by decide) rfl ?_
          refine qr_icmp_lt 63 48 rfl rfl rfl (qrg hs14 (by decide) (by decide)) (by decide) (fun h15 => ?_) (fun h15 => ?_)
          · skip
            refine qr_bipush 65 rfl (by decide) rfl ?_
            refine qr_retI rfl rfl (by decide) (by decide) ?_
            exact ⟨_, rfl, hI, hF0, (-12), rfl, (by decide), (Or.inr (Or.inr (Or.inl ⟨by omega, rfl⟩)))⟩
          · skip
            refine qr_aload_n 49 rfl rfl rfl ?_
            refine qr_get 52 rfl rfl rfl (by decide) rfl ?_
            refine qr_iload_n 53 rfl rfl rfl ?_
            refine qr_iaload 54 rfl rfl (by omega) (by decide) rfl ?_
            refine qr_topI (fun v16 hv16 => ?_)
            have hs17 : (-1) ≤ v16 ∧ v16 ≤ 64 := by rw [hv16]; exact hI.2.1 121 _ (show _ < 6 by omega)
            refine qr_aload_n 55 rfl rfl rfl ?_
            refine qr_get 58 rfl rfl rfl (by decide) rfl ?_
            refine qr_iload_n 59 rfl rfl rfl ?_
            refine qr_iaload 60 rfl rfl (by omega) (by decide) rfl ?_
            refine qr_topI (fun v18 hv18 => ?_)
            have hs19 : (-1) ≤ v18 ∧ v18 ≤ 64 := by rw [hv18]; exact hI.2.1 121 _ (show _ < 6 by omega)
            refine qr_icmp_eq 66 63 rfl rfl rfl (qrg hs17 (by decide) (by decide)) (qrg hs19 (by decide) (by decide)) (fun h20 => ?_) (fun h20 => ?_)
            · skip
              refine qr_iload 68 rfl rfl rfl ?_
              refine qr_if_lt 107 71 rfl rfl rfl r5 (fun h21 => ?_) (fun h21 => ?_)
              · skip
                refine qr_bipush 109 rfl (by decide) rfl ?_
                refine qr_retI rfl rfl (by decide) (by decide) ?_
                exact ⟨_, rfl, hI, hF0, (-13), rfl, (by decide), (Or.inr (Or.inr (Or.inr (Or.inl ⟨by omega, rfl⟩))))⟩
              · skip
                refine qr_iload_n 72 rfl rfl rfl ?_
                refine qr_if_lt 107 75 rfl rfl rfl r2 (fun h22 => ?_) (fun h22 => ?_)
                · skip
                  refine qr_bipush 109 rfl (by decide) rfl ?_
                  refine qr_retI rfl rfl (by decide) (by decide) ?_
                  exact ⟨_, rfl, hI, hF0, (-13), rfl, (by decide), (Or.inr (Or.inr (Or.inr (Or.inl ⟨by omega, rfl⟩))))⟩
                · skip
                  refine qr_iload 77 rfl rfl rfl ?_
                  refine qr_if_lt 107 80 rfl rfl rfl r4 (fun h23 => ?_) (fun h23 => ?_)
                  · skip
                    refine qr_bipush 109 rfl (by decide) rfl ?_
                    refine qr_retI rfl rfl (by decide) (by decide) ?_
                    exact ⟨_, rfl, hI, hF0, (-13), rfl, (by decide), (Or.inr (Or.inr (Or.inr (Or.inl ⟨by omega, rfl⟩))))⟩
                  · skip
                    refine qr_iload_n 81 rfl rfl rfl ?_
                    refine qr_aload_n 82 rfl rfl rfl ?_
                    refine qr_get 85 rfl rfl rfl (by decide) rfl ?_
                    refine qr_iload_n 86 rfl rfl rfl ?_
                    refine qr_iaload 87 rfl rfl (by omega) (by decide) rfl ?_
                    refine qr_topI (fun v24 hv24 => ?_)
                    have hs25 : 0 ≤ v24 ∧ v24 ≤ 60 := by rw [hv24]; exact hI.2.1 122 _ (show _ < 6 by omega)
                    refine qr_iload 89 rfl rfl rfl ?_
                    refine qr_isub 90 rfl rfl ?_
                    refine qr_icmp_gt 107 93 rfl rfl rfl r2 (by omega) (fun h26 => ?_) (fun h26 => ?_)
                    · skip
                      refine qr_bipush 109 rfl (by decide) rfl ?_
                      refine qr_retI rfl rfl (by decide) (by decide) ?_
                      exact ⟨_, rfl, hI, hF0, (-13), rfl, (by decide), (Or.inr (Or.inr (Or.inr (Or.inl ⟨by omega, rfl⟩))))⟩
                    · skip
                      refine qr_iload 95 rfl rfl rfl ?_
                      refine qr_aload_n 96 rfl rfl rfl ?_
                      refine qr_get 99 rfl rfl rfl (by decide) rfl ?_
                      refine qr_iload_n 100 rfl rfl rfl ?_
                      refine qr_iaload 101 rfl rfl (by omega) (by decide) rfl ?_
                      refine qr_topI (fun v27 hv27 => ?_)
                      have hs28 : 0 ≤ v27 ∧ v27 ≤ 60 := by rw [hv27]; exact hI.2.1 122 _ (show _ < 6 by omega)
                      as_aux_lemma =>
                        refine qr_iload 103 rfl rfl rfl ?_
                        refine qr_isub 104 rfl rfl ?_
                        refine qr_icmp_le 110 107 rfl rfl rfl r4 (by omega) (fun h29 => ?_) (fun h29 => ?_)
                        · skip
                          refine qr_iconst 111 rfl rfl ?_
                          refine qr_istore _ 113 rfl (by decide) rfl rfl ?_
                          have hL4156 : ∀ (n : Nat) (ls : qm_L) (u4147 : Int) (α4149 : Nat → Nat → Int), 60 - u4147 < (n : Int) → qm_get ls 0 = some (.ref 86) → qm_get ls 1 = some (.int (qz x1)) → qm_get ls 2 = some (.int (qz x2)) → qm_get ls 3 = some (.int (qz x3)) → qm_get ls 4 = some (.int (qz x4)) → qm_get ls 5 = some (.int (qz x5)) → qm_get ls 6 = some (.int (qz u4147)) → (0 ≤ u4147 ∧ u4147 ≤ 60) → qI σ α4149 κ ρ → qFr [] [123, 124] σ α σ α4149 → α4149 123 = (α 123) → α4149 124 = (va_cpy (α 123) (α 124) (60 * x1 + x2 : Int).toNat 0 (u4147 : Int).toNat) → u4147 ≤ x5 → qr_W (qe L xs vb) (d + 2) qx_e268 (fun r w' => ∃ α', w' = qw σ α' κ ρ ∧ qI σ α' κ ρ ∧ qFr [] [123, 124] σ α σ α' ∧ ∃ v : Int, r = some (.int (qz v)) ∧ ((-2147483648) ≤ v ∧ v ≤ 2147483647) ∧ (((v = -1 ∧ ¬ (0 ≤ x1 ∧ x1 ≤ 5 ∧ 0 ≤ x3 ∧ x3 ≤ 5)) ∧ α' 123 = α 123) ∨ ((v = -11 ∧ (0 ≤ x1 ∧ x1 ≤ 5 ∧ 0 ≤ x3 ∧ x3 ≤ 5) ∧ (α 121 (x1 : Int).toNat < 0 ∨ α 121 (x3 : Int).toNat < 0)) ∧ α' 123 = α 123) ∨ ((v = -12 ∧ (0 ≤ x1 ∧ x1 ≤ 5 ∧ 0 ≤ x3 ∧ x3 ≤ 5) ∧ ¬ (α 121 (x1 : Int).toNat < 0 ∨ α 121 (x3 : Int).toNat < 0) ∧ ¬ (60 ≤ α 121 (x1 : Int).toNat ∧ α 121 (x1 : Int).toNat = α 121 (x3 : Int).toNat)) ∧ α' 123 = α 123) ∨ ((v = -13 ∧ (0 ≤ x1 ∧ x1 ≤ 5 ∧ 0 ≤ x3 ∧ x3 ≤ 5) ∧ ¬ (α 121 (x1 : Int).toNat < 0 ∨ α 121 (x3 : Int).toNat < 0) ∧ (60 ≤ α 121 (x1 : Int).toNat ∧ α 121 (x1 : Int).toNat = α 121 (x3 : Int).toNat) ∧ ¬ (0 ≤ x2 ∧ 0 ≤ x5 ∧ x5 ≤ α 122 (x1 : Int).toNat ∧ x2 ≤ α 122 (x1 : Int).toNat - x5 ∧ 0 ≤ x4 ∧ x5 ≤ α 122 (x3 : Int).toNat ∧ x4 ≤ α 122 (x3 : Int).toNat - x5)) ∧ α' 123 = α 123) ∨ ((v = x5 ∧ (0 ≤ x1 ∧ x1 ≤ 5 ∧ 0 ≤ x3 ∧ x3 ≤ 5) ∧ ¬ (α 121 (x1 : Int).toNat < 0 ∨ α 121 (x3 : Int).toNat < 0) ∧ (60 ≤ α 121 (x1 : Int).toNat ∧ α 121 (x1 : Int).toNat = α 121 (x3 : Int).toNat) ∧ (0 ≤ x2 ∧ 0 ≤ x5 ∧ x5 ≤ α 122 (x1 : Int).toNat ∧ x2 ≤ α 122 (x1 : Int).toNat - x5 ∧ 0 ≤ x4 ∧ x5 ≤ α 122 (x3 : Int).toNat ∧ x4 ≤ α 122 (x3 : Int).toNat - x5)) ∧ α' 123 = va_cpy (α 123) (α 123) (60 * x1 + x2 : Int).toNat (60 * x3 + x4 : Int).toNat (x5 : Int).toNat))) (113, ls, [], qw σ α4149 κ ρ, 0, 0) := by
                            intro n
                            induction n with
                            | zero => intro ls u4147 α4149 hm g4140 g4141 g4142 g4143 g4144 g4145 g4146 hf4152 hI4150 hF4151 hx4153 hx4154 hx4155; exact False.elim (by omega)
                            | succ n ih4157 =>
                              intro ls u4147 α4149 hm g4140 g4141 g4142 g4143 g4144 g4145 g4146 hf4152 hI4150 hF4151 hx4153 hx4154 hx4155
                              refine qr_iload 115 rfl g4146 rfl ?_
                              refine qr_iload 117 rfl g4145 rfl ?_
                              refine qr_icmp_ge 147 120 rfl rfl rfl (qrg hf4152 (by decide) (by decide)) r5 (fun h4158 => ?_) (fun h4158 => ?_)
                              · skip
                                refine qr_iconst 148 rfl rfl ?_
                                refine qr_istore _ 150 rfl (by decide) rfl rfl ?_
                                have hL4413 : ∀ (n : Nat) (ls : qm_L) (u4404 : Int) (α4406 : Nat → Nat → Int), 60 - u4404 < (n : Int) → qm_get ls 0 = some (.ref 86) → qm_get ls 3 = some (.int (qz x3)) → qm_get ls 4 = some (.int (qz x4)) → qm_get ls 5 = some (.int (qz x5)) → qm_get ls 6 = some (.int (qz u4404)) → (0 ≤ u4404 ∧ u4404 ≤ 60) → qI σ α4406 κ ρ → qFr [] [123, 124] σ α σ α4406 → α4406 124 = (va_cpy (α 123) (α 124) (60 * x1 + x2 : Int).toNat 0 (x5 : Int).toNat) → α4406 123 = (va_cpy (va_cpy (α 123) (α 124) (60 * x1 + x2 : Int).toNat 0 (x5 : Int).toNat) (α 123) 0 (60 * x3 + x4 : Int).toNat (u4404 : Int).toNat) → u4404 ≤ x5 → qr_W (qe L xs vb) (d + 2) qx_e268 (fun r w' => ∃ α', w' = qw σ α' κ ρ ∧ qI σ α' κ ρ ∧ qFr [] [123, 124] σ α σ α' ∧ ∃ v : Int, r = some (.int (qz v)) ∧ ((-2147483648) ≤ v ∧ v ≤ 2147483647) ∧ (((v = -1 ∧ ¬ (0 ≤ x1 ∧ x1 ≤ 5 ∧ 0 ≤ x3 ∧ x3 ≤ 5)) ∧ α' 123 = α 123) ∨ ((v = -11 ∧ (0 ≤ x1 ∧ x1 ≤ 5 ∧ 0 ≤ x3 ∧ x3 ≤ 5) ∧ (α 121 (x1 : Int).toNat < 0 ∨ α 121 (x3 : Int).toNat < 0)) ∧ α' 123 = α 123) ∨ ((v = -12 ∧ (0 ≤ x1 ∧ x1 ≤ 5 ∧ 0 ≤ x3 ∧ x3 ≤ 5) ∧ ¬ (α 121 (x1 : Int).toNat < 0 ∨ α 121 (x3 : Int).toNat < 0) ∧ ¬ (60 ≤ α 121 (x1 : Int).toNat ∧ α 121 (x1 : Int).toNat = α 121 (x3 : Int).toNat)) ∧ α' 123 = α 123) ∨ ((v = -13 ∧ (0 ≤ x1 ∧ x1 ≤ 5 ∧ 0 ≤ x3 ∧ x3 ≤ 5) ∧ ¬ (α 121 (x1 : Int).toNat < 0 ∨ α 121 (x3 : Int).toNat < 0) ∧ (60 ≤ α 121 (x1 : Int).toNat ∧ α 121 (x1 : Int).toNat = α 121 (x3 : Int).toNat) ∧ ¬ (0 ≤ x2 ∧ 0 ≤ x5 ∧ x5 ≤ α 122 (x1 : Int).toNat ∧ x2 ≤ α 122 (x1 : Int).toNat - x5 ∧ 0 ≤ x4 ∧ x5 ≤ α 122 (x3 : Int).toNat ∧ x4 ≤ α 122 (x3 : Int).toNat - x5)) ∧ α' 123 = α 123) ∨ ((v = x5 ∧ (0 ≤ x1 ∧ x1 ≤ 5 ∧ 0 ≤ x3 ∧ x3 ≤ 5) ∧ ¬ (α 121 (x1 : Int).toNat < 0 ∨ α 121 (x3 : Int).toNat < 0) ∧ (60 ≤ α 121 (x1 : Int).toNat ∧ α 121 (x1 : Int).toNat = α 121 (x3 : Int).toNat) ∧ (0 ≤ x2 ∧ 0 ≤ x5 ∧ x5 ≤ α 122 (x1 : Int).toNat ∧ x2 ≤ α 122 (x1 : Int).toNat - x5 ∧ 0 ≤ x4 ∧ x5 ≤ α 122 (x3 : Int).toNat ∧ x4 ≤ α 122 (x3 : Int).toNat - x5)) ∧ α' 123 = va_cpy (α 123) (α 123) (60 * x1 + x2 : Int).toNat (60 * x3 + x4 : Int).toNat (x5 : Int).toNat))) (150, ls, [], qw σ α4406 κ ρ, 0, 0) := by
                                  intro n
                                  induction n with
                                  | zero => intro ls u4404 α4406 hm g4399 g4400 g4401 g4402 g4403 hf4409 hI4407 hF4408 hx4410 hx4411 hx4412; exact False.elim (by omega)
                                  | succ n ih4414 =>
                                    intro ls u4404 α4406 hm g4399 g4400 g4401 g4402 g4403 hf4409 hI4407 hF4408 hx4410 hx4411 hx4412
                                    refine qr_iload 152 rfl g4403 rfl ?_
                                    refine qr_iload 154 rfl g4402 rfl ?_
                                    refine qr_icmp_ge 185 157 rfl rfl rfl (qrg hf4409 (by decide) (by decide)) r5 (fun h4415 => ?_) (fun h4415 => ?_)
                                    · skip
                                      refine qr_iload 187 rfl g4402 rfl ?_
                                      refine qr_retI rfl rfl (by decide) (by decide) ?_
                                      exact ⟨_, rfl, hI4407, hF4408, x5, rfl, r5, (Or.inr (Or.inr (Or.inr (Or.inr (⟨by omega, (hx4411.trans ((by congr 1; omega : _ = va_cpy (va_cpy (α 123) (α 124) (60 * x1 + x2 : Int).toNat 0 (x5 : Int).toNat) (α 123) 0 (60 * x3 + x4 : Int).toNat (x5 : Int).toNat).trans (qcpy_2 _ _ _ _ _)))⟩)))))⟩
                                    · skip
                                      refine qr_aload_n 158 rfl g4399 rfl ?_
                                      refine qr_get 161 rfl rfl rfl (by decide) rfl ?_
                                      refine qr_bipush 163 rfl (by decide) rfl ?_
                                      refine qr_iload_n 164 rfl g4400 rfl ?_
                                      refine qr_imul 165 rfl rfl ?_
                                      refine qr_iload 167 rfl g4401 rfl ?_
                                      refine qr_iadd 168 rfl rfl ?_
                                      refine qr_iload 170 rfl g4403 rfl ?_
                                      refine qr_iadd 171 rfl rfl ?_
                                      refine qr_aload_n 172 rfl g4399 rfl ?_
                                      refine qr_get 175 rfl rfl rfl (by decide) rfl ?_
                                      refine qr_iload 177 rfl g4403 rfl ?_
                                      refine qr_laload 178 rfl (by decide) rfl (by omega) (by decide) rfl ?_
                                      refine qr_topL (fun v4416 hv4416 => ?_)
                                      have hs4417 : (-9223372036854775808) ≤ v4416 ∧ v4416 ≤ 9223372036854775807 := by rw [hv4416]; exact hI4407.2.1 124 _ (show _ < 60 by omega)
                                      have hrv4416 : v4416 = (va_cpy (α 123) (α 124) (60 * x1 + x2 : Int).toNat 0 (x5 : Int).toNat) (u4404 : Int).toNat := hv4416.trans (congrFun hx4410 _)
                                      refine qr_lastore 179 rfl (by decide) rfl (by omega) (by decide) rfl ?_
                                      refine qy_wA (qw_r α4406 123 (qzu (α4406 123) ((((60 * x3) + x4) + u4404) : Int).toNat v4416)) rfl (fun α4418 e4419 => ?_)
                                      have hI4420 : qI σ α4418 κ ρ := by rw [e4419]; exact qI_r hI4407 123 _ rfl (show (-9223372036854775808) ≤ v4416 ∧ v4416 ≤ 9223372036854775807 by omega)
                                      have hF4421 : qFr [] [123, 124] σ α σ α4418 := by rw [e4419]; exact qFr_r hF4408 123 _ (by decide)
                                      refine qr_iinc _ 182 rfl g4403 (by decide) rfl rfl ?_
                                      refine qr_goto 150 rfl rfl ?_
                                      exact ih4414 _ (u4404 + 1) α4418 (by omega) (qm_gk g4399 (by decide) (Or.inl (by decide))) (qm_gk g4400 (by decide) (Or.inl (by decide))) (qm_gk g4401 (by decide) (Or.inl (by decide))) (qm_gk g4402 (by decide) (Or.inr rfl)) (qm_ge _ _ _) (by omega) hI4420 hF4421 ((congrFun e4419 124).trans ((qw_r_ne (by decide)).trans hx4410)) (((congrFun e4419 123).trans (qw_r_eq.trans (congrArg (fun f => qzu f ((((60 * x3) + x4) + u4404) : Int).toNat v4416) hx4411))).trans (qcpy_s (by omega) (by omega) (by rw [hv4416, hx4410]; congr 1; omega))) (by omega)
                                exact hL4413 ((60 - 0 + 1 : Int)).toNat _ 0 α4149 (by omega) (qm_gk g4140 (by decide) (Or.inl (by decide))) (qm_gk g4143 (by decide) (Or.inl (by decide))) (qm_gk g4144 (by decide) (Or.inl (by decide))) (qm_gk g4145 (by decide) (Or.inr rfl)) (qm_ge _ _ _) (by decide) hI4150 hF4151 (hx4154.trans (by congr 1; omega)) (hx4153.trans (qcpy_0 _ _ _ _)) (by omega)
                              · skip
                                refine qr_aload_n 121 rfl g4140 rfl ?_
                                refine qr_get 124 rfl rfl rfl (by decide) rfl ?_
                                refine qr_iload 126 rfl g4146 rfl ?_
                                refine qr_aload_n 127 rfl g4140 rfl ?_
                                refine qr_get 130 rfl rfl rfl (by decide) rfl ?_
                                refine qr_bipush 132 rfl (by decide) rfl ?_
                                refine qr_iload_n 133 rfl g4141 rfl ?_
                                refine qr_imul 134 rfl rfl ?_
                                refine qr_iload_n 135 rfl g4142 rfl ?_
                                refine qr_iadd 136 rfl rfl ?_
                                refine qr_iload 138 rfl g4146 rfl ?_
                                refine qr_iadd 139 rfl rfl ?_
                                refine qr_laload 140 rfl (by decide) rfl (by omega) (by decide) rfl ?_
                                refine qr_topL (fun v4422 hv4422 => ?_)
                                have hs4423 : (-9223372036854775808) ≤ v4422 ∧ v4422 ≤ 9223372036854775807 := by rw [hv4422]; exact hI4150.2.1 123 _ (show _ < 360 by omega)
                                refine qr_lastore 141 rfl (by decide) rfl (by omega) (by decide) rfl ?_
                                refine qy_wA (qw_r α4149 124 (qzu (α4149 124) (u4147 : Int).toNat v4422)) rfl (fun α4424 e4425 => ?_)
                                have hI4426 : qI σ α4424 κ ρ := by rw [e4425]; exact qI_r hI4150 124 _ rfl (show (-9223372036854775808) ≤ v4422 ∧ v4422 ≤ 9223372036854775807 by omega)
                                have hF4427 : qFr [] [123, 124] σ α σ α4424 := by rw [e4425]; exact qFr_r hF4151 124 _ (by decide)
                                refine qr_iinc _ 144 rfl g4146 (by decide) rfl rfl ?_
                                refine qr_goto 113 rfl rfl ?_
                                exact ih4157 _ (u4147 + 1) α4424 (by omega) (qm_gk g4140 (by decide) (Or.inl (by decide))) (qm_gk g4141 (by decide) (Or.inl (by decide))) (qm_gk g4142 (by decide) (Or.inl (by decide))) (qm_gk g4143 (by decide) (Or.inl (by decide))) (qm_gk g4144 (by decide) (Or.inl (by decide))) (qm_gk g4145 (by decide) (Or.inr rfl)) (qm_ge _ _ _) (by omega) hI4426 hF4427 ((congrFun e4425 123).trans ((qw_r_ne (by decide)).trans hx4153)) (((congrFun e4425 124).trans (qw_r_eq.trans (congrArg (fun f => qzu f (u4147 : Int).toNat v4422) hx4154))).trans (qcpy_s (by omega) (by omega) (by rw [hv4422, hx4153]; congr 1; omega))) (by omega)
                          exact hL4156 ((60 - 0 + 1 : Int)).toNat _ 0 α (by omega) rfl rfl rfl rfl rfl rfl rfl (by decide) hI hF0 rfl (rfl.trans (qcpy_0 _ _ _ _)) (by omega)
                        · skip
                          refine qr_bipush 109 rfl (by decide) rfl ?_
                          refine qr_retI rfl rfl (by decide) (by decide) ?_
                          exact ⟨_, rfl, hI, hF0, (-13), rfl, (by decide), (Or.inr (Or.inr (Or.inr (Or.inl ⟨by omega, rfl⟩))))⟩
            · skip
              refine qr_bipush 65 rfl (by decide) rfl ?_
              refine qr_retI rfl rfl (by decide) (by decide) ?_
              exact ⟨_, rfl, hI, hF0, (-12), rfl, (by decide), (Or.inr (Or.inr (Or.inl ⟨by omega, rfl⟩)))⟩
        · skip
          refine qr_bipush 36 rfl (by decide) rfl ?_
          refine qr_retI rfl rfl (by decide) (by decide) ?_
          exact ⟨_, rfl, hI, hF0, (-11), rfl, (by decide), (Or.inr (Or.inl ⟨by omega, rfl⟩))⟩
    · skip
      refine qr_iconst 15 rfl rfl ?_
      refine qr_retI rfl rfl (by decide) (by decide) ?_
      exact ⟨_, rfl, hI, hF0, (-1), rfl, (by decide), (Or.inl ⟨by omega, rfl⟩)⟩
